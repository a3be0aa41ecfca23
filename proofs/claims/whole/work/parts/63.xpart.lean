/-! the class reads a house, a thing, a debt, what lies in what -/
theorem pn_0_1 : (nI 0 = nI 1) = False := by decide
theorem pn_0_72 : (nI 0 = nI 72) = False := by decide
theorem pn_0_73 : (nI 0 = nI 73) = False := by decide
theorem pn_0_84 : (nI 0 = nI 84) = False := by decide
theorem pn_0_87 : (nI 0 = nI 87) = False := by decide
theorem pn_1_0 : (nI 1 = nI 0) = False := by decide
theorem pn_1_72 : (nI 1 = nI 72) = False := by decide
theorem pn_1_73 : (nI 1 = nI 73) = False := by decide
theorem pn_1_84 : (nI 1 = nI 84) = False := by decide
theorem pn_1_87 : (nI 1 = nI 87) = False := by decide
theorem pn_68_0 : (nI 68 = nI 0) = False := by decide
theorem pn_68_1 : (nI 68 = nI 1) = False := by decide
theorem pn_68_72 : (nI 68 = nI 72) = False := by decide
theorem pn_68_73 : (nI 68 = nI 73) = False := by decide
theorem pn_68_84 : (nI 68 = nI 84) = False := by decide
theorem pn_68_87 : (nI 68 = nI 87) = False := by decide
theorem pn_72_0 : (nI 72 = nI 0) = False := by decide
theorem pn_72_1 : (nI 72 = nI 1) = False := by decide
theorem pn_72_73 : (nI 72 = nI 73) = False := by decide
theorem pn_72_84 : (nI 72 = nI 84) = False := by decide
theorem pn_72_87 : (nI 72 = nI 87) = False := by decide
theorem pn_73_0 : (nI 73 = nI 0) = False := by decide
theorem pn_73_1 : (nI 73 = nI 1) = False := by decide
theorem pn_73_72 : (nI 73 = nI 72) = False := by decide
theorem pn_73_84 : (nI 73 = nI 84) = False := by decide
theorem pn_73_87 : (nI 73 = nI 87) = False := by decide
theorem pn_84_0 : (nI 84 = nI 0) = False := by decide
theorem pn_84_1 : (nI 84 = nI 1) = False := by decide
theorem pn_84_72 : (nI 84 = nI 72) = False := by decide
theorem pn_84_73 : (nI 84 = nI 73) = False := by decide
theorem pn_84_87 : (nI 84 = nI 87) = False := by decide
theorem pn_87_0 : (nI 87 = nI 0) = False := by decide
theorem pn_87_1 : (nI 87 = nI 1) = False := by decide
theorem pn_87_72 : (nI 87 = nI 72) = False := by decide
theorem pn_87_73 : (nI 87 = nI 73) = False := by decide
theorem pn_87_84 : (nI 87 = nI 84) = False := by decide
theorem pn_2_1 : (nI 2 = nI 1) = False := by decide
theorem pn_3_1 : (nI 3 = nI 1) = False := by decide
theorem pn_3_2 : (nI 3 = nI 2) = False := by decide
theorem pn_4_1 : (nI 4 = nI 1) = False := by decide
theorem pn_4_2 : (nI 4 = nI 2) = False := by decide
theorem pn_4_3 : (nI 4 = nI 3) = False := by decide
theorem pn_2_4 : (nI 2 = nI 4) = False := by decide
theorem pn_3_4 : (nI 3 = nI 4) = False := by decide
theorem pn_1_4 : (nI 1 = nI 4) = False := by decide
theorem fin_n {tx : Nat → Nat} {n p lo hi : Nat} (h : p < n) : fin tx n p lo hi = decide (48 + lo ≤ tx p ∧ tx p < 48 + hi) := decide_eq_decide.mpr ⟨fun w => w.2, fun w => ⟨h, w⟩⟩
noncomputable def kx (Z n D i : Nat) (I : ab_I) (R : ab_R) (L : ab_L) : ab_Rm := ex Z 0 0 40 28 [some (.ref 2), some (.ref 1), some (.int (nI n)), some (.ref D), some (.int (nI n)), some (.int (nI i))] [] I R L
def xrS (Z n D : Nat) (I : ab_I) (R : ab_R) (L : ab_L) (p : Nat) (r : Bool × Nat × Co) : Prop := ∃ J, OffD I J D ∧ (if r.1 = true then kx Z n D p I R L = kx Z n D r.2.1 J R L ∧ J 2 1 = nI 1 ∧ XC J D r.2.2 else kx Z n D p I R L = some (some (.int (nI r.2.1)), J, R, L))
theorem xrS_f {Z n D p q : Nat} {I J : ab_I} {R : ab_R} {L : ab_L} {co : Co} (o : OffD I J D) (h : kx Z n D p I R L = some (some (.int (nI q)), J, R, L)) : xrS Z n D I R L p (false, q, co) := ⟨J, o, h⟩
theorem xrS_t {Z n D p q : Nat} {I J : ab_I} {R : ab_R} {L : ab_L} {co : Co} (o : OffD I J D) (h : kx Z n D p I R L = kx Z n D q J R L) (h1 : J 2 1 = nI 1) (hC : XC J D co) : xrS Z n D I R L p (true, q, co) := ⟨J, o, h, h1, hC⟩
theorem XC_addH {J K : ab_I} {D : Nat} {co : Co} {v w : Nat} (h : XC J D co) (k0 : ∀ k, k ≠ 7 → 7 ≤ k ∧ k ≤ 11 → K D k = J D k) (k1 : K D 7 = nI (co 0 2 + 1)) (a : ∀ h, h < co 0 2 → K (D + 1) h = J (D + 1) h) (a' : K (D + 1) (co 0 2) = nI v) (b : ∀ h, h < co 0 2 → K (D + 2) h = J (D + 2) h) (b' : K (D + 2) (co 0 2) = nI w) (r : ∀ o, 3 ≤ o → o ≤ 7 → K (D + o) = J (D + o)) : XC K D (addH co v w) := by
  refine ⟨k1, (k0 8 (by decide) (by decide)).trans h.th, (k0 9 (by decide) (by decide)).trans h.lw, (k0 10 (by decide) (by decide)).trans h.la, (k0 11 (by decide) (by decide)).trans h.db, fun x hx => ?_, fun x hx => ?_, fun x hx => ?_, fun x hx => ?_, fun x hx => ?_, fun x hx => ?_, fun x hx => ?_⟩
  · have hx : x < co 0 2 + 1 := hx
    by_cases e : x = co 0 2
    · subst e
      rw [a']
      simp [addH]
    · rw [a x (by omega), h.a1 (by omega)]
      simp [addH, e]
  · have hx : x < co 0 2 + 1 := hx
    by_cases e : x = co 0 2
    · subst e
      rw [b']
      simp [addH]
    · rw [b x (by omega), h.a2 (by omega)]
      simp [addH, e]
  · rw [r 3 (by decide) (by decide)]
    exact h.a3 hx
  · rw [r 4 (by decide) (by decide)]
    exact h.a4 hx
  · rw [r 5 (by decide) (by decide)]
    exact h.a5 hx
  · rw [r 6 (by decide) (by decide)]
    exact h.a6 hx
  · rw [r 7 (by decide) (by decide)]
    exact h.a7 hx
theorem XC_addT {J K : ab_I} {D : Nat} {co : Co} {q m v o : Nat} (h : XC J D co) (k0 : ∀ k, k ≠ 8 → 7 ≤ k ∧ k ≤ 11 → K D k = J D k) (k1 : K D 8 = nI (co 0 3 + 1)) (a : ∀ x t, 3 ≤ x → x ≤ 7 → t < co 0 3 → K (D + x) t = J (D + x) t) (b1 : K (D + 3) (co 0 3) = nI q) (b2 : K (D + 4) (co 0 3) = nI m) (b3 : K (D + 5) (co 0 3) = nI v) (b4 : K (D + 6) (co 0 3) = nN o) (b5 : K (D + 7) (co 0 3) = iI (-9)) (r : K (D + 1) = J (D + 1) ∧ K (D + 2) = J (D + 2)) : XC K D (addT co q m v o) := by
  unfold XC
  rw [addT_0 (show 0 ≠ 3 by decide), addT_0 (show 1 ≠ 3 by decide), addT_0 (show 2 ≠ 3 by decide), addT_0 (show 4 ≠ 3 by decide)]
  refine ⟨(k0 7 (by decide) (by decide)).trans h.hs, k1, (k0 9 (by decide) (by decide)).trans h.lw, (k0 10 (by decide) (by decide)).trans h.la, (k0 11 (by decide) (by decide)).trans h.db, fun x hx => ?_, fun x hx => ?_, ?_⟩
  · rw [r.1, h.a1 hx]
    simp [addT]
  · rw [r.2, h.a2 hx]
    simp [addT]
  · refine ⟨fun t ht => ?_, fun t ht => ?_, fun t ht => ?_, fun t ht => ?_, fun t ht => ?_⟩
    all_goals
      have ht : t < co 0 3 + 1 := ht
      by_cases e : t = co 0 3
    · subst e
      rw [b1]
      simp [addT]
    · rw [a 3 t (by decide) (by decide) (by omega), h.a3 (by omega)]
      simp [addT, e]
    · subst e
      rw [b2]
      simp [addT]
    · rw [a 4 t (by decide) (by decide) (by omega), h.a4 (by omega)]
      simp [addT, e]
    · subst e
      rw [b3]
      simp [addT]
    · rw [a 5 t (by decide) (by decide) (by omega), h.a5 (by omega)]
      simp [addT, e]
    · subst e
      rw [b4]
      simp [addT]
    · rw [a 6 t (by decide) (by decide) (by omega), h.a6 (by omega)]
      simp [addT, e]
    · subst e
      rw [b5]
      simp [addT, nN]
    · rw [a 7 t (by decide) (by decide) (by omega), h.a7 (by omega)]
      simp [addT, e]
section XPART
variable {Z D n p : Nat} {co : Co} {tx : Nat → Nat} {I : ab_I} {R : ab_R} {L : ab_L}
theorem kx_s {i : Nat} {b : Bool} {J : ab_I} (hT : TXx I tx n) (hi : i < n) (e : cl Z 41 [.ref 2, .int (nI (tx i))] I R L = some (some (.int (nI b.toNat)), J, R, L)) : kx Z n D i I R L = if b = true then kx Z n D (i + 1) J R L else some (some (.int (nI i)), J, R, L) := kx_step hT hi e
theorem kx_e (h : ¬ I 2 1 = nI 1) : kx Z n D n I R L = some (some (.int (nI n)), I, R, L) := (kx_end (Z := Z) (n := n) (D := D) (I := I) (R := R) (L := L)).trans (by rw [if_neg h])
/-- a house: its place -/
theorem x_H1 (hF : Fx R) (hc : IsC D) (h20 : R 2 0 = D + 1) (hC : XC I D co) (hW : WP co) (h1 : I 2 1 = nI 72) (h2 : I 2 2 = nI 0) (h4 : co 0 2 < 4) {t : Nat} (ht : t ≤ 255) : cl Z 41 [.ref 2, .int (nI t)] I R L = some (some (.int (nI (decide (48 + 0 ≤ t ∧ t < 48 + (co 0 1 + 1))).toNat)), wI (wI I 2 2 (nI 1)) (D + 1) (co 0 2) (fgv t), R, L) := by
  have h5 := hW.2.2.2.1
  have hd : (D = 2) = False := eq_false (by unfold IsC at hc; omega)
  have hd1 : (2 = D + 1) = False := eq_false (by unfold IsC at hc; omega)
  have hd2 : (D = D + 1) = False := eq_false (by omega)
  rw [x_takes0 ht]
  simp only [e41_0, e41_1, e41_3, e41_6, e41_7, e41_9, e41_12, e41_13, e41_15, e41_16, e41_19, e41_20, e41_21, e41_22, e41_23, e41_26, e41_27, e41_28, e41_31, e41_32, e41_35, e41_92, e41_93, e41_94, e41_95, e41_97, e41_100, e41_101, e41_104, e41_105, e41_108, e41_109, e41_110, e41_111, e41_112, e41_113, e41_116, e41_119, e41_120, e41_121, e41_122, e41_125, e41_126, e41_127, e41_128, e41_131, e41_132, e41_133, e41_135, e41_138, e41_139, e41_142, e41_145, e41_146, e41_147, e41_150, e41_151, e41_152, e41_153, e41_156, e41_157, e41_158, e41_159, e41_162, e46_0, e46_1, e46_4, e46_7, e46_8, e46_9, e46_12, e46_13, e46_16, e46_17, e46_20, e46_23, e46_24, e46_25, e46_26, e46_27, e46_30, e46_31, e46_32, e46_35, e46_38, e46_41, e46_42, e46_45, e46_46, e46_47, e46_48, e46_51, e46_54, e46_55, e46_56, e46_57, e46_58, e46_61, e46_62, e46_63, e46_64, e46_67, e46_68, e46_71, e46_72, e46_73, e46_76, e46_77, e46_80, e46_83, e46_84, e46_87, e46_88, n46, bI_s, bL_s, bV_s, rv_s1, nl_i, nl_a, nl_n, w8_0, w8_i, w8_a, w8_l, ct_i, ct_a, b01_0, b01_1, b01_b, kdC hc, hF.c0 hc, hF.c1 hc, hF.c2 hc, hF.c3 hc, hF.c4 hc, hF.c5 hc, hF.c6 hc, alC1 hc, ltC1 hc, alC2 hc, ltC2 hc, alC3 hc, ltC3 hc, alC4 hc, ltC4 hc, alC5 hc, ltC5 hc, alC6 hc, ltC6 hc, alC7 hc, ltC7 hc, kd_2, h20, h2, nI_add, Nat.reduceAdd, wI_app, hd, hd1, hd2, Nat.reduceEqDiff, if_true, if_false, h1, pn_0_1, pn_0_72, pn_0_73, pn_0_84, pn_0_87, pn_1_0, pn_1_72, pn_1_73, pn_1_84, pn_1_87, pn_68_0, pn_68_1, pn_68_72, pn_68_73, pn_68_84, pn_68_87, pn_72_0, pn_72_1, pn_72_73, pn_72_84, pn_72_87, pn_73_0, pn_73_1, pn_73_72, pn_73_84, pn_73_87, pn_84_0, pn_84_1, pn_84_72, pn_84_73, pn_84_87, pn_87_0, pn_87_1, pn_87_72, pn_87_73, pn_87_84, pn_2_1, pn_3_1, pn_3_2, pn_4_1, pn_4_2, pn_4_3, pn_2_4, pn_3_4, pn_1_4, hC.hs, ab_ixN (show co 0 2 < 4 by omega) (show 4 < 2 ^ 31 by decide), nI_clamp (show co 0 2 < 2 ^ 31 by omega), fgA, hC.la, fgB (show co 0 1 ≤ 9 by omega)]
  by_cases q1 : 48 ≤ t ∧ t ≤ 57
  · by_cases q2 : 48 + co 0 1 < t
    · rw [if_neg (fun w => w q1), if_pos ⟨q2, q1.2⟩, decide_eq_false (by omega)]
      simp only [bI_s, bL_s, bV_s, rv_s1, nl_i, nl_a, nl_n, w8_0, w8_i, w8_a, w8_l, ct_i, ct_a, b01_0, b01_1, b01_b, e41_0, e41_1, e41_3, e41_6, e41_7, e41_9, e41_12, e41_13, e41_15, e41_16, e41_19, e41_20, e41_21, e41_22, e41_23, e41_26, e41_27, e41_28, e41_31, e41_32, e41_35, e41_92, e41_93, e41_94, e41_95, e41_97, e41_100, e41_101, e41_104, e41_105, e41_108, e41_109, e41_110, e41_111, e41_112, e41_113, e41_116, e41_119, e41_120, e41_121, e41_122, e41_125, e41_126, e41_127, e41_128, e41_131, e41_132, e41_133, e41_135, e41_138, e41_139, e41_142, e41_145, e41_146, e41_147, e41_150, e41_151, e41_152, e41_153, e41_156, e41_157, e41_158, e41_159, e41_162, Bool.toNat_true, Bool.toNat_false]
    · rw [if_neg (fun w => w q1), if_neg (fun w => q2 w.1), decide_eq_true (by omega)]
      simp only [bI_s, bL_s, bV_s, rv_s1, nl_i, nl_a, nl_n, w8_0, w8_i, w8_a, w8_l, ct_i, ct_a, b01_0, b01_1, b01_b, e41_0, e41_1, e41_3, e41_6, e41_7, e41_9, e41_12, e41_13, e41_15, e41_16, e41_19, e41_20, e41_21, e41_22, e41_23, e41_26, e41_27, e41_28, e41_31, e41_32, e41_35, e41_92, e41_93, e41_94, e41_95, e41_97, e41_100, e41_101, e41_104, e41_105, e41_108, e41_109, e41_110, e41_111, e41_112, e41_113, e41_116, e41_119, e41_120, e41_121, e41_122, e41_125, e41_126, e41_127, e41_128, e41_131, e41_132, e41_133, e41_135, e41_138, e41_139, e41_142, e41_145, e41_146, e41_147, e41_150, e41_151, e41_152, e41_153, e41_156, e41_157, e41_158, e41_159, e41_162, Bool.toNat_true, Bool.toNat_false]
  · rw [if_pos q1, decide_eq_false (by omega)]
    simp only [bI_s, bL_s, bV_s, rv_s1, nl_i, nl_a, nl_n, w8_0, w8_i, w8_a, w8_l, ct_i, ct_a, b01_0, b01_1, b01_b, e41_0, e41_1, e41_3, e41_6, e41_7, e41_9, e41_12, e41_13, e41_15, e41_16, e41_19, e41_20, e41_21, e41_22, e41_23, e41_26, e41_27, e41_28, e41_31, e41_32, e41_35, e41_92, e41_93, e41_94, e41_95, e41_97, e41_100, e41_101, e41_104, e41_105, e41_108, e41_109, e41_110, e41_111, e41_112, e41_113, e41_116, e41_119, e41_120, e41_121, e41_122, e41_125, e41_126, e41_127, e41_128, e41_131, e41_132, e41_133, e41_135, e41_138, e41_139, e41_142, e41_145, e41_146, e41_147, e41_150, e41_151, e41_152, e41_153, e41_156, e41_157, e41_158, e41_159, e41_162, Bool.toNat_true, Bool.toNat_false]
/-- its breaths -/
theorem x_H2 (hF : Fx R) (hc : IsC D) (h20 : R 2 0 = D + 1) (h7 : I D 7 = nI (co 0 2)) (h1 : I 2 1 = nI 72) (h2 : I 2 2 = nI 1) (h4 : co 0 2 < 4) {t : Nat} (ht : t ≤ 255) : cl Z 41 [.ref 2, .int (nI t)] I R L = some (some (.int (nI (decide (48 + 0 ≤ t ∧ t < 48 + 5)).toNat)), if 48 + 0 ≤ t ∧ t < 48 + 5 then wI (wI (wI (wI I 2 2 (nI 2)) (D + 2) (co 0 2) (fgv t)) D 7 (nI (co 0 2 + 1))) 2 1 (nI 1) else wI (wI (wI I 2 2 (nI 2)) (D + 2) (co 0 2) (fgv t)) D 7 (nI (co 0 2 + 1)), R, L) := by
  have hd : (D = 2) = False := eq_false (by unfold IsC at hc; omega)
  have hd1 : (2 = D + 2) = False := eq_false (by unfold IsC at hc; omega)
  have hd2 : (D = D + 2) = False := eq_false (by omega)
  rw [x_takes0 ht]
  simp only [e41_0, e41_1, e41_3, e41_6, e41_7, e41_9, e41_12, e41_13, e41_15, e41_16, e41_19, e41_20, e41_21, e41_22, e41_23, e41_26, e41_27, e41_28, e41_31, e41_32, e41_35, e41_92, e41_93, e41_94, e41_95, e41_97, e41_100, e41_101, e41_104, e41_105, e41_108, e41_109, e41_110, e41_111, e41_112, e41_113, e41_116, e41_119, e41_120, e41_121, e41_122, e41_125, e41_126, e41_127, e41_128, e41_131, e41_132, e41_133, e41_135, e41_138, e41_139, e41_142, e41_145, e41_146, e41_147, e41_150, e41_151, e41_152, e41_153, e41_156, e41_157, e41_158, e41_159, e41_162, e46_0, e46_1, e46_4, e46_7, e46_8, e46_9, e46_12, e46_13, e46_16, e46_17, e46_20, e46_23, e46_24, e46_25, e46_26, e46_27, e46_30, e46_31, e46_32, e46_35, e46_38, e46_41, e46_42, e46_45, e46_46, e46_47, e46_48, e46_51, e46_54, e46_55, e46_56, e46_57, e46_58, e46_61, e46_62, e46_63, e46_64, e46_67, e46_68, e46_71, e46_72, e46_73, e46_76, e46_77, e46_80, e46_83, e46_84, e46_87, e46_88, n46, e45_0, e45_1, e45_2, e45_5, e45_6, n45, bI_s, bL_s, bV_s, rv_s1, nl_i, nl_a, nl_n, w8_0, w8_i, w8_a, w8_l, ct_i, ct_a, b01_0, b01_1, b01_b, kdC hc, hF.c0 hc, hF.c1 hc, hF.c2 hc, hF.c3 hc, hF.c4 hc, hF.c5 hc, hF.c6 hc, alC1 hc, ltC1 hc, alC2 hc, ltC2 hc, alC3 hc, ltC3 hc, alC4 hc, ltC4 hc, alC5 hc, ltC5 hc, alC6 hc, ltC6 hc, alC7 hc, ltC7 hc, kd_2, h20, h2, nI_add, Nat.reduceAdd, wI_app, hd, hd1, hd2, Nat.reduceEqDiff, if_true, if_false, h1, pn_0_1, pn_0_72, pn_0_73, pn_0_84, pn_0_87, pn_1_0, pn_1_72, pn_1_73, pn_1_84, pn_1_87, pn_68_0, pn_68_1, pn_68_72, pn_68_73, pn_68_84, pn_68_87, pn_72_0, pn_72_1, pn_72_73, pn_72_84, pn_72_87, pn_73_0, pn_73_1, pn_73_72, pn_73_84, pn_73_87, pn_84_0, pn_84_1, pn_84_72, pn_84_73, pn_84_87, pn_87_0, pn_87_1, pn_87_72, pn_87_73, pn_87_84, pn_2_1, pn_3_1, pn_3_2, pn_4_1, pn_4_2, pn_4_3, pn_2_4, pn_3_4, pn_1_4, h7, ab_ixN (show co 0 2 < 4 by omega) (show 4 < 2 ^ 31 by decide), nI_clamp (show co 0 2 < 2 ^ 31 by omega), fgA, fgB (show 4 ≤ 9 by decide)]
  by_cases q1 : 48 ≤ t ∧ t ≤ 57
  · by_cases q2 : 48 + 4 < t
    · rw [if_neg (fun w => w q1), if_pos ⟨q2, q1.2⟩, decide_eq_false (by omega), if_neg (by omega)]
      simp only [bI_s, bL_s, bV_s, rv_s1, nl_i, nl_a, nl_n, w8_0, w8_i, w8_a, w8_l, ct_i, ct_a, b01_0, b01_1, b01_b, e41_0, e41_1, e41_3, e41_6, e41_7, e41_9, e41_12, e41_13, e41_15, e41_16, e41_19, e41_20, e41_21, e41_22, e41_23, e41_26, e41_27, e41_28, e41_31, e41_32, e41_35, e41_92, e41_93, e41_94, e41_95, e41_97, e41_100, e41_101, e41_104, e41_105, e41_108, e41_109, e41_110, e41_111, e41_112, e41_113, e41_116, e41_119, e41_120, e41_121, e41_122, e41_125, e41_126, e41_127, e41_128, e41_131, e41_132, e41_133, e41_135, e41_138, e41_139, e41_142, e41_145, e41_146, e41_147, e41_150, e41_151, e41_152, e41_153, e41_156, e41_157, e41_158, e41_159, e41_162, Bool.toNat_true, Bool.toNat_false]
    · rw [if_neg (fun w => w q1), if_neg (fun w => q2 w.1), decide_eq_true (by omega), if_pos (by omega)]
      simp only [bI_s, bL_s, bV_s, rv_s1, nl_i, nl_a, nl_n, w8_0, w8_i, w8_a, w8_l, ct_i, ct_a, b01_0, b01_1, b01_b, e41_0, e41_1, e41_3, e41_6, e41_7, e41_9, e41_12, e41_13, e41_15, e41_16, e41_19, e41_20, e41_21, e41_22, e41_23, e41_26, e41_27, e41_28, e41_31, e41_32, e41_35, e41_92, e41_93, e41_94, e41_95, e41_97, e41_100, e41_101, e41_104, e41_105, e41_108, e41_109, e41_110, e41_111, e41_112, e41_113, e41_116, e41_119, e41_120, e41_121, e41_122, e41_125, e41_126, e41_127, e41_128, e41_131, e41_132, e41_133, e41_135, e41_138, e41_139, e41_142, e41_145, e41_146, e41_147, e41_150, e41_151, e41_152, e41_153, e41_156, e41_157, e41_158, e41_159, e41_162, Bool.toNat_true, Bool.toNat_false]
  · rw [if_pos q1, decide_eq_false (by omega), if_neg (by omega)]
    simp only [bI_s, bL_s, bV_s, rv_s1, nl_i, nl_a, nl_n, w8_0, w8_i, w8_a, w8_l, ct_i, ct_a, b01_0, b01_1, b01_b, e41_0, e41_1, e41_3, e41_6, e41_7, e41_9, e41_12, e41_13, e41_15, e41_16, e41_19, e41_20, e41_21, e41_22, e41_23, e41_26, e41_27, e41_28, e41_31, e41_32, e41_35, e41_92, e41_93, e41_94, e41_95, e41_97, e41_100, e41_101, e41_104, e41_105, e41_108, e41_109, e41_110, e41_111, e41_112, e41_113, e41_116, e41_119, e41_120, e41_121, e41_122, e41_125, e41_126, e41_127, e41_128, e41_131, e41_132, e41_133, e41_135, e41_138, e41_139, e41_142, e41_145, e41_146, e41_147, e41_150, e41_151, e41_152, e41_153, e41_156, e41_157, e41_158, e41_159, e41_162, Bool.toNat_true, Bool.toNat_false]
theorem x_rpH (hF : Fx R) (hc : IsC D) (h20 : R 2 0 = D + 1) (hC : XC I D co) (hW : WP co) (hT : TXx I tx n) (h1 : I 2 1 = nI 72) (h2 : I 2 2 = nI 0) (h4 : co 0 2 < 4) (hp : p < n) : xrS Z n D I R L (p + 1) (if fin tx n (p + 1) 0 (co 0 1 + 1) = true then (if fin tx n (p + 2) 0 5 = true then (true, p + 3, addH co (tx (p + 1) - 48) (tx (p + 2) - 48)) else (false, p + 2, co)) else (false, p + 1, co)) := by
  have hcc := hc
  unfold IsC at hcc
  have h5 := hW.2.2.2.1
  by_cases hn1 : p + 1 < n
  · have ht1 := hT.1.2 _ hn1
    have e1 := kx_s (D := D) hT hn1 (x_H1 (Z := Z) (L := L) hF hc h20 hC hW h1 h2 h4 ht1)
    rw [← fin_n hn1] at e1
    have o1 : OffD I (wI (wI I 2 2 (nI 1)) (D + 1) (co 0 2) (fgv (tx (p + 1)))) D := (OffD.w (Or.inl rfl)).tr (OffD.w (Or.inr (by omega)))
    cases hf : fin tx n (p + 1) 0 (co 0 1 + 1) with
    | false =>
      rw [hf, if_neg (by decide)] at e1
      rw [if_neg (by decide)]
      exact xrS_f o1 e1
    | true =>
      rw [hf, if_pos rfl] at e1
      rw [if_pos rfl]
      have hq := of_decide_eq_true hf
      have k21 : wI (wI I 2 2 (nI 1)) (D + 1) (co 0 2) (fgv (tx (p + 1))) 2 1 = nI 72 := by rw [wI_o (by omega), wI_k (by decide), h1]
      by_cases hn2 : p + 2 < n
      · have ht2 := hT.1.2 _ hn2
        have e2 := kx_s (D := D) (hT.off hc o1) hn2 (x_H2 (Z := Z) (L := L) hF hc h20 (by rw [wI_o (by omega), wI_o (by omega), hC.hs]) k21 (by rw [wI_o (by omega), wI_self]) h4 ht2)
        rw [← fin_n hn2] at e2
        cases hf2 : fin tx n (p + 2) 0 5 with
        | false =>
          have hq2 : ¬ (48 + 0 ≤ tx (p + 2) ∧ tx (p + 2) < 48 + 5) := fun w => by
            rw [fin_n hn2, decide_eq_true w] at hf2
            exact Bool.false_ne_true hf2.symm
          rw [hf2, if_neg (by decide), if_neg hq2] at e2
          rw [if_neg (by decide)]
          exact xrS_f (o1.tr ((OffD.w (Or.inl rfl)).tr ((OffD.w (Or.inr (by omega))).tr (OffD.w (Or.inr (by omega)))))) (e1.trans e2)
        | true =>
          have hq2 := of_decide_eq_true hf2
          rw [hf2, if_pos rfl, if_pos hq2.2] at e2
          rw [if_pos rfl]
          refine xrS_t (o1.tr ((OffD.w (Or.inl rfl)).tr ((OffD.w (Or.inr (by omega))).tr ((OffD.w (Or.inr (by omega))).tr (OffD.w (Or.inl rfl)))))) (e1.trans e2) (wI_self _ _ _ _) (XC_addH hC (fun k a b => ?_) ?_ (fun x hx => ?_) ?_ (fun x hx => ?_) ?_ (fun x a b => ?_))
          · rw [wI_o (by omega), wI_k (by omega), wI_o (by omega), wI_o (by omega), wI_o (by omega), wI_o (by omega)]
          · rw [wI_o (by omega), wI_self]
          · rw [wI_o (by omega), wI_o (by omega), wI_o (by omega), wI_o (by omega), wI_k (by omega), wI_o (by omega)]
          · rw [wI_o (by omega), wI_o (by omega), wI_o (by omega), wI_o (by omega), wI_self, fgv_t (by omega)]
          · rw [wI_o (by omega), wI_o (by omega), wI_k (by omega), wI_o (by omega), wI_o (by omega), wI_o (by omega)]
          · rw [wI_o (by omega), wI_o (by omega), wI_self, fgv_t (by omega)]
          · funext j
            rw [wI_o (by omega), wI_o (by omega), wI_o (by omega), wI_o (by omega), wI_o (by omega), wI_o (by omega)]
      · have en : p + 2 = n := by omega
        rw [if_neg (show ¬ fin tx n (p + 2) 0 5 = true by rw [fin_o hn2]; decide)]
        refine xrS_f o1 (e1.trans ?_)
        rw [show p + 1 + 1 = n from en]
        exact kx_e (by rw [k21]; decide)
  · have en : p + 1 = n := by omega
    rw [if_neg (show ¬ fin tx n (p + 1) 0 (co 0 1 + 1) = true by rw [fin_o hn1]; decide)]
    refine xrS_f OffD.rf ?_
    rw [en]
    exact kx_e (by rw [h1]; decide)
end XPART
