/-! the class's fault -/
section XREAD
variable {Z D n p : Nat} {co : Co} {tx : Nat → Nat} {I : ab_I} {R : ab_R} {L : ab_L}
theorem x_readL (hF : Fx R) (hc : IsC D) (h20 : R 2 0 = D + 1) : ∀ f p co I, n - p ≤ f → p ≤ n → XC I D co → WP co → TXx I tx n → I 2 1 = nI 1 → ∃ J, kx Z n D p I R L = some (some (.int (rdv (prs tx n f p co))), J, R, L) ∧ OffD I J D ∧ ((prs tx n f p co).1 = true → XC J D (prs tx n f p co).2.2 ∧ WP (prs tx n f p co).2.2)
  | 0, p, co, I, hf, hp, hC, hW, hT, h1 => by
    have hpn : p = n := by omega
    subst hpn
    exact ⟨I, (kx_end (Z := Z) (n := p) (D := D) (I := I) (R := R) (L := L)).trans (by rw [if_pos h1]; rfl), OffD.rf, fun _ => ⟨hC, hW⟩⟩
  | f + 1, p, co, I, hf, hp, hC, hW, hT, h1 => by
    rw [prs]
    by_cases hpn : p < n
    · rw [if_pos hpn]
      obtain ⟨J, o, s⟩ := x_part (Z := Z) (L := L) hF hc h20 hC hW hT h1 hpn
      have hle := prt_le (tx := tx) (co := co) hpn
      by_cases hok : (prt tx n p co).1 = true
      · rw [if_pos hok] at s ⊢
        obtain ⟨hW2, hlt⟩ := prt_WP hW hok
        obtain ⟨J', e', o', s'⟩ := x_readL hF hc h20 f _ _ J (by omega) hle s.2.2 hW2 (hT.off hc o) s.2.1
        exact ⟨J', s.1.trans e', o.tr o', s'⟩
      · rw [if_neg hok] at s ⊢
        refine ⟨J, ?_, o, fun w => absurd w hok⟩
        rw [s]
        unfold rdv
        rw [if_neg hok]
    · have hpn2 : p = n := by omega
      subst hpn2
      rw [if_neg hpn]
      exact ⟨I, (kx_end (Z := Z) (n := p) (D := D) (I := I) (R := R) (L := L)).trans (by rw [if_pos h1]; rfl), OffD.rf, fun _ => ⟨hC, hW⟩⟩
theorem x_W0 (h1 : I 2 1 = nI 0) {t : Nat} (ht : t ≤ 255) : cl Z 41 [.ref 2, .int (nI t)] I R L = some (some (.int (nI (decide (t = 87)).toNat)), wI (wI (wI I 2 2 (I 2 2 + nI 1)) 2 1 (nI t)) 2 2 (nI 0), R, L) := by
  rw [x_takes0 ht]
  simp only [e41_0, e41_1, e41_3, e41_6, e41_7, e41_9, e41_12, e41_13, e41_15, e41_16, e41_19, e41_20, e41_21, e41_22, e41_23, e41_26, e41_27, e41_28, e41_31, e41_32, e41_35, e41_92, e41_93, e41_94, e41_95, e41_97, e41_100, e41_101, e41_104, e41_105, e41_108, e41_109, e41_110, e41_111, e41_112, e41_113, e41_116, e41_119, e41_120, e41_121, e41_122, e41_125, e41_126, e41_127, e41_128, e41_131, e41_132, e41_133, e41_135, e41_138, e41_139, e41_142, e41_145, e41_146, e41_147, e41_150, e41_151, e41_152, e41_153, e41_156, e41_157, e41_158, e41_159, e41_162, e42_0, e42_1, e42_2, e42_5, e42_6, e42_7, e42_10, e42_11, n42, bI_s, bL_s, bV_s, rv_s1, nl_i, nl_a, nl_n, w8_0, w8_i, w8_a, w8_l, ct_i, ct_a, b01_0, b01_1, b01_b, kd_2, wI_app, Nat.reduceEqDiff, if_true, if_false, h1, nI_eq (show t < 2 ^ 31 by omega) (show 87 < 2 ^ 31 by decide)]
  by_cases q : t = 87
  · simp [q]
  · simp [q]
theorem x_W1 (hc : IsC D) (h20 : R 2 0 = D + 1) (h1 : I 2 1 = nI 87) (h2 : I 2 2 = nI 0) {t : Nat} (ht : t ≤ 255) : cl Z 41 [.ref 2, .int (nI t)] I R L = some (some (.int (nI (decide (48 + 0 ≤ t ∧ t < 48 + 4)).toNat)), wI (wI I 2 2 (nI 1)) D 9 (fgv t), R, L) := by
  have hd : (2 = D) = False := eq_false (by unfold IsC at hc; omega)
  rw [x_takes0 ht]
  simp only [e41_0, e41_1, e41_3, e41_6, e41_7, e41_9, e41_12, e41_13, e41_15, e41_16, e41_19, e41_20, e41_21, e41_22, e41_23, e41_26, e41_27, e41_28, e41_31, e41_32, e41_35, e41_92, e41_93, e41_94, e41_95, e41_97, e41_100, e41_101, e41_104, e41_105, e41_108, e41_109, e41_110, e41_111, e41_112, e41_113, e41_116, e41_119, e41_120, e41_121, e41_122, e41_125, e41_126, e41_127, e41_128, e41_131, e41_132, e41_133, e41_135, e41_138, e41_139, e41_142, e41_145, e41_146, e41_147, e41_150, e41_151, e41_152, e41_153, e41_156, e41_157, e41_158, e41_159, e41_162, e44_0, e44_1, e44_4, e44_5, e44_8, e44_9, e44_12, e44_13, e44_16, e44_17, e44_20, e44_21, e44_22, e44_25, e44_26, e44_29, e44_30, e44_31, e44_32, e44_35, e44_36, e44_39, e44_40, e44_41, e44_44, e44_45, e44_46, e44_49, e44_50, e44_53, e44_56, e44_57, e44_60, e44_61, n44, bI_s, bL_s, bV_s, rv_s1, nl_i, nl_a, nl_n, w8_0, w8_i, w8_a, w8_l, ct_i, ct_a, b01_0, b01_1, b01_b, kd_2, kdC hc, h20, h2, nI_add, Nat.reduceAdd, wI_app, hd, Nat.reduceEqDiff, if_true, if_false, h1, pn_0_1, pn_0_72, pn_0_73, pn_0_84, pn_0_87, pn_1_0, pn_1_72, pn_1_73, pn_1_84, pn_1_87, pn_68_0, pn_68_1, pn_68_72, pn_68_73, pn_68_84, pn_68_87, pn_72_0, pn_72_1, pn_72_73, pn_72_84, pn_72_87, pn_73_0, pn_73_1, pn_73_72, pn_73_84, pn_73_87, pn_84_0, pn_84_1, pn_84_72, pn_84_73, pn_84_87, pn_87_0, pn_87_1, pn_87_72, pn_87_73, pn_87_84, pn_2_1, pn_3_1, pn_3_2, pn_4_1, pn_4_2, pn_4_3, pn_2_4, pn_3_4, pn_1_4, fgA, fgD]
  by_cases q1 : 48 ≤ t ∧ t ≤ 57
  · by_cases q2 : 52 ≤ t
    · rw [if_neg (fun w => w q1), if_pos ⟨q2, q1.2⟩, decide_eq_false (by omega)]
      simp only [bI_s, bL_s, bV_s, rv_s1, nl_i, nl_a, nl_n, w8_0, w8_i, w8_a, w8_l, ct_i, ct_a, b01_0, b01_1, b01_b, e41_0, e41_1, e41_3, e41_6, e41_7, e41_9, e41_12, e41_13, e41_15, e41_16, e41_19, e41_20, e41_21, e41_22, e41_23, e41_26, e41_27, e41_28, e41_31, e41_32, e41_35, e41_92, e41_93, e41_94, e41_95, e41_97, e41_100, e41_101, e41_104, e41_105, e41_108, e41_109, e41_110, e41_111, e41_112, e41_113, e41_116, e41_119, e41_120, e41_121, e41_122, e41_125, e41_126, e41_127, e41_128, e41_131, e41_132, e41_133, e41_135, e41_138, e41_139, e41_142, e41_145, e41_146, e41_147, e41_150, e41_151, e41_152, e41_153, e41_156, e41_157, e41_158, e41_159, e41_162, Bool.toNat_true, Bool.toNat_false]
    · rw [if_neg (fun w => w q1), if_neg (fun w => q2 w.1), decide_eq_true (by omega)]
      simp only [bI_s, bL_s, bV_s, rv_s1, nl_i, nl_a, nl_n, w8_0, w8_i, w8_a, w8_l, ct_i, ct_a, b01_0, b01_1, b01_b, e41_0, e41_1, e41_3, e41_6, e41_7, e41_9, e41_12, e41_13, e41_15, e41_16, e41_19, e41_20, e41_21, e41_22, e41_23, e41_26, e41_27, e41_28, e41_31, e41_32, e41_35, e41_92, e41_93, e41_94, e41_95, e41_97, e41_100, e41_101, e41_104, e41_105, e41_108, e41_109, e41_110, e41_111, e41_112, e41_113, e41_116, e41_119, e41_120, e41_121, e41_122, e41_125, e41_126, e41_127, e41_128, e41_131, e41_132, e41_133, e41_135, e41_138, e41_139, e41_142, e41_145, e41_146, e41_147, e41_150, e41_151, e41_152, e41_153, e41_156, e41_157, e41_158, e41_159, e41_162, Bool.toNat_true, Bool.toNat_false]
  · rw [if_pos q1, decide_eq_false (by omega)]
    simp only [bI_s, bL_s, bV_s, rv_s1, nl_i, nl_a, nl_n, w8_0, w8_i, w8_a, w8_l, ct_i, ct_a, b01_0, b01_1, b01_b, e41_0, e41_1, e41_3, e41_6, e41_7, e41_9, e41_12, e41_13, e41_15, e41_16, e41_19, e41_20, e41_21, e41_22, e41_23, e41_26, e41_27, e41_28, e41_31, e41_32, e41_35, e41_92, e41_93, e41_94, e41_95, e41_97, e41_100, e41_101, e41_104, e41_105, e41_108, e41_109, e41_110, e41_111, e41_112, e41_113, e41_116, e41_119, e41_120, e41_121, e41_122, e41_125, e41_126, e41_127, e41_128, e41_131, e41_132, e41_133, e41_135, e41_138, e41_139, e41_142, e41_145, e41_146, e41_147, e41_150, e41_151, e41_152, e41_153, e41_156, e41_157, e41_158, e41_159, e41_162, Bool.toNat_true, Bool.toNat_false]
theorem x_W2 (hc : IsC D) (h20 : R 2 0 = D + 1) (h1 : I 2 1 = nI 87) (h2 : I 2 2 = nI 1) {t : Nat} (ht : t ≤ 255) : cl Z 41 [.ref 2, .int (nI t)] I R L = some (some (.int (nI (decide (48 + 1 ≤ t ∧ t < 48 + 6)).toNat)), if 48 + 1 ≤ t ∧ t < 48 + 6 then wI (wI (wI I 2 2 (nI 2)) D 10 (fgv t)) 2 1 (nI 1) else wI (wI I 2 2 (nI 2)) D 10 (fgv t), R, L) := by
  have hd : (2 = D) = False := eq_false (by unfold IsC at hc; omega)
  rw [x_takes0 ht]
  simp only [e41_0, e41_1, e41_3, e41_6, e41_7, e41_9, e41_12, e41_13, e41_15, e41_16, e41_19, e41_20, e41_21, e41_22, e41_23, e41_26, e41_27, e41_28, e41_31, e41_32, e41_35, e41_92, e41_93, e41_94, e41_95, e41_97, e41_100, e41_101, e41_104, e41_105, e41_108, e41_109, e41_110, e41_111, e41_112, e41_113, e41_116, e41_119, e41_120, e41_121, e41_122, e41_125, e41_126, e41_127, e41_128, e41_131, e41_132, e41_133, e41_135, e41_138, e41_139, e41_142, e41_145, e41_146, e41_147, e41_150, e41_151, e41_152, e41_153, e41_156, e41_157, e41_158, e41_159, e41_162, e44_0, e44_1, e44_4, e44_5, e44_8, e44_9, e44_12, e44_13, e44_16, e44_17, e44_20, e44_21, e44_22, e44_25, e44_26, e44_29, e44_30, e44_31, e44_32, e44_35, e44_36, e44_39, e44_40, e44_41, e44_44, e44_45, e44_46, e44_49, e44_50, e44_53, e44_56, e44_57, e44_60, e44_61, n44, e45_0, e45_1, e45_2, e45_5, e45_6, n45, bI_s, bL_s, bV_s, rv_s1, nl_i, nl_a, nl_n, w8_0, w8_i, w8_a, w8_l, ct_i, ct_a, b01_0, b01_1, b01_b, kd_2, kdC hc, h20, h2, nI_add, Nat.reduceAdd, wI_app, hd, Nat.reduceEqDiff, if_true, if_false, h1, pn_0_1, pn_0_72, pn_0_73, pn_0_84, pn_0_87, pn_1_0, pn_1_72, pn_1_73, pn_1_84, pn_1_87, pn_68_0, pn_68_1, pn_68_72, pn_68_73, pn_68_84, pn_68_87, pn_72_0, pn_72_1, pn_72_73, pn_72_84, pn_72_87, pn_73_0, pn_73_1, pn_73_72, pn_73_84, pn_73_87, pn_84_0, pn_84_1, pn_84_72, pn_84_73, pn_84_87, pn_87_0, pn_87_1, pn_87_72, pn_87_73, pn_87_84, pn_2_1, pn_3_1, pn_3_2, pn_4_1, pn_4_2, pn_4_3, pn_2_4, pn_3_4, pn_1_4, fgC, fgB (show 5 ≤ 9 by decide)]
  by_cases q1 : 49 ≤ t ∧ t ≤ 57
  · by_cases q2 : 48 + 5 < t
    · rw [if_neg (fun w => w q1), if_pos ⟨q2, q1.2⟩, decide_eq_false (by omega), if_neg (by omega)]
      simp only [bI_s, bL_s, bV_s, rv_s1, nl_i, nl_a, nl_n, w8_0, w8_i, w8_a, w8_l, ct_i, ct_a, b01_0, b01_1, b01_b, e41_0, e41_1, e41_3, e41_6, e41_7, e41_9, e41_12, e41_13, e41_15, e41_16, e41_19, e41_20, e41_21, e41_22, e41_23, e41_26, e41_27, e41_28, e41_31, e41_32, e41_35, e41_92, e41_93, e41_94, e41_95, e41_97, e41_100, e41_101, e41_104, e41_105, e41_108, e41_109, e41_110, e41_111, e41_112, e41_113, e41_116, e41_119, e41_120, e41_121, e41_122, e41_125, e41_126, e41_127, e41_128, e41_131, e41_132, e41_133, e41_135, e41_138, e41_139, e41_142, e41_145, e41_146, e41_147, e41_150, e41_151, e41_152, e41_153, e41_156, e41_157, e41_158, e41_159, e41_162, Bool.toNat_true, Bool.toNat_false]
    · rw [if_neg (fun w => w q1), if_neg (fun w => q2 w.1), decide_eq_true (by omega), if_pos (by omega)]
      simp only [bI_s, bL_s, bV_s, rv_s1, nl_i, nl_a, nl_n, w8_0, w8_i, w8_a, w8_l, ct_i, ct_a, b01_0, b01_1, b01_b, e41_0, e41_1, e41_3, e41_6, e41_7, e41_9, e41_12, e41_13, e41_15, e41_16, e41_19, e41_20, e41_21, e41_22, e41_23, e41_26, e41_27, e41_28, e41_31, e41_32, e41_35, e41_92, e41_93, e41_94, e41_95, e41_97, e41_100, e41_101, e41_104, e41_105, e41_108, e41_109, e41_110, e41_111, e41_112, e41_113, e41_116, e41_119, e41_120, e41_121, e41_122, e41_125, e41_126, e41_127, e41_128, e41_131, e41_132, e41_133, e41_135, e41_138, e41_139, e41_142, e41_145, e41_146, e41_147, e41_150, e41_151, e41_152, e41_153, e41_156, e41_157, e41_158, e41_159, e41_162, e44_0, e44_1, e44_4, e44_5, e44_8, e44_9, e44_12, e44_13, e44_16, e44_17, e44_20, e44_21, e44_22, e44_25, e44_26, e44_29, e44_30, e44_31, e44_32, e44_35, e44_36, e44_39, e44_40, e44_41, e44_44, e44_45, e44_46, e44_49, e44_50, e44_53, e44_56, e44_57, e44_60, e44_61, nI10, if_false, Bool.toNat_true, Bool.toNat_false]
  · rw [if_pos q1, decide_eq_false (by omega), if_neg (by omega)]
    simp only [bI_s, bL_s, bV_s, rv_s1, nl_i, nl_a, nl_n, w8_0, w8_i, w8_a, w8_l, ct_i, ct_a, b01_0, b01_1, b01_b, e41_0, e41_1, e41_3, e41_6, e41_7, e41_9, e41_12, e41_13, e41_15, e41_16, e41_19, e41_20, e41_21, e41_22, e41_23, e41_26, e41_27, e41_28, e41_31, e41_32, e41_35, e41_92, e41_93, e41_94, e41_95, e41_97, e41_100, e41_101, e41_104, e41_105, e41_108, e41_109, e41_110, e41_111, e41_112, e41_113, e41_116, e41_119, e41_120, e41_121, e41_122, e41_125, e41_126, e41_127, e41_128, e41_131, e41_132, e41_133, e41_135, e41_138, e41_139, e41_142, e41_145, e41_146, e41_147, e41_150, e41_151, e41_152, e41_153, e41_156, e41_157, e41_158, e41_159, e41_162, Bool.toNat_true, Bool.toNat_false]
theorem XC_nil {l m : Nat} (h1 : I D 7 = nI 0) (h2 : I D 8 = nI 0) (h3 : I D 9 = nI l) (h4 : I D 10 = nI m) (h5 : I D 11 = nI 0) : XC I D (nilC l m) := by
  have e : ∀ k, nilC l m 0 (k + 2) = 0 := fun k => rfl
  refine ⟨h1, h2, h3, h4, h5, fun h hh => ?_, fun h hh => ?_, fun h hh => ?_, fun h hh => ?_, fun h hh => ?_, fun h hh => ?_, fun h hh => ?_⟩
  all_goals
    first
    | (rw [e 0] at hh; omega)
    | (rw [e 1] at hh; omega)
theorem x_read (hF : Fx R) (hc : IsC D) (hT : TXx I tx n) : ∃ J, cl Z 40 [.ref 2, .ref 1, .int (nI n), .ref D] I R L = some (some (.int (rdv (rdt tx n))), J, wR R 2 0 (D + 1), L) ∧ OffD I J D ∧ ((rdt tx n).1 = true → XC J D (rdt tx n).2.2 ∧ WP (rdt tx n).2.2) := by
  have hcc := hc
  unfold IsC at hcc
  have h56 := hT.1.1
  have hF' : Fx (wR R 2 0 (D + 1)) := by
    obtain ⟨a, b, cc, d⟩ := hF
    refine ⟨fun x hx k hk => ?_, fun s hs => ?_, fun i hi => ?_, ?_⟩
    · rw [wR_o (by unfold IsC at hx; omega)]
      exact a x hx k hk
    · rw [wR_o (by unfold IsS at hs; omega), wR_o (by unfold IsS at hs; omega)]
      exact b s hs
    · rw [wR_o (by omega)]
      exact cc i hi
    · simpa [wR] using d
  have h20 : wR R 2 0 (D + 1) 2 0 = D + 1 := by simp [wR]
  generalize hJ0 : wI (wI (wI (wI I D 7 (nI 0)) D 8 (nI 0)) D 11 (nI 0)) 2 1 (nI 0) = J0
  have o0 : OffD I J0 D := by
    rw [← hJ0]
    exact (OffD.w (Or.inr (by omega))).tr ((OffD.w (Or.inr (by omega))).tr ((OffD.w (Or.inr (by omega))).tr (OffD.w (Or.inl rfl))))
  have d7 : J0 D 7 = nI 0 := by rw [← hJ0, wI_o (by omega), wI_k (by decide), wI_k (by decide), wI_self]
  have d8 : J0 D 8 = nI 0 := by rw [← hJ0, wI_o (by omega), wI_k (by decide), wI_self]
  have d11 : J0 D 11 = nI 0 := by rw [← hJ0, wI_o (by omega), wI_self]
  have j1 : J0 2 1 = nI 0 := by rw [← hJ0, wI_self]
  have e0 : cl Z 40 [.ref 2, .ref 1, .int (nI n), .ref D] I R L = kx Z n D 0 J0 (wR R 2 0 (D + 1)) L := by
    rw [n40]
    simp only [e40_0, e40_1, e40_2, e40_5, e40_6, e40_9, e40_12, e40_13, e40_14, e40_17, e40_18, e40_19, e40_20, e40_23, e40_25, e40_26, e40_30, e40_32, e40_35, e40_36, e40_37, e40_39, e40_40, e40_43, e40_46, e40_48, e40_49, e40_52, e40_55, e40_56, e40_59, e40_60, e40_63, e40_65, e40_68, e40_70, e1_0, e1_1, e1_2, e1_5, e1_6, e1_7, e1_10, e1_11, e1_12, e1_15, n1, bI_s, bL_s, bV_s, rv_s1, nl_i, nl_a, nl_n, w8_0, w8_i, w8_a, w8_l, ct_i, ct_a, b01_0, b01_1, b01_b, kd_2, kdC hc, h20, al_1, true_or, nI_min (show n < 2 ^ 31 by omega) (show 56 < 2 ^ 31 by decide), Nat.min_eq_left (show n ≤ 56 by omega), hJ0]
    rfl
  rw [e0]
  have hT0 := hT.off hc o0
  unfold rdt
  generalize wR R 2 0 (D + 1) = R' at hF' h20 e0 ⊢
  by_cases h0 : 0 < n ∧ tx 0 = 87
  · rw [if_pos h0]
    have e1 := kx_s (Z := Z) (D := D) hT0 h0.1 (x_W0 (Z := Z) (R := R') (L := L) j1 (hT.1.2 0 h0.1))
    rw [decide_eq_true h0.2, if_pos rfl, h0.2] at e1
    have o1 : OffD J0 (wI (wI (wI J0 2 2 (J0 2 2 + nI 1)) 2 1 (nI 87)) 2 2 (nI 0)) D := (OffD.w (Or.inl rfl)).tr ((OffD.w (Or.inl rfl)).tr (OffD.w (Or.inl rfl)))
    generalize hJ1 : wI (wI (wI J0 2 2 (J0 2 2 + nI 1)) 2 1 (nI 87)) 2 2 (nI 0) = J1 at e1 o1
    have k1 : J1 2 1 = nI 87 := by rw [← hJ1, wI_k (by decide), wI_self]
    have k2 : J1 2 2 = nI 0 := by rw [← hJ1, wI_self]
    have kD : ∀ k, J1 D k = J0 D k := fun k => by rw [← hJ1, wI_o (by omega), wI_o (by omega), wI_o (by omega)]
    have oo1 := o0.tr o1
    have hT1 := hT.off hc oo1
    by_cases hn1 : 1 < n
    · have e2 := kx_s (Z := Z) (D := D) hT1 hn1 (x_W1 (Z := Z) (L := L) hc h20 k1 k2 (hT.1.2 1 hn1))
      rw [← fin_n hn1] at e2
      have o2 : OffD J1 (wI (wI J1 2 2 (nI 1)) D 9 (fgv (tx 1))) D := (OffD.w (Or.inl rfl)).tr (OffD.w (Or.inr (by omega)))
      cases hf : fin tx n 1 0 4 with
      | false =>
        rw [hf, if_neg (by decide)] at e2
        rw [if_neg (by decide)]
        exact ⟨_, e1.trans e2, oo1.tr o2, fun w => (Bool.false_ne_true w).elim⟩
      | true =>
        rw [hf, if_pos rfl] at e2
        rw [if_pos rfl]
        have q1 := of_decide_eq_true hf
        generalize hJ2 : wI (wI J1 2 2 (nI 1)) D 9 (fgv (tx 1)) = J2 at e2 o2
        have l1 : J2 2 1 = nI 87 := by rw [← hJ2, wI_o (by omega), wI_k (by decide), k1]
        have l2 : J2 2 2 = nI 1 := by rw [← hJ2, wI_o (by omega), wI_self]
        have oo2 := oo1.tr o2
        have hT2 := hT.off hc oo2
        by_cases hn2 : 2 < n
        · have e3 := kx_s (Z := Z) (D := D) hT2 hn2 (x_W2 (Z := Z) (L := L) hc h20 l1 l2 (hT.1.2 2 hn2))
          rw [← fin_n hn2] at e3
          by_cases q2 : 48 + 1 ≤ tx 2 ∧ tx 2 < 48 + 6
          · have hf2 : fin tx n 2 1 6 = true := by rw [fin_n hn2, decide_eq_true q2]
            rw [hf2, if_pos rfl, if_pos q2] at e3
            rw [if_pos hf2]
            have o3 : OffD J2 (wI (wI (wI J2 2 2 (nI 2)) D 10 (fgv (tx 2))) 2 1 (nI 1)) D := (OffD.w (Or.inl rfl)).tr ((OffD.w (Or.inr (by omega))).tr (OffD.w (Or.inl rfl)))
            have hC3 : XC (wI (wI (wI J2 2 2 (nI 2)) D 10 (fgv (tx 2))) 2 1 (nI 1)) D (nilC (tx 1 - 48) (tx 2 - 48)) := by
              refine XC_nil ?_ ?_ ?_ ?_ ?_
              · rw [wI_o (by omega), wI_k (by decide), wI_o (by omega), ← hJ2, wI_k (by decide), wI_o (by omega), kD, d7]
              · rw [wI_o (by omega), wI_k (by decide), wI_o (by omega), ← hJ2, wI_k (by decide), wI_o (by omega), kD, d8]
              · rw [wI_o (by omega), wI_k (by decide), wI_o (by omega), ← hJ2, wI_self, fgv_t (by omega)]
              · rw [wI_o (by omega), wI_self, fgv_t (by omega)]
              · rw [wI_o (by omega), wI_k (by decide), wI_o (by omega), ← hJ2, wI_k (by decide), wI_o (by omega), kD, d11]
            obtain ⟨J, e, o, s⟩ := x_readL (Z := Z) (tx := tx) (n := n) (L := L) hF' hc h20 57 3 _ _ (by omega) (by omega) hC3 (nilC_WP (by omega) (by omega)) (hT2.off hc o3) (wI_self _ _ _ _)
            exact ⟨J, e1.trans (e2.trans (e3.trans e)), (oo2.tr o3).tr o, s⟩
          · have hf2 : fin tx n 2 1 6 = false := by rw [fin_n hn2, decide_eq_false q2]
            rw [hf2, if_neg (by decide), if_neg q2] at e3
            rw [if_neg (show ¬ fin tx n 2 1 6 = true by rw [hf2]; decide)]
            exact ⟨_, e1.trans (e2.trans e3), oo2.tr ((OffD.w (Or.inl rfl)).tr (OffD.w (Or.inr (by omega)))), fun w => (Bool.false_ne_true w).elim⟩
        · rw [if_neg (show ¬ fin tx n 2 1 6 = true by rw [fin_o hn2]; decide)]
          have en : 2 = n := by omega
          refine ⟨J2, e1.trans (e2.trans ?_), oo2, fun w => (Bool.false_ne_true w).elim⟩
          rw [show 1 + 1 = n from en]
          refine (kx_e (by rw [l1]; decide)).trans ?_
          rw [← en]
          rfl
    · rw [if_neg (show ¬ fin tx n 1 0 4 = true by rw [fin_o hn1]; decide)]
      have en : 1 = n := by omega
      refine ⟨J1, e1.trans ?_, oo1, fun w => (Bool.false_ne_true w).elim⟩
      rw [show 0 + 1 = n from en]
      refine (kx_e (by rw [k1]; decide)).trans ?_
      rw [← en]
      rfl
  · rw [if_neg h0]
    by_cases hn : 0 < n
    · have hne : ¬ tx 0 = 87 := fun w => h0 ⟨hn, w⟩
      have e1 := kx_s (Z := Z) (D := D) hT0 hn (x_W0 (Z := Z) (R := R') (L := L) j1 (hT.1.2 0 hn))
      rw [decide_eq_false hne, if_neg (by decide)] at e1
      exact ⟨_, e1, o0.tr ((OffD.w (Or.inl rfl)).tr ((OffD.w (Or.inl rfl)).tr (OffD.w (Or.inl rfl)))), fun w => (Bool.false_ne_true w).elim⟩
    · have en : 0 = n := by omega
      refine ⟨J0, ?_, o0, fun w => (Bool.false_ne_true w).elim⟩
      subst en
      exact (kx_e (by rw [j1]; decide)).trans rfl
end XREAD
