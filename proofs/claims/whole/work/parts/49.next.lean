/-! next -/
def gpc (s c : Nat) (own : Bool) : Nat → Nat
  | 0 => 0
  | n + 1 => gpc s c own n + (s.testBit n && lawf n c own).toNat
theorem gpc_le (s c : Nat) (own : Bool) : ∀ n, gpc s c own n ≤ pc s n
  | 0 => Nat.le_refl 0
  | n + 1 => by
    have ih := gpc_le s c own n
    rw [gpc, pc]
    cases s.testBit n <;> cases lawf n c own <;> simp <;> omega
theorem gpc_6 {s c : Nat} {own : Bool} (hs : s < 16) : gpc s c own 4 ≤ pc s 6 := by
  rw [pc_k 4 6 (by decide) hs]
  exact gpc_le s c own 4
def gpf (s c : Nat) (own : Bool) : Nat := max (gpc s c own 4) (pc s 6 - gpc s c own 4)
theorem gpf_le {s c : Nat} {own : Bool} (hs : s < 16) : gpf s c own ≤ pc s 6 := by
  have := gpc_6 (c := c) (own := own) hs
  unfold gpf
  omega
def nst (s m : Nat) : Nat → Int32 × Nat
  | 0 => (iI (-9), m)
  | t + 1 => if t % 10 < 2 ∧ t ≠ 1 then (if gpf s (t / 10) (decide (t % 10 = 1)) < (nst s m t).2 then (nI t, gpf s (t / 10) (decide (t % 10 = 1))) else nst s m t) else nst s m t
theorem nst_skip {s m t : Nat} (h : ¬ (t % 10 < 2 ∧ t ≠ 1)) : nst s m (t + 1) = nst s m t := by rw [nst, if_neg h]
theorem nst_m {s : Nat} (hs : s < 16) : ∀ t, nst s (pc s 6 + 1) (t + 1) = nst s 999 (t + 1)
  | 0 => by
    have h := gpf_le (c := 0) (own := false) hs
    have h2 := pc_le s 6
    simp [nst, show gpf s 0 false < pc s 6 + 1 by omega, show gpf s 0 false < 999 by omega]
  | t + 1 => by
    rw [nst, nst_m hs t]
    rfl
theorem nst_to {s m c : Nat} (h : 1 ≤ c) : nst s m (10 * (c + 1)) = nst s m (10 * c + 2) := by
  rw [show 10 * (c + 1) = 10 * c + 2 + 8 by omega]
  have k : ∀ d, d ≤ 8 → nst s m (10 * c + 2 + d) = nst s m (10 * c + 2) := by
    intro d hd
    induction d with
    | zero => rfl
    | succ d ih => rw [← Nat.add_assoc, nst_skip (by omega), ih (by omega)]
  exact k 8 (by decide)
theorem nst_to0 {s m : Nat} : nst s m 10 = nst s m 1 := by
  have k : ∀ d, d ≤ 9 → nst s m (1 + d) = nst s m 1 := by
    intro d hd
    induction d with
    | zero => rfl
    | succ d ih => rw [← Nat.add_assoc, nst_skip (by omega), ih (by omega)]
  exact k 9 (by decide)
theorem nst_end {s m : Nat} : nst s m 50 = nst s m 42 := by
  have k : ∀ d, d ≤ 8 → nst s m (42 + d) = nst s m 42 := by
    intro d hd
    induction d with
    | zero => rfl
    | succ d ih => rw [← Nat.add_assoc, nst_skip (by omega), ih (by omega)]
  exact k 8 (by decide)
theorem nst_le {s m : Nat} (hs : s < 16) (hm : m ≤ 999) : ∀ t, (nst s m t).2 ≤ 999
  | 0 => hm
  | t + 1 => by
    have ih := nst_le hs hm t
    have h := gpf_le (c := t / 10) (own := decide (t % 10 = 1)) hs
    have h2 := pc_le s 6
    rw [nst]
    split
    · split
      · show gpf s (t / 10) (decide (t % 10 = 1)) ≤ 999
        omega
      · exact ih
    · exact ih
section NEXT
variable {Z : Nat} {g : Gs} {sd : Int64} {c : Nat} {I : ab_I} {R : ab_R} {L : ab_L}
theorem x_greater {s q : Nat} {own : Bool} (hs : s < 16) (hq : q < 100) : cl Z 94 [.int (nI s), .int (nI q), .int (nI own.toNat)] I R L = some (some (.int (nI (gpf s q own))), I, R, L) := by
  have h6 := gpc_6 (c := q) (own := own) hs
  have h7 := pc_le s 6
  rw [n94]
  simp only [e94_0, e94_1, e94_2, e94_3, e94_7, e94_8, e94_11, e94_12, e94_14, e94_17, e94_18, e94_21, e94_23, e94_24, e94_25, e94_28, e94_31, e94_34, e94_37, e94_40, e94_41, e94_42, e94_45, e94_46, e94_47, e94_50, bI_s, bL_s, bV_s, rv_s1, nl_i, nl_a, nl_n, w8_0, w8_i, w8_a, w8_l, ct_i, ct_a, b01_0, b01_1, b01_b]
  refine loop_up (F := fun i => ex Z 0 0 94 5 [some (.int (nI s)), some (.int (nI q)), some (.int (nI own.toNat)), some (.int (nI (gpc s q own i))), some (.int (nI i))] [] I R L) 4 (fun i hi => ?_) ?_ 0 (Nat.zero_le _)
  · rw [e94_5]
    simp only [e94_0, e94_1, e94_2, e94_3, e94_7, e94_8, e94_11, e94_12, e94_14, e94_17, e94_18, e94_21, e94_23, e94_24, e94_25, e94_28, e94_31, e94_34, e94_37, e94_40, e94_41, e94_42, e94_45, e94_46, e94_47, e94_50, bI_s, bL_s, bV_s, rv_s1, nl_i, nl_a, nl_n, w8_0, w8_i, w8_a, w8_l, ct_i, ct_a, b01_0, b01_1, b01_b, nI_leI (show 4 < 2 ^ 31 by decide) (show i < 2 ^ 31 by omega), show ¬ 4 ≤ i by omega, if_false, s_bit (show s < 2 ^ 31 by omega) (show i < 31 by omega), nI_bt, s_holds (show i ≤ 3 by omega) (show q < 2 ^ 31 by omega), nI_b, nI_add, gpc]
    cases s.testBit i <;> cases lawf i q own <;> simp
  · rw [e94_5]
    simp only [e94_0, e94_1, e94_2, e94_3, e94_7, e94_8, e94_11, e94_12, e94_14, e94_17, e94_18, e94_21, e94_23, e94_24, e94_25, e94_28, e94_31, e94_34, e94_37, e94_40, e94_41, e94_42, e94_45, e94_46, e94_47, e94_50, bI_s, bL_s, bV_s, rv_s1, nl_i, nl_a, nl_n, w8_0, w8_i, w8_a, w8_l, ct_i, ct_a, b01_0, b01_1, b01_b, Int32.le_refl, if_true, s_ones (show s < 64 by omega), pk_sub h6, nI_max (show gpc s q own 4 < 2 ^ 31 by omega) (show pc s 6 - gpc s q own 4 < 2 ^ 31 by omega), gpf]
theorem m_next (hp : PG g) (h : MM g sd I R L) : cl Z 177 [.ref 87] I R L = some (some (.int (if lawsf g = 0 then iI (-9) else (nst (lawsf g) 999 42).1)), I, R, L) := by
  have h16 := lawsf_16 g
  have h7 := pc_le (lawsf g) 6
  rw [n177]
  simp only [e177_0, e177_1, e177_4, e177_5, e177_7, e177_8, e177_11, e177_12, e177_13, e177_17, e177_19, e177_22, e177_23, e177_26, e177_28, e177_30, e177_31, e177_32, e177_35, e177_37, e177_38, e177_41, e177_42, e177_44, e177_45, e177_49, e177_50, e177_53, e177_55, e177_56, e177_58, e177_61, e177_64, e177_66, e177_68, e177_71, e177_74, e177_75, e177_78, e177_79, e177_80, e177_82, e177_85, e177_88, e177_89, e177_92, e177_94, e177_95, e177_97, e177_99, e177_101, e177_104, e177_106, e177_109, e177_111, e177_113, e177_115, e177_116, e177_119, e177_121, e177_124, e177_125, e177_126, e177_128, e177_129, e177_132, e177_134, e177_137, e177_138, e177_139, e177_142, e177_145, e177_146, bI_s, bL_s, bV_s, rv_s1, nl_i, nl_a, nl_n, w8_0, w8_i, w8_a, w8_l, ct_i, ct_a, b01_0, b01_1, b01_b, kd_87, m_laws hp h]
  generalize lawsf g = s at *
  by_cases h0 : s = 0
  · subst h0
    rw [e177_15]
    simp only [e177_0, e177_1, e177_4, e177_5, e177_7, e177_8, e177_11, e177_12, e177_13, e177_17, e177_19, e177_22, e177_23, e177_26, e177_28, e177_30, e177_31, e177_32, e177_35, e177_37, e177_38, e177_41, e177_42, e177_44, e177_45, e177_49, e177_50, e177_53, e177_55, e177_56, e177_58, e177_61, e177_64, e177_66, e177_68, e177_71, e177_74, e177_75, e177_78, e177_79, e177_80, e177_82, e177_85, e177_88, e177_89, e177_92, e177_94, e177_95, e177_97, e177_99, e177_101, e177_104, e177_106, e177_109, e177_111, e177_113, e177_115, e177_116, e177_119, e177_121, e177_124, e177_125, e177_126, e177_128, e177_129, e177_132, e177_134, e177_137, e177_138, e177_139, e177_142, e177_145, e177_146, bI_s, bL_s, bV_s, rv_s1, nl_i, nl_a, nl_n, w8_0, w8_i, w8_a, w8_l, ct_i, ct_a, b01_0, b01_1, b01_b, show (nI 42 ≤ nI 0) = False by decide, if_false, if_true]
  · rw [if_neg h0]
    have key := loop_all (P := fun t => ∀ x y z, ex Z 0 0 177 15 [some (.ref 87), some (.int (nI s)), some (.int (nst s 999 t).1), some (.int (nI (nst s 999 t).2)), some (.int (nI t)), x, y, z] [] I R L = some (some (.int (nst s 999 42).1), I, R, L)) 42 (fun t ht ih x y z => ?_) (fun x y z => ?_) 0 (Nat.zero_le _)
    · exact key none none none
    · have hr : (nI t - nI t / nI 10 * nI 10) = nI (t % 10) := pk_rem (by omega) (by decide) (by decide)
      rw [e177_15]
      by_cases hs : t % 10 < 2 ∧ t ≠ 1
      · simp only [e177_0, e177_1, e177_4, e177_5, e177_7, e177_8, e177_11, e177_12, e177_13, e177_17, e177_19, e177_22, e177_23, e177_26, e177_28, e177_30, e177_31, e177_32, e177_35, e177_37, e177_38, e177_41, e177_42, e177_44, e177_45, e177_49, e177_50, e177_53, e177_55, e177_56, e177_58, e177_61, e177_64, e177_66, e177_68, e177_71, e177_74, e177_75, e177_78, e177_79, e177_80, e177_82, e177_85, e177_88, e177_89, e177_92, e177_94, e177_95, e177_97, e177_99, e177_101, e177_104, e177_106, e177_109, e177_111, e177_113, e177_115, e177_116, e177_119, e177_121, e177_124, e177_125, e177_126, e177_128, e177_129, e177_132, e177_134, e177_137, e177_138, e177_139, e177_142, e177_145, e177_146, bI_s, bL_s, bV_s, rv_s1, nl_i, nl_a, nl_n, w8_0, w8_i, w8_a, w8_l, ct_i, ct_a, b01_0, b01_1, b01_b, nI_leI (show 42 < 2 ^ 31 by decide) (show t < 2 ^ 31 by omega), show ¬ 42 ≤ t by omega, if_false, nI_eq (show s < 2 ^ 31 by omega) (show 0 < 2 ^ 31 by decide), h0, show ¬ nI 10 = 0 by decide, not_false_eq_true, hr, nI_leI (show 2 < 2 ^ 31 by decide) (show t % 10 < 2 ^ 31 by omega), show ¬ 2 ≤ t % 10 by omega, nI_eq (show t < 2 ^ 31 by omega) (show 1 < 2 ^ 31 by decide), hs.2]
        have eb : t = 10 * (t / 10) + (decide (t % 10 = 1)).toNat := by
          by_cases h1 : t % 10 = 1
          · simp [h1]
            omega
          · simp [h1]
            omega
        have h6 := gpc_6 (c := t / 10) (own := decide (t % 10 = 1)) h16
        have hg := gpf_le (c := t / 10) (own := decide (t % 10 = 1)) h16
        have hl := nst_le (m := 999) h16 (Nat.le_refl _) t
        refine loop_up (F := fun i => ex Z 0 0 177 47 [some (.ref 87), some (.int (nI s)), some (.int (nst s 999 t).1), some (.int (nI (nst s 999 t).2)), some (.int (nI t)), some (.int (nI (gpc s (t / 10) (decide (t % 10 = 1)) i))), some (.int (nI i)), z] [] I R L) 4 (fun i hi => ?_) ?_ 0 (Nat.zero_le _)
        · have hb := m_byLaw (Z := Z) (I := I) (R := R) (L := L) (l := i) (q := t / 10) (b := decide (t % 10 = 1)) hi (by omega)
          rw [← eb] at hb
          rw [e177_47]
          simp only [e177_0, e177_1, e177_4, e177_5, e177_7, e177_8, e177_11, e177_12, e177_13, e177_17, e177_19, e177_22, e177_23, e177_26, e177_28, e177_30, e177_31, e177_32, e177_35, e177_37, e177_38, e177_41, e177_42, e177_44, e177_45, e177_49, e177_50, e177_53, e177_55, e177_56, e177_58, e177_61, e177_64, e177_66, e177_68, e177_71, e177_74, e177_75, e177_78, e177_79, e177_80, e177_82, e177_85, e177_88, e177_89, e177_92, e177_94, e177_95, e177_97, e177_99, e177_101, e177_104, e177_106, e177_109, e177_111, e177_113, e177_115, e177_116, e177_119, e177_121, e177_124, e177_125, e177_126, e177_128, e177_129, e177_132, e177_134, e177_137, e177_138, e177_139, e177_142, e177_145, e177_146, bI_s, bL_s, bV_s, rv_s1, nl_i, nl_a, nl_n, w8_0, w8_i, w8_a, w8_l, ct_i, ct_a, b01_0, b01_1, b01_b, nI_leI (show 4 < 2 ^ 31 by decide) (show i < 2 ^ 31 by omega), show ¬ 4 ≤ i by omega, if_false, s_has (show s < 2 ^ 31 by omega) (show i < 31 by omega), hb, nI_b, nI_add, gpc]
          by_cases c1 : s.testBit i = true <;> by_cases c2 : lawf i (t / 10) (decide (t % 10 = 1)) = true <;> simp [c1, c2]
        · rw [e177_47]
          have ih2 := ih (some (.int (nI (gpc s (t / 10) (decide (t % 10 = 1)) 4)))) (some (.int (nI (pc s 6 - gpc s (t / 10) (decide (t % 10 = 1)) 4)))) (some (.int (nI (gpf s (t / 10) (decide (t % 10 = 1))))))
          rw [nst, if_pos hs] at ih2
          simp only [e177_0, e177_1, e177_4, e177_5, e177_7, e177_8, e177_11, e177_12, e177_13, e177_17, e177_19, e177_22, e177_23, e177_26, e177_28, e177_30, e177_31, e177_32, e177_35, e177_37, e177_38, e177_41, e177_42, e177_44, e177_45, e177_49, e177_50, e177_53, e177_55, e177_56, e177_58, e177_61, e177_64, e177_66, e177_68, e177_71, e177_74, e177_75, e177_78, e177_79, e177_80, e177_82, e177_85, e177_88, e177_89, e177_92, e177_94, e177_95, e177_97, e177_99, e177_101, e177_104, e177_106, e177_109, e177_111, e177_113, e177_115, e177_116, e177_119, e177_121, e177_124, e177_125, e177_126, e177_128, e177_129, e177_132, e177_134, e177_137, e177_138, e177_139, e177_142, e177_145, e177_146, bI_s, bL_s, bV_s, rv_s1, nl_i, nl_a, nl_n, w8_0, w8_i, w8_a, w8_l, ct_i, ct_a, b01_0, b01_1, b01_b, Int32.le_refl, if_true, m_ones (show s < 2 ^ 31 by omega), pk_sub h6, nI_leI (show gpc s (t / 10) (decide (t % 10 = 1)) 4 < 2 ^ 31 by omega) (show pc s 6 - gpc s (t / 10) (decide (t % 10 = 1)) 4 < 2 ^ 31 by omega), nI_leI (show (nst s 999 t).2 < 2 ^ 31 by omega) (show gpc s (t / 10) (decide (t % 10 = 1)) 4 < 2 ^ 31 by omega), nI_leI (show (nst s 999 t).2 < 2 ^ 31 by omega) (show pc s 6 - gpc s (t / 10) (decide (t % 10 = 1)) 4 < 2 ^ 31 by omega), nI_add]
          unfold gpf at ih2
          by_cases c1 : gpc s (t / 10) (decide (t % 10 = 1)) 4 ≤ pc s 6 - gpc s (t / 10) (decide (t % 10 = 1)) 4
          · rw [Nat.max_eq_right c1] at ih2
            by_cases c2 : (nst s 999 t).2 ≤ pc s 6 - gpc s (t / 10) (decide (t % 10 = 1)) 4
            · rw [if_neg (by omega)] at ih2
              simpa [c1, c2] using ih2
            · rw [if_pos (by omega)] at ih2
              simpa [c1, c2] using ih2
          · rw [Nat.max_eq_left (by omega)] at ih2
            by_cases c2 : (nst s 999 t).2 ≤ gpc s (t / 10) (decide (t % 10 = 1)) 4
            · rw [if_neg (by omega)] at ih2
              simpa [c1, c2] using ih2
            · rw [if_pos (by omega)] at ih2
              simpa [c1, c2] using ih2
      · have ih2 := ih x y z
        rw [nst_skip hs] at ih2
        simp only [e177_0, e177_1, e177_4, e177_5, e177_7, e177_8, e177_11, e177_12, e177_13, e177_17, e177_19, e177_22, e177_23, e177_26, e177_28, e177_30, e177_31, e177_32, e177_35, e177_37, e177_38, e177_41, e177_42, e177_44, e177_45, e177_49, e177_50, e177_53, e177_55, e177_56, e177_58, e177_61, e177_64, e177_66, e177_68, e177_71, e177_74, e177_75, e177_78, e177_79, e177_80, e177_82, e177_85, e177_88, e177_89, e177_92, e177_94, e177_95, e177_97, e177_99, e177_101, e177_104, e177_106, e177_109, e177_111, e177_113, e177_115, e177_116, e177_119, e177_121, e177_124, e177_125, e177_126, e177_128, e177_129, e177_132, e177_134, e177_137, e177_138, e177_139, e177_142, e177_145, e177_146, bI_s, bL_s, bV_s, rv_s1, nl_i, nl_a, nl_n, w8_0, w8_i, w8_a, w8_l, ct_i, ct_a, b01_0, b01_1, b01_b, nI_leI (show 42 < 2 ^ 31 by decide) (show t < 2 ^ 31 by omega), show ¬ 42 ≤ t by omega, if_false, nI_eq (show s < 2 ^ 31 by omega) (show 0 < 2 ^ 31 by decide), h0, show ¬ nI 10 = 0 by decide, not_false_eq_true, hr, nI_leI (show 2 < 2 ^ 31 by decide) (show t % 10 < 2 ^ 31 by omega), nI_eq (show t < 2 ^ 31 by omega) (show 1 < 2 ^ 31 by decide), nI_add]
        by_cases c1 : 2 ≤ t % 10
        · simpa [c1] using ih2
        · simpa [c1, show t = 1 by omega] using ih2
    · rw [e177_15]
      simp only [e177_0, e177_1, e177_4, e177_5, e177_7, e177_8, e177_11, e177_12, e177_13, e177_17, e177_19, e177_22, e177_23, e177_26, e177_28, e177_30, e177_31, e177_32, e177_35, e177_37, e177_38, e177_41, e177_42, e177_44, e177_45, e177_49, e177_50, e177_53, e177_55, e177_56, e177_58, e177_61, e177_64, e177_66, e177_68, e177_71, e177_74, e177_75, e177_78, e177_79, e177_80, e177_82, e177_85, e177_88, e177_89, e177_92, e177_94, e177_95, e177_97, e177_99, e177_101, e177_104, e177_106, e177_109, e177_111, e177_113, e177_115, e177_116, e177_119, e177_121, e177_124, e177_125, e177_126, e177_128, e177_129, e177_132, e177_134, e177_137, e177_138, e177_139, e177_142, e177_145, e177_146, bI_s, bL_s, bV_s, rv_s1, nl_i, nl_a, nl_n, w8_0, w8_i, w8_a, w8_l, ct_i, ct_a, b01_0, b01_1, b01_b, Int32.le_refl, if_true]
end NEXT
