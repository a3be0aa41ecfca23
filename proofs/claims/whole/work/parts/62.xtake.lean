/-! the class reads letter by letter -/
def OffD (I J : ab_I) (D : Nat) : Prop := ∀ o, o ≠ 2 → ¬ (D ≤ o ∧ o ≤ D + 7) → J o = I o
theorem OffD.rf {I : ab_I} {D : Nat} : OffD I I D := fun _ _ _ => rfl
theorem OffD.tr {I J K : ab_I} {D : Nat} (h1 : OffD I J D) (h2 : OffD J K D) : OffD I K D := fun o a b => (h2 o a b).trans (h1 o a b)
theorem OffD.w {I : ab_I} {D o k : Nat} {v : Int32} (h : o = 2 ∨ (D ≤ o ∧ o ≤ D + 7)) : OffD I (wI I o k v) D := fun p a b => by
  funext j
  rw [wI_o (by omega)]
def TXx (I : ab_I) (tx : Nat → Nat) (n : Nat) : Prop := (n ≤ 56 ∧ ∀ i, i < n → tx i ≤ 255) ∧ ∀ i, i < n → I 1 i = nI (tx i)
theorem TXx.off {I J : ab_I} {D : Nat} {tx : Nat → Nat} {n : Nat} (h : TXx I tx n) (hc : IsC D) (o : OffD I J D) : TXx J tx n := ⟨h.1, fun i hi => by rw [o 1 (by decide) (by unfold IsC at hc; omega)]; exact h.2 i hi⟩
/-- the same coast is told by cells that agree where it counts -/
theorem XC.cg {I J : ab_I} {D : Nat} {co : Co} (h : XC I D co) (f : ∀ k, 7 ≤ k ∧ k ≤ 11 → J D k = I D k) (a : ∀ x, 1 ≤ x ∧ x ≤ 2 → ∀ k, k < co 0 2 → J (D + x) k = I (D + x) k) (b : ∀ x, 3 ≤ x ∧ x ≤ 7 → ∀ k, k < co 0 3 → J (D + x) k = I (D + x) k) : XC J D co := by
  refine ⟨(f 7 (by decide)).trans h.hs, (f 8 (by decide)).trans h.th, (f 9 (by decide)).trans h.lw, (f 10 (by decide)).trans h.la, (f 11 (by decide)).trans h.db, fun k hk => ?_, fun k hk => ?_, fun k hk => ?_, fun k hk => ?_, fun k hk => ?_, fun k hk => ?_, fun k hk => ?_⟩
  · rw [a 1 (by decide) k hk, h.a1 hk]
  · rw [a 2 (by decide) k hk, h.a2 hk]
  · rw [b 3 (by decide) k hk, h.a3 hk]
  · rw [b 4 (by decide) k hk, h.a4 hk]
  · rw [b 5 (by decide) k hk, h.a5 hk]
  · rw [b 6 (by decide) k hk, h.a6 hk]
  · rw [b 7 (by decide) k hk, h.a7 hk]
theorem XC.w2 {I : ab_I} {D k : Nat} {v : Int32} {co : Co} (h : XC I D co) (hc : IsC D) : XC (wI I 2 k v) D co := h.off fun x hx => by
  funext j
  rw [wI_o (by unfold IsC at hc; omega)]
section XTAKE
variable {Z D n p : Nat} {co : Co} {tx : Nat → Nat} {I : ab_I} {R : ab_R} {L : ab_L}
theorem x_takes0 {t : Nat} (ht : t ≤ 255) : cl Z 41 [.ref 2, .int (nI t)] I R L = ex Z 0 0 41 21 [some (.ref 2), some (.int (nI t)), some (.int (fgv t))] [] I R L := by
  rw [n41]
  simp only [e41_0, e41_1, e41_3, e41_6, e41_7, e41_9, e41_12, e41_13, e41_15, e41_16, e41_19, e41_20, e41_22, e41_23, e41_26, e41_27, e41_28, e41_31, e41_32, e41_35, e41_92, e41_93, e41_94, e41_95, e41_97, e41_100, e41_101, e41_104, e41_105, e41_108, e41_109, e41_110, e41_111, e41_112, e41_113, e41_116, e41_119, e41_120, e41_121, e41_122, e41_125, e41_126, e41_127, e41_128, e41_131, e41_132, e41_133, e41_135, e41_138, e41_139, e41_142, e41_145, e41_146, e41_147, e41_150, e41_151, e41_152, e41_153, e41_156, e41_157, e41_158, e41_159, e41_162, bI_s, bL_s, bV_s, rv_s1, nl_i, nl_a, nl_n, w8_0, w8_i, w8_a, w8_l, ct_i, ct_a, b01_0, b01_1, b01_b, nI_ltI (show t < 2 ^ 31 by omega) (show 48 < 2 ^ 31 by decide), nI_ltI (show 57 < 2 ^ 31 by decide) (show t < 2 ^ 31 by omega)]
  unfold fgv
  by_cases h1 : t < 48
  · rw [if_pos h1, if_neg (by omega)]
  · by_cases h2 : 57 < t
    · rw [if_neg h1, if_pos h2, if_neg (by omega)]
    · rw [if_neg h1, if_neg h2, if_pos (by omega), pk_sub (by omega)]
theorem kx_step {i : Nat} {b : Bool} {J : ab_I} (hT : TXx I tx n) (hi : i < n) (e : cl Z 41 [.ref 2, .int (nI (tx i))] I R L = some (some (.int (nI b.toNat)), J, R, L)) : ex Z 0 0 40 28 [some (.ref 2), some (.ref 1), some (.int (nI n)), some (.ref D), some (.int (nI n)), some (.int (nI i))] [] I R L = if b = true then ex Z 0 0 40 28 [some (.ref 2), some (.ref 1), some (.int (nI n)), some (.ref D), some (.int (nI n)), some (.int (nI (i + 1)))] [] J R L else some (some (.int (nI i)), J, R, L) := by
  have h56 := hT.1.1
  rw [e40_28]
  simp only [e40_0, e40_1, e40_2, e40_5, e40_6, e40_9, e40_12, e40_13, e40_14, e40_17, e40_18, e40_19, e40_20, e40_23, e40_25, e40_26, e40_30, e40_32, e40_35, e40_36, e40_37, e40_39, e40_40, e40_43, e40_46, e40_48, e40_49, e40_52, e40_55, e40_56, e40_59, e40_60, e40_63, e40_65, e40_68, e40_70, bI_s, bL_s, bV_s, rv_s1, nl_i, nl_a, nl_n, w8_0, w8_i, w8_a, w8_l, ct_i, ct_a, b01_0, b01_1, b01_b, kd_2, al_1, nI_leI (show n < 2 ^ 31 by omega) (show i < 2 ^ 31 by omega), show ¬ n ≤ i by omega, if_false, ab_ixN (show i < 56 by omega) (show 56 < 2 ^ 31 by decide), nI_clamp (show i < 2 ^ 31 by omega), hT.2 i hi, e, nI_b, nI_add]
  cases b <;> simp
theorem kx_end : ex Z 0 0 40 28 [some (.ref 2), some (.ref 1), some (.int (nI n)), some (.ref D), some (.int (nI n)), some (.int (nI n))] [] I R L = some (some (.int (if I 2 1 = nI 1 then iI (-9) else nI n)), I, R, L) := by
  rw [e40_28]
  simp only [e40_0, e40_1, e40_2, e40_5, e40_6, e40_9, e40_12, e40_13, e40_14, e40_17, e40_18, e40_19, e40_20, e40_23, e40_25, e40_26, e40_30, e40_32, e40_35, e40_36, e40_37, e40_39, e40_40, e40_43, e40_46, e40_48, e40_49, e40_52, e40_55, e40_56, e40_59, e40_60, e40_63, e40_65, e40_68, e40_70, bI_s, bL_s, bV_s, rv_s1, nl_i, nl_a, nl_n, w8_0, w8_i, w8_a, w8_l, ct_i, ct_a, b01_0, b01_1, b01_b, kd_2, Int32.le_refl, if_true]
  split <;> rfl
end XTAKE
