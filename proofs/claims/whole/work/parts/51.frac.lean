/-! the greatest common divisor, by both -/
def rem32 (x y : Int32) : Int32 := x - x / y * y
theorem rem32_i (x y : Int32) : rem32 x y = iI (x.toInt.tmod y.toInt) := by
  have h : x / y = iI (x.toInt.tdiv y.toInt) := by
    apply Int32.toInt_inj.mp
    rw [Int32.toInt_div]
    unfold iI
    rw [Int32.toInt_ofInt]
  unfold rem32
  rw [h]
  have hx := iI_of x
  have hy := iI_of y
  rw [show x - iI (x.toInt.tdiv y.toInt) * y = iI x.toInt - iI (x.toInt.tdiv y.toInt) * iI y.toInt by rw [← hx, ← hy], iI_mul, iI_sub]
  congr 1
  rw [Int.tmod_def, Int.mul_comm]
theorem rem32_abs {x y : Int32} (hy : y.toInt ≠ 0) : (rem32 x y).toInt.natAbs = x.toInt.natAbs % y.toInt.natAbs := by
  have hx := x_rng x
  have hy2 := x_rng y
  have h1 := Int.natAbs_tmod x.toInt y.toInt
  have h2 : x.toInt.natAbs % y.toInt.natAbs < y.toInt.natAbs := Nat.mod_lt _ (by omega)
  rw [rem32_i, iI_toInt (by omega) (by omega), h1]
def eu (x y : Int32) : Nat → Int32 × Int32
  | 0 => (x, y)
  | n + 1 => if (eu x y n).2 = nI 0 then eu x y n else ((eu x y n).2, rem32 (eu x y n).1 (eu x y n).2)
theorem eu_fix {x y : Int32} {n : Nat} (h : (eu x y n).2 = nI 0) : ∀ d, eu x y (n + d) = eu x y n
  | 0 => rfl
  | d + 1 => by
    have ih := eu_fix h d
    rw [← Nat.add_assoc, eu, ih, if_pos h]
theorem z_toInt {y : Int32} : y = nI 0 ↔ y.toInt = 0 := by
  rw [← Int32.toInt_inj, show (nI 0).toInt = 0 by decide]
theorem eu_0 : ∀ k n x y, (eu x y n).2.toInt.natAbs < 2 ^ k → (eu x y (n + 2 * k)).2 = nI 0
  | 0, n, x, y, h => by
    have h1 : (eu x y n).2.toInt.natAbs < 1 := h
    have h2 : (eu x y n).2.toInt = 0 := by omega
    exact z_toInt.mpr h2
  | k + 1, n, x, y, h => by
    by_cases h0 : (eu x y n).2 = nI 0
    · rw [eu_fix h0]
      exact h0
    · have e1 : eu x y (n + 1) = ((eu x y n).2, rem32 (eu x y n).1 (eu x y n).2) := by rw [eu, if_neg h0]
      have y0 : (eu x y n).2.toInt ≠ 0 := fun w => h0 (z_toInt.mpr w)
      have a1 := rem32_abs (x := (eu x y n).1) y0
      by_cases h1 : (eu x y (n + 1)).2 = nI 0
      · rw [show n + 2 * (k + 1) = n + 1 + (2 * k + 1) by omega, eu_fix h1]
        exact h1
      · have e2 : eu x y (n + 1 + 1) = ((eu x y (n + 1)).2, rem32 (eu x y (n + 1)).1 (eu x y (n + 1)).2) := by rw [eu, if_neg h1]
        have y1 : (eu x y (n + 1)).2.toInt ≠ 0 := fun w => h1 (z_toInt.mpr w)
        have a2 := rem32_abs (x := (eu x y (n + 1)).1) y1
        have b2 : (eu x y (n + 1 + 1)).2.toInt.natAbs < 2 ^ k := by
          rw [e2]
          show (rem32 (eu x y (n + 1)).1 (eu x y (n + 1)).2).toInt.natAbs < 2 ^ k
          rw [a2]
          rw [e1] at y1 ⊢
          show (eu x y n).2.toInt.natAbs % (rem32 (eu x y n).1 (eu x y n).2).toInt.natAbs < 2 ^ k
          have y1' : (rem32 (eu x y n).1 (eu x y n).2).toInt ≠ 0 := y1
          have q1 : (eu x y n).1.toInt.natAbs % (eu x y n).2.toInt.natAbs < (eu x y n).2.toInt.natAbs := Nat.mod_lt _ (by omega)
          have q0 : 0 < (rem32 (eu x y n).1 (eu x y n).2).toInt.natAbs := by omega
          rw [← a1] at q1
          generalize (rem32 (eu x y n).1 (eu x y n).2).toInt.natAbs = r at *
          generalize (eu x y n).2.toInt.natAbs = v at *
          have q2 : v % r < r := Nat.mod_lt _ q0
          have q3 : v % r ≤ v - r := by
            have := Nat.mod_add_div v r
            have : 1 ≤ v / r := (Nat.le_div_iff_mul_le q0).mpr (by omega)
            have : r ≤ r * (v / r) := Nat.le_mul_of_pos_right r this
            omega
          have : 2 ^ (k + 1) = 2 * 2 ^ k := by rw [Nat.pow_succ, Nat.mul_comm]
          omega
        have := eu_0 k (n + 1 + 1) x y b2
        rwa [show n + 1 + 1 + 2 * k = n + 2 * (k + 1) by omega] at this
theorem eu_nz {x y : Int32} (h : ¬ y = nI 0) : ∀ n, (eu x y n).2 = nI 0 → ¬ (eu x y n).1 = nI 0
  | 0, w => absurd w h
  | n + 1, w => by
    by_cases h0 : (eu x y n).2 = nI 0
    · rw [eu, if_pos h0]
      exact eu_nz h n h0
    · rw [eu, if_neg h0]
      exact h0
def gcd32 (x y : Int32) : Int32 := (eu x y 60).1
section FRAC
variable {Z : Nat} {I : ab_I} {R : ab_R} {L : ab_L}
theorem m_common {x y : Int32} (hy : y.toInt.natAbs < 2 ^ 30) : cl Z 166 [.int x, .int y] I R L = some (some (.int (gcd32 x y)), I, R, L) := by
  have h60 := eu_0 30 0 x y hy
  rw [Nat.zero_add] at h60
  rw [n166]
  simp only [e166_0, e166_1, e166_2, e166_3, e166_5, e166_8, e166_9, e166_10, e166_11, e166_13, e166_14, e166_15, e166_17, e166_18, e166_21, e166_22, bI_s, bL_s, bV_s, rv_s1, nl_i, nl_a, nl_n, w8_0, w8_i, w8_a, w8_l, ct_i, ct_a, b01_0, b01_1, b01_b]
  have key := loop_all (P := fun i => ∀ z, ex Z 0 0 166 4 [some (.int x), some (.int y), some (.int (eu x y i).1), some (.int (eu x y i).2), z] [] I R L = some (some (.int (gcd32 x y)), I, R, L)) 60 (fun i hi ih z => ?_) (fun z => ?_) 0 (Nat.zero_le _)
  · exact key none
  · rw [e166_4]
    by_cases h0 : (eu x y i).2 = nI 0
    · have e := eu_fix h0 (60 - i)
      rw [show i + (60 - i) = 60 by omega] at e
      simp only [e166_0, e166_1, e166_2, e166_3, e166_5, e166_8, e166_9, e166_10, e166_11, e166_13, e166_14, e166_15, e166_17, e166_18, e166_21, e166_22, bI_s, bL_s, bV_s, rv_s1, nl_i, nl_a, nl_n, w8_0, w8_i, w8_a, w8_l, ct_i, ct_a, b01_0, b01_1, b01_b, h0, if_true]
      unfold gcd32
      rw [e]
    · have e : eu x y (i + 1) = ((eu x y i).2, rem32 (eu x y i).1 (eu x y i).2) := by rw [eu, if_neg h0]
      simp only [e] at ih
      simp only [e166_0, e166_1, e166_2, e166_3, e166_5, e166_8, e166_9, e166_10, e166_11, e166_13, e166_14, e166_15, e166_17, e166_18, e166_21, e166_22, bI_s, bL_s, bV_s, rv_s1, nl_i, nl_a, nl_n, w8_0, w8_i, w8_a, w8_l, ct_i, ct_a, b01_0, b01_1, b01_b, h0, if_false, show ¬ (eu x y i).2 = 0 from h0, not_false_eq_true]
      exact ih _
  · rw [e166_4]
    simp only [e166_0, e166_1, e166_2, e166_3, e166_5, e166_8, e166_9, e166_10, e166_11, e166_13, e166_14, e166_15, e166_17, e166_18, e166_21, e166_22, bI_s, bL_s, bV_s, rv_s1, nl_i, nl_a, nl_n, w8_0, w8_i, w8_a, w8_l, ct_i, ct_a, b01_0, b01_1, b01_b, show (eu x y 60).2 = nI 0 from h60, if_true]
    rfl
theorem x_fraction {x y : Int32} {u : Bool} (hy : y.toInt.natAbs < 2 ^ 30) (hy0 : ¬ y = nI 0) : cl Z 82 [.int x, .int y, .int (nI u.toNat)] I R L = some (some (.int ((if u = true then x else y) / gcd32 x y)), I, R, L) ∧ ¬ gcd32 x y = nI 0 := by
  have h60 := eu_0 30 0 x y hy
  rw [Nat.zero_add] at h60
  have hn := eu_nz (x := x) hy0 60 h60
  refine ⟨?_, hn⟩
  have hn' : ¬ gcd32 x y = nI 0 := hn
  have fin : ∀ i z, (eu x y i).2 = nI 0 → i ≤ 60 → ex Z 0 0 82 39 [some (.int x), some (.int y), some (.int (nI u.toNat)), some (.int (eu x y i).1), some (.int (eu x y i).2), some (.int (nI i)), z] [] I R L = some (some (.int ((if u = true then x else y) / gcd32 x y)), I, R, L) := by
    intro i z h0 hi
    have e := eu_fix h0 (60 - i)
    rw [show i + (60 - i) = 60 by omega] at e
    have e2 : (eu x y i).1 = gcd32 x y := by unfold gcd32; rw [e]
    rw [e2]
    cases u <;> simp only [e82_0, e82_1, e82_2, e82_3, e82_5, e82_6, e82_10, e82_12, e82_15, e82_17, e82_20, e82_21, e82_23, e82_24, e82_26, e82_28, e82_29, e82_31, e82_33, e82_36, e82_39, e82_40, e82_43, e82_44, e82_47, e82_48, e82_50, e82_51, e82_54, e82_56, e82_59, e82_61, e82_62, e82_63, bI_s, bL_s, bV_s, rv_s1, nl_i, nl_a, nl_n, w8_0, w8_i, w8_a, w8_l, ct_i, ct_a, b01_0, b01_1, b01_b, nI10, Bool.toNat_true, Bool.toNat_false, if_true, if_false, hn', show ¬ gcd32 x y = 0 from hn', not_false_eq_true, Bool.false_eq_true]
  rw [n82]
  simp only [e82_0, e82_1, e82_2, e82_3, e82_5, e82_6, e82_10, e82_12, e82_15, e82_17, e82_20, e82_21, e82_23, e82_24, e82_26, e82_28, e82_29, e82_31, e82_33, e82_36, e82_40, e82_43, e82_44, e82_47, e82_48, e82_50, e82_51, e82_54, e82_56, e82_59, e82_61, e82_62, e82_63, bI_s, bL_s, bV_s, rv_s1, nl_i, nl_a, nl_n, w8_0, w8_i, w8_a, w8_l, ct_i, ct_a, b01_0, b01_1, b01_b]
  have key := loop_all (P := fun i => ∀ z, ex Z 0 0 82 8 [some (.int x), some (.int y), some (.int (nI u.toNat)), some (.int (eu x y i).1), some (.int (eu x y i).2), some (.int (nI i)), z] [] I R L = some (some (.int ((if u = true then x else y) / gcd32 x y)), I, R, L)) 60 (fun i hi ih z => ?_) (fun z => ?_) 0 (Nat.zero_le _)
  · exact key none
  · rw [e82_8]
    by_cases h0 : (eu x y i).2 = nI 0
    · have f := fin i z h0 (by omega)
      rw [h0] at f
      simp only [e82_0, e82_1, e82_2, e82_3, e82_5, e82_6, e82_10, e82_12, e82_15, e82_17, e82_20, e82_21, e82_23, e82_24, e82_26, e82_28, e82_29, e82_31, e82_33, e82_36, e82_40, e82_43, e82_44, e82_47, e82_48, e82_50, e82_51, e82_54, e82_56, e82_59, e82_61, e82_62, e82_63, bI_s, bL_s, bV_s, rv_s1, nl_i, nl_a, nl_n, w8_0, w8_i, w8_a, w8_l, ct_i, ct_a, b01_0, b01_1, b01_b, nI_leI (show 64 < 2 ^ 31 by decide) (show i < 2 ^ 31 by omega), show ¬ 64 ≤ i by omega, if_false, h0, if_true]
      exact f
    · have e : eu x y (i + 1) = ((eu x y i).2, rem32 (eu x y i).1 (eu x y i).2) := by rw [eu, if_neg h0]
      simp only [e] at ih
      simp only [e82_0, e82_1, e82_2, e82_3, e82_5, e82_6, e82_10, e82_12, e82_15, e82_17, e82_20, e82_21, e82_23, e82_24, e82_26, e82_28, e82_29, e82_31, e82_33, e82_36, e82_40, e82_43, e82_44, e82_47, e82_48, e82_50, e82_51, e82_54, e82_56, e82_59, e82_61, e82_62, e82_63, bI_s, bL_s, bV_s, rv_s1, nl_i, nl_a, nl_n, w8_0, w8_i, w8_a, w8_l, ct_i, ct_a, b01_0, b01_1, b01_b, nI_leI (show 64 < 2 ^ 31 by decide) (show i < 2 ^ 31 by omega), show ¬ 64 ≤ i by omega, h0, if_false, show ¬ (eu x y i).2 = 0 from h0, not_false_eq_true, nI_add]
      exact ih _
  · rw [e82_8]
    have f := fin 60 z h60 (Nat.le_refl _)
    rw [h60] at f
    simp only [e82_0, e82_1, e82_2, e82_3, e82_5, e82_6, e82_10, e82_12, e82_15, e82_17, e82_20, e82_21, e82_23, e82_24, e82_26, e82_28, e82_29, e82_31, e82_33, e82_36, e82_40, e82_43, e82_44, e82_47, e82_48, e82_50, e82_51, e82_54, e82_56, e82_59, e82_61, e82_62, e82_63, bI_s, bL_s, bV_s, rv_s1, nl_i, nl_a, nl_n, w8_0, w8_i, w8_a, w8_l, ct_i, ct_a, b01_0, b01_1, b01_b, nI_leI (show 64 < 2 ^ 31 by decide) (show 60 < 2 ^ 31 by omega), show ¬ 64 ≤ 60 by omega, if_false, h60, if_true]
    exact f
end FRAC
