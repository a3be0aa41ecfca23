/-! the class reads: what may lie in what, figures -/
def fgv (t : Nat) : Int32 := if 48 ≤ t ∧ t ≤ 57 then nI (t - 48) else iI (-1)
theorem fgv_t {t : Nat} (h : 48 ≤ t ∧ t ≤ 57) : fgv t = nI (t - 48) := if_pos h
theorem fgv_f {t : Nat} (h : ¬ (48 ≤ t ∧ t ≤ 57)) : fgv t = iI (-1) := if_neg h
theorem fgA (t : Nat) : (fgv t < nI 0) = ¬ (48 ≤ t ∧ t ≤ 57) := by
  by_cases h : 48 ≤ t ∧ t ≤ 57
  · rw [fgv_t h, nI_ltI (by omega) (by decide)]
    simp [h]
  · rw [fgv_f h]
    simp only [h, not_false_eq_true]
    exact eq_true (by decide)
theorem fgB {m : Nat} (hm : m ≤ 9) (t : Nat) : (nI m < fgv t) = (48 + m < t ∧ t ≤ 57) := by
  by_cases h : 48 ≤ t ∧ t ≤ 57
  · rw [fgv_t h, nI_ltI (by omega) (by omega)]
    exact propext ⟨fun w => by omega, fun w => by omega⟩
  · rw [fgv_f h]
    have k : ∀ m, m ≤ 9 → ¬ nI m < iI (-1) := by decide +kernel
    exact propext ⟨fun w => absurd w (k m hm), fun w => by omega⟩
theorem fgC (t : Nat) : (fgv t < nI 1) = ¬ (49 ≤ t ∧ t ≤ 57) := by
  by_cases h : 48 ≤ t ∧ t ≤ 57
  · rw [fgv_t h, nI_ltI (by omega) (by decide)]
    exact propext ⟨fun w => by omega, fun w => by omega⟩
  · rw [fgv_f h]
    exact propext ⟨fun _ => by omega, fun _ => by decide⟩
theorem fgD (t : Nat) : (nI 4 ≤ fgv t) = (52 ≤ t ∧ t ≤ 57) := by
  by_cases h : 48 ≤ t ∧ t ≤ 57
  · rw [fgv_t h, nI_leI (by decide) (by omega)]
    exact propext ⟨fun w => by omega, fun w => by omega⟩
  · rw [fgv_f h]
    exact propext ⟨fun w => absurd w (by decide), fun w => by omega⟩
theorem fgE {n : Nat} (t : Nat) : hasI (fgv t) n = decide (48 ≤ t ∧ t ≤ 57 ∧ t - 48 < n) := by
  by_cases h : 48 ≤ t ∧ t ≤ 57
  · rw [fgv_t h, hasI_nI (by omega)]
    exact decide_eq_decide.mpr ⟨fun w => ⟨h.1, h.2, w⟩, fun w => w.2.2⟩
  · rw [fgv_f h, decide_eq_false (fun w => h ⟨w.1, w.2.1⟩)]
    exact decide_eq_false (fun w => absurd w.1 (by decide))
theorem mk_z {P : Nat → Bool} {n j : Nat} (hj : j < n) (h : P j = true) : mk P n ≠ 0 := fun w => by
  have := mk_bit P j n
  rw [w, Nat.zero_testBit, h, decide_eq_true hj] at this
  exact Bool.false_ne_true this
section XLIE
variable {Z D : Nat} {co : Co} {I : ab_I} {R : ab_R} {L : ab_L}
theorem s_mayLieIn0 (hc : IsC D) (hC : XC I D co) (hw : WF co) (x y : Int32) (h : hasI x (co 0 3) = false ∨ hasI y (co 0 3) = false) : cl Z 3 [.ref D, .int x, .int y] I R L = some (some (.int (nI 0)), I, R, L) := by
  rw [n3]
  simp only [e3_0, e3_1, e3_2, e3_5, e3_8, e3_9, e3_10, e3_13, e3_16, e3_17, e3_20, e3_21, e3_22, e3_23, e3_26, e3_27, e3_28, e3_31, e3_32, e3_35, e3_36, e3_37, e3_39, e3_42, e3_43, e3_44, e3_45, e3_46, e3_47, e3_51, e3_53, e3_56, e3_57, e3_58, e3_61, e3_64, e3_65, e3_66, e3_69, e3_70, e3_71, e3_72, e3_75, e3_76, e3_77, e3_78, e3_81, e3_84, e3_85, bI_s, bL_s, bV_s, rv_s1, nl_i, nl_a, nl_n, w8_0, w8_i, w8_a, w8_l, ct_i, ct_a, b01_0, b01_1, b01_b, kdC hc, s_hasThing hc hC hw, nI_b]
  rcases h with h | h
  · simp [h]
  · cases hx : hasI x (co 0 3) <;> simp [h]
theorem s_mayLieIn (hF : Fx R) (hc : IsC D) (hC : XC I D co) (hW : WP co) {i j : Nat} (hi : i < co 0 3) (hj : j < co 0 3) : cl Z 3 [.ref D, .int (nI i), .int (nI j)] I R L = some (some (.int (nI (mlf co i j).toNat)), I, R, L) := by
  have hw := hW.wf
  have h6 := hw.t6
  have a1 := (hW.2.2.2.2.2.2.1 i hi).1
  have a2 := (hW.2.2.2.2.2.2.1 j hj).1
  have a3 := hW.2.2.2.1.2
  have a4 := (hW.2.2.2.2.2.2.1 i hi).2.2.2.2.2
  by_cases h0 : co 7 i = 0
  · by_cases hs : co 3 i = co 3 j
    · have em : mlf co i j = decide (top co j ≠ i) := by
        unfold mlf
        rw [decide_eq_true ⟨hi, hj, hs, h0⟩, Bool.true_and]
      obtain ⟨K, hK, k1, k2⟩ := ch5 h6 hW.b hj (hW.2.2.2.2.2.2.2 j hj)
      have eK := topf_6 k1 (show K ≤ 6 by omega)
      have key : ∀ k, k ≤ K → ex Z 0 0 3 49 [some (.ref D), some (.int (nI i)), some (.int (nI j)), some (.int (nI (topf co k j))), some (.int (nI k))] [] I R L = some (some (.int (nI (mlf co i j).toNat)), I, R, L) := by
        refine loop_all K (fun k hk ih => ?_) ?_
        · have hp := topf_lt hw hj k
          have h7 := k2 k hk
          have h8 := (hw.2.2.2.2.2.2 _ hp).2.2.2.2.2.1
          have e : topf co (k + 1) j = co 7 (topf co k j) - 1 := by rw [topf, up, if_neg h7]
          have hne : ¬ topf co k j = i := fun w => h7 (by rw [w]; exact h0)
          rw [e] at ih
          rw [e3_49]
          simp only [e3_0, e3_1, e3_2, e3_5, e3_8, e3_9, e3_10, e3_13, e3_16, e3_17, e3_20, e3_21, e3_22, e3_23, e3_26, e3_27, e3_28, e3_31, e3_32, e3_35, e3_36, e3_37, e3_39, e3_42, e3_43, e3_44, e3_45, e3_46, e3_47, e3_51, e3_53, e3_56, e3_57, e3_58, e3_61, e3_64, e3_65, e3_66, e3_69, e3_70, e3_71, e3_72, e3_75, e3_76, e3_77, e3_78, e3_81, e3_84, e3_85, bI_s, bL_s, bV_s, rv_s1, nl_i, nl_a, nl_n, w8_0, w8_i, w8_a, w8_l, ct_i, ct_a, b01_0, b01_1, b01_b, kdC hc, hF.c0 hc, hF.c1 hc, hF.c2 hc, hF.c3 hc, hF.c4 hc, hF.c5 hc, hF.c6 hc, alC1 hc, ltC1 hc, alC2 hc, ltC2 hc, alC3 hc, ltC3 hc, alC4 hc, ltC4 hc, alC5 hc, ltC5 hc, alC6 hc, ltC6 hc, alC7 hc, ltC7 hc, nI_leI (show 6 < 2 ^ 31 by decide) (show k < 2 ^ 31 by omega), show ¬ 6 ≤ k by omega, if_false, s_hasThing hc hC hw, hasI_nI (show topf co k j < 2 ^ 31 by omega), hp, decide_true, Bool.toNat_true, nI10, nI_eq (show topf co k j < 2 ^ 31 by omega) (show i < 2 ^ 31 by omega), hne, ab_ixN (show topf co k j < 6 by omega) (show 6 < 2 ^ 31 by decide), nI_clamp (show topf co k j < 2 ^ 31 by omega), hC.a7 hp, nN_pos h7, nI_add]
          exact ih
        · have hp := topf_lt hw hj K
          rw [e3_49, em, ← eK]
          by_cases hne : topf co K j = i
          · simp only [e3_0, e3_1, e3_2, e3_5, e3_8, e3_9, e3_10, e3_13, e3_16, e3_17, e3_20, e3_21, e3_22, e3_23, e3_26, e3_27, e3_28, e3_31, e3_32, e3_35, e3_36, e3_37, e3_39, e3_42, e3_43, e3_44, e3_45, e3_46, e3_47, e3_51, e3_53, e3_56, e3_57, e3_58, e3_61, e3_64, e3_65, e3_66, e3_69, e3_70, e3_71, e3_72, e3_75, e3_76, e3_77, e3_78, e3_81, e3_84, e3_85, bI_s, bL_s, bV_s, rv_s1, nl_i, nl_a, nl_n, w8_0, w8_i, w8_a, w8_l, ct_i, ct_a, b01_0, b01_1, b01_b, kdC hc, hF.c0 hc, hF.c1 hc, hF.c2 hc, hF.c3 hc, hF.c4 hc, hF.c5 hc, hF.c6 hc, alC1 hc, ltC1 hc, alC2 hc, ltC2 hc, alC3 hc, ltC3 hc, alC4 hc, ltC4 hc, alC5 hc, ltC5 hc, alC6 hc, ltC6 hc, alC7 hc, ltC7 hc, nI_leI (show 6 < 2 ^ 31 by decide) (show K < 2 ^ 31 by omega), show ¬ 6 ≤ K by omega, if_false, s_hasThing hc hC hw, hasI_nI (show topf co K j < 2 ^ 31 by omega), hp, decide_true, Bool.toNat_true, nI10, if_true, hne, hi, hasI_nI (show i < 2 ^ 31 by omega), ne_eq, not_true_eq_false, decide_false, Bool.toNat_false]
          · have h9 : hasI (nN 0) (co 0 3) = false := by
              rw [nN_has (show 0 ≤ co 0 3 by omega) (by omega)]
              rfl
            simp only [e3_0, e3_1, e3_2, e3_5, e3_8, e3_9, e3_10, e3_13, e3_16, e3_17, e3_20, e3_21, e3_22, e3_23, e3_26, e3_27, e3_28, e3_31, e3_32, e3_35, e3_36, e3_37, e3_39, e3_42, e3_43, e3_44, e3_45, e3_46, e3_47, e3_51, e3_53, e3_56, e3_57, e3_58, e3_61, e3_64, e3_65, e3_66, e3_69, e3_70, e3_71, e3_72, e3_75, e3_76, e3_77, e3_78, e3_81, e3_84, e3_85, bI_s, bL_s, bV_s, rv_s1, nl_i, nl_a, nl_n, w8_0, w8_i, w8_a, w8_l, ct_i, ct_a, b01_0, b01_1, b01_b, kdC hc, hF.c0 hc, hF.c1 hc, hF.c2 hc, hF.c3 hc, hF.c4 hc, hF.c5 hc, hF.c6 hc, alC1 hc, ltC1 hc, alC2 hc, ltC2 hc, alC3 hc, ltC3 hc, alC4 hc, ltC4 hc, alC5 hc, ltC5 hc, alC6 hc, ltC6 hc, alC7 hc, ltC7 hc, nI_leI (show 6 < 2 ^ 31 by decide) (show K < 2 ^ 31 by omega), show ¬ 6 ≤ K by omega, if_false, s_hasThing hc hC hw, hasI_nI (show topf co K j < 2 ^ 31 by omega), hp, decide_true, Bool.toNat_true, nI10, nI_eq (show topf co K j < 2 ^ 31 by omega) (show i < 2 ^ 31 by omega), hne, ab_ixN (show topf co K j < 6 by omega) (show 6 < 2 ^ 31 by decide), nI_clamp (show topf co K j < 2 ^ 31 by omega), hC.a7 hp, k1, nI_add, ne_eq, not_false_eq_true]
            rw [e3_49]
            by_cases h66 : 6 ≤ K + 1
            · simp only [e3_0, e3_1, e3_2, e3_5, e3_8, e3_9, e3_10, e3_13, e3_16, e3_17, e3_20, e3_21, e3_22, e3_23, e3_26, e3_27, e3_28, e3_31, e3_32, e3_35, e3_36, e3_37, e3_39, e3_42, e3_43, e3_44, e3_45, e3_46, e3_47, e3_51, e3_53, e3_56, e3_57, e3_58, e3_61, e3_64, e3_65, e3_66, e3_69, e3_70, e3_71, e3_72, e3_75, e3_76, e3_77, e3_78, e3_81, e3_84, e3_85, bI_s, bL_s, bV_s, rv_s1, nl_i, nl_a, nl_n, w8_0, w8_i, w8_a, w8_l, ct_i, ct_a, b01_0, b01_1, b01_b, nI_leI (show 6 < 2 ^ 31 by decide) (show K + 1 < 2 ^ 31 by omega), h66, if_true]
            · simp only [e3_0, e3_1, e3_2, e3_5, e3_8, e3_9, e3_10, e3_13, e3_16, e3_17, e3_20, e3_21, e3_22, e3_23, e3_26, e3_27, e3_28, e3_31, e3_32, e3_35, e3_36, e3_37, e3_39, e3_42, e3_43, e3_44, e3_45, e3_46, e3_47, e3_51, e3_53, e3_56, e3_57, e3_58, e3_61, e3_64, e3_65, e3_66, e3_69, e3_70, e3_71, e3_72, e3_75, e3_76, e3_77, e3_78, e3_81, e3_84, e3_85, bI_s, bL_s, bV_s, rv_s1, nl_i, nl_a, nl_n, w8_0, w8_i, w8_a, w8_l, ct_i, ct_a, b01_0, b01_1, b01_b, kdC hc, nI_leI (show 6 < 2 ^ 31 by decide) (show K + 1 < 2 ^ 31 by omega), h66, if_false, s_hasThing hc hC hw, h9, Bool.toNat_false, if_true]
      rw [n3]
      simp only [e3_0, e3_1, e3_2, e3_5, e3_8, e3_9, e3_10, e3_13, e3_16, e3_17, e3_20, e3_21, e3_22, e3_23, e3_26, e3_27, e3_28, e3_31, e3_32, e3_35, e3_36, e3_37, e3_39, e3_42, e3_43, e3_44, e3_45, e3_46, e3_47, e3_51, e3_53, e3_56, e3_57, e3_58, e3_61, e3_64, e3_65, e3_66, e3_69, e3_70, e3_71, e3_72, e3_75, e3_76, e3_77, e3_78, e3_81, e3_84, e3_85, bI_s, bL_s, bV_s, rv_s1, nl_i, nl_a, nl_n, w8_0, w8_i, w8_a, w8_l, ct_i, ct_a, b01_0, b01_1, b01_b, kdC hc, hF.c0 hc, hF.c1 hc, hF.c2 hc, hF.c3 hc, hF.c4 hc, hF.c5 hc, hF.c6 hc, alC1 hc, ltC1 hc, alC2 hc, ltC2 hc, alC3 hc, ltC3 hc, alC4 hc, ltC4 hc, alC5 hc, ltC5 hc, alC6 hc, ltC6 hc, alC7 hc, ltC7 hc, s_hasThing hc hC hw, hasI_nI (show i < 2 ^ 31 by omega), hasI_nI (show j < 2 ^ 31 by omega), hi, hj, decide_true, Bool.toNat_true, nI10, if_false, ab_ixN (show i < 6 by omega) (show 6 < 2 ^ 31 by decide), ab_ixN (show j < 6 by omega) (show 6 < 2 ^ 31 by decide), nI_clamp (show i < 2 ^ 31 by omega), nI_clamp (show j < 2 ^ 31 by omega), hC.a3 hi, hC.a3 hj, hs, if_true, hC.a7 hi, h0, nN]
      exact key 0 (Nat.zero_le _)
    · have em : mlf co i j = false := by
        unfold mlf
        rw [decide_eq_false (fun w => hs w.2.2.1), Bool.false_and]
      rw [n3, em]
      simp only [e3_0, e3_1, e3_2, e3_5, e3_8, e3_9, e3_10, e3_13, e3_16, e3_17, e3_20, e3_21, e3_22, e3_23, e3_26, e3_27, e3_28, e3_31, e3_32, e3_35, e3_36, e3_37, e3_39, e3_42, e3_43, e3_44, e3_45, e3_46, e3_47, e3_51, e3_53, e3_56, e3_57, e3_58, e3_61, e3_64, e3_65, e3_66, e3_69, e3_70, e3_71, e3_72, e3_75, e3_76, e3_77, e3_78, e3_81, e3_84, e3_85, bI_s, bL_s, bV_s, rv_s1, nl_i, nl_a, nl_n, w8_0, w8_i, w8_a, w8_l, ct_i, ct_a, b01_0, b01_1, b01_b, kdC hc, hF.c0 hc, hF.c1 hc, hF.c2 hc, hF.c3 hc, hF.c4 hc, hF.c5 hc, hF.c6 hc, alC1 hc, ltC1 hc, alC2 hc, ltC2 hc, alC3 hc, ltC3 hc, alC4 hc, ltC4 hc, alC5 hc, ltC5 hc, alC6 hc, ltC6 hc, alC7 hc, ltC7 hc, s_hasThing hc hC hw, hasI_nI (show i < 2 ^ 31 by omega), hasI_nI (show j < 2 ^ 31 by omega), hi, hj, decide_true, Bool.toNat_true, nI10, if_false, ab_ixN (show i < 6 by omega) (show 6 < 2 ^ 31 by decide), ab_ixN (show j < 6 by omega) (show 6 < 2 ^ 31 by decide), nI_clamp (show i < 2 ^ 31 by omega), nI_clamp (show j < 2 ^ 31 by omega), hC.a3 hi, hC.a3 hj, nI_eq (show co 3 i < 2 ^ 31 by omega) (show co 3 j < 2 ^ 31 by omega), hs, Bool.toNat_false]
  · have em : mlf co i j = false := by
      unfold mlf
      rw [decide_eq_false (fun w => h0 w.2.2.2), Bool.false_and]
    rw [n3, em]
    simp only [e3_0, e3_1, e3_2, e3_5, e3_8, e3_9, e3_10, e3_13, e3_16, e3_17, e3_20, e3_21, e3_22, e3_23, e3_26, e3_27, e3_28, e3_31, e3_32, e3_35, e3_36, e3_37, e3_39, e3_42, e3_43, e3_44, e3_45, e3_46, e3_47, e3_51, e3_53, e3_56, e3_57, e3_58, e3_61, e3_64, e3_65, e3_66, e3_69, e3_70, e3_71, e3_72, e3_75, e3_76, e3_77, e3_78, e3_81, e3_84, e3_85, bI_s, bL_s, bV_s, rv_s1, nl_i, nl_a, nl_n, w8_0, w8_i, w8_a, w8_l, ct_i, ct_a, b01_0, b01_1, b01_b, kdC hc, hF.c0 hc, hF.c1 hc, hF.c2 hc, hF.c3 hc, hF.c4 hc, hF.c5 hc, hF.c6 hc, alC1 hc, ltC1 hc, alC2 hc, ltC2 hc, alC3 hc, ltC3 hc, alC4 hc, ltC4 hc, alC5 hc, ltC5 hc, alC6 hc, ltC6 hc, alC7 hc, ltC7 hc, s_hasThing hc hC hw, hasI_nI (show i < 2 ^ 31 by omega), hasI_nI (show j < 2 ^ 31 by omega), hi, hj, decide_true, Bool.toNat_true, nI10, if_false, ab_ixN (show i < 6 by omega) (show 6 < 2 ^ 31 by decide), ab_ixN (show j < 6 by omega) (show 6 < 2 ^ 31 by decide), nI_clamp (show i < 2 ^ 31 by omega), nI_clamp (show j < 2 ^ 31 by omega), hC.a3 hi, hC.a3 hj, hC.a7 hi, nN_pos h0, nI_9 (show co 7 i - 1 ≤ 100 by omega), Bool.toNat_false, ite_self]
theorem s_mayLie (hF : Fx R) (hc : IsC D) (hC : XC I D co) (hW : WP co) {i : Nat} (hi : i < co 0 3) : cl Z 7 [.ref D, .int (nI i)] I R L = some (some (.int (nI (decide (mls co i ≠ 0)).toNat)), I, R, L) := by
  have h6 := hW.2.1
  have key := loop_all (P := fun j => mk (mlf co i) j = 0 → ex Z 0 0 7 2 [some (.ref D), some (.int (nI i)), some (.int (nI j))] [] I R L = some (some (.int (nI (decide (mls co i ≠ 0)).toNat)), I, R, L)) (co 0 3) (fun j hj ih hz => ?_) (fun hz => ?_) 0 (Nat.zero_le _)
  · rw [n7]
    simp only [e7_0, e7_1, e7_3, e7_4, e7_7, e7_10, e7_11, e7_12, e7_13, e7_16, e7_19, e7_20, e7_21, e7_24, e7_27, e7_28, bI_s, bL_s, bV_s, rv_s1, nl_i, nl_a, nl_n, w8_0, w8_i, w8_a, w8_l, ct_i, ct_a, b01_0, b01_1, b01_b]
    exact key rfl
  · rw [e7_2]
    simp only [e7_0, e7_1, e7_3, e7_4, e7_7, e7_10, e7_11, e7_12, e7_13, e7_16, e7_19, e7_20, e7_21, e7_24, e7_27, e7_28, bI_s, bL_s, bV_s, rv_s1, nl_i, nl_a, nl_n, w8_0, w8_i, w8_a, w8_l, ct_i, ct_a, b01_0, b01_1, b01_b, kdC hc, hC.th, nI_leI (show co 0 3 < 2 ^ 31 by omega) (show j < 2 ^ 31 by omega), show ¬ co 0 3 ≤ j by omega, if_false, s_mayLieIn hF hc hC hW hi hj, nI_b, nI_add]
    cases hm : mlf co i j with
    | true =>
      rw [if_neg (by decide), decide_eq_true (show mls co i ≠ 0 from mk_z hj hm)]
      rfl
    | false =>
      rw [if_pos rfl]
      exact ih (by rw [mk, hz, hm]; simp)
  · rw [e7_2]
    simp only [e7_0, e7_1, e7_3, e7_4, e7_7, e7_10, e7_11, e7_12, e7_13, e7_16, e7_19, e7_20, e7_21, e7_24, e7_27, e7_28, bI_s, bL_s, bV_s, rv_s1, nl_i, nl_a, nl_n, w8_0, w8_i, w8_a, w8_l, ct_i, ct_a, b01_0, b01_1, b01_b, kdC hc, hC.th, Int32.le_refl, if_true]
    rw [decide_eq_false (fun w => w hz)]
    rfl
theorem s_mayLie0 (hF : Fx R) (hc : IsC D) (hC : XC I D co) (hW : WP co) {x : Int32} (hx : hasI x (co 0 3) = false) : cl Z 7 [.ref D, .int x] I R L = some (some (.int (nI 0)), I, R, L) := by
  have h6 := hW.2.1
  rw [n7]
  simp only [e7_0, e7_1, e7_3, e7_4, e7_7, e7_10, e7_11, e7_12, e7_13, e7_16, e7_19, e7_20, e7_21, e7_24, e7_27, e7_28, bI_s, bL_s, bV_s, rv_s1, nl_i, nl_a, nl_n, w8_0, w8_i, w8_a, w8_l, ct_i, ct_a, b01_0, b01_1, b01_b]
  refine loop_up (F := fun j => ex Z 0 0 7 2 [some (.ref D), some (.int x), some (.int (nI j))] [] I R L) (co 0 3) (fun j hj => ?_) ?_ 0 (Nat.zero_le _)
  · rw [e7_2]
    simp only [e7_0, e7_1, e7_3, e7_4, e7_7, e7_10, e7_11, e7_12, e7_13, e7_16, e7_19, e7_20, e7_21, e7_24, e7_27, e7_28, bI_s, bL_s, bV_s, rv_s1, nl_i, nl_a, nl_n, w8_0, w8_i, w8_a, w8_l, ct_i, ct_a, b01_0, b01_1, b01_b, kdC hc, hC.th, nI_leI (show co 0 3 < 2 ^ 31 by omega) (show j < 2 ^ 31 by omega), show ¬ co 0 3 ≤ j by omega, if_false, s_mayLieIn0 hc hC hW.wf x _ (Or.inl hx), if_true, nI_add]
  · rw [e7_2]
    simp only [e7_0, e7_1, e7_3, e7_4, e7_7, e7_10, e7_11, e7_12, e7_13, e7_16, e7_19, e7_20, e7_21, e7_24, e7_27, e7_28, bI_s, bL_s, bV_s, rv_s1, nl_i, nl_a, nl_n, w8_0, w8_i, w8_a, w8_l, ct_i, ct_a, b01_0, b01_1, b01_b, kdC hc, hC.th, Int32.le_refl, if_true]
theorem s_anyMayLie (hF : Fx R) (hc : IsC D) (hC : XC I D co) (hW : WP co) : cl Z 2 [.ref D] I R L = some (some (.int (nI (decide (mlb co ≠ 0)).toNat)), I, R, L) := by
  have h6 := hW.2.1
  have key := loop_all (P := fun i => ∀ y, mk (fun i => decide (mls co i ≠ 0)) i = 0 → ex Z 0 0 2 2 [some (.ref D), some (.int (nI i)), y] [] I R L = some (some (.int (nI (decide (mlb co ≠ 0)).toNat)), I, R, L)) (co 0 3) (fun i hi ih y hz => ?_) (fun y hz => ?_) 0 (Nat.zero_le _)
  · rw [n2]
    simp only [e2_0, e2_1, e2_3, e2_4, e2_7, e2_10, e2_11, e2_13, e2_14, e2_17, e2_20, e2_21, e2_22, e2_23, e2_26, e2_29, e2_30, e2_31, e2_34, e2_37, e2_40, e2_43, e2_44, bI_s, bL_s, bV_s, rv_s1, nl_i, nl_a, nl_n, w8_0, w8_i, w8_a, w8_l, ct_i, ct_a, b01_0, b01_1, b01_b]
    exact key none rfl
  · have key2 := loop_all (P := fun j => mk (mlf co i) j = 0 → ex Z 0 0 2 12 [some (.ref D), some (.int (nI i)), some (.int (nI j))] [] I R L = some (some (.int (nI (decide (mlb co ≠ 0)).toNat)), I, R, L)) (co 0 3) (fun j hj ihj hzj => ?_) (fun hzj => ?_) 0 (Nat.zero_le _)
    · rw [e2_2]
      simp only [e2_0, e2_1, e2_3, e2_4, e2_7, e2_10, e2_11, e2_13, e2_14, e2_17, e2_20, e2_21, e2_22, e2_23, e2_26, e2_29, e2_30, e2_31, e2_34, e2_37, e2_40, e2_43, e2_44, bI_s, bL_s, bV_s, rv_s1, nl_i, nl_a, nl_n, w8_0, w8_i, w8_a, w8_l, ct_i, ct_a, b01_0, b01_1, b01_b, kdC hc, hC.th, nI_leI (show co 0 3 < 2 ^ 31 by omega) (show i < 2 ^ 31 by omega), show ¬ co 0 3 ≤ i by omega, if_false]
      exact key2 rfl
    · rw [e2_12]
      simp only [e2_0, e2_1, e2_3, e2_4, e2_7, e2_10, e2_11, e2_13, e2_14, e2_17, e2_20, e2_21, e2_22, e2_23, e2_26, e2_29, e2_30, e2_31, e2_34, e2_37, e2_40, e2_43, e2_44, bI_s, bL_s, bV_s, rv_s1, nl_i, nl_a, nl_n, w8_0, w8_i, w8_a, w8_l, ct_i, ct_a, b01_0, b01_1, b01_b, kdC hc, hC.th, nI_leI (show co 0 3 < 2 ^ 31 by omega) (show j < 2 ^ 31 by omega), show ¬ co 0 3 ≤ j by omega, if_false, s_mayLieIn hF hc hC hW hi hj, nI_b, nI_add]
      cases hm : mlf co i j with
      | true =>
        rw [if_neg (by decide), decide_eq_true (show mlb co ≠ 0 from mk_z hi (decide_eq_true (mk_z hj hm)))]
        rfl
      | false =>
        rw [if_pos rfl]
        exact ihj (by rw [mk, hzj, hm]; simp)
    · rw [e2_12]
      simp only [e2_0, e2_1, e2_3, e2_4, e2_7, e2_10, e2_11, e2_13, e2_14, e2_17, e2_20, e2_21, e2_22, e2_23, e2_26, e2_29, e2_30, e2_31, e2_34, e2_37, e2_40, e2_43, e2_44, bI_s, bL_s, bV_s, rv_s1, nl_i, nl_a, nl_n, w8_0, w8_i, w8_a, w8_l, ct_i, ct_a, b01_0, b01_1, b01_b, kdC hc, hC.th, Int32.le_refl, if_true, nI_add]
      refine ih _ ?_
      rw [mk, hz, decide_eq_false (fun w => w hzj)]
      simp
  · rw [e2_2]
    simp only [e2_0, e2_1, e2_3, e2_4, e2_7, e2_10, e2_11, e2_13, e2_14, e2_17, e2_20, e2_21, e2_22, e2_23, e2_26, e2_29, e2_30, e2_31, e2_34, e2_37, e2_40, e2_43, e2_44, bI_s, bL_s, bV_s, rv_s1, nl_i, nl_a, nl_n, w8_0, w8_i, w8_a, w8_l, ct_i, ct_a, b01_0, b01_1, b01_b, kdC hc, hC.th, Int32.le_refl, if_true]
    rw [decide_eq_false (fun w => w hz)]
    rfl
end XLIE
