/-! next, in the class -/
section NEXT2
variable {Z : Nat} {g : Gs} {sd : Int64} {c : Nat} {I : ab_I} {R : ab_R} {L : ab_L}
theorem x_nextI {s m q o : Nat} {y : Option Value} (hs : s < 16) (hm : m ≤ 999) (hq : q ≤ 4) (ho : o ≤ min q 1) : ∃ y', ex Z 0 0 93 31 [some (.ref 0), some (.int (nI s)), some (.int (nst s m (10 * q + o)).1), some (.int (nI (nst s m (10 * q + o)).2)), some (.int (nI q)), some (.int (nI o)), y] [] I R L = ex Z 0 0 93 31 [some (.ref 0), some (.int (nI s)), some (.int (nst s m (10 * q + (o + 1))).1), some (.int (nI (nst s m (10 * q + (o + 1))).2)), some (.int (nI q)), some (.int (nI (o + 1))), y'] [] I R L := by
  refine ⟨some (.int (nI (gpf s q (decide (o = 1))))), ?_⟩
  have hl := nst_le (m := m) hs hm (10 * q + o)
  have hg := gpf_le (c := q) (own := decide (o = 1)) hs
  have h7 := pc_le s 6
  have x1 := x_greater (Z := Z) (I := I) (R := R) (L := L) (own := true) (q := q) hs (by omega)
  have x0 := x_greater (Z := Z) (I := I) (R := R) (L := L) (own := false) (q := q) hs (by omega)
  rw [Bool.toNat_true] at x1
  rw [Bool.toNat_false] at x0
  have e : nst s m (10 * q + (o + 1)) = if gpf s q (decide (o = 1)) < (nst s m (10 * q + o)).2 then (nI (10 * q + o), gpf s q (decide (o = 1))) else nst s m (10 * q + o) := by
    rw [← Nat.add_assoc, nst, if_pos (by omega), show (10 * q + o) / 10 = q by omega, show (10 * q + o) % 10 = o by omega]
  rw [e, e93_31]
  simp only [e93_0, e93_1, e93_4, e93_5, e93_7, e93_8, e93_9, e93_12, e93_13, e93_14, e93_15, e93_16, e93_19, e93_22, e93_24, e93_25, e93_28, e93_29, e93_33, e93_35, e93_36, e93_39, e93_42, e93_43, e93_45, e93_47, e93_48, e93_51, e93_52, e93_55, e93_56, e93_59, e93_61, e93_63, e93_64, e93_67, e93_69, e93_70, e93_72, e93_74, e93_75, e93_77, e93_78, e93_79, e93_82, e93_85, e93_88, e93_91, e93_92, bI_s, bL_s, bV_s, rv_s1, nl_i, nl_a, nl_n, w8_0, w8_i, w8_a, w8_l, ct_i, ct_a, b01_0, b01_1, b01_b, nI_min (show q < 2 ^ 31 by omega) (show 1 < 2 ^ 31 by decide), nI_ltI (show min q 1 < 2 ^ 31 by omega) (show o < 2 ^ 31 by omega), show ¬ min q 1 < o by omega, if_false, nI_eq (show o < 2 ^ 31 by omega) (show 1 < 2 ^ 31 by decide), x1, x0, pk_mul, nI_add]
  by_cases h1 : o = 1
  · simp only [h1, decide_true] at hg ⊢
    subst h1
    simp only [if_true, nI_leI (show (nst s m (10 * q + 1)).2 < 2 ^ 31 by omega) (show gpf s q true < 2 ^ 31 by omega)]
    by_cases h2 : (nst s m (10 * q + 1)).2 ≤ gpf s q true
    · simp [h2, show ¬ gpf s q true < (nst s m (10 * q + 1)).2 by omega]
    · simp [h2, show gpf s q true < (nst s m (10 * q + 1)).2 by omega]
  · simp only [h1, decide_false] at hg ⊢
    simp only [if_false, nI_leI (show (nst s m (10 * q + o)).2 < 2 ^ 31 by omega) (show gpf s q false < 2 ^ 31 by omega)]
    by_cases h2 : (nst s m (10 * q + o)).2 ≤ gpf s q false
    · simp [h2, show ¬ gpf s q false < (nst s m (10 * q + o)).2 by omega]
    · simp [h2, show gpf s q false < (nst s m (10 * q + o)).2 by omega]
theorem x_next (hp : PG g) (h : XX g sd c I R L) : cl Z 93 [.ref 0] I R L = some (some (.int (if lawsf g = 0 then iI (-9) else (nst (lawsf g) 999 42).1)), I, R, L) := by
  have h16 := lawsf_16 g
  have h7 := pc_le (lawsf g) 6
  rw [n93]
  simp only [e93_0, e93_1, e93_4, e93_5, e93_7, e93_8, e93_9, e93_12, e93_13, e93_14, e93_15, e93_16, e93_19, e93_22, e93_24, e93_25, e93_28, e93_29, e93_33, e93_35, e93_36, e93_39, e93_42, e93_43, e93_45, e93_47, e93_48, e93_51, e93_52, e93_55, e93_56, e93_59, e93_61, e93_63, e93_64, e93_67, e93_69, e93_70, e93_72, e93_74, e93_75, e93_77, e93_78, e93_79, e93_82, e93_85, e93_88, e93_91, e93_92, bI_s, bL_s, bV_s, rv_s1, nl_i, nl_a, nl_n, w8_0, w8_i, w8_a, w8_l, ct_i, ct_a, b01_0, b01_1, b01_b, kd_0, x_laws hp h, s_ones (show lawsf g < 64 by omega), nI_add]
  generalize lawsf g = s at *
  by_cases h0 : s = 0
  · subst h0
    rw [e93_18]
    simp only [e93_0, e93_1, e93_4, e93_5, e93_7, e93_8, e93_9, e93_12, e93_13, e93_14, e93_15, e93_16, e93_19, e93_22, e93_24, e93_25, e93_28, e93_29, e93_33, e93_35, e93_36, e93_39, e93_42, e93_43, e93_45, e93_47, e93_48, e93_51, e93_52, e93_55, e93_56, e93_59, e93_61, e93_63, e93_64, e93_67, e93_69, e93_70, e93_72, e93_74, e93_75, e93_77, e93_78, e93_79, e93_82, e93_85, e93_88, e93_91, e93_92, bI_s, bL_s, bV_s, rv_s1, nl_i, nl_a, nl_n, w8_0, w8_i, w8_a, w8_l, ct_i, ct_a, b01_0, b01_1, b01_b, if_true]
  · rw [if_neg h0, ← nst_m (t := 41) h16]
    have key := loop_all (P := fun q => ∀ x y, ex Z 0 0 93 18 [some (.ref 0), some (.int (nI s)), some (.int (nst s (pc s 6 + 1) (10 * q)).1), some (.int (nI (nst s (pc s 6 + 1) (10 * q)).2)), some (.int (nI q)), x, y] [] I R L = some (some (.int (nst s (pc s 6 + 1) 42).1), I, R, L)) 5 (fun q hq ih x y => ?_) (fun x y => ?_) 0 (Nat.zero_le _)
    · exact key none none
    · have a0 : ∀ y o, 10 * q + o = 10 * q → ex Z 0 0 93 31 [some (.ref 0), some (.int (nI s)), some (.int (nst s (pc s 6 + 1) (10 * q + o)).1), some (.int (nI (nst s (pc s 6 + 1) (10 * q + o)).2)), some (.int (nI q)), some (.int (nI o)), y] [] I R L = some (some (.int (nst s (pc s 6 + 1) 42).1), I, R, L) := by
        intro y o ho
        have ho : o = 0 := by omega
        subst ho
        obtain ⟨y1, e1⟩ := x_nextI (Z := Z) (I := I) (R := R) (L := L) (s := s) (m := pc s 6 + 1) (q := q) (o := 0) (y := y) h16 (by omega) (by omega) (by omega)
        rw [e1]
        by_cases hq0 : q = 0
        · subst hq0
          have ih2 := ih (some (.int (nI 1))) y1
          rw [show 10 * (0 + 1) = 10 by decide, nst_to0] at ih2
          rw [e93_31]
          simp only [e93_0, e93_1, e93_4, e93_5, e93_7, e93_8, e93_9, e93_12, e93_13, e93_14, e93_15, e93_16, e93_19, e93_22, e93_24, e93_25, e93_28, e93_29, e93_33, e93_35, e93_36, e93_39, e93_42, e93_43, e93_45, e93_47, e93_48, e93_51, e93_52, e93_55, e93_56, e93_59, e93_61, e93_63, e93_64, e93_67, e93_69, e93_70, e93_72, e93_74, e93_75, e93_77, e93_78, e93_79, e93_82, e93_85, e93_88, e93_91, e93_92, bI_s, bL_s, bV_s, rv_s1, nl_i, nl_a, nl_n, w8_0, w8_i, w8_a, w8_l, ct_i, ct_a, b01_0, b01_1, b01_b, nI_min (show 0 < 2 ^ 31 by omega) (show 1 < 2 ^ 31 by decide), nI_ltI (show min 0 1 < 2 ^ 31 by omega) (show 0 + 1 < 2 ^ 31 by omega), show min 0 1 < 0 + 1 by decide, if_true, nI_add]
          exact ih2
        · obtain ⟨y2, e2⟩ := x_nextI (Z := Z) (I := I) (R := R) (L := L) (s := s) (m := pc s 6 + 1) (q := q) (o := 0 + 1) (y := y1) h16 (by omega) (by omega) (by omega)
          rw [e2]
          have ih2 := ih (some (.int (nI 2))) y2
          rw [nst_to (by omega)] at ih2
          rw [e93_31]
          simp only [e93_0, e93_1, e93_4, e93_5, e93_7, e93_8, e93_9, e93_12, e93_13, e93_14, e93_15, e93_16, e93_19, e93_22, e93_24, e93_25, e93_28, e93_29, e93_33, e93_35, e93_36, e93_39, e93_42, e93_43, e93_45, e93_47, e93_48, e93_51, e93_52, e93_55, e93_56, e93_59, e93_61, e93_63, e93_64, e93_67, e93_69, e93_70, e93_72, e93_74, e93_75, e93_77, e93_78, e93_79, e93_82, e93_85, e93_88, e93_91, e93_92, bI_s, bL_s, bV_s, rv_s1, nl_i, nl_a, nl_n, w8_0, w8_i, w8_a, w8_l, ct_i, ct_a, b01_0, b01_1, b01_b, nI_min (show q < 2 ^ 31 by omega) (show 1 < 2 ^ 31 by decide), nI_ltI (show min q 1 < 2 ^ 31 by omega) (show 0 + 1 + 1 < 2 ^ 31 by omega), show min q 1 < 0 + 1 + 1 by omega, if_true, nI_add]
          exact ih2
      have a1 := a0 y 0 rfl
      rw [e93_18]
      simp only [e93_0, e93_1, e93_4, e93_5, e93_7, e93_8, e93_9, e93_12, e93_13, e93_14, e93_15, e93_16, e93_19, e93_22, e93_24, e93_25, e93_28, e93_29, e93_33, e93_35, e93_36, e93_39, e93_42, e93_43, e93_45, e93_47, e93_48, e93_51, e93_52, e93_55, e93_56, e93_59, e93_61, e93_63, e93_64, e93_67, e93_69, e93_70, e93_72, e93_74, e93_75, e93_77, e93_78, e93_79, e93_82, e93_85, e93_88, e93_91, e93_92, bI_s, bL_s, bV_s, rv_s1, nl_i, nl_a, nl_n, w8_0, w8_i, w8_a, w8_l, ct_i, ct_a, b01_0, b01_1, b01_b, nI_eq (show s < 2 ^ 31 by omega) (show 0 < 2 ^ 31 by decide), h0, if_false, nI_ltI (show 4 < 2 ^ 31 by decide) (show q < 2 ^ 31 by omega), show ¬ 4 < q by omega]
      exact a1
    · rw [e93_18]
      simp only [e93_0, e93_1, e93_4, e93_5, e93_7, e93_8, e93_9, e93_12, e93_13, e93_14, e93_15, e93_16, e93_19, e93_22, e93_24, e93_25, e93_28, e93_29, e93_33, e93_35, e93_36, e93_39, e93_42, e93_43, e93_45, e93_47, e93_48, e93_51, e93_52, e93_55, e93_56, e93_59, e93_61, e93_63, e93_64, e93_67, e93_69, e93_70, e93_72, e93_74, e93_75, e93_77, e93_78, e93_79, e93_82, e93_85, e93_88, e93_91, e93_92, bI_s, bL_s, bV_s, rv_s1, nl_i, nl_a, nl_n, w8_0, w8_i, w8_a, w8_l, ct_i, ct_a, b01_0, b01_1, b01_b, nI_eq (show s < 2 ^ 31 by omega) (show 0 < 2 ^ 31 by decide), h0, if_false, nI_ltI (show 4 < 2 ^ 31 by decide) (show 5 < 2 ^ 31 by omega), show 4 < 5 by decide, if_true, Nat.reduceMul, nst_end]
theorem B_next : Both Z 93 177 [] := fun _ _ hp => Both.tell hp (fun _ _ _ _ h => x_next hp h) (fun _ _ _ h => m_next hp h)
end NEXT2
