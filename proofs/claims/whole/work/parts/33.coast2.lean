/-! the coast's methods -/
theorem lt0_iff (x : Int32) : x < nI 0 ↔ x.toInt < 0 := by
  rw [Int32.lt_iff_toInt_lt, nI_toInt (by decide)]
  rfl
theorem nle_iff {n : Nat} (hn : n < 2 ^ 31) (x : Int32) : nI n ≤ x ↔ (n : Int) ≤ x.toInt := by
  rw [Int32.le_iff_toInt_le, nI_toInt hn]
theorem s_ones {Z n : Nat} {I : ab_I} {R : ab_R} {L : ab_L} (hn : n < 64) : cl Z 188 [.int (nI n)] I R L = some (some (.int (nI (pc n 6))), I, R, L) := by
  rw [n188]
  simp only [e188_0, e188_1, e188_2, e188_3, e188_4, e188_7, e188_8, e188_9, e188_10, e188_11, e188_14, e188_15, e188_16, e188_17, e188_18, e188_21, e188_22, e188_23, e188_24, e188_25, e188_26, e188_27, e188_28, e188_29, e188_32, e188_33, e188_34, e188_35, e188_36, e188_38, e188_39, e188_40, e188_41, e188_42, e188_43, e188_45, e188_46, e188_47, e188_48, e188_49, e188_51, e188_52]
  refine congrArg (fun x => some (some (Value.int x), I, R, L)) ?_
  clear I R L Z
  revert n
  decide +kernel
theorem or_shl (a i : Nat) (b : Bool) (hi : i < 31) : nI a ||| (nI b.toNat <<< (nI i &&& 31)) = nI (a ||| (if b = true then 2 ^ i else 0)) := by
  cases b with
  | false =>
    rw [show (false.toNat) = 0 from rfl, nI_shl hi (by omega), nx_or']
    simp
  | true =>
    rw [show (true.toNat) = 1 from rfl, nI_1shl hi, nx_or']
    simp
theorem pc_k {s : Nat} : ∀ n m, n ≤ m → s < 2 ^ n → pc s m = pc s n := by
  intro n m hnm hs
  induction m with
  | zero => rw [show n = 0 by omega]
  | succ m ih =>
    by_cases h : n = m + 1
    · rw [h]
    · rw [pc, ih (by omega), Nat.testBit_lt_two_pow (Nat.lt_of_lt_of_le hs (Nat.pow_le_pow_right (by decide) (by omega)))]
      rfl
/-- near, by its own numbers -/
theorem near_abs : ∀ a, a < 6 → ∀ b, b < 6 → (nI 1 < (if 0 ≤ nI a - nI b then nI a - nI b else 0 - (nI a - nI b)) ↔ ¬ (a ≤ b + 1 ∧ b ≤ a + 1)) := by decide +kernel
theorem max0 : ∀ a, a < 7 → ∀ b, b < 7 → (if nI a - nI b < nI 0 then nI 0 else nI a - nI b) = nI (a - b) := by decide +kernel
theorem nI_b1 (b : Bool) : nI b.toNat = nI 1 ↔ b = true := by cases b <;> decide
theorem s_holds1 {Z law c : Nat} {I : ab_I} {R : ab_R} {L : ab_L} (hl : law ≤ 3) (hc : c < 2 ^ 31) : cl Z 65 [.int (nI law), .int (nI c), .int (nI 1)] I R L = some (some (.int (nI (lawf law c true).toNat)), I, R, L) := s_holds (own := true) hl hc
theorem s_holds0 {Z law c : Nat} {I : ab_I} {R : ab_R} {L : ab_L} (hl : law ≤ 3) (hc : c < 2 ^ 31) : cl Z 65 [.int (nI law), .int (nI c), .int (nI 0)] I R L = some (some (.int (nI (lawf law c false).toNat)), I, R, L) := s_holds (own := false) hl hc
section COAST
variable {Z c s t h : Nat} {co sh : Co} {I : ab_I} {R : ab_R} {L : ab_L}
theorem s_hasHouse (hc : IsC c) (hC : XC I c co) (hw : WF co) (x : Int32) : cl Z 6 [.ref c, .int x] I R L = some (some (.int (nI (hasI x (co 0 2)).toNat)), I, R, L) := by
  have := hw.h4
  rw [n6]
  simp only [e6_0, e6_1, e6_4, e6_5, e6_6, e6_9, e6_12, e6_13, e6_16, e6_17, kdC hc, hC.hs, b01_0, b01_1, lt0_iff, nle_iff (show co 0 2 < 2 ^ 31 by omega)]
  by_cases h1 : x.toInt < 0
  · simp [h1, hasI, show ¬ (0 ≤ x.toInt) by omega]
  · by_cases h2 : (co 0 2 : Int) ≤ x.toInt
    · simp [h1, h2, hasI, show ¬ (x.toInt < (co 0 2 : Int)) by omega]
    · simp [h1, h2, hasI, show 0 ≤ x.toInt by omega, show x.toInt < (co 0 2 : Int) by omega]
theorem s_hasThing (hc : IsC c) (hC : XC I c co) (hw : WF co) (x : Int32) : cl Z 4 [.ref c, .int x] I R L = some (some (.int (nI (hasI x (co 0 3)).toNat)), I, R, L) := by
  have := hw.t6
  rw [n4]
  simp only [e4_0, e4_1, e4_4, e4_5, e4_6, e4_9, e4_12, e4_13, e4_16, e4_17, kdC hc, hC.th, b01_0, b01_1, lt0_iff, nle_iff (show co 0 3 < 2 ^ 31 by omega)]
  by_cases h1 : x.toInt < 0
  · simp [h1, hasI, show ¬ (0 ≤ x.toInt) by omega]
  · by_cases h2 : (co 0 3 : Int) ≤ x.toInt
    · simp [h1, h2, hasI, show ¬ (x.toInt < (co 0 3 : Int)) by omega]
    · simp [h1, h2, hasI, show 0 ≤ x.toInt by omega, show x.toInt < (co 0 3 : Int) by omega]
theorem s_allHouses (hc : IsC c) (hC : XC I c co) (hw : WF co) : cl Z 5 [.ref c] I R L = some (some (.int (nI (2 ^ co 0 2 - 1))), I, R, L) := by
  have := hw.h4
  rw [n5]
  simp only [e5_0, e5_1, e5_2, e5_5, e5_6, e5_7, e5_8, kdC hc, hC.hs, nI_1shl (show co 0 2 < 31 by omega), pk_sub (Nat.two_pow_pos (co 0 2))]
theorem s_allThings (hc : IsC c) (hC : XC I c co) (hw : WF co) : cl Z 20 [.ref c] I R L = some (some (.int (nI (2 ^ co 0 3 - 1))), I, R, L) := by
  have := hw.t6
  rw [n20]
  simp only [e20_0, e20_1, e20_2, e20_5, e20_6, e20_7, e20_8, kdC hc, hC.th, nI_1shl (show co 0 3 < 31 by omega), pk_sub (Nat.two_pow_pos (co 0 3))]
theorem s_top (hF : Fx R) (hc : IsC c) (hC : XC I c co) (hw : WF co) (ht : t < co 0 3) : cl Z 13 [.ref c, .int (nI t)] I R L = some (some (.int (nI (top co t))), I, R, L) := by
  have h6 := hw.t6
  rw [n13]
  simp only [e13_0, e13_1, e13_2, e13_3, e13_5, e13_7, e13_10, e13_11, e13_12, e13_15, e13_16, e13_17, e13_20, e13_23, e13_24, e13_27, e13_28, e13_29, e13_30, e13_33, e13_36, e13_37, bI_s, bL_s, bV_s, rv_s1, nl_i, nl_a, nl_n, w8_0, w8_i, w8_a, w8_l, ct_i, ct_a, b01_0, b01_1, b01_b]
  refine loop_ex (F := fun i => ex Z 0 0 13 4 [some (.ref c), some (.int (nI t)), some (.int (nI (topf co i t))), some (.int (nI i))] [] I R L) (G := fun _ => some (some (.int (nI (top co t))), I, R, L)) 6 (fun i hi ih => ?_) ?_ 0 (Nat.zero_le _)
  · have hp := topf_lt hw ht i
    have h7 := (hw.2.2.2.2.2.2 _ hp).2.2.2.2.2.1
    rw [e13_4]
    simp only [e13_0, e13_1, e13_2, e13_3, e13_5, e13_7, e13_10, e13_11, e13_12, e13_15, e13_16, e13_17, e13_20, e13_23, e13_24, e13_27, e13_28, e13_29, e13_30, e13_33, e13_36, e13_37, bI_s, bL_s, bV_s, rv_s1, nl_i, nl_a, nl_n, w8_0, w8_i, w8_a, w8_l, ct_i, ct_a, b01_0, b01_1, b01_b, kdC hc, hF.c0 hc, hF.c1 hc, hF.c2 hc, hF.c3 hc, hF.c4 hc, hF.c5 hc, hF.c6 hc, alC1 hc, ltC1 hc, alC2 hc, ltC2 hc, alC3 hc, ltC3 hc, alC4 hc, ltC4 hc, alC5 hc, ltC5 hc, alC6 hc, ltC6 hc, alC7 hc, ltC7 hc, nI_leI (show 6 < 2 ^ 31 by decide) (show i < 2 ^ 31 by omega), show ¬ 6 ≤ i by omega, if_false, ab_ixN (show topf co i t < 6 by omega) (by decide), nI_clamp (show topf co i t < 2 ^ 31 by omega), hC.a7 hp, s_hasThing hc hC hw, nN_has h7 (show co 0 3 < 2 ^ 31 by omega), nI_b]
    by_cases h0 : co 7 (topf co i t) = 0
    · have e0 := topf_6 h0 (show i ≤ 6 by omega)
      rw [e0] at h0
      simp [e0, h0]
    · have e : topf co (i + 1) t = co 7 (topf co i t) - 1 := by rw [topf, up, if_neg h0]
      simp only [e] at ih
      simp only [h0, nN_pos h0, nI_add, ih, decide_not, decide_false, Bool.not_false, if_false, ne_eq, not_false_eq_true, decide_true, Bool.true_eq_false]
  · rw [e13_4]
    simp only [e13_0, e13_1, e13_2, e13_3, e13_5, e13_7, e13_10, e13_11, e13_12, e13_15, e13_16, e13_17, e13_20, e13_23, e13_24, e13_27, e13_28, e13_29, e13_30, e13_33, e13_36, e13_37, bI_s, bL_s, bV_s, rv_s1, nl_i, nl_a, nl_n, w8_0, w8_i, w8_a, w8_l, ct_i, ct_a, b01_0, b01_1, b01_b, nI_leI (show 6 < 2 ^ 31 by decide) (show 6 < 2 ^ 31 by decide), Nat.le_refl, if_true]
    rfl
theorem s_counted (hF : Fx R) (hc : IsC c) (hs : IsS s) (hC : XC I c co) (hS : XS I s co sh) (hw : WF co) (hv : WS co sh) (ht : t < co 0 3) : cl Z 11 [.ref c, .ref s, .int (nI t)] I R L = some (some (.int (nI (cntf co sh t))), I, R, L) := by
  have h4 := hw.h4
  have h6 := hw.t6
  rw [n11]
  simp only [e11_0, e11_1, e11_2, e11_3, e11_7, e11_8, e11_11, e11_14, e11_15, e11_16, e11_19, e11_21, e11_22, e11_23, e11_26, e11_28, e11_29, e11_30, e11_31, e11_34, e11_37, e11_38, e11_39, e11_42, e11_43, e11_44, e11_45, bI_s, bL_s, bV_s, rv_s1, nl_i, nl_a, nl_n, w8_0, w8_i, w8_a, w8_l, ct_i, ct_a, b01_0, b01_1, b01_b]
  refine loop_up (F := fun i => ex Z 0 0 11 5 [some (.ref c), some (.ref s), some (.int (nI t)), some (.int (nI (mk (fun h => (sh 1 h).testBit t) i))), some (.int (nI i))] [] I R L) (co 0 2) (fun i hi => ?_) ?_ 0 (Nat.zero_le _)
  · have hb := hv.2.1 i (by omega)
    rw [e11_5]
    simp only [e11_0, e11_1, e11_2, e11_3, e11_7, e11_8, e11_11, e11_14, e11_15, e11_16, e11_19, e11_21, e11_22, e11_23, e11_26, e11_28, e11_29, e11_30, e11_31, e11_34, e11_37, e11_38, e11_39, e11_42, e11_43, e11_44, e11_45, bI_s, bL_s, bV_s, rv_s1, nl_i, nl_a, nl_n, w8_0, w8_i, w8_a, w8_l, ct_i, ct_a, b01_0, b01_1, b01_b, kdC hc, hF.c0 hc, hF.c1 hc, hF.c2 hc, hF.c3 hc, hF.c4 hc, hF.c5 hc, hF.c6 hc, alC1 hc, ltC1 hc, alC2 hc, ltC2 hc, alC3 hc, ltC3 hc, alC4 hc, ltC4 hc, alC5 hc, ltC5 hc, alC6 hc, ltC6 hc, alC7 hc, ltC7 hc, kdS hs, hF.s0 hs, hF.s1 hs, alS1 hs, alS2 hs, ltS1 hs, ltS2 hs, hC.hs, nI_leI (show co 0 2 < 2 ^ 31 by omega) (show i < 2 ^ 31 by omega), show ¬ co 0 2 ≤ i by omega, if_false, ab_ixN (show i < 4 by omega) (by decide), nI_clamp (show i < 2 ^ 31 by omega), hS.sd (show i < 4 by omega), s_bit (show sh 1 i < 2 ^ 31 by omega) (show t < 31 by omega), or_shl _ _ _ (show i < 31 by omega), nI_add, mk]
  · rw [e11_5]
    simp only [e11_0, e11_1, e11_2, e11_3, e11_7, e11_8, e11_11, e11_14, e11_15, e11_16, e11_19, e11_21, e11_22, e11_23, e11_26, e11_28, e11_29, e11_30, e11_31, e11_34, e11_37, e11_38, e11_39, e11_42, e11_43, e11_44, e11_45, bI_s, bL_s, bV_s, rv_s1, nl_i, nl_a, nl_n, w8_0, w8_i, w8_a, w8_l, ct_i, ct_a, b01_0, b01_1, b01_b, kdC hc, hF.c0 hc, hF.c1 hc, hF.c2 hc, hF.c3 hc, hF.c4 hc, hF.c5 hc, hF.c6 hc, alC1 hc, ltC1 hc, alC2 hc, ltC2 hc, alC3 hc, ltC3 hc, alC4 hc, ltC4 hc, alC5 hc, ltC5 hc, alC6 hc, ltC6 hc, alC7 hc, ltC7 hc, kdS hs, hF.s0 hs, hF.s1 hs, alS1 hs, alS2 hs, ltS1 hs, ltS2 hs, hC.hs, Int32.le_refl, if_true, hS.ow, nI_andn]
    rfl
theorem s_held (hF : Fx R) (hc : IsC c) (hC : XC I c co) (hw : WF co) (ht : t < co 0 3) {k : Nat} (hk : k < 64) : cl Z 14 [.ref c, .int (nI t), .int (nI k)] I R L = some (some (.int (nI (heldf co t k).toNat)), I, R, L) := by
  have h4 := hw.h4
  have h6 := hw.t6
  have h3 := hw.2.2.1
  have h7 := (hw.2.2.2.2.2.2 _ ht).2.2.2.2.1
  have hp := pc_le k 6
  rw [n14]
  simp only [e14_0, e14_1, e14_2, e14_5, e14_6, e14_7, e14_10, e14_13, e14_14, e14_15, e14_18, e14_19, e14_20, e14_23, e14_24, e14_27, e14_28, e14_31, e14_32, e14_33, e14_34, e14_37, e14_38, e14_41, e14_42, e14_45, bI_s, bL_s, bV_s, rv_s1, nl_i, nl_a, nl_n, w8_0, w8_i, w8_a, w8_l, ct_i, ct_a, b01_0, b01_1, b01_b, kdC hc, hF.c0 hc, hF.c1 hc, hF.c2 hc, hF.c3 hc, hF.c4 hc, hF.c5 hc, hF.c6 hc, alC1 hc, ltC1 hc, alC2 hc, ltC2 hc, alC3 hc, ltC3 hc, alC4 hc, ltC4 hc, alC5 hc, ltC5 hc, alC6 hc, ltC6 hc, alC7 hc, ltC7 hc, ab_ixN (show t < 6 by omega) (by decide), nI_clamp (show t < 2 ^ 31 by omega), hC.a6 ht, s_hasHouse hc hC hw, nN_has h7 (show co 0 2 < 2 ^ 31 by omega), nI_b, hC.lw, s_ones hk, s_holds1 h3 (show pc k 6 < 2 ^ 31 by omega), s_holds0 h3 (show pc k 6 < 2 ^ 31 by omega)]
  unfold heldf
  by_cases h0 : co 6 t = 0
  · simp only [h0, ne_eq, not_true_eq_false, decide_false, if_true, Bool.false_and]
  · simp only [h0, nN_pos h0, ne_eq, not_false_eq_true, decide_true, Bool.true_eq_false, if_false, s_bit (show k < 2 ^ 31 by omega) (show co 6 t - 1 < 31 by omega), bI_s, bL_s, bV_s, rv_s1, nl_i, nl_a, nl_n, w8_0, w8_i, w8_a, w8_l, ct_i, ct_a, b01_0, b01_1, b01_b, nI_b1, Bool.true_and]
    cases hb : k.testBit (co 6 t - 1) <;> simp [hC.lw, s_holds1 h3 (show pc k 6 < 2 ^ 31 by omega), s_holds0 h3 (show pc k 6 < 2 ^ 31 by omega), bI_s, e14_45, b01_b]
theorem s_stays (hF : Fx R) (hc : IsC c) (hs : IsS s) (hC : XC I c co) (hS : XS I s co sh) (hw : WF co) (hv : WS co sh) (ht : t < co 0 3) : cl Z 12 [.ref c, .ref s, .int (nI t)] I R L = some (some (.int (nI (stayf co sh t).toNat)), I, R, L) := by
  have h6 := hw.t6
  have htp := top_lt hw ht
  rw [n12]
  simp only [e12_0, e12_1, e12_2, e12_5, e12_6, e12_7, e12_10, e12_11, e12_14, e12_15, e12_18, e12_19, e12_20, e12_21, e12_22, e12_23, e12_26, e12_29, e12_32, e12_33, e12_36, e12_37, bI_s, bL_s, bV_s, rv_s1, nl_i, nl_a, nl_n, w8_0, w8_i, w8_a, w8_l, ct_i, ct_a, b01_0, b01_1, b01_b, kdC hc, hF.c0 hc, hF.c1 hc, hF.c2 hc, hF.c3 hc, hF.c4 hc, hF.c5 hc, hF.c6 hc, alC1 hc, ltC1 hc, alC2 hc, ltC2 hc, alC3 hc, ltC3 hc, alC4 hc, ltC4 hc, alC5 hc, ltC5 hc, alC6 hc, ltC6 hc, alC7 hc, ltC7 hc, kdS hs, hF.s0 hs, hF.s1 hs, alS1 hs, alS2 hs, ltS1 hs, ltS2 hs, s_top hF hc hC hw ht, hS.st, s_bit (show sh 2 0 < 2 ^ 31 by have := hv.2.2.1; omega) (show top co t < 31 by omega), s_counted hF hc hs hC hS hw hv htp, s_held hF hc hC hw htp (show cntf co sh (top co t) < 64 by have := cntf_16 hw sh (top co t); omega), nI_b, nI_b1]
  unfold stayf
  cases (sh 2 0).testBit (top co t) <;> cases heldf co (top co t) (cntf co sh (top co t)) <;> simp
theorem s_staying (hF : Fx R) (hc : IsC c) (hs : IsS s) (hC : XC I c co) (hS : XS I s co sh) (hw : WF co) (hv : WS co sh) : cl Z 16 [.ref c, .ref s] I R L = some (some (.int (nI (mk (stayf co sh) (co 0 3)))), I, R, L) := by
  have h6 := hw.t6
  rw [n16]
  simp only [e16_0, e16_1, e16_2, e16_3, e16_5, e16_6, e16_9, e16_12, e16_13, e16_14, e16_15, e16_16, e16_19, e16_22, e16_23, e16_24, e16_25, e16_28, e16_29, e16_30, e16_31, e16_34, e16_37, e16_38, bI_s, bL_s, bV_s, rv_s1, nl_i, nl_a, nl_n, w8_0, w8_i, w8_a, w8_l, ct_i, ct_a, b01_0, b01_1, b01_b]
  refine loop_up (F := fun i => ex Z 0 0 16 4 [some (.ref c), some (.ref s), some (.int (nI (mk (stayf co sh) i))), some (.int (nI i))] [] I R L) (co 0 3) (fun i hi => ?_) ?_ 0 (Nat.zero_le _)
  · rw [e16_4]
    simp only [e16_0, e16_1, e16_2, e16_3, e16_5, e16_6, e16_9, e16_12, e16_13, e16_14, e16_15, e16_16, e16_19, e16_22, e16_23, e16_24, e16_25, e16_28, e16_29, e16_30, e16_31, e16_34, e16_37, e16_38, bI_s, bL_s, bV_s, rv_s1, nl_i, nl_a, nl_n, w8_0, w8_i, w8_a, w8_l, ct_i, ct_a, b01_0, b01_1, b01_b, kdC hc, hF.c0 hc, hF.c1 hc, hF.c2 hc, hF.c3 hc, hF.c4 hc, hF.c5 hc, hF.c6 hc, alC1 hc, ltC1 hc, alC2 hc, ltC2 hc, alC3 hc, ltC3 hc, alC4 hc, ltC4 hc, alC5 hc, ltC5 hc, alC6 hc, ltC6 hc, alC7 hc, ltC7 hc, hC.th, nI_leI (show co 0 3 < 2 ^ 31 by omega) (show i < 2 ^ 31 by omega), show ¬ co 0 3 ≤ i by omega, if_false, s_stays hF hc hs hC hS hw hv hi, nI_b, nI_add, mk, nI_1shl (show i < 31 by omega), nx_or']
    cases stayf co sh i <;> simp
  · rw [e16_4]
    simp only [e16_0, e16_1, e16_2, e16_3, e16_5, e16_6, e16_9, e16_12, e16_13, e16_14, e16_15, e16_16, e16_19, e16_22, e16_23, e16_24, e16_25, e16_28, e16_29, e16_30, e16_31, e16_34, e16_37, e16_38, bI_s, bL_s, bV_s, rv_s1, nl_i, nl_a, nl_n, w8_0, w8_i, w8_a, w8_l, ct_i, ct_a, b01_0, b01_1, b01_b, kdC hc, hF.c0 hc, hF.c1 hc, hF.c2 hc, hF.c3 hc, hF.c4 hc, hF.c5 hc, hF.c6 hc, alC1 hc, ltC1 hc, alC2 hc, ltC2 hc, alC3 hc, ltC3 hc, alC4 hc, ltC4 hc, alC5 hc, ltC5 hc, alC6 hc, ltC6 hc, alC7 hc, ltC7 hc, hC.th, Int32.le_refl, if_true]
theorem s_isNear (hF : Fx R) (hc : IsC c) (hs : IsS s) (hC : XC I c co) (hS : XS I s co sh) (hw : WF co) (hv : WS co sh) (hh : h < co 0 2) (ht : t < co 0 3) : cl Z 10 [.ref c, .ref s, .int (nI h), .int (nI t)] I R L = some (some (.int (nI (nearf co sh h t).toNat)), I, R, L) := by
  have h4 := hw.h4
  have h6 := hw.t6
  have a1 := (hw.2.2.2.2.2.1 h hh).1
  have a2 := hv.1 t ht
  have a3 := hw.2.2.2.1.2
  rw [n10]
  simp only [e10_0, e10_1, e10_4, e10_5, e10_6, e10_7, e10_10, e10_11, e10_12, e10_13, e10_16, e10_17, e10_20, e10_21, e10_24, e10_25, bI_s, bL_s, bV_s, rv_s1, nl_i, nl_a, nl_n, w8_0, w8_i, w8_a, w8_l, ct_i, ct_a, b01_0, b01_1, b01_b, kdC hc, hF.c0 hc, hF.c1 hc, hF.c2 hc, hF.c3 hc, hF.c4 hc, hF.c5 hc, hF.c6 hc, alC1 hc, ltC1 hc, alC2 hc, ltC2 hc, alC3 hc, ltC3 hc, alC4 hc, ltC4 hc, alC5 hc, ltC5 hc, alC6 hc, ltC6 hc, alC7 hc, ltC7 hc, kdS hs, hF.s0 hs, hF.s1 hs, alS1 hs, alS2 hs, ltS1 hs, ltS2 hs, ab_ixN (show t < 6 by omega) (by decide), ab_ixN (show h < 4 by omega) (by decide), nI_clamp (show t < 2 ^ 31 by omega), nI_clamp (show h < 2 ^ 31 by omega), hS.pl ht, hC.a1 hh, near_abs (sh 0 t) (by omega) (co 1 h) (by omega)]
  unfold nearf
  by_cases hn : sh 0 t ≤ co 1 h + 1 ∧ co 1 h ≤ sh 0 t + 1
  · simp [hn]
  · simp only [hn, not_false_eq_true, if_true, decide_false]
    rfl
theorem s_near (hF : Fx R) (hc : IsC c) (hs : IsS s) (hC : XC I c co) (hS : XS I s co sh) (hw : WF co) (hv : WS co sh) (hh : h < co 0 2) : cl Z 9 [.ref c, .ref s, .int (nI h)] I R L = some (some (.int (nI (mk (nearf co sh h) (co 0 3)))), I, R, L) := by
  have h6 := hw.t6
  rw [n9]
  simp only [e9_0, e9_1, e9_2, e9_3, e9_7, e9_8, e9_11, e9_14, e9_15, e9_16, e9_17, e9_18, e9_20, e9_23, e9_26, e9_27, e9_29, e9_30, e9_33, e9_34, e9_35, e9_36, e9_39, e9_42, e9_43, bI_s, bL_s, bV_s, rv_s1, nl_i, nl_a, nl_n, w8_0, w8_i, w8_a, w8_l, ct_i, ct_a, b01_0, b01_1, b01_b]
  refine loop_up (F := fun i => ex Z 0 0 9 5 [some (.ref c), some (.ref s), some (.int (nI h)), some (.int (nI (mk (nearf co sh h) i))), some (.int (nI i))] [] I R L) (co 0 3) (fun i hi => ?_) ?_ 0 (Nat.zero_le _)
  · rw [e9_5]
    simp only [e9_0, e9_1, e9_2, e9_3, e9_7, e9_8, e9_11, e9_14, e9_15, e9_16, e9_17, e9_18, e9_20, e9_23, e9_26, e9_27, e9_29, e9_30, e9_33, e9_34, e9_35, e9_36, e9_39, e9_42, e9_43, bI_s, bL_s, bV_s, rv_s1, nl_i, nl_a, nl_n, w8_0, w8_i, w8_a, w8_l, ct_i, ct_a, b01_0, b01_1, b01_b, kdC hc, hF.c0 hc, hF.c1 hc, hF.c2 hc, hF.c3 hc, hF.c4 hc, hF.c5 hc, hF.c6 hc, alC1 hc, ltC1 hc, alC2 hc, ltC2 hc, alC3 hc, ltC3 hc, alC4 hc, ltC4 hc, alC5 hc, ltC5 hc, alC6 hc, ltC6 hc, alC7 hc, ltC7 hc, hC.th, nI_leI (show co 0 3 < 2 ^ 31 by omega) (show i < 2 ^ 31 by omega), show ¬ co 0 3 ≤ i by omega, if_false, s_isNear hF hc hs hC hS hw hv hh hi, nI_b, nI_add, mk, nI_1shl (show i < 31 by omega), nx_or']
    cases nearf co sh h i <;> simp
  · rw [e9_5]
    simp only [e9_0, e9_1, e9_2, e9_3, e9_7, e9_8, e9_11, e9_14, e9_15, e9_16, e9_17, e9_18, e9_20, e9_23, e9_26, e9_27, e9_29, e9_30, e9_33, e9_34, e9_35, e9_36, e9_39, e9_42, e9_43, bI_s, bL_s, bV_s, rv_s1, nl_i, nl_a, nl_n, w8_0, w8_i, w8_a, w8_l, ct_i, ct_a, b01_0, b01_1, b01_b, kdC hc, hF.c0 hc, hF.c1 hc, hF.c2 hc, hF.c3 hc, hF.c4 hc, hF.c5 hc, hF.c6 hc, alC1 hc, ltC1 hc, alC2 hc, ltC2 hc, alC3 hc, ltC3 hc, alC4 hc, ltC4 hc, alC5 hc, ltC5 hc, alC6 hc, ltC6 hc, alC7 hc, ltC7 hc, hC.th, Int32.le_refl, if_true]
theorem s_breathsLeft (hF : Fx R) (hc : IsC c) (hs : IsS s) (hC : XC I c co) (hS : XS I s co sh) (hw : WF co) (hv : WS co sh) (hh : h < co 0 2) : cl Z 8 [.ref c, .ref s, .int (nI h)] I R L = some (some (.int (nI (co 2 h - pc (sh 1 h) 6))), I, R, L) := by
  have h4 := hw.h4
  have a1 := (hw.2.2.2.2.2.1 h hh).2
  have a2 := hv.2.1 h (by omega)
  have a3 := pc_le (sh 1 h) 6
  rw [n8]
  simp only [e8_0, e8_1, e8_4, e8_5, e8_6, e8_7, e8_10, e8_11, e8_12, e8_15, e8_16, e8_17, e8_20, bI_s, bL_s, bV_s, rv_s1, nl_i, nl_a, nl_n, w8_0, w8_i, w8_a, w8_l, ct_i, ct_a, b01_0, b01_1, b01_b, kdC hc, hF.c0 hc, hF.c1 hc, hF.c2 hc, hF.c3 hc, hF.c4 hc, hF.c5 hc, hF.c6 hc, alC1 hc, ltC1 hc, alC2 hc, ltC2 hc, alC3 hc, ltC3 hc, alC4 hc, ltC4 hc, alC5 hc, ltC5 hc, alC6 hc, ltC6 hc, alC7 hc, ltC7 hc, kdS hs, hF.s0 hs, hF.s1 hs, alS1 hs, alS2 hs, ltS1 hs, ltS2 hs, ab_ixN (show h < 4 by omega) (by decide), nI_clamp (show h < 2 ^ 31 by omega), hC.a2 hh, hS.sd (show h < 4 by omega), s_ones a2, max0 (co 2 h) (by omega) (pc (sh 1 h) 6) (by omega)]
/-- why a house can't say mine to a thing; 0: it can -/
def whyf (co sh : Co) (h t : Nat) : Int32 := if nearf co sh h t = false then iI (-2) else if (sh 1 h).testBit t = true ∨ co 2 h ≤ pc (sh 1 h) 6 then iI (-3) else nI 0
theorem s_whyNotSaid (hF : Fx R) (hc : IsC c) (hs : IsS s) (hC : XC I c co) (hS : XS I s co sh) (hw : WF co) (hv : WS co sh) (hh : h < co 0 2) (ht : t < co 0 3) : cl Z 15 [.ref c, .ref s, .int (nI h), .int (nI t)] I R L = some (some (.int (whyf co sh h t)), I, R, L) := by
  have h4 := hw.h4
  have h6 := hw.t6
  have a1 := (hw.2.2.2.2.2.1 h hh).2
  have a2 := hv.2.1 h (by omega)
  rw [n15]
  simp only [e15_0, e15_1, e15_2, e15_5, e15_8, e15_9, e15_10, e15_13, e15_16, e15_17, e15_18, e15_19, e15_20, e15_21, e15_22, e15_25, e15_28, e15_30, e15_31, e15_32, e15_35, e15_36, e15_37, e15_38, e15_41, e15_42, e15_45, e15_46, e15_47, e15_48, e15_51, e15_54, e15_56, e15_57, e15_58, bI_s, bL_s, bV_s, rv_s1, nl_i, nl_a, nl_n, w8_0, w8_i, w8_a, w8_l, ct_i, ct_a, b01_0, b01_1, b01_b, kdC hc, hF.c0 hc, hF.c1 hc, hF.c2 hc, hF.c3 hc, hF.c4 hc, hF.c5 hc, hF.c6 hc, alC1 hc, ltC1 hc, alC2 hc, ltC2 hc, alC3 hc, ltC3 hc, alC4 hc, ltC4 hc, alC5 hc, ltC5 hc, alC6 hc, ltC6 hc, alC7 hc, ltC7 hc, kdS hs, hF.s0 hs, hF.s1 hs, alS1 hs, alS2 hs, ltS1 hs, ltS2 hs, s_hasHouse hc hC hw, s_hasThing hc hC hw, hasI_nI (show h < 2 ^ 31 by omega), hasI_nI (show t < 2 ^ 31 by omega), hh, ht, decide_true, nI_b, Bool.true_eq_false, if_false, s_isNear hF hc hs hC hS hw hv hh ht, ab_ixN (show h < 4 by omega) (by decide), nI_clamp (show h < 2 ^ 31 by omega), hS.sd (show h < 4 by omega), s_bit (show sh 1 h < 2 ^ 31 by omega) (show t < 31 by omega), nI_b1, s_breathsLeft hF hc hs hC hS hw hv hh, nI_eq (show co 2 h - pc (sh 1 h) 6 < 2 ^ 31 by omega) (show 0 < 2 ^ 31 by decide)]
  unfold whyf
  cases nearf co sh h t
  · simp
  · cases (sh 1 h).testBit t
    · by_cases hb : co 2 h ≤ pc (sh 1 h) 6
      · simp [hb, show co 2 h - pc (sh 1 h) 6 = 0 by omega]
      · simp [hb, show ¬ co 2 h - pc (sh 1 h) 6 = 0 by omega]
    · simp
theorem s_whyNot0 (hc : IsC c) (hC : XC I c co) (hw : WF co) (x y : Int32) (h : hasI x (co 0 2) = false ∨ hasI y (co 0 3) = false) : cl Z 15 [.ref c, .ref s, .int x, .int y] I R L = some (some (.int (iI (-1))), I, R, L) := by
  rw [n15]
  simp only [e15_0, e15_1, e15_2, e15_5, e15_8, e15_9, e15_10, e15_13, e15_16, e15_17, e15_18, e15_19, e15_20, e15_21, e15_22, e15_25, e15_28, e15_30, e15_31, e15_32, e15_35, e15_36, e15_37, e15_38, e15_41, e15_42, e15_45, e15_46, e15_47, e15_48, e15_51, e15_54, e15_56, e15_57, e15_58, bI_s, bL_s, bV_s, rv_s1, nl_i, nl_a, nl_n, w8_0, w8_i, w8_a, w8_l, ct_i, ct_a, b01_0, b01_1, b01_b, s_hasHouse hc hC hw, s_hasThing hc hC hw, kdC hc, nI_b]
  rcases h with h | h
  · simp [h]
  · cases hx : hasI x (co 0 2) <;> simp [h]
/-- where a thing is behind n blows -/
def plbf (co sh : Co) (t n : Nat) : Nat := if stayf co sh t = true then sh 0 t else min (sh 0 t + n * co 4 (top co t)) (co 0 1)
theorem plbf_le {co sh : Co} (hv : WS co sh) {t : Nat} (ht : t < co 0 3) (n : Nat) : plbf co sh t n ≤ co 0 1 := by
  unfold plbf
  have := hv.1 t ht
  split <;> omega
theorem nI_min {a b : Nat} (ha : a < 2 ^ 31) (hb : b < 2 ^ 31) : (if nI b < nI a then nI b else nI a) = nI (min a b) := by
  simp only [nI_ltI hb ha]
  by_cases h : b < a
  · rw [if_pos h, Nat.min_eq_right (by omega)]
  · rw [if_neg h, Nat.min_eq_left (by omega)]
theorem nI_max {a b : Nat} (ha : a < 2 ^ 31) (hb : b < 2 ^ 31) : (if nI a < nI b then nI b else nI a) = nI (max a b) := by
  simp only [nI_ltI ha hb]
  by_cases h : a < b
  · rw [if_pos h, Nat.max_eq_right (by omega)]
  · rw [if_neg h, Nat.max_eq_left (by omega)]
theorem s_placeBehind (hF : Fx R) (hc : IsC c) (hs : IsS s) (hC : XC I c co) (hS : XS I s co sh) (hw : WF co) (hv : WS co sh) (ht : t < co 0 3) {n : Nat} (hn : n < 100) : cl Z 18 [.ref c, .ref s, .int (nI t), .int (nI n)] I R L = some (some (.int (nI (plbf co sh t n))), I, R, L) := by
  have h6 := hw.t6
  have htp := top_lt hw ht
  have a1 := (hw.2.2.2.2.2.2 _ htp).2.2.1
  have a2 := hv.1 t ht
  have a3 := hw.2.2.2.1.2
  have a4 : n * co 4 (top co t) ≤ 100 * 3 := Nat.mul_le_mul (by omega) a1
  rw [n18]
  simp only [e18_0, e18_1, e18_4, e18_5, e18_6, e18_8, e18_9, e18_10, e18_11, e18_14, e18_17, e18_19, e18_22, e18_24, e18_25, e18_26, e18_29, e18_30, e18_31, e18_34, e18_35, e18_36, e18_37, e18_38, e18_41, e18_44, bI_s, bL_s, bV_s, rv_s1, nl_i, nl_a, nl_n, w8_0, w8_i, w8_a, w8_l, ct_i, ct_a, b01_0, b01_1, b01_b, kdC hc, hF.c0 hc, hF.c1 hc, hF.c2 hc, hF.c3 hc, hF.c4 hc, hF.c5 hc, hF.c6 hc, alC1 hc, ltC1 hc, alC2 hc, ltC2 hc, alC3 hc, ltC3 hc, alC4 hc, ltC4 hc, alC5 hc, ltC5 hc, alC6 hc, ltC6 hc, alC7 hc, ltC7 hc, kdS hs, hF.s0 hs, hF.s1 hs, alS1 hs, alS2 hs, ltS1 hs, ltS2 hs, ab_ixN (show t < 6 by omega) (by decide), ab_ixN (show top co t < 6 by omega) (by decide), nI_clamp (show t < 2 ^ 31 by omega), nI_clamp (show top co t < 2 ^ 31 by omega), hS.pl ht, s_stays hF hc hs hC hS hw hv ht, nI_b, s_top hF hc hC hw ht, hC.a4 htp, pk_mul, nI_add, hC.la, nI_min (show sh 0 t + n * co 4 (top co t) < 2 ^ 31 by omega) (show co 0 1 < 2 ^ 31 by omega)]
  unfold plbf
  cases stayf co sh t <;> simp
def lastf (co sh : Co) (n : Nat) : Nat := mk (fun t => decide (plbf co sh t n = co 0 1)) (co 0 3)
theorem s_atLastBehind (hF : Fx R) (hc : IsC c) (hs : IsS s) (hC : XC I c co) (hS : XS I s co sh) (hw : WF co) (hv : WS co sh) {n : Nat} (hn : n < 100) : cl Z 19 [.ref c, .ref s, .int (nI n)] I R L = some (some (.int (nI (lastf co sh n))), I, R, L) := by
  have h6 := hw.t6
  have a3 := hw.2.2.2.1.2
  rw [n19]
  simp only [e19_0, e19_1, e19_2, e19_3, e19_7, e19_8, e19_11, e19_14, e19_15, e19_16, e19_17, e19_19, e19_20, e19_23, e19_24, e19_27, e19_30, e19_31, e19_33, e19_34, e19_37, e19_38, e19_39, e19_40, e19_43, e19_46, e19_47, bI_s, bL_s, bV_s, rv_s1, nl_i, nl_a, nl_n, w8_0, w8_i, w8_a, w8_l, ct_i, ct_a, b01_0, b01_1, b01_b]
  refine loop_up (F := fun i => ex Z 0 0 19 5 [some (.ref c), some (.ref s), some (.int (nI n)), some (.int (nI (mk (fun t => decide (plbf co sh t n = co 0 1)) i))), some (.int (nI i))] [] I R L) (co 0 3) (fun i hi => ?_) ?_ 0 (Nat.zero_le _)
  · have a5 := plbf_le hv hi n
    rw [e19_5]
    simp only [e19_0, e19_1, e19_2, e19_3, e19_7, e19_8, e19_11, e19_14, e19_15, e19_16, e19_17, e19_19, e19_20, e19_23, e19_24, e19_27, e19_30, e19_31, e19_33, e19_34, e19_37, e19_38, e19_39, e19_40, e19_43, e19_46, e19_47, bI_s, bL_s, bV_s, rv_s1, nl_i, nl_a, nl_n, w8_0, w8_i, w8_a, w8_l, ct_i, ct_a, b01_0, b01_1, b01_b, kdC hc, hF.c0 hc, hF.c1 hc, hF.c2 hc, hF.c3 hc, hF.c4 hc, hF.c5 hc, hF.c6 hc, alC1 hc, ltC1 hc, alC2 hc, ltC2 hc, alC3 hc, ltC3 hc, alC4 hc, ltC4 hc, alC5 hc, ltC5 hc, alC6 hc, ltC6 hc, alC7 hc, ltC7 hc, hC.th, hC.la, nI_leI (show co 0 3 < 2 ^ 31 by omega) (show i < 2 ^ 31 by omega), show ¬ co 0 3 ≤ i by omega, if_false, s_placeBehind hF hc hs hC hS hw hv hi hn, nI_eq (show plbf co sh i n < 2 ^ 31 by omega) (show co 0 1 < 2 ^ 31 by omega), nI_add, mk, nI_1shl (show i < 31 by omega), nx_or']
    by_cases hb : plbf co sh i n = co 0 1 <;> simp [hb]
  · rw [e19_5]
    simp only [e19_0, e19_1, e19_2, e19_3, e19_7, e19_8, e19_11, e19_14, e19_15, e19_16, e19_17, e19_19, e19_20, e19_23, e19_24, e19_27, e19_30, e19_31, e19_33, e19_34, e19_37, e19_38, e19_39, e19_40, e19_43, e19_46, e19_47, bI_s, bL_s, bV_s, rv_s1, nl_i, nl_a, nl_n, w8_0, w8_i, w8_a, w8_l, ct_i, ct_a, b01_0, b01_1, b01_b, kdC hc, hF.c0 hc, hF.c1 hc, hF.c2 hc, hF.c3 hc, hF.c4 hc, hF.c5 hc, hF.c6 hc, alC1 hc, ltC1 hc, alC2 hc, ltC2 hc, alC3 hc, ltC3 hc, alC4 hc, ltC4 hc, alC5 hc, ltC5 hc, alC6 hc, ltC6 hc, alC7 hc, ltC7 hc, hC.th, Int32.le_refl, if_true]
    rfl
/-- the worth of a set -/
def sumw (co : Co) (k : Nat) : Nat → Nat
  | 0 => 0
  | n + 1 => sumw co k n + (k.testBit n).toNat * co 5 n
theorem s_worthOf (hF : Fx R) (hc : IsC c) (hC : XC I c co) (hw : WF co) {k : Nat} (hk : k < 2 ^ 31) : cl Z 21 [.ref c, .int (nI k)] I R L = some (some (.int (nI (sumw co k (co 0 3)))), I, R, L) := by
  have h6 := hw.t6
  rw [n21]
  simp only [e21_0, e21_1, e21_2, e21_3, e21_5, e21_6, e21_9, e21_12, e21_13, e21_14, e21_15, e21_18, e21_19, e21_22, e21_23, e21_24, e21_25, e21_26, e21_27, e21_30, e21_33, e21_34, bI_s, bL_s, bV_s, rv_s1, nl_i, nl_a, nl_n, w8_0, w8_i, w8_a, w8_l, ct_i, ct_a, b01_0, b01_1, b01_b]
  refine loop_up (F := fun i => ex Z 0 0 21 4 [some (.ref c), some (.int (nI k)), some (.int (nI (sumw co k i))), some (.int (nI i))] [] I R L) (co 0 3) (fun i hi => ?_) ?_ 0 (Nat.zero_le _)
  · rw [e21_4]
    simp only [e21_0, e21_1, e21_2, e21_3, e21_5, e21_6, e21_9, e21_12, e21_13, e21_14, e21_15, e21_18, e21_19, e21_22, e21_23, e21_24, e21_25, e21_26, e21_27, e21_30, e21_33, e21_34, bI_s, bL_s, bV_s, rv_s1, nl_i, nl_a, nl_n, w8_0, w8_i, w8_a, w8_l, ct_i, ct_a, b01_0, b01_1, b01_b, kdC hc, hF.c0 hc, hF.c1 hc, hF.c2 hc, hF.c3 hc, hF.c4 hc, hF.c5 hc, hF.c6 hc, alC1 hc, ltC1 hc, alC2 hc, ltC2 hc, alC3 hc, ltC3 hc, alC4 hc, ltC4 hc, alC5 hc, ltC5 hc, alC6 hc, ltC6 hc, alC7 hc, ltC7 hc, hC.th, nI_leI (show co 0 3 < 2 ^ 31 by omega) (show i < 2 ^ 31 by omega), show ¬ co 0 3 ≤ i by omega, if_false, s_bit hk (show i < 31 by omega), ab_ixN (show i < 6 by omega) (by decide), nI_clamp (show i < 2 ^ 31 by omega), hC.a5 hi, pk_mul, nI_add, sumw]
  · rw [e21_4]
    simp only [e21_0, e21_1, e21_2, e21_3, e21_5, e21_6, e21_9, e21_12, e21_13, e21_14, e21_15, e21_18, e21_19, e21_22, e21_23, e21_24, e21_25, e21_26, e21_27, e21_30, e21_33, e21_34, bI_s, bL_s, bV_s, rv_s1, nl_i, nl_a, nl_n, w8_0, w8_i, w8_a, w8_l, ct_i, ct_a, b01_0, b01_1, b01_b, kdC hc, hF.c0 hc, hF.c1 hc, hF.c2 hc, hF.c3 hc, hF.c4 hc, hF.c5 hc, hF.c6 hc, alC1 hc, ltC1 hc, alC2 hc, ltC2 hc, alC3 hc, ltC3 hc, alC4 hc, ltC4 hc, alC5 hc, ltC5 hc, alC6 hc, ltC6 hc, alC7 hc, ltC7 hc, hC.th, Int32.le_refl, if_true]
end COAST
