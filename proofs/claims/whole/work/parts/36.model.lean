/-! the reference's coast and levels -/
def MC (I : ab_I) (co : Co) : Prop :=
  I 87 0 = nI (co 0 0) ∧ I 87 1 = nI (co 0 1) ∧ I 87 2 = nI (co 0 2) ∧ I 87 3 = nI (co 0 3) ∧
  (∀ h, h < co 0 2 → I 88 h = nI (co 1 h)) ∧ (∀ h, h < co 0 2 → I 89 h = nI (co 2 h)) ∧
  (∀ t, t < co 0 3 → I 90 t = nI (co 4 t)) ∧ (∀ t, t < co 0 3 → I 91 t = nI (co 5 t)) ∧ (∀ t, t < co 0 3 → I 92 t = nN (co 6 t)) ∧ (∀ t, t < co 0 3 → I 93 t = nN (co 7 t))
theorem MC.lw {I : ab_I} {co : Co} (h : MC I co) : I 87 0 = nI (co 0 0) := h.1
theorem MC.la {I : ab_I} {co : Co} (h : MC I co) : I 87 1 = nI (co 0 1) := h.2.1
theorem MC.hs {I : ab_I} {co : Co} (h : MC I co) : I 87 2 = nI (co 0 2) := h.2.2.1
theorem MC.th {I : ab_I} {co : Co} (h : MC I co) : I 87 3 = nI (co 0 3) := h.2.2.2.1
theorem MC.a1 {I : ab_I} {co : Co} (h : MC I co) {t : Nat} (ht : t < co 0 2) : I 88 t = nI (co 1 t) := h.2.2.2.2.1 t ht
theorem MC.a2 {I : ab_I} {co : Co} (h : MC I co) {t : Nat} (ht : t < co 0 2) : I 89 t = nI (co 2 t) := h.2.2.2.2.2.1 t ht
theorem MC.a4 {I : ab_I} {co : Co} (h : MC I co) {t : Nat} (ht : t < co 0 3) : I 90 t = nI (co 4 t) := h.2.2.2.2.2.2.1 t ht
theorem MC.a5 {I : ab_I} {co : Co} (h : MC I co) {t : Nat} (ht : t < co 0 3) : I 91 t = nI (co 5 t) := h.2.2.2.2.2.2.2.1 t ht
theorem MC.a6 {I : ab_I} {co : Co} (h : MC I co) {t : Nat} (ht : t < co 0 3) : I 92 t = nN (co 6 t) := h.2.2.2.2.2.2.2.2.1 t ht
theorem MC.a7 {I : ab_I} {co : Co} (h : MC I co) {t : Nat} (ht : t < co 0 3) : I 93 t = nN (co 7 t) := h.2.2.2.2.2.2.2.2.2 t ht
/-- a shore in thirteen cells from b on -/
def MS (a : Nat → Int32) (b : Nat) (co sh : Co) : Prop :=
  (∀ t, t < co 0 3 → a (b + t) = nI (sh 0 t)) ∧ (∀ h, h < 4 → a (b + 6 + h) = nI (sh 1 h)) ∧ a (b + 10) = nI (sh 2 0) ∧ a (b + 11) = nI (sh 2 1) ∧ a (b + 12) = nI (sh 2 2)
theorem MS.pl {a : Nat → Int32} {b : Nat} {co sh : Co} (h : MS a b co sh) {t : Nat} (ht : t < co 0 3) : a (b + t) = nI (sh 0 t) := h.1 t ht
theorem MS.sd {a : Nat → Int32} {b : Nat} {co sh : Co} (h : MS a b co sh) {t : Nat} (ht : t < 4) : a (b + 6 + t) = nI (sh 1 t) := h.2.1 t ht
theorem MS.st {a : Nat → Int32} {b : Nat} {co sh : Co} (h : MS a b co sh) : a (b + 10) = nI (sh 2 0) := h.2.2.1
theorem MS.ow {a : Nat → Int32} {b : Nat} {co sh : Co} (h : MS a b co sh) : a (b + 11) = nI (sh 2 1) := h.2.2.2.1
theorem MS.bl {a : Nat → Int32} {b : Nat} {co sh : Co} (h : MS a b co sh) : a (b + 12) = nI (sh 2 2) := h.2.2.2.2
theorem nle_iffR {n : Nat} (hn : n < 2 ^ 31) (x : Int32) : x ≤ nI n ↔ x.toInt ≤ (n : Int) := by
  rw [Int32.le_iff_toInt_le, nI_toInt hn]
theorem cmp_lt (x y : Int64) : lg_cmp x y < nI 0 ↔ x.toInt < y.toInt := by
  rw [← Int64.lt_iff_toInt_lt]
  unfold lg_cmp
  by_cases h : x > y
  · rw [if_pos h]
    have h2 : ¬ x < y := Int64.not_lt.mpr (Int64.le_of_lt h)
    exact ⟨fun w => absurd w (by decide), fun w => absurd w h2⟩
  · rw [if_neg h]
    by_cases h3 : x = y
    · rw [if_pos h3]
      subst h3
      exact ⟨fun w => absurd w (by decide), fun w => absurd w Int64.lt_irrefl⟩
    · rw [if_neg h3]
      refine ⟨fun _ => ?_, fun _ => by decide⟩
      rw [Int64.lt_iff_toInt_lt]
      have h4 : ¬ y.toInt < x.toInt := fun w => h (Int64.lt_iff_toInt_lt.mpr w)
      have h5 : x.toInt ≠ y.toInt := fun w => h3 (Int64.toInt_inj.mp w)
      omega
theorem cmp_gt (x y : Int64) : nI 0 < lg_cmp x y ↔ y.toInt < x.toInt := by
  rw [← Int64.lt_iff_toInt_lt]
  unfold lg_cmp
  by_cases h : x > y
  · rw [if_pos h]
    exact ⟨fun _ => h, fun _ => by decide⟩
  · rw [if_neg h]
    refine ⟨fun w => absurd w ?_, fun w => absurd w h⟩
    split <;> decide
theorem s_in {Z : Nat} {I : ab_I} {R : ab_R} {L : ab_L} (v a b : Int64) : cl Z 108 [.long v, .long a, .long b] I R L = some (some (.int (nI (decide (a.toInt ≤ v.toInt ∧ v.toInt ≤ b.toInt)).toNat)), I, R, L) := by
  rw [n108]
  simp only [e108_0, e108_1, e108_2, e108_3, e108_6, e108_7, e108_9, e108_10, e108_13, e108_14, e108_17, e108_18, bI_s, bL_s, bV_s, rv_s1, nl_i, nl_a, nl_n, w8_0, w8_i, w8_a, w8_l, ct_i, ct_a, b01_0, b01_1, b01_b, cmp_lt, cmp_gt]
  by_cases h1 : v.toInt < a.toInt
  · simp [h1, show ¬ a.toInt ≤ v.toInt by omega]
  · by_cases h2 : b.toInt < v.toInt
    · simp [h1, h2, show ¬ v.toInt ≤ b.toInt by omega]
    · simp [h1, h2, show a.toInt ≤ v.toInt by omega, show v.toInt ≤ b.toInt by omega]
theorem s_has {Z n k : Nat} {I : ab_I} {R : ab_R} {L : ab_L} (hn : n < 2 ^ 31) (hk : k < 31) : cl Z 117 [.int (nI n), .int (nI k)] I R L = some (some (.int (nI (n.testBit k).toNat)), I, R, L) := by
  rw [n117]
  simp only [e117_0, e117_1, e117_2, e117_3, e117_4, e117_5, e117_6, e117_9, e117_10, e117_13, e117_14, bI_s, bL_s, bV_s, rv_s1, nl_i, nl_a, nl_n, w8_0, w8_i, w8_a, w8_l, ct_i, ct_a, b01_0, b01_1, b01_b, nI_bit hn hk]
  cases n.testBit k <;> simp [show (nI 0 = nI 1) = False by decide]
theorem m_ones {Z n : Nat} {I : ab_I} {R : ab_R} {L : ab_L} (hn : n < 2 ^ 31) : cl Z 122 [.int (nI n)] I R L = some (some (.int (nI (pc n 6))), I, R, L) := by
  rw [n122]
  simp only [e122_0, e122_1, e122_2, e122_3, e122_5, e122_7, e122_10, e122_11, e122_12, e122_13, e122_14, e122_15, e122_16, e122_17, e122_18, e122_21, e122_24, e122_25, bI_s, bL_s, bV_s, rv_s1, nl_i, nl_a, nl_n, w8_0, w8_i, w8_a, w8_l, ct_i, ct_a, b01_0, b01_1, b01_b]
  refine loop_up (F := fun i => ex Z 0 0 122 4 [some (.int (nI n)), some (.int (nI (pc n i))), some (.int (nI i))] [] I R L) 6 (fun i hi => ?_) ?_ 0 (Nat.zero_le _)
  · rw [e122_4]
    simp only [e122_0, e122_1, e122_2, e122_3, e122_5, e122_7, e122_10, e122_11, e122_12, e122_13, e122_14, e122_15, e122_16, e122_17, e122_18, e122_21, e122_24, e122_25, bI_s, bL_s, bV_s, rv_s1, nl_i, nl_a, nl_n, w8_0, w8_i, w8_a, w8_l, ct_i, ct_a, b01_0, b01_1, b01_b, nI_leI (show 6 < 2 ^ 31 by omega) (show i < 2 ^ 31 by omega), show ¬ 6 ≤ i by omega, if_false, nI_bit hn (show i < 31 by omega), nI_add, pc]
  · rw [e122_4]
    simp only [e122_0, e122_1, e122_2, e122_3, e122_5, e122_7, e122_10, e122_11, e122_12, e122_13, e122_14, e122_15, e122_16, e122_17, e122_18, e122_21, e122_24, e122_25, bI_s, bL_s, bV_s, rv_s1, nl_i, nl_a, nl_n, w8_0, w8_i, w8_a, w8_l, ct_i, ct_a, b01_0, b01_1, b01_b, Int32.le_refl, if_true]
theorem m_lawful {Z law c : Nat} {own : Bool} {I : ab_I} {R : ab_R} {L : ab_L} (hl : law ≤ 3) (hc : c < 2 ^ 31) : cl Z 132 [.int (nI law), .int (nI c), .int (nI own.toNat)] I R L = some (some (.int (nI (lawf law c own).toNat)), I, R, L) := by
  rw [n132]
  rcases (show law = 0 ∨ law = 1 ∨ law = 2 ∨ law = 3 by omega) with rfl | rfl | rfl | rfl
  · simp only [e132_0, e132_1, e132_4, e132_5, e132_8, e132_9, e132_12, e132_13, e132_16, e132_17, e132_18, e132_21, e132_22, e132_23, e132_26, e132_27, e132_30, e132_31, e132_34, e132_35, e132_36, e132_39, e132_40, e132_43, e132_44, e132_45, e132_48, e132_49, e132_52, e132_53, lawf, if_true, nI_leI hc (show 0 < 2 ^ 31 by decide), b01_0, b01_1]
    by_cases h : c ≤ 0
    · simp [h, show ¬ 1 ≤ c by omega]
    · simp [h, show 1 ≤ c by omega]
  · simp only [e132_0, e132_1, e132_4, e132_5, e132_8, e132_9, e132_12, e132_13, e132_16, e132_17, e132_18, e132_21, e132_22, e132_23, e132_26, e132_27, e132_30, e132_31, e132_34, e132_35, e132_36, e132_39, e132_40, e132_43, e132_44, e132_45, e132_48, e132_49, e132_52, e132_53, lawf, show (nI 1 = nI 0) = False by decide, if_false, if_true, nI_eq hc (show 1 < 2 ^ 31 by decide), b01_0, b01_1]
    by_cases h : c = 1
    · simp [h]
    · simp [h]
  · simp only [e132_0, e132_1, e132_4, e132_5, e132_8, e132_9, e132_12, e132_13, e132_16, e132_17, e132_18, e132_21, e132_22, e132_23, e132_26, e132_27, e132_30, e132_31, e132_34, e132_35, e132_36, e132_39, e132_40, e132_43, e132_44, e132_45, e132_48, e132_49, e132_52, e132_53, lawf, show (nI 2 = nI 0) = False by decide, show (nI 2 = nI 1) = False by decide, if_false, if_true, b01_b]
    simp
  · simp only [e132_0, e132_1, e132_4, e132_5, e132_8, e132_9, e132_12, e132_13, e132_16, e132_17, e132_18, e132_21, e132_22, e132_23, e132_26, e132_27, e132_30, e132_31, e132_34, e132_35, e132_36, e132_39, e132_40, e132_43, e132_44, e132_45, e132_48, e132_49, e132_52, e132_53, lawf, show (nI 3 = nI 0) = False by decide, show (nI 3 = nI 1) = False by decide, show (nI 3 = nI 2) = False by decide, if_false, nI_leI hc (show 1 < 2 ^ 31 by decide), b01_0, b01_1]
    by_cases h : c ≤ 1
    · simp [h, show ¬ 2 ≤ c by omega]
    · simp [h, show 2 ≤ c by omega]
theorem m_lawful1 {Z law c : Nat} {I : ab_I} {R : ab_R} {L : ab_L} (hl : law ≤ 3) (hc : c < 2 ^ 31) : cl Z 132 [.int (nI law), .int (nI c), .int (nI 1)] I R L = some (some (.int (nI (lawf law c true).toNat)), I, R, L) := m_lawful (own := true) hl hc
theorem m_lawful0 {Z law c : Nat} {I : ab_I} {R : ab_R} {L : ab_L} (hl : law ≤ 3) (hc : c < 2 ^ 31) : cl Z 132 [.int (nI law), .int (nI c), .int (nI 0)] I R L = some (some (.int (nI (lawf law c false).toNat)), I, R, L) := m_lawful (own := false) hl hc
theorem pred_int {n : Nat} (hn : n < 2 ^ 30) : (nI n - nI 1).toInt = (n : Int) - 1 := pk_sub_toInt hn (by decide)
theorem lN0 : (lN 0).toInt = 0 := by decide
theorem hasI_in {n : Nat} (hn : n < 2 ^ 30) (x : Int32) : decide ((lN 0).toInt ≤ x.toInt64.toInt ∧ x.toInt64.toInt ≤ (nI n - nI 1).toInt64.toInt) = hasI x n := by
  rw [lN0, Int32.toInt_toInt64, Int32.toInt_toInt64, pred_int hn, hasI]
  exact decide_eq_decide.mpr ⟨fun h => ⟨h.1, by omega⟩, fun h => ⟨h.1, by omega⟩⟩
theorem near_in : ∀ a, a < 6 → ∀ b, b < 6 → decide ((iL (-1)).toInt ≤ (nI a - nI b).toInt64.toInt ∧ (nI a - nI b).toInt64.toInt ≤ (lN 1).toInt) = decide (b ≤ a + 1 ∧ a ≤ b + 1) := by decide +kernel
theorem nN_9 {k : Nat} (hk : k ≤ 100) : (nN k = iI (-9)) ↔ k = 0 := by
  have : ∀ k, k ≤ 100 → ((nN k = iI (-9)) ↔ k = 0) := by decide +kernel
  exact this k hk
theorem nI_9 {k : Nat} (hk : k ≤ 100) : (nI k = iI (-9)) = False := by
  have : ∀ k, k ≤ 100 → ((nI k = iI (-9)) = False) := fun k hk => eq_false ((show ∀ k, k ≤ 100 → ¬ (nI k = iI (-9)) by decide +kernel) k hk)
  exact this k hk
/-- outside a level all is as it was -/
def OffL (I I' : ab_I) (b : Nat) : Prop := (∀ o, o ≠ 94 → I' o = I o) ∧ ∀ j, j < b ∨ b + 13 ≤ j → I' 94 j = I 94 j
theorem OffL.tr {I I1 I2 : ab_I} {b : Nat} (h1 : OffL I I1 b) (h2 : OffL I1 I2 b) : OffL I I2 b := ⟨fun o h => (h2.1 o h).trans (h1.1 o h), fun j h => (h2.2 j h).trans (h1.2 j h)⟩
theorem OffL.rf {I : ab_I} {b : Nat} : OffL I I b := ⟨fun _ _ => rfl, fun _ _ => rfl⟩
theorem MC.off {I I' : ab_I} {co : Co} (h : MC I co) (ho : ∀ o, o ≠ 94 → I' o = I o) : MC I' co := by
  unfold MC
  rw [ho 87 (by decide), ho 88 (by decide), ho 89 (by decide), ho 90 (by decide), ho 91 (by decide), ho 92 (by decide), ho 93 (by decide)]
  exact h
theorem MS.off {a a' : Nat → Int32} {b b2 : Nat} {co sh : Co} (h : MS a b co sh) (h6 : co 0 3 ≤ 6) (ho : ∀ j, j < b2 ∨ b2 + 13 ≤ j → a' j = a j) (hb : b + 13 ≤ b2 ∨ b2 + 13 ≤ b) : MS a' b co sh := by
  refine ⟨fun t ht => ?_, fun t ht => ?_, ?_, ?_, ?_⟩
  · rw [ho _ (by omega), h.pl ht]
  · rw [ho _ (by omega), h.sd ht]
  · rw [ho _ (by omega), h.st]
  · rw [ho _ (by omega), h.ow]
  · rw [ho _ (by omega), h.bl]
section MODEL
variable {Z l t h : Nat} {co sh : Co} {I : ab_I} {R : ab_R} {L : ab_L}
theorem m_isHouse (hC : MC I co) (hw : WF co) (x : Int32) : cl Z 120 [.ref 87, .int x] I R L = some (some (.int (nI (hasI x (co 0 2)).toNat)), I, R, L) := by
  have := hw.h4
  rw [n120]
  simp only [e120_0, e120_1, e120_2, e120_3, e120_4, e120_7, e120_8, e120_9, e120_10, e120_13, bI_s, bL_s, bV_s, rv_s1, nl_i, nl_a, nl_n, w8_0, w8_i, w8_a, w8_l, ct_i, ct_a, b01_0, b01_1, b01_b, kd_87, hC.hs, s_in, hasI_in (show co 0 2 < 2 ^ 30 by omega)]
theorem m_isThing (hC : MC I co) (hw : WF co) (x : Int32) : cl Z 126 [.ref 87, .int x] I R L = some (some (.int (nI (hasI x (co 0 3)).toNat)), I, R, L) := by
  have := hw.t6
  rw [n126]
  simp only [e126_0, e126_1, e126_2, e126_3, e126_4, e126_7, e126_8, e126_9, e126_10, e126_13, bI_s, bL_s, bV_s, rv_s1, nl_i, nl_a, nl_n, w8_0, w8_i, w8_a, w8_l, ct_i, ct_a, b01_0, b01_1, b01_b, kd_87, hC.th, s_in, hasI_in (show co 0 3 < 2 ^ 30 by omega)]
theorem m_outermost (hF : Fx R) (hC : MC I co) (hw : WF co) (ht : t < co 0 3) : cl Z 130 [.ref 87, .int (nI t)] I R L = some (some (.int (nI (top co t))), I, R, L) := by
  have h6 := hw.t6
  rw [n130]
  simp only [e130_0, e130_1, e130_3, e130_6, e130_7, e130_8, e130_10, e130_13, e130_14, e130_17, e130_18, e130_19, e130_20, e130_23, e130_24, bI_s, bL_s, bV_s, rv_s1, nl_i, nl_a, nl_n, w8_0, w8_i, w8_a, w8_l, ct_i, ct_a, b01_0, b01_1, b01_b]
  have key : ∀ i, i ≤ 6 → co 7 (topf co i t) = 0 → ex Z 0 0 130 2 [some (.ref 87), some (.int (nI t)), some (.int (nI (topf co i t)))] [] I R L = some (some (.int (nI (top co t))), I, R, L) := by
    intro i hi h0
    have hp := topf_lt hw ht i
    rw [e130_2]
    simp only [e130_0, e130_1, e130_3, e130_6, e130_7, e130_8, e130_10, e130_13, e130_14, e130_17, e130_18, e130_19, e130_20, e130_23, e130_24, bI_s, bL_s, bV_s, rv_s1, nl_i, nl_a, nl_n, w8_0, w8_i, w8_a, w8_l, ct_i, ct_a, b01_0, b01_1, b01_b, hF.m4, hF.m5, hF.m6, hF.m7, hF.m8, hF.m9, hF.m10, hF.m16, hF.m17, hF.m18, hF.m19, hF.m20, hF.m21, hF.m22, hF.m23, hF.m29, hF.m30, hF.m35, hF.m37, hF.m38, hF.m40, hF.m41, hF.m43, hF.m44, kd_87, al_93, ab_ixN (show topf co i t < 6 by omega) (by decide), nI_clamp (show topf co i t < 2 ^ 31 by omega), hC.a7 hp, h0, nN, if_true]
    rw [topf_6 h0 hi]
  refine loop_ex (F := fun i => ex Z 0 0 130 2 [some (.ref 87), some (.int (nI t)), some (.int (nI (topf co i t)))] [] I R L) (G := fun _ => some (some (.int (nI (top co t))), I, R, L)) 6 (fun i hi ih => ?_) ?_ 0 (Nat.zero_le _)
  · by_cases h0 : co 7 (topf co i t) = 0
    · exact key i (by omega) h0
    · have hp := topf_lt hw ht i
      have h7 := (hw.2.2.2.2.2.2 _ hp).2.2.2.2.2.1
      have e : topf co (i + 1) t = co 7 (topf co i t) - 1 := by rw [topf, up, if_neg h0]
      simp only [e] at ih
      rw [e130_2]
      simp only [e130_0, e130_1, e130_3, e130_6, e130_7, e130_8, e130_10, e130_13, e130_14, e130_17, e130_18, e130_19, e130_20, e130_23, e130_24, bI_s, bL_s, bV_s, rv_s1, nl_i, nl_a, nl_n, w8_0, w8_i, w8_a, w8_l, ct_i, ct_a, b01_0, b01_1, b01_b, hF.m4, hF.m5, hF.m6, hF.m7, hF.m8, hF.m9, hF.m10, hF.m16, hF.m17, hF.m18, hF.m19, hF.m20, hF.m21, hF.m22, hF.m23, hF.m29, hF.m30, hF.m35, hF.m37, hF.m38, hF.m40, hF.m41, hF.m43, hF.m44, kd_87, al_93, ab_ixN (show topf co i t < 6 by omega) (by decide), nI_clamp (show topf co i t < 2 ^ 31 by omega), hC.a7 hp, h0, nN_pos h0, nI_9 (show co 7 (topf co i t) - 1 ≤ 100 by omega), if_false]
      exact ih
  · exact key 6 (by decide) (hw.2.2.2.2.2.2 t ht).2.2.2.2.2.2
theorem m_isNear (hF : Fx R) (hC : MC I co) (hS : MS (I 94) 0 co sh) (hw : WF co) (hv : WS co sh) (hh : h < co 0 2) (ht : t < co 0 3) : cl Z 124 [.ref 87, .int (nI h), .int (nI t)] I R L = some (some (.int (nI (nearf co sh h t).toNat)), I, R, L) := by
  have h4 := hw.h4
  have h6 := hw.t6
  have a1 := (hw.2.2.2.2.2.1 h hh).1
  have a2 := hv.1 t ht
  have a3 := hw.2.2.2.1.2
  have hpl := hS.pl ht
  rw [Nat.zero_add] at hpl
  rw [n124]
  simp only [e124_0, e124_1, e124_4, e124_5, e124_6, e124_7, e124_10, e124_11, e124_12, e124_13, e124_14, e124_17, e124_18, e124_21, bI_s, bL_s, bV_s, rv_s1, nl_i, nl_a, nl_n, w8_0, w8_i, w8_a, w8_l, ct_i, ct_a, b01_0, b01_1, b01_b, hF.m4, hF.m5, hF.m6, hF.m7, hF.m8, hF.m9, hF.m10, hF.m16, hF.m17, hF.m18, hF.m19, hF.m20, hF.m21, hF.m22, hF.m23, hF.m29, hF.m30, hF.m35, hF.m37, hF.m38, hF.m40, hF.m41, hF.m43, hF.m44, kd_87, al_88, al_94, ab_ixN (show t < 26 by omega) (by decide), ab_ixN (show h < 4 by omega) (by decide), nI_clamp (show t < 2 ^ 31 by omega), nI_clamp (show h < 2 ^ 31 by omega), hpl, hC.a1 hh, s_in, near_in (co 1 h) (by omega) (sh 0 t) (by omega), nearf]
theorem m_nearOf (hF : Fx R) (hC : MC I co) (hS : MS (I 94) 0 co sh) (hw : WF co) (hv : WS co sh) (hh : h < co 0 2) : cl Z 123 [.ref 87, .int (nI h)] I R L = some (some (.int (nI (mk (nearf co sh h) (co 0 3)))), I, R, L) := by
  have h6 := hw.t6
  rw [n123]
  simp only [e123_0, e123_1, e123_2, e123_3, e123_5, e123_6, e123_9, e123_12, e123_13, e123_14, e123_15, e123_16, e123_19, e123_22, e123_23, e123_24, e123_25, e123_28, e123_29, e123_30, e123_31, e123_34, e123_37, e123_38, bI_s, bL_s, bV_s, rv_s1, nl_i, nl_a, nl_n, w8_0, w8_i, w8_a, w8_l, ct_i, ct_a, b01_0, b01_1, b01_b]
  refine loop_up (F := fun i => ex Z 0 0 123 4 [some (.ref 87), some (.int (nI h)), some (.int (nI (mk (nearf co sh h) i))), some (.int (nI i))] [] I R L) (co 0 3) (fun i hi => ?_) ?_ 0 (Nat.zero_le _)
  · rw [e123_4]
    simp only [e123_0, e123_1, e123_2, e123_3, e123_5, e123_6, e123_9, e123_12, e123_13, e123_14, e123_15, e123_16, e123_19, e123_22, e123_23, e123_24, e123_25, e123_28, e123_29, e123_30, e123_31, e123_34, e123_37, e123_38, bI_s, bL_s, bV_s, rv_s1, nl_i, nl_a, nl_n, w8_0, w8_i, w8_a, w8_l, ct_i, ct_a, b01_0, b01_1, b01_b, kd_87, hC.th, nI_leI (show co 0 3 < 2 ^ 31 by omega) (show i < 2 ^ 31 by omega), show ¬ co 0 3 ≤ i by omega, if_false, m_isNear hF hC hS hw hv hh hi, nI_b, nI_add, mk, nI_1shl (show i < 31 by omega), nx_or']
    cases nearf co sh h i <;> simp
  · rw [e123_4]
    simp only [e123_0, e123_1, e123_2, e123_3, e123_5, e123_6, e123_9, e123_12, e123_13, e123_14, e123_15, e123_16, e123_19, e123_22, e123_23, e123_24, e123_25, e123_28, e123_29, e123_30, e123_31, e123_34, e123_37, e123_38, bI_s, bL_s, bV_s, rv_s1, nl_i, nl_a, nl_n, w8_0, w8_i, w8_a, w8_l, ct_i, ct_a, b01_0, b01_1, b01_b, kd_87, hC.th, Int32.le_refl, if_true]
theorem m_leftOf (hF : Fx R) (hC : MC I co) (hS : MS (I 94) 0 co sh) (hw : WF co) (hv : WS co sh) (hh : h < co 0 2) : cl Z 121 [.ref 87, .int (nI h)] I R L = some (some (.int (nI (co 2 h) - nI (pc (sh 1 h) 6))), I, R, L) := by
  have h4 := hw.h4
  have a2 := hv.2.1 h (by omega)
  have hsd := hS.sd (show h < 4 by omega)
  rw [Nat.zero_add] at hsd
  rw [n121]
  simp only [e121_0, e121_1, e121_4, e121_5, e121_6, e121_7, e121_10, e121_12, e121_13, e121_14, e121_15, e121_18, e121_19, bI_s, bL_s, bV_s, rv_s1, nl_i, nl_a, nl_n, w8_0, w8_i, w8_a, w8_l, ct_i, ct_a, b01_0, b01_1, b01_b, hF.m4, hF.m5, hF.m6, hF.m7, hF.m8, hF.m9, hF.m10, hF.m16, hF.m17, hF.m18, hF.m19, hF.m20, hF.m21, hF.m22, hF.m23, hF.m29, hF.m30, hF.m35, hF.m37, hF.m38, hF.m40, hF.m41, hF.m43, hF.m44, kd_87, al_89, al_94, nI_add, ab_ixN (show 6 + h < 26 by omega) (by decide), ab_ixN (show h < 4 by omega) (by decide), nI_clamp (show 6 + h < 2 ^ 31 by omega), nI_clamp (show h < 2 ^ 31 by omega), hC.a2 hh, hsd, m_ones (show sh 1 h < 2 ^ 31 by omega)]
theorem m_isHeld (hF : Fx R) (hC : MC I co) (hw : WF co) (ht : t < co 0 3) {k : Nat} (hk : k < 2 ^ 31) : cl Z 131 [.ref 87, .int (nI t), .int (nI k)] I R L = some (some (.int (nI (heldf co t k).toNat)), I, R, L) := by
  have h4 := hw.h4
  have h6 := hw.t6
  have h3 := hw.2.2.1
  have h7 := (hw.2.2.2.2.2.2 _ ht).2.2.2.2.1
  have hp := pc_le k 6
  rw [n131]
  simp only [e131_0, e131_1, e131_4, e131_5, e131_8, e131_9, e131_12, e131_13, e131_14, e131_16, e131_19, e131_20, e131_21, e131_24, e131_25, e131_26, e131_29, e131_32, e131_33, e131_36, e131_37, e131_40, bI_s, bL_s, bV_s, rv_s1, nl_i, nl_a, nl_n, w8_0, w8_i, w8_a, w8_l, ct_i, ct_a, b01_0, b01_1, b01_b, hF.m4, hF.m5, hF.m6, hF.m7, hF.m8, hF.m9, hF.m10, hF.m16, hF.m17, hF.m18, hF.m19, hF.m20, hF.m21, hF.m22, hF.m23, hF.m29, hF.m30, hF.m35, hF.m37, hF.m38, hF.m40, hF.m41, hF.m43, hF.m44, kd_87, al_92, ab_ixN (show t < 6 by omega) (by decide), nI_clamp (show t < 2 ^ 31 by omega), hC.a6 ht, m_ones hk, nN_9 (show co 6 t ≤ 100 by omega), hC.lw, m_lawful1 h3 (show pc k 6 < 2 ^ 31 by omega), m_lawful0 h3 (show pc k 6 < 2 ^ 31 by omega)]
  unfold heldf
  by_cases h0 : co 6 t = 0
  · simp [h0]
  · simp only [h0, if_false, nN_pos h0, ne_eq, not_false_eq_true, decide_true, Bool.true_and, s_has hk (show co 6 t - 1 < 31 by omega), bI_s, bL_s, bV_s, rv_s1, nl_i, nl_a, nl_n, w8_0, w8_i, w8_a, w8_l, ct_i, ct_a, b01_0, b01_1, b01_b, nI_b, m_lawful1 h3 (show pc k 6 < 2 ^ 31 by omega), m_lawful0 h3 (show pc k 6 < 2 ^ 31 by omega)]
    cases hb : k.testBit (co 6 t - 1) <;> simp
theorem m_saidTo (hF : Fx R) (hC : MC I co) (hl : l ≤ 1) (hS : MS (I 94) (13 * l) co sh) (hw : WF co) (hv : WS co sh) (ht : t < 31) : cl Z 128 [.ref 87, .int (nI l), .int (nI t)] I R L = some (some (.int (nI (saidf co sh t))), I, R, L) := by
  have h4 := hw.h4
  have h6 := hw.t6
  rw [n128]
  simp only [e128_0, e128_1, e128_2, e128_3, e128_7, e128_8, e128_11, e128_14, e128_15, e128_16, e128_19, e128_21, e128_22, e128_23, e128_25, e128_26, e128_28, e128_29, e128_30, e128_31, e128_34, e128_37, e128_38, e128_40, e128_41, e128_44, e128_45, e128_46, e128_47, e128_50, e128_53, e128_54, bI_s, bL_s, bV_s, rv_s1, nl_i, nl_a, nl_n, w8_0, w8_i, w8_a, w8_l, ct_i, ct_a, b01_0, b01_1, b01_b]
  refine loop_up (F := fun i => ex Z 0 0 128 5 [some (.ref 87), some (.int (nI l)), some (.int (nI t)), some (.int (nI (mk (fun h => (sh 1 h).testBit t) i))), some (.int (nI i))] [] I R L) (co 0 2) (fun i hi => ?_) ?_ 0 (Nat.zero_le _)
  · have hb := hv.2.1 i (by omega)
    rw [e128_5]
    simp only [e128_0, e128_1, e128_2, e128_3, e128_7, e128_8, e128_11, e128_14, e128_15, e128_16, e128_19, e128_21, e128_22, e128_23, e128_25, e128_26, e128_28, e128_29, e128_30, e128_31, e128_34, e128_37, e128_38, e128_40, e128_41, e128_44, e128_45, e128_46, e128_47, e128_50, e128_53, e128_54, bI_s, bL_s, bV_s, rv_s1, nl_i, nl_a, nl_n, w8_0, w8_i, w8_a, w8_l, ct_i, ct_a, b01_0, b01_1, b01_b, hF.m4, hF.m5, hF.m6, hF.m7, hF.m8, hF.m9, hF.m10, hF.m16, hF.m17, hF.m18, hF.m19, hF.m20, hF.m21, hF.m22, hF.m23, hF.m29, hF.m30, hF.m35, hF.m37, hF.m38, hF.m40, hF.m41, hF.m43, hF.m44, kd_87, al_94, hC.hs, nI_leI (show co 0 2 < 2 ^ 31 by omega) (show i < 2 ^ 31 by omega), show ¬ co 0 2 ≤ i by omega, if_false, pk_mul, nI_add, ab_ixN (show 13 * l + 6 + i < 26 by omega) (by decide), nI_clamp (show 13 * l + 6 + i < 2 ^ 31 by omega), hS.sd (show i < 4 by omega), s_has (show sh 1 i < 2 ^ 31 by omega) ht, nI_b, nI_1shl (show i < 31 by omega), nx_or', mk]
    by_cases hb : (sh 1 i).testBit t = true <;> simp [hb]
  · rw [e128_5]
    simp only [e128_0, e128_1, e128_2, e128_3, e128_7, e128_8, e128_11, e128_14, e128_15, e128_16, e128_19, e128_21, e128_22, e128_23, e128_25, e128_26, e128_28, e128_29, e128_30, e128_31, e128_34, e128_37, e128_38, e128_40, e128_41, e128_44, e128_45, e128_46, e128_47, e128_50, e128_53, e128_54, bI_s, bL_s, bV_s, rv_s1, nl_i, nl_a, nl_n, w8_0, w8_i, w8_a, w8_l, ct_i, ct_a, b01_0, b01_1, b01_b, kd_87, hC.hs, Int32.le_refl, if_true]
    rfl
theorem m_counted (hF : Fx R) (hC : MC I co) (hl : l ≤ 1) (hS : MS (I 94) (13 * l) co sh) (hw : WF co) (hv : WS co sh) (ht : t < co 0 3) : cl Z 127 [.ref 87, .int (nI l), .int (nI t)] I R L = some (some (.int (nI (cntf co sh t))), I, R, L) := by
  have h6 := hw.t6
  rw [n127]
  simp only [e127_0, e127_1, e127_2, e127_3, e127_6, e127_7, e127_10, e127_12, e127_13, e127_14, e127_16, e127_17, e127_18, e127_19, e127_20, e127_21, bI_s, bL_s, bV_s, rv_s1, nl_i, nl_a, nl_n, w8_0, w8_i, w8_a, w8_l, ct_i, ct_a, b01_0, b01_1, b01_b, hF.m4, hF.m5, hF.m6, hF.m7, hF.m8, hF.m9, hF.m10, hF.m16, hF.m17, hF.m18, hF.m19, hF.m20, hF.m21, hF.m22, hF.m23, hF.m29, hF.m30, hF.m35, hF.m37, hF.m38, hF.m40, hF.m41, hF.m43, hF.m44, kd_87, al_94, m_saidTo hF hC hl hS hw hv (show t < 31 by omega), pk_mul, nI_add, ab_ixN (show 13 * l + 11 < 26 by omega) (by decide), nI_clamp (show 13 * l + 11 < 2 ^ 31 by omega), hS.ow, nI_andn]
  rfl
theorem m_stays (hF : Fx R) (hC : MC I co) (hl : l ≤ 1) (hS : MS (I 94) (13 * l) co sh) (hw : WF co) (hv : WS co sh) (ht : t < co 0 3) : cl Z 129 [.ref 87, .int (nI l), .int (nI t)] I R L = some (some (.int (nI (stayf co sh t).toNat)), I, R, L) := by
  have h6 := hw.t6
  have htp := top_lt hw ht
  have hc := cntf_16 hw sh (top co t)
  have h2 := hv.2.2.1
  rw [n129]
  simp only [e129_0, e129_1, e129_2, e129_5, e129_6, e129_7, e129_10, e129_12, e129_13, e129_14, e129_16, e129_17, e129_18, e129_19, e129_22, e129_25, e129_26, e129_27, e129_28, e129_29, e129_30, e129_33, e129_36, e129_39, e129_40, e129_43, e129_44, bI_s, bL_s, bV_s, rv_s1, nl_i, nl_a, nl_n, w8_0, w8_i, w8_a, w8_l, ct_i, ct_a, b01_0, b01_1, b01_b, hF.m4, hF.m5, hF.m6, hF.m7, hF.m8, hF.m9, hF.m10, hF.m16, hF.m17, hF.m18, hF.m19, hF.m20, hF.m21, hF.m22, hF.m23, hF.m29, hF.m30, hF.m35, hF.m37, hF.m38, hF.m40, hF.m41, hF.m43, hF.m44, kd_87, al_94, m_outermost hF hC hw ht, pk_mul, nI_add, ab_ixN (show 13 * l + 10 < 26 by omega) (by decide), nI_clamp (show 13 * l + 10 < 2 ^ 31 by omega), hS.st, s_has (show sh 2 0 < 2 ^ 31 by omega) (show top co t < 31 by omega), m_counted hF hC hl hS hw hv htp, m_isHeld hF hC hw htp (show cntf co sh (top co t) < 2 ^ 31 by omega), nI_b]
  unfold stayf
  cases (sh 2 0).testBit (top co t) <;> cases heldf co (top co t) (cntf co sh (top co t)) <;> simp
theorem m_staying (hF : Fx R) (hC : MC I co) (hl : l ≤ 1) (hS : MS (I 94) (13 * l) co sh) (hw : WF co) (hv : WS co sh) : cl Z 137 [.ref 87, .int (nI l)] I R L = some (some (.int (nI (mk (stayf co sh) (co 0 3)))), I, R, L) := by
  have h6 := hw.t6
  rw [n137]
  simp only [e137_0, e137_1, e137_2, e137_3, e137_5, e137_6, e137_9, e137_12, e137_13, e137_14, e137_15, e137_16, e137_19, e137_22, e137_23, e137_24, e137_25, e137_28, e137_29, e137_30, e137_31, e137_34, e137_37, e137_38, bI_s, bL_s, bV_s, rv_s1, nl_i, nl_a, nl_n, w8_0, w8_i, w8_a, w8_l, ct_i, ct_a, b01_0, b01_1, b01_b]
  refine loop_up (F := fun i => ex Z 0 0 137 4 [some (.ref 87), some (.int (nI l)), some (.int (nI (mk (stayf co sh) i))), some (.int (nI i))] [] I R L) (co 0 3) (fun i hi => ?_) ?_ 0 (Nat.zero_le _)
  · rw [e137_4]
    simp only [e137_0, e137_1, e137_2, e137_3, e137_5, e137_6, e137_9, e137_12, e137_13, e137_14, e137_15, e137_16, e137_19, e137_22, e137_23, e137_24, e137_25, e137_28, e137_29, e137_30, e137_31, e137_34, e137_37, e137_38, bI_s, bL_s, bV_s, rv_s1, nl_i, nl_a, nl_n, w8_0, w8_i, w8_a, w8_l, ct_i, ct_a, b01_0, b01_1, b01_b, kd_87, hC.th, nI_leI (show co 0 3 < 2 ^ 31 by omega) (show i < 2 ^ 31 by omega), show ¬ co 0 3 ≤ i by omega, if_false, m_stays hF hC hl hS hw hv hi, nI_b, nI_add, mk, nI_1shl (show i < 31 by omega), nx_or']
    cases stayf co sh i <;> simp
  · rw [e137_4]
    simp only [e137_0, e137_1, e137_2, e137_3, e137_5, e137_6, e137_9, e137_12, e137_13, e137_14, e137_15, e137_16, e137_19, e137_22, e137_23, e137_24, e137_25, e137_28, e137_29, e137_30, e137_31, e137_34, e137_37, e137_38, bI_s, bL_s, bV_s, rv_s1, nl_i, nl_a, nl_n, w8_0, w8_i, w8_a, w8_l, ct_i, ct_a, b01_0, b01_1, b01_b, kd_87, hC.th, Int32.le_refl, if_true]
end MODEL
