/-! the class's keeping: purses and ways -/
def OffK (I J : ab_I) : Prop := ∀ o, o ≠ 27 → o ≠ 29 → o ≠ 30 → J o = I o
theorem OffK.rf {I : ab_I} : OffK I I := fun _ _ _ _ => rfl
theorem OffK.tr {I J K : ab_I} (h1 : OffK I J) (h2 : OffK J K) : OffK I K := fun o a b c => (h2 o a b c).trans (h1 o a b c)
theorem OffK.w {I : ab_I} {o k : Nat} {v : Int32} (h : o = 27 ∨ o = 29 ∨ o = 30) : OffK I (wI I o k v) := fun p a b c => by
  funext j
  rw [wI_o (by omega)]
/-- what the keeping reads -/
def KC (I : ab_I) (c q : Nat) (co s : Co) : Prop := (XC I c co ∧ XS I q co s) ∧ (∀ p, p < 625 → I 28 p = nI (brf p)) ∧ ∀ k, k < 16 → I 1001 k = nI (prc k)
theorem KC.off {I J : ab_I} {c q : Nat} {co s : Co} (h : KC I c q co s) (hc : IsC c) (hq : IsS q) (o : OffK I J) : KC J c q co s := by
  unfold IsC at hc
  unfold IsS at hq
  refine ⟨⟨h.1.1.off fun k hk => o _ (by omega) (by omega) (by omega), h.1.2.off fun k hk => o _ (by omega) (by omega) (by omega)⟩, ?_⟩
  rw [o 28 (by decide) (by decide) (by decide), o 1001 (by decide) (by decide) (by decide)]
  exact h.2
def pu (co s : Co) (x : Nat) : Nat → Nat
  | 0 => 0
  | n + 1 => pu co s x n + (x.testBit n).toNat * (co 2 n - pc (s 1 n) 6) * 5 ^ n
theorem pu_le {co s : Co} (hw : WF co) (x : Nat) : ∀ n, n ≤ co 0 2 → pu co s x n ≤ 5 ^ n - 1
  | 0, _ => Nat.le_refl _
  | n + 1, h => by
    have ih := pu_le (s := s) hw x n (by omega)
    have h4 := (hw.2.2.2.2.2.1 n (by omega)).2
    have hp : 0 < 5 ^ n := Nat.pow_pos (by decide)
    have h5 : (x.testBit n).toNat * (co 2 n - pc (s 1 n) 6) ≤ 4 := by
      cases x.testBit n <;> simp <;> omega
    have h6 : (x.testBit n).toNat * (co 2 n - pc (s 1 n) 6) * 5 ^ n ≤ 4 * 5 ^ n := Nat.mul_le_mul_right _ h5
    rw [pu, Nat.pow_succ]
    omega
theorem pu_625 {co s : Co} (hw : WF co) (x : Nat) : pu co s x (co 0 2) < 625 := by
  have h := pu_le (s := s) hw x (co 0 2) (Nat.le_refl _)
  have h2 : 5 ^ co 0 2 ≤ 5 ^ 4 := Nat.pow_le_pow_right (by decide) hw.h4
  have h3 : 0 < 5 ^ co 0 2 := Nat.pow_pos (by decide)
  omega
theorem prc_pow : ∀ i, i < 4 → prc (2 ^ i) = 5 ^ i := by decide
theorem prc_156 : ∀ x, x < 16 → prc x ≤ 156 := by decide +kernel
def wtn (co s : Co) (K : Nat) : Nat → Nat
  | 0 => 0
  | n + 1 => if K.testBit n = true ∧ stayf co s n = false then wtn co s K n ||| 2 ^ top co n else wtn co s K n
theorem wtn_bit {co s : Co} {K τ : Nat} : ∀ n, (wtn co s K n).testBit τ = true ↔ ∃ t, t < n ∧ K.testBit t = true ∧ stayf co s t = false ∧ top co t = τ
  | 0 => by simp [wtn]
  | n + 1 => by
    rw [wtn]
    by_cases h : K.testBit n = true ∧ stayf co s n = false
    · rw [if_pos h, Nat.testBit_or, Nat.testBit_two_pow, Bool.or_eq_true, wtn_bit n, decide_eq_true_iff]
      constructor
      · rintro (⟨t, a, b⟩ | a)
        · exact ⟨t, by omega, b⟩
        · exact ⟨n, by omega, h.1, h.2, a⟩
      · rintro ⟨t, a, b, c, d⟩
        by_cases e : t = n
        · subst e
          exact Or.inr d
        · exact Or.inl ⟨t, by omega, b, c, d⟩
    · rw [if_neg h, wtn_bit n]
      constructor
      · rintro ⟨t, a, b⟩
        exact ⟨t, by omega, b⟩
      · rintro ⟨t, a, b, c, d⟩
        by_cases e : t = n
        · subst e
          exact absurd ⟨b, c⟩ h
        · exact ⟨t, by omega, b, c, d⟩
theorem wtn_lt {co s : Co} (hw : WF co) {K : Nat} : ∀ n, n ≤ co 0 3 → wtn co s K n < 2 ^ 6
  | 0, _ => by simp [wtn]
  | n + 1, h => by
    have ih := wtn_lt (s := s) hw (K := K) n (by omega)
    have ht := top_lt hw (show n < co 0 3 by omega)
    have h6 := hw.t6
    rw [wtn]
    split
    · exact Nat.or_lt_two_pow ih (Nat.pow_lt_pow_right (by decide) (by omega))
    · exact ih
def lk32 (co s : Co) (t : Nat) : Int32 := if co 0 0 = 3 then nI 2 - nI (pc (cntf co s t) 6) else nI 1
/-- how many of them -/
def wcn (P : Nat → Bool) : Nat → Nat
  | 0 => 0
  | n + 1 => wcn P n + (P n).toNat
theorem wcn_le (P : Nat → Bool) : ∀ n, wcn P n ≤ n
  | 0 => Nat.le_refl 0
  | n + 1 => by
    have := wcn_le P n
    have h2 : (P n).toNat ≤ 1 := Bool.toNat_le _
    rw [wcn]
    omega
theorem wcn_mono (P : Nat → Bool) {a : Nat} : ∀ b, a ≤ b → wcn P a ≤ wcn P b
  | 0, h => by rw [show a = 0 by omega]; exact Nat.le_refl _
  | b + 1, h => by
    by_cases e : a = b + 1
    · rw [e]
      exact Nat.le_refl _
    · have := wcn_mono P (a := a) b (by omega)
      rw [wcn]
      omega
def Ways (I : ab_I) (P : Nat → Bool) (N : Nat) : Prop := I 27 3 = nI (wcn P N) ∧ ∀ x, x < N → P x = true → I 30 (wcn P x) = nI x
section KEEP1
variable {Z c q t : Nat} {co s : Co} {I : ab_I} {R : ab_R} {L : ab_L}
theorem k_purseOf (hF : Fx R) (hc : IsC c) (hq : IsS q) (hK : KC I c q co s) (hw : WF co) (hv : WS co s) {x : Nat} (hx : x < 16) : cl Z 26 [.ref 27, .ref c, .ref q, .int (nI x)] I R L = some (some (.int (nI (pu co s x (co 0 2)))), I, R, L) := by
  have h4 := hw.h4
  have hlt := pu_625 (s := s) hw x
  rw [n26]
  simp only [e26_0, e26_1, e26_3, e26_4, e26_8, e26_9, e26_12, e26_15, e26_17, e26_18, e26_20, e26_23, e26_24, e26_25, e26_27, e26_30, e26_31, e26_34, e26_35, e26_37, e26_38, e26_39, e26_40, e26_41, e26_43, e26_46, e26_49, e26_51, e26_54, e26_57, bI_s, bL_s, bV_s, rv_s1, nl_i, nl_a, nl_n, w8_0, w8_i, w8_a, w8_l, ct_i, ct_a, b01_0, b01_1, b01_b]
  refine loop_up (F := fun i => ex Z 0 0 26 6 [some (.ref 27), some (.ref c), some (.ref q), some (.int (nI x)), some (.int (nI (pu co s x i))), some (.int (nI i))] [] I R L) (co 0 2) (fun i hi => ?_) ?_ 0 (Nat.zero_le _)
  · have h2i : 2 ^ i < 16 := Nat.lt_of_lt_of_le (Nat.pow_lt_pow_right (by decide) (show i < 4 by omega)) (by decide)
    have hp := hK.2.2 (2 ^ i) h2i
    rw [prc_pow i (by omega)] at hp
    rw [e26_6]
    simp only [e26_0, e26_1, e26_3, e26_4, e26_8, e26_9, e26_12, e26_15, e26_17, e26_18, e26_20, e26_23, e26_24, e26_25, e26_27, e26_30, e26_31, e26_34, e26_35, e26_37, e26_38, e26_39, e26_40, e26_41, e26_43, e26_46, e26_49, e26_51, e26_54, e26_57, bI_s, bL_s, bV_s, rv_s1, nl_i, nl_a, nl_n, w8_0, w8_i, w8_a, w8_l, ct_i, ct_a, b01_0, b01_1, b01_b, hF.x0, hF.x2, hF.x5, hF.x6, hF.x7, hF.x10, hF.x12, hF.x13, hF.x15, hF.k0, hF.k1, hF.k2, hF.m4, hF.m5, hF.m6, hF.m7, hF.m8, hF.m9, hF.m10, hF.m16, hF.m17, hF.m18, hF.m19, hF.m20, hF.m21, hF.m22, hF.m23, hF.m29, hF.m30, hF.m35, hF.m37, hF.m38, hF.m40, hF.m41, hF.m43, hF.m44, hF.q0, hF.q1, kd_0, kd_2, kd_3, kd_11, kd_19, kd_22, kd_27, kd_87, al_1, al_4, al_5, al_6, al_7, al_8, al_9, al_10, al_12, al_13, al_14, al_15, al_16, al_17, al_18, al_20, al_21, al_23, al_24, al_28, al_29, al_30, al_31, al_32, al_1001, al_1002, ql_25, ql_26, Nat.reduceLT, kdC hc, hK.1.1.hs, nI_leI (show co 0 2 < 2 ^ 31 by omega) (show i < 2 ^ 31 by omega), show ¬ co 0 2 ≤ i by omega, if_false, s_bit (show x < 2 ^ 31 by omega) (show i < 31 by omega), s_breathsLeft hF hc hq hK.1.1 hK.1.2 hw hv hi, nI_1shl (show i < 31 by omega), ab_ixN h2i (show 16 < 2 ^ 31 by decide), nI_clamp (show 2 ^ i < 2 ^ 31 by omega), hp, pk_mul, nI_add, pu]
  · rw [e26_6]
    simp only [e26_0, e26_1, e26_3, e26_4, e26_8, e26_9, e26_12, e26_15, e26_17, e26_18, e26_20, e26_23, e26_24, e26_25, e26_27, e26_30, e26_31, e26_34, e26_35, e26_37, e26_38, e26_39, e26_40, e26_41, e26_43, e26_46, e26_49, e26_51, e26_54, e26_57, bI_s, bL_s, bV_s, rv_s1, nl_i, nl_a, nl_n, w8_0, w8_i, w8_a, w8_l, ct_i, ct_a, b01_0, b01_1, b01_b, kdC hc, hK.1.1.hs, Int32.le_refl, if_true, nI_min (show pu co s x (co 0 2) < 2 ^ 31 by omega) (show 624 < 2 ^ 31 by decide), Nat.min_eq_left (show pu co s x (co 0 2) ≤ 624 by omega)]
theorem k_worthWithin (hF : Fx R) (hc : IsC c) (hC : XC I c co) (hw : WF co) {τ : Nat} (hτ : τ < 2 ^ 31) : cl Z 36 [.ref 27, .ref c, .int (nI τ)] I R L = some (some (.int (nI (wwf co τ))), I, R, L) := by
  have h6 := hw.t6
  rw [n36]
  simp only [e36_0, e36_1, e36_2, e36_3, e36_7, e36_8, e36_11, e36_14, e36_15, e36_16, e36_18, e36_21, e36_22, e36_25, e36_26, e36_29, e36_31, e36_32, e36_35, e36_36, e36_37, e36_38, e36_41, e36_44, e36_45, bI_s, bL_s, bV_s, rv_s1, nl_i, nl_a, nl_n, w8_0, w8_i, w8_a, w8_l, ct_i, ct_a, b01_0, b01_1, b01_b]
  refine loop_up (F := fun i => ex Z 0 0 36 5 [some (.ref 27), some (.ref c), some (.int (nI τ)), some (.int (nI (wwn co τ i))), some (.int (nI i))] [] I R L) (co 0 3) (fun i hi => ?_) ?_ 0 (Nat.zero_le _)
  · have ht := top_lt hw hi
    rw [e36_5]
    simp only [e36_0, e36_1, e36_2, e36_3, e36_7, e36_8, e36_11, e36_14, e36_15, e36_16, e36_18, e36_21, e36_22, e36_25, e36_26, e36_29, e36_31, e36_32, e36_35, e36_36, e36_37, e36_38, e36_41, e36_44, e36_45, bI_s, bL_s, bV_s, rv_s1, nl_i, nl_a, nl_n, w8_0, w8_i, w8_a, w8_l, ct_i, ct_a, b01_0, b01_1, b01_b, kdC hc, hF.c0 hc, hF.c1 hc, hF.c2 hc, hF.c3 hc, hF.c4 hc, hF.c5 hc, hF.c6 hc, alC1 hc, ltC1 hc, alC2 hc, ltC2 hc, alC3 hc, ltC3 hc, alC4 hc, ltC4 hc, alC5 hc, ltC5 hc, alC6 hc, ltC6 hc, alC7 hc, ltC7 hc, hC.th, nI_leI (show co 0 3 < 2 ^ 31 by omega) (show i < 2 ^ 31 by omega), show ¬ co 0 3 ≤ i by omega, if_false, s_top hF hc hC hw hi, nI_eq (show top co i < 2 ^ 31 by omega) hτ, ab_ixN (show i < 6 by omega) (show 6 < 2 ^ 31 by decide), nI_clamp (show i < 2 ^ 31 by omega), hC.a5 hi, nI_add, wwn]
    by_cases e : top co i = τ <;> simp [e]
  · rw [e36_5]
    simp only [e36_0, e36_1, e36_2, e36_3, e36_7, e36_8, e36_11, e36_14, e36_15, e36_16, e36_18, e36_21, e36_22, e36_25, e36_26, e36_29, e36_31, e36_32, e36_35, e36_36, e36_37, e36_38, e36_41, e36_44, e36_45, bI_s, bL_s, bV_s, rv_s1, nl_i, nl_a, nl_n, w8_0, w8_i, w8_a, w8_l, ct_i, ct_a, b01_0, b01_1, b01_b, kdC hc, hC.th, Int32.le_refl, if_true]
    rfl
theorem k_wantedTops (hF : Fx R) (hc : IsC c) (hq : IsS q) (hC : XC I c co) (hS : XS I q co s) (hw : WF co) (hv : WS co s) {K : Nat} (hK : K < 2 ^ 31) : cl Z 24 [.ref 27, .ref c, .ref q, .int (nI K)] I R L = some (some (.int (nI (wtn co s K (co 0 3)))), I, R, L) := by
  have h6 := hw.t6
  rw [n24]
  simp only [e24_0, e24_1, e24_3, e24_4, e24_8, e24_9, e24_12, e24_15, e24_16, e24_18, e24_21, e24_22, e24_25, e24_26, e24_27, e24_29, e24_32, e24_35, e24_37, e24_38, e24_39, e24_41, e24_44, e24_45, e24_46, e24_48, e24_51, e24_54, e24_56, bI_s, bL_s, bV_s, rv_s1, nl_i, nl_a, nl_n, w8_0, w8_i, w8_a, w8_l, ct_i, ct_a, b01_0, b01_1, b01_b]
  refine loop_up (F := fun i => ex Z 0 0 24 6 [some (.ref 27), some (.ref c), some (.ref q), some (.int (nI K)), some (.int (nI (wtn co s K i))), some (.int (nI i))] [] I R L) (co 0 3) (fun i hi => ?_) ?_ 0 (Nat.zero_le _)
  · have ht := top_lt hw hi
    rw [e24_6]
    simp only [e24_0, e24_1, e24_3, e24_4, e24_8, e24_9, e24_12, e24_15, e24_16, e24_18, e24_21, e24_22, e24_25, e24_26, e24_27, e24_29, e24_32, e24_35, e24_37, e24_38, e24_39, e24_41, e24_44, e24_45, e24_46, e24_48, e24_51, e24_54, e24_56, bI_s, bL_s, bV_s, rv_s1, nl_i, nl_a, nl_n, w8_0, w8_i, w8_a, w8_l, ct_i, ct_a, b01_0, b01_1, b01_b, kdC hc, hC.th, nI_leI (show co 0 3 < 2 ^ 31 by omega) (show i < 2 ^ 31 by omega), show ¬ co 0 3 ≤ i by omega, if_false, s_bit hK (show i < 31 by omega), nI_bt, s_stays hF hc hq hC hS hw hv hi, nI_b, s_top hF hc hC hw hi, nI_1shl (show top co i < 31 by omega), nx_or', nI_add, wtn]
    cases K.testBit i <;> cases stayf co s i <;> simp
  · rw [e24_6]
    simp only [e24_0, e24_1, e24_3, e24_4, e24_8, e24_9, e24_12, e24_15, e24_16, e24_18, e24_21, e24_22, e24_25, e24_26, e24_27, e24_29, e24_32, e24_35, e24_37, e24_38, e24_39, e24_41, e24_44, e24_45, e24_46, e24_48, e24_51, e24_54, e24_56, bI_s, bL_s, bV_s, rv_s1, nl_i, nl_a, nl_n, w8_0, w8_i, w8_a, w8_l, ct_i, ct_a, b01_0, b01_1, b01_b, kdC hc, hC.th, Int32.le_refl, if_true]
theorem k_freeFor (hF : Fx R) (hc : IsC c) (hs : IsS q) (hC : XC I c co) (hS : XS I q co s) (hw : WF co) (hv : WS co s) (ht : t < co 0 3) : cl Z 29 [.ref 27, .ref c, .ref q, .int (nI t)] I R L = some (some (.int (nI (frf co s t))), I, R, L) := by
  have h4 := hw.h4
  have h6 := hw.t6
  rw [n29]
  simp only [e29_0, e29_1, e29_3, e29_4, e29_8, e29_9, e29_12, e29_15, e29_16, e29_17, e29_19, e29_20, e29_23, e29_26, e29_27, e29_30, e29_32, e29_33, e29_34, e29_37, e29_40, e29_41, e29_44, e29_45, e29_47, e29_49, e29_51, e29_54, e29_55, e29_57, e29_58, e29_61, e29_62, e29_63, e29_65, e29_68, e29_71, e29_73, e29_74, e29_77, e29_78, e29_79, e29_80, bI_s, bL_s, bV_s, rv_s1, nl_i, nl_a, nl_n, w8_0, w8_i, w8_a, w8_l, ct_i, ct_a, b01_0, b01_1, b01_b]
  have key := loop_all (P := fun i => ∀ y, ex Z 0 0 29 6 [some (.ref 27), some (.ref c), some (.ref q), some (.int (nI t)), some (.int (nI (mk (fun h => nearf co s h t && !(s 1 h).testBit t) i))), some (.int (nI i)), y] [] I R L = some (some (.int (nI (frf co s t))), I, R, L)) (co 0 2) (fun i hi ih y => ?_) (fun y => ?_) 0 (Nat.zero_le _)
  · exact key none
  · have hb := hv.2.1 i (by omega)
    rw [e29_6]
    simp only [e29_0, e29_1, e29_3, e29_4, e29_8, e29_9, e29_12, e29_15, e29_16, e29_17, e29_19, e29_20, e29_23, e29_26, e29_27, e29_30, e29_32, e29_33, e29_34, e29_37, e29_40, e29_41, e29_44, e29_45, e29_47, e29_49, e29_51, e29_54, e29_55, e29_57, e29_58, e29_61, e29_62, e29_63, e29_65, e29_68, e29_71, e29_73, e29_74, e29_77, e29_78, e29_79, e29_80, bI_s, bL_s, bV_s, rv_s1, nl_i, nl_a, nl_n, w8_0, w8_i, w8_a, w8_l, ct_i, ct_a, b01_0, b01_1, b01_b, kdC hc, hF.c0 hc, hF.c1 hc, hF.c2 hc, hF.c3 hc, hF.c4 hc, hF.c5 hc, hF.c6 hc, alC1 hc, ltC1 hc, alC2 hc, ltC2 hc, alC3 hc, ltC3 hc, alC4 hc, ltC4 hc, alC5 hc, ltC5 hc, alC6 hc, ltC6 hc, alC7 hc, ltC7 hc, kdS hs, hF.s0 hs, hF.s1 hs, alS1 hs, alS2 hs, ltS1 hs, ltS2 hs, hC.hs, nI_leI (show co 0 2 < 2 ^ 31 by omega) (show i < 2 ^ 31 by omega), show ¬ co 0 2 ≤ i by omega, if_false, s_isNear hF hc hs hC hS hw hv hi ht, nI_b, ab_ixN (show i < 4 by omega) (show 4 < 2 ^ 31 by decide), nI_clamp (show i < 2 ^ 31 by omega), hS.sd (show i < 4 by omega), s_bit (show s 1 i < 2 ^ 31 by omega) (show t < 31 by omega), nI_1shl (show i < 31 by omega), nx_or', nI_add, nI10, if_true]
    have i1 := fun b : Bool => ih (some (.int (nI b.toNat)))
    have m1 : mk (fun h => nearf co s h t && !(s 1 h).testBit t) (i + 1) = mk (fun h => nearf co s h t && !(s 1 h).testBit t) i ||| (if (nearf co s i t && !(s 1 i).testBit t) = true then 2 ^ i else 0) := rfl
    rw [m1] at i1
    have it := i1 true
    have iff := i1 false
    rw [Bool.toNat_true] at it
    rw [Bool.toNat_false] at iff
    cases hn : nearf co s i t <;> cases hsb : (s 1 i).testBit t
    all_goals
      simp only [hn, hsb, Bool.not_true, Bool.not_false, Bool.and_true, Bool.and_false, Bool.false_and, Bool.true_eq_false, Bool.false_eq_true, if_true, if_false, Nat.or_zero] at it iff ⊢
      first
      | exact it
      | exact iff
  · rw [e29_6]
    simp only [e29_0, e29_1, e29_3, e29_4, e29_8, e29_9, e29_12, e29_15, e29_16, e29_17, e29_19, e29_20, e29_23, e29_26, e29_27, e29_30, e29_32, e29_33, e29_34, e29_37, e29_40, e29_41, e29_44, e29_45, e29_47, e29_49, e29_51, e29_54, e29_55, e29_57, e29_58, e29_61, e29_62, e29_63, e29_65, e29_68, e29_71, e29_73, e29_74, e29_77, e29_78, e29_79, e29_80, bI_s, bL_s, bV_s, rv_s1, nl_i, nl_a, nl_n, w8_0, w8_i, w8_a, w8_l, ct_i, ct_a, b01_0, b01_1, b01_b, kdC hc, hF.c0 hc, hF.c1 hc, hF.c2 hc, hF.c3 hc, hF.c4 hc, hF.c5 hc, hF.c6 hc, alC1 hc, ltC1 hc, alC2 hc, ltC2 hc, alC3 hc, ltC3 hc, alC4 hc, ltC4 hc, alC5 hc, ltC5 hc, alC6 hc, ltC6 hc, alC7 hc, ltC7 hc, kdS hs, hF.s0 hs, hF.s1 hs, alS1 hs, alS2 hs, ltS1 hs, ltS2 hs, hC.hs, Int32.le_refl, if_true, hS.ow, nI_andn]
    rfl
theorem k_lacking (hc : IsC c) (hC : XC I c co) (hw : WF co) : cl Z 30 [.ref 27, .ref c, .int (nI (cntf co s t))] I R L = some (some (.int (lk32 co s t)), I, R, L) := by
  have h3 := hw.2.2.1
  have h16 := cntf_16 hw s t
  rw [n30]
  simp only [e30_0, e30_1, e30_4, e30_5, e30_8, e30_9, e30_10, e30_13, e30_14, e30_17, e30_18, bI_s, bL_s, bV_s, rv_s1, nl_i, nl_a, nl_n, w8_0, w8_i, w8_a, w8_l, ct_i, ct_a, b01_0, b01_1, b01_b, kdC hc, hC.lw, nI_eq (show co 0 0 < 2 ^ 31 by omega) (show 3 < 2 ^ 31 by decide), s_ones (show cntf co s t < 64 by omega)]
  unfold lk32
  by_cases e : co 0 0 = 3 <;> simp [e]
theorem k_affords (hF : Fx R) (hK : KC I c q co s) {p x : Nat} (hp : p < 625) (hx : x < 16) : cl Z 32 [.ref 27, .int (nI p), .int (nI x)] I R L = some (some (.int (nI (fit p x).toNat)), I, R, L) := by
  have hlo : x ^^^ (x &&& brf p) < 2 ^ 4 := andn_lt (by omega)
  have h156 := prc_156 x hx
  rw [n32]
  simp only [e32_0, e32_1, e32_2, e32_5, e32_6, e32_7, e32_8, e32_9, e32_10, e32_13, e32_14, e32_17, e32_18, e32_19, e32_22, e32_23, e32_26, e32_27, bI_s, bL_s, bV_s, rv_s1, nl_i, nl_a, nl_n, w8_0, w8_i, w8_a, w8_l, ct_i, ct_a, b01_0, b01_1, b01_b, hF.x0, hF.x2, hF.x5, hF.x6, hF.x7, hF.x10, hF.x12, hF.x13, hF.x15, hF.k0, hF.k1, hF.k2, hF.m4, hF.m5, hF.m6, hF.m7, hF.m8, hF.m9, hF.m10, hF.m16, hF.m17, hF.m18, hF.m19, hF.m20, hF.m21, hF.m22, hF.m23, hF.m29, hF.m30, hF.m35, hF.m37, hF.m38, hF.m40, hF.m41, hF.m43, hF.m44, hF.q0, hF.q1, kd_0, kd_2, kd_3, kd_11, kd_19, kd_22, kd_27, kd_87, al_1, al_4, al_5, al_6, al_7, al_8, al_9, al_10, al_12, al_13, al_14, al_15, al_16, al_17, al_18, al_20, al_21, al_23, al_24, al_28, al_29, al_30, al_31, al_32, al_1001, al_1002, ql_25, ql_26, Nat.reduceLT, ab_ixN hp (show 625 < 2 ^ 31 by decide), nI_clamp (show p < 2 ^ 31 by omega), hK.2.1 p hp, nI_andn, nI_eq (show x ^^^ (x &&& brf p) < 2 ^ 31 by omega) (show 0 < 2 ^ 31 by decide), ab_ixN hx (show 16 < 2 ^ 31 by decide), nI_clamp (show x < 2 ^ 31 by omega), hK.2.2 x hx, nI_ltI (show p < 2 ^ 31 by omega) (show prc x < 2 ^ 31 by omega)]
  by_cases h : fit p x = true
  · have h2 := prc_le hx h
    have h3 := of_decide_eq_true h
    rw [h, h3]
    simp [show ¬ p < prc x by omega]
  · have h3 : ¬ x ^^^ (x &&& brf p) = 0 := fun w => h (decide_eq_true w)
    have h4 : fit p x = false := by simpa using h
    rw [h4]
    simp [h3]
end KEEP1
