/-! the worth that can be kept, in the class -/
theorem kf_hi {Q : Nat → Bool} {f : Nat → Nat} {w p N : Nat} (h : ∀ j, N ≤ j → Q j = false) : ∀ d, kf Q f w p (N + d) = kf Q f w p N
  | 0 => rfl
  | d + 1 => by rw [← Nat.add_assoc, kf, if_neg (by rw [h _ (by omega)]; decide), kf_hi h d]
theorem wwn_le {co : Co} (hw : WF co) {τ : Nat} : ∀ n, n ≤ co 0 3 → wwn co τ n ≤ 9 * n
  | 0, _ => Nat.le_refl _
  | n + 1, h => by
    have ih := wwn_le hw (τ := τ) n (by omega)
    have := (hw.2.2.2.2.2.2 n (by omega)).2.2.2.1
    rw [wwn]
    split <;> omega
theorem wwf_54 {co : Co} (hw : WF co) (τ : Nat) : wwf co τ ≤ 54 := by
  have := wwn_le hw (τ := τ) (co 0 3) (Nat.le_refl _)
  have h6 := hw.t6
  unfold wwf
  omega
theorem kst_b {co s : Co} (hw : WF co) {t p B : Nat} {f : Nat → Nat} (h : ∀ r, r ≤ p → f r ≤ B) : kst co s t f p ≤ B + 54 := by
  have hb := wwf_54 hw t
  refine kst_le ?_ fun x _ _ _ => ?_
  · have := h p (Nat.le_refl _)
    omega
  · have := h (p - prc x) (Nat.sub_le _ _)
    omega
theorem Ck_le {co s : Co} (hw : WF co) : ∀ n p, Ck co s n p ≤ 54 * n
  | 0, _ => Nat.le_refl _
  | n + 1, p => by
    rw [Ck]
    split
    · have := kst_b (s := s) hw (t := n) (p := p) (f := Ck co s n) (fun r _ => Ck_le hw n r)
      omega
    · have := Ck_le (s := s) hw n p
      omega
theorem kst_z {co s : Co} {t : Nat} {f : Nat → Nat} (h : 1 ≤ lkf co s t) : kst co s t f 0 = f 0 := by
  refine Nat.le_antisymm (kst_le (Nat.le_refl _) fun x hx h1 h2 => ?_) kst_0
  exfalso
  have f2 := (fit_iff hx).mp h2
  have hx0 : x = 0 := by
    apply Nat.eq_of_testBit_eq
    intro j
    rw [Nat.zero_testBit]
    cases hb : x.testBit j
    · rfl
    · by_cases hj : j < 4
      · exact absurd (by unfold dig; rw [Nat.zero_div]) (f2 j hj hb)
      · rw [Nat.testBit_lt_two_pow (Nat.lt_of_lt_of_le hx (Nat.pow_le_pow_right (n := 2) (by decide) (show 4 ≤ j by omega)))] at hb
        exact (Bool.false_ne_true hb).elim
  subst hx0
  unfold wyf at h1
  rw [Bool.and_eq_true, Bool.and_eq_true] at h1
  have := of_decide_eq_true h1.2.1
  rw [pc_0] at this
  omega
theorem pu_mono {co s : Co} {x : Nat} : ∀ n, n ≤ co 0 2 → pu co s x n ≤ pu co s (2 ^ co 0 2 - 1) n
  | 0, _ => Nat.le_refl _
  | n + 1, h => by
    have ih := pu_mono (co := co) (s := s) (x := x) n (by omega)
    have hb : (2 ^ co 0 2 - 1).testBit n = true := by
      rw [Nat.testBit_two_pow_sub_one]
      exact decide_eq_true (by omega)
    have h1 : (x.testBit n).toNat ≤ 1 := Bool.toNat_le _
    have h2 : (x.testBit n).toNat * (co 2 n - pc (s 1 n) 6) * 5 ^ n ≤ 1 * (co 2 n - pc (s 1 n) 6) * 5 ^ n := Nat.mul_le_mul_right _ (Nat.mul_le_mul_right _ h1)
    rw [pu, pu, hb]
    have e : (true : Bool).toNat = 1 := rfl
    rw [e]
    omega
theorem wq_bit {co s : Co} (hw : WF co) {t : Nat} (ht : t < co 0 3) : (wtn co s (2 ^ co 0 3 - 1) (co 0 3)).testBit t = wqf co s t := by
  have key : (wtn co s (2 ^ co 0 3 - 1) (co 0 3)).testBit t = true ↔ wqf co s t = true := by
    rw [wtn_bit]
    unfold wqf
    rw [Bool.and_eq_true, Bool.not_eq_true']
    constructor
    · rintro ⟨u, a, b, cc, d⟩
      have h1 := tp_top hw a
      have h2 := stay_top (s := s) hw a
      rw [d] at h1 h2
      exact ⟨h1, h2.trans cc⟩
    · rintro ⟨a, b⟩
      refine ⟨t, ht, ?_, b, top_tp a⟩
      rw [Nat.testBit_two_pow_sub_one]
      exact decide_eq_true ht
  cases h1 : (wtn co s (2 ^ co 0 3 - 1) (co 0 3)).testBit t <;> cases h2 : wqf co s t
  · rfl
  · rw [h1, h2] at key
    exact absurd (key.mpr rfl) (by decide)
  · rw [h1, h2] at key
    exact absurd (key.mp rfl) (by decide)
  · rfl
section KEEP5
variable {Z c q t : Nat} {co s : Co} {I : ab_I} {R : ab_R} {L : ab_L}
theorem k_addWorth (hF : Fx R) (hc : IsC c) (hq : IsS q) (hK : KC I c q co s) (hw : WF co) (hl : 1 ≤ lkf co s t) (hW : Ways I (wyf co s t) (2 ^ co 0 2)) {full B : Nat} (hfl : full < 625) (hB : B < 10000) {f : Nat → Nat} (hf : ∀ r, f r ≤ B) (hT : ∀ r, r ≤ full → I 29 r = nI (f r)) : ∃ J, cl Z 37 [.ref 27, .int (nI (wwf co t)), .int (nI full)] I R L = some (none, J, R, L) ∧ OffK I J ∧ ∀ r, r ≤ full → J 29 r = nI (kst co s t f r) := by
  have h4 := hw.h4
  have hH : 2 ^ co 0 2 ≤ 16 := Nat.pow_le_pow_right (n := 2) (by decide) h4
  have hww := wwf_54 hw t
  have hwc := wcn_le (wyf co s t) (2 ^ co 0 2)
  have hks : ∀ r, kst co s t f r ≤ B + 54 := fun r => kst_b hw (fun r _ => hf r)
  have key : ∀ p, p ≤ full → ∀ J y z, OffK I J → Ways J (wyf co s t) (2 ^ co 0 2) → (∀ r, r ≤ full → J 29 r = nI (if r ≤ p then f r else kst co s t f r)) → ∃ J', ex Z 0 0 37 2 [some (.ref 27), some (.int (nI (wwf co t))), some (.int (nI full)), some (.int (nI p)), y, z] [] J R L = some (none, J', R, L) ∧ OffK I J' ∧ ∀ r, r ≤ full → J' 29 r = nI (kst co s t f r) := by
    intro p
    induction p with
    | zero =>
      intro _ J y z oJ _ hJ
      refine ⟨J, ?_, oJ, fun r hr => ?_⟩
      · rw [e37_2]
        simp only [e37_0, e37_1, e37_3, e37_6, e37_7, e37_10, e37_11, e37_12, e37_14, e37_15, e37_19, e37_20, e37_23, e37_26, e37_27, e37_28, e37_29, e37_32, e37_34, e37_35, e37_38, e37_41, e37_43, e37_44, e37_47, e37_48, e37_51, e37_52, e37_55, e37_57, e37_58, e37_59, e37_60, e37_61, e37_62, e37_63, e37_66, e37_68, e37_71, e37_74, e37_75, e37_78, e37_79, e37_81, e37_82, e37_85, e37_88, bI_s, bL_s, bV_s, rv_s1, nl_i, nl_a, nl_n, w8_0, w8_i, w8_a, w8_l, ct_i, ct_a, b01_0, b01_1, b01_b, Int32.le_refl, if_true]
      · rw [hJ r hr]
        split
        · rw [show r = 0 by omega, kst_z hl]
        · rfl
    | succ p ih =>
      intro hp J y z oJ hWy hJ
      have hKJ := hK.off hc hq oJ
      have w3 := hWy.1
      have hp1 := hJ (p + 1) hp
      rw [if_pos (Nat.le_refl _)] at hp1
      have hkf : ∀ n, kf (fun x => wyf co s t x && fit (p + 1) x) f (wwf co t) (p + 1) n ≤ B + 54 := fun n => kf_le n (by have := hf (p + 1); omega) fun x _ _ => by
        have := hf (p + 1 - prc x)
        omega
      have e16 : kf (fun x => wyf co s t x && fit (p + 1) x) f (wwf co t) (p + 1) (2 ^ co 0 2) = kst co s t f (p + 1) := by
        have := kf_hi (Q := fun x => wyf co s t x && fit (p + 1) x) (f := f) (w := wwf co t) (p := p + 1) (N := 2 ^ co 0 2) (fun j hj => by
          cases h : wyf co s t j
          · rfl
          · have := wyf_N h
            omega) (16 - 2 ^ co 0 2)
        rw [show 2 ^ co 0 2 + (16 - 2 ^ co 0 2) = 16 by omega] at this
        exact this.symm
      have elow : nI (p + 1) + iI (-1) = nI p := by
        rw [nI_iI, nI_iI, iI_add]
        congr 1
        omega
      obtain ⟨J', e, r⟩ := ih (by omega) (wI J 29 (p + 1) (nI (kst co s t f (p + 1)))) (some (.int (nI (kst co s t f (p + 1))))) (some (.int (nI (wcn (wyf co s t) (2 ^ co 0 2))))) (oJ.tr (OffK.w (Or.inr (Or.inl rfl)))) ⟨by rw [wI_o (by decide)]; exact hWy.1, fun x hx hp => by rw [wI_o (by decide)]; exact hWy.2 x hx hp⟩ (fun r hr => by
        by_cases h : r = p + 1
        · rw [h, wI_self, if_neg (by omega)]
        · rw [wI_k h, hJ r hr]
          by_cases h2 : r ≤ p
          · rw [if_pos h2, if_pos (by omega)]
          · rw [if_neg h2, if_neg (by omega)])
      refine ⟨J', ?_, r⟩
      rw [e37_2]
      simp only [e37_0, e37_1, e37_3, e37_6, e37_7, e37_10, e37_11, e37_12, e37_14, e37_15, e37_19, e37_20, e37_23, e37_26, e37_27, e37_28, e37_29, e37_32, e37_34, e37_35, e37_38, e37_41, e37_43, e37_44, e37_47, e37_48, e37_51, e37_52, e37_55, e37_57, e37_58, e37_59, e37_60, e37_61, e37_62, e37_63, e37_66, e37_68, e37_71, e37_74, e37_75, e37_78, e37_79, e37_81, e37_82, e37_85, e37_88, bI_s, bL_s, bV_s, rv_s1, nl_i, nl_a, nl_n, w8_0, w8_i, w8_a, w8_l, ct_i, ct_a, b01_0, b01_1, b01_b, hF.x0, hF.x2, hF.x5, hF.x6, hF.x7, hF.x10, hF.x12, hF.x13, hF.x15, hF.k0, hF.k1, hF.k2, hF.m4, hF.m5, hF.m6, hF.m7, hF.m8, hF.m9, hF.m10, hF.m16, hF.m17, hF.m18, hF.m19, hF.m20, hF.m21, hF.m22, hF.m23, hF.m29, hF.m30, hF.m35, hF.m37, hF.m38, hF.m40, hF.m41, hF.m43, hF.m44, hF.q0, hF.q1, kd_0, kd_2, kd_3, kd_11, kd_19, kd_22, kd_27, kd_87, al_1, al_4, al_5, al_6, al_7, al_8, al_9, al_10, al_12, al_13, al_14, al_15, al_16, al_17, al_18, al_20, al_21, al_23, al_24, al_28, al_29, al_30, al_31, al_32, al_1001, al_1002, ql_25, ql_26, Nat.reduceLT, nI_leI (show p + 1 < 2 ^ 31 by omega) (show 0 < 2 ^ 31 by decide), show ¬ p + 1 ≤ 0 by omega, if_false, ab_ixN (show p + 1 < 625 by omega) (show 625 < 2 ^ 31 by decide), nI_clamp (show p + 1 < 2 ^ 31 by omega), hp1]
      have k2 := loop_all (P := fun x => ex Z 0 0 37 17 [some (.ref 27), some (.int (nI (wwf co t))), some (.int (nI full)), some (.int (nI (p + 1))), some (.int (nI (kf (fun x => wyf co s t x && fit (p + 1) x) f (wwf co t) (p + 1) x))), some (.int (nI (wcn (wyf co s t) x)))] [] J R L = some (none, J', R, L)) (2 ^ co 0 2) (fun x hx ihx => ?_) ?_ 0 (Nat.zero_le _)
      · exact k2
      · cases hP : wyf co s t x with
        | false =>
          rw [wcn, hP, kf, if_neg (show ¬ (wyf co s t x && fit (p + 1) x) = true by rw [hP, Bool.false_and]; decide)] at ihx
          exact ihx
        | true =>
          have hlt := wcn_lt hx hP
          rw [wcn, hP, Bool.toNat_true] at ihx
          have hk1 := hkf x
          rw [e37_17]
          by_cases hft : fit (p + 1) x = true
          · have hpl := prc_le (by omega) hft
            have hr2 := hJ (p + 1 - prc x) (by omega)
            rw [if_pos (Nat.sub_le _ _)] at hr2
            have hfb := hf (p + 1 - prc x)
            rw [kf, if_pos (show (wyf co s t x && fit (p + 1) x) = true by rw [hP, hft]; rfl)] at ihx
            simp only [e37_0, e37_1, e37_3, e37_6, e37_7, e37_10, e37_11, e37_12, e37_14, e37_15, e37_19, e37_20, e37_23, e37_26, e37_27, e37_28, e37_29, e37_32, e37_34, e37_35, e37_38, e37_41, e37_43, e37_44, e37_47, e37_48, e37_51, e37_52, e37_55, e37_57, e37_58, e37_59, e37_60, e37_61, e37_62, e37_63, e37_66, e37_68, e37_71, e37_74, e37_75, e37_78, e37_79, e37_81, e37_82, e37_85, e37_88, bI_s, bL_s, bV_s, rv_s1, nl_i, nl_a, nl_n, w8_0, w8_i, w8_a, w8_l, ct_i, ct_a, b01_0, b01_1, b01_b, hF.x0, hF.x2, hF.x5, hF.x6, hF.x7, hF.x10, hF.x12, hF.x13, hF.x15, hF.k0, hF.k1, hF.k2, hF.m4, hF.m5, hF.m6, hF.m7, hF.m8, hF.m9, hF.m10, hF.m16, hF.m17, hF.m18, hF.m19, hF.m20, hF.m21, hF.m22, hF.m23, hF.m29, hF.m30, hF.m35, hF.m37, hF.m38, hF.m40, hF.m41, hF.m43, hF.m44, hF.q0, hF.q1, kd_0, kd_2, kd_3, kd_11, kd_19, kd_22, kd_27, kd_87, al_1, al_4, al_5, al_6, al_7, al_8, al_9, al_10, al_12, al_13, al_14, al_15, al_16, al_17, al_18, al_20, al_21, al_23, al_24, al_28, al_29, al_30, al_31, al_32, al_1001, al_1002, ql_25, ql_26, Nat.reduceLT, w3, nI_leI (show wcn (wyf co s t) (2 ^ co 0 2) < 2 ^ 31 by omega) (show wcn (wyf co s t) x < 2 ^ 31 by omega), show ¬ wcn (wyf co s t) (2 ^ co 0 2) ≤ wcn (wyf co s t) x by omega, if_false, ab_ixN (show wcn (wyf co s t) x < 16 by omega) (show 16 < 2 ^ 31 by decide), nI_clamp (show wcn (wyf co s t) x < 2 ^ 31 by omega), hWy.2 x hx hP, k_affords hF hKJ (show p + 1 < 625 by omega) (show x < 16 by omega), hft, Bool.toNat_true, nI10, ab_ixN (show x < 16 by omega) (show 16 < 2 ^ 31 by decide), nI_clamp (show x < 2 ^ 31 by omega), hKJ.2.2 x (by omega), pk_sub hpl, ab_ixN (show p + 1 - prc x < 625 by omega) (show 625 < 2 ^ 31 by decide), nI_clamp (show p + 1 - prc x < 2 ^ 31 by omega), hr2, nI_add, nI_max (show kf (fun x => wyf co s t x && fit (p + 1) x) f (wwf co t) (p + 1) x < 2 ^ 31 by omega) (show f (p + 1 - prc x) + wwf co t < 2 ^ 31 by omega)]
            exact ihx
          · have hf2 : fit (p + 1) x = false := by simpa using hft
            rw [kf, if_neg (show ¬ (wyf co s t x && fit (p + 1) x) = true by rw [hP, hf2]; decide)] at ihx
            simp only [e37_0, e37_1, e37_3, e37_6, e37_7, e37_10, e37_11, e37_12, e37_14, e37_15, e37_19, e37_20, e37_23, e37_26, e37_27, e37_28, e37_29, e37_32, e37_34, e37_35, e37_38, e37_41, e37_43, e37_44, e37_47, e37_48, e37_51, e37_52, e37_55, e37_57, e37_58, e37_59, e37_60, e37_61, e37_62, e37_63, e37_66, e37_68, e37_71, e37_74, e37_75, e37_78, e37_79, e37_81, e37_82, e37_85, e37_88, bI_s, bL_s, bV_s, rv_s1, nl_i, nl_a, nl_n, w8_0, w8_i, w8_a, w8_l, ct_i, ct_a, b01_0, b01_1, b01_b, hF.x0, hF.x2, hF.x5, hF.x6, hF.x7, hF.x10, hF.x12, hF.x13, hF.x15, hF.k0, hF.k1, hF.k2, hF.m4, hF.m5, hF.m6, hF.m7, hF.m8, hF.m9, hF.m10, hF.m16, hF.m17, hF.m18, hF.m19, hF.m20, hF.m21, hF.m22, hF.m23, hF.m29, hF.m30, hF.m35, hF.m37, hF.m38, hF.m40, hF.m41, hF.m43, hF.m44, hF.q0, hF.q1, kd_0, kd_2, kd_3, kd_11, kd_19, kd_22, kd_27, kd_87, al_1, al_4, al_5, al_6, al_7, al_8, al_9, al_10, al_12, al_13, al_14, al_15, al_16, al_17, al_18, al_20, al_21, al_23, al_24, al_28, al_29, al_30, al_31, al_32, al_1001, al_1002, ql_25, ql_26, Nat.reduceLT, w3, nI_leI (show wcn (wyf co s t) (2 ^ co 0 2) < 2 ^ 31 by omega) (show wcn (wyf co s t) x < 2 ^ 31 by omega), show ¬ wcn (wyf co s t) (2 ^ co 0 2) ≤ wcn (wyf co s t) x by omega, if_false, ab_ixN (show wcn (wyf co s t) x < 16 by omega) (show 16 < 2 ^ 31 by decide), nI_clamp (show wcn (wyf co s t) x < 2 ^ 31 by omega), hWy.2 x hx hP, k_affords hF hKJ (show p + 1 < 625 by omega) (show x < 16 by omega), hf2, Bool.toNat_false, if_true, nI_add]
            exact ihx
      · rw [e37_17]
        simp only [e37_0, e37_1, e37_3, e37_6, e37_7, e37_10, e37_11, e37_12, e37_14, e37_15, e37_19, e37_20, e37_23, e37_26, e37_27, e37_28, e37_29, e37_32, e37_34, e37_35, e37_38, e37_41, e37_43, e37_44, e37_47, e37_48, e37_51, e37_52, e37_55, e37_57, e37_58, e37_59, e37_60, e37_61, e37_62, e37_63, e37_66, e37_68, e37_71, e37_74, e37_75, e37_78, e37_79, e37_81, e37_82, e37_85, e37_88, bI_s, bL_s, bV_s, rv_s1, nl_i, nl_a, nl_n, w8_0, w8_i, w8_a, w8_l, ct_i, ct_a, b01_0, b01_1, b01_b, hF.x0, hF.x2, hF.x5, hF.x6, hF.x7, hF.x10, hF.x12, hF.x13, hF.x15, hF.k0, hF.k1, hF.k2, hF.m4, hF.m5, hF.m6, hF.m7, hF.m8, hF.m9, hF.m10, hF.m16, hF.m17, hF.m18, hF.m19, hF.m20, hF.m21, hF.m22, hF.m23, hF.m29, hF.m30, hF.m35, hF.m37, hF.m38, hF.m40, hF.m41, hF.m43, hF.m44, hF.q0, hF.q1, kd_0, kd_2, kd_3, kd_11, kd_19, kd_22, kd_27, kd_87, al_1, al_4, al_5, al_6, al_7, al_8, al_9, al_10, al_12, al_13, al_14, al_15, al_16, al_17, al_18, al_20, al_21, al_23, al_24, al_28, al_29, al_30, al_31, al_32, al_1001, al_1002, ql_25, ql_26, Nat.reduceLT, w3, Int32.le_refl, if_true, ab_ixN (show p + 1 < 625 by omega) (show 625 < 2 ^ 31 by decide), nI_clamp (show p + 1 < 2 ^ 31 by omega), e16, elow]
        exact e
  obtain ⟨J', e, r⟩ := key full (Nat.le_refl _) I none none OffK.rf hW (fun r hr => by rw [if_pos hr]; exact hT r hr)
  refine ⟨J', ?_, r⟩
  rw [n37]
  simp only [e37_0, e37_1, e37_3, e37_6, e37_7, e37_10, e37_11, e37_12, e37_14, e37_15, e37_19, e37_20, e37_23, e37_26, e37_27, e37_28, e37_29, e37_32, e37_34, e37_35, e37_38, e37_41, e37_43, e37_44, e37_47, e37_48, e37_51, e37_52, e37_55, e37_57, e37_58, e37_59, e37_60, e37_61, e37_62, e37_63, e37_66, e37_68, e37_71, e37_74, e37_75, e37_78, e37_79, e37_81, e37_82, e37_85, e37_88, bI_s, bL_s, bV_s, rv_s1, nl_i, nl_a, nl_n, w8_0, w8_i, w8_a, w8_l, ct_i, ct_a, b01_0, b01_1, b01_b]
  exact e
theorem k_fillWorth (hF : Fx R) (hc : IsC c) (hq : IsS q) (hK : KC I c q co s) (hw : WF co) (hv : WS co s) : ∃ J, cl Z 35 [.ref 27, .ref c, .ref q] I R L = some (none, J, R, L) ∧ OffK I J ∧ ∀ r, r ≤ ful co s → J 29 r = nI (Ck co s (co 0 3) r) := by
  have h4 := hw.h4
  have h6 := hw.t6
  have hH : 2 ^ co 0 2 ≤ 16 := Nat.pow_le_pow_right (n := 2) (by decide) h4
  have hH1 := Nat.two_pow_pos (co 0 2)
  have hfl : ful co s < 625 := pu_625 hw _
  have ep := k_purseOf (Z := Z) (L := L) hF hc hq hK hw hv (x := 2 ^ co 0 2 - 1) (by omega)
  have ea := s_allHouses (Z := Z) (R := R) (L := L) hc hK.1.1 hw
  have ef : pu co s (2 ^ co 0 2 - 1) (co 0 2) = ful co s := rfl
  rw [ef] at ep
  have h2T : 2 ^ co 0 3 ≤ 2 ^ 6 := Nat.pow_le_pow_right (by decide) h6
  have hW64 : wtn co s (2 ^ co 0 3 - 1) (co 0 3) < 2 ^ 6 := wtn_lt hw _ (Nat.le_refl _)
  have kB := loop_all (P := fun i => ∀ J, OffK I J → (∀ r, r ≤ ful co s → J 29 r = nI (Ck co s i r)) → ∃ J', ex Z 0 0 35 49 [some (.ref 27), some (.ref c), some (.ref q), some (.int (nI (ful co s))), some (.int (nI (wtn co s (2 ^ co 0 3 - 1) (co 0 3)))), some (.int (nI i))] [] J R L = some (none, J', R, L) ∧ OffK I J' ∧ ∀ r, r ≤ ful co s → J' 29 r = nI (Ck co s (co 0 3) r)) (co 0 3) (fun i hi ih J oJ hJ => ?_) (fun J oJ hJ => ?_) 0 (Nat.zero_le _)
  rotate_left
  · have hKJ := hK.off hc hq oJ
    have hb := wq_bit (s := s) hw hi
    rw [e35_49]
    cases hq2 : wqf co s i with
    | true =>
      rw [hq2] at hb
      have hh := (wtn_held hw hb).2.2.1
      have hlk := lkl_pos (co 0 0) (by have := hw.2.2.1; omega) (co 6 i) (by have := (hw.2.2.2.2.2.2 i hi).2.2.2.2.1; omega) (cntf co s i) (cntf_16 hw s i) hh
      obtain ⟨J1, e1, o1, t1, w1⟩ := k_findWays (Z := Z) (L := L) hF hc hq hKJ hw hv hi hh
      have hK1 := hKJ.off hc hq o1
      obtain ⟨J2, e2, o2, t2⟩ := k_addWorth (Z := Z) (L := L) (t := i) (f := Ck co s i) (B := 54 * i) hF hc hq hK1 hw hlk.1 w1 hfl (by omega) (fun r => Ck_le hw i r) (fun r hr => by rw [t1]; exact hJ r hr)
      obtain ⟨J', e, r⟩ := ih J2 ((oJ.tr o1).tr o2) (fun r hr => by rw [t2 r hr, Ck, if_pos hq2])
      refine ⟨J', ?_, r⟩
      simp only [e35_0, e35_1, e35_2, e35_3, e35_4, e35_7, e35_10, e35_11, e35_12, e35_16, e35_17, e35_20, e35_21, e35_24, e35_26, e35_27, e35_28, e35_31, e35_34, e35_35, e35_36, e35_37, e35_38, e35_41, e35_44, e35_46, e35_47, e35_51, e35_52, e35_55, e35_58, e35_60, e35_62, e35_65, e35_66, e35_69, e35_70, e35_71, e35_72, e35_74, e35_77, e35_78, e35_79, e35_80, e35_82, e35_85, e35_86, e35_89, e35_92, e35_95, bI_s, bL_s, bV_s, rv_s1, nl_i, nl_a, nl_n, w8_0, w8_i, w8_a, w8_l, ct_i, ct_a, b01_0, b01_1, b01_b, kd_27, kdC hc, hKJ.1.1.th, nI_leI (show co 0 3 < 2 ^ 31 by omega) (show i < 2 ^ 31 by omega), show ¬ co 0 3 ≤ i by omega, if_false, s_bit (show wtn co s (2 ^ co 0 3 - 1) (co 0 3) < 2 ^ 31 by omega) (show i < 31 by omega), hb, Bool.toNat_true, if_true, e1, k_worthWithin hF hc hK1.1.1 hw (show i < 2 ^ 31 by omega), e2, nI_add]
      exact e
    | false =>
      rw [hq2] at hb
      obtain ⟨J', e, r⟩ := ih J oJ (fun r hr => by rw [hJ r hr, Ck, if_neg (by rw [hq2]; decide)])
      refine ⟨J', ?_, r⟩
      simp only [e35_0, e35_1, e35_2, e35_3, e35_4, e35_7, e35_10, e35_11, e35_12, e35_16, e35_17, e35_20, e35_21, e35_24, e35_26, e35_27, e35_28, e35_31, e35_34, e35_35, e35_36, e35_37, e35_38, e35_41, e35_44, e35_46, e35_47, e35_51, e35_52, e35_55, e35_58, e35_60, e35_62, e35_65, e35_66, e35_69, e35_70, e35_71, e35_72, e35_74, e35_77, e35_78, e35_79, e35_80, e35_82, e35_85, e35_86, e35_89, e35_92, e35_95, bI_s, bL_s, bV_s, rv_s1, nl_i, nl_a, nl_n, w8_0, w8_i, w8_a, w8_l, ct_i, ct_a, b01_0, b01_1, b01_b, kd_27, kdC hc, hKJ.1.1.th, nI_leI (show co 0 3 < 2 ^ 31 by omega) (show i < 2 ^ 31 by omega), show ¬ co 0 3 ≤ i by omega, if_false, s_bit (show wtn co s (2 ^ co 0 3 - 1) (co 0 3) < 2 ^ 31 by omega) (show i < 31 by omega), hb, Bool.toNat_false, nI01, nI_add]
      exact e
  · refine ⟨J, ?_, oJ, hJ⟩
    rw [e35_49]
    simp only [e35_0, e35_1, e35_2, e35_3, e35_4, e35_7, e35_10, e35_11, e35_12, e35_16, e35_17, e35_20, e35_21, e35_24, e35_26, e35_27, e35_28, e35_31, e35_34, e35_35, e35_36, e35_37, e35_38, e35_41, e35_44, e35_46, e35_47, e35_51, e35_52, e35_55, e35_58, e35_60, e35_62, e35_65, e35_66, e35_69, e35_70, e35_71, e35_72, e35_74, e35_77, e35_78, e35_79, e35_80, e35_82, e35_85, e35_86, e35_89, e35_92, e35_95, bI_s, bL_s, bV_s, rv_s1, nl_i, nl_a, nl_n, w8_0, w8_i, w8_a, w8_l, ct_i, ct_a, b01_0, b01_1, b01_b, kdC hc, (hK.off hc hq oJ).1.1.th, Int32.le_refl, if_true]
  have kA := loop_all (P := fun i => ∀ J, OffK I J → (∀ r, r < i → J 29 r = nI 0) → ∃ J', ex Z 0 0 35 14 [some (.ref 27), some (.ref c), some (.ref q), some (.int (nI (ful co s))), some (.int (nI i)), none] [] J R L = some (none, J', R, L) ∧ OffK I J' ∧ ∀ r, r ≤ ful co s → J' 29 r = nI (Ck co s (co 0 3) r)) (ful co s + 1) (fun i hi ih J oJ hJ => ?_) (fun J oJ hJ => ?_) 0 (Nat.zero_le _)
  rotate_left
  · obtain ⟨J', e, r⟩ := ih (wI J 29 i (nI 0)) (oJ.tr (OffK.w (Or.inr (Or.inl rfl)))) (fun r hr => by
      by_cases h : r = i
      · rw [h, wI_self]
      · rw [wI_k h, hJ r (by omega)])
    refine ⟨J', ?_, r⟩
    rw [e35_14]
    simp only [e35_0, e35_1, e35_2, e35_3, e35_4, e35_7, e35_10, e35_11, e35_12, e35_16, e35_17, e35_20, e35_21, e35_24, e35_26, e35_27, e35_28, e35_31, e35_34, e35_35, e35_36, e35_37, e35_38, e35_41, e35_44, e35_46, e35_47, e35_51, e35_52, e35_55, e35_58, e35_60, e35_62, e35_65, e35_66, e35_69, e35_70, e35_71, e35_72, e35_74, e35_77, e35_78, e35_79, e35_80, e35_82, e35_85, e35_86, e35_89, e35_92, e35_95, bI_s, bL_s, bV_s, rv_s1, nl_i, nl_a, nl_n, w8_0, w8_i, w8_a, w8_l, ct_i, ct_a, b01_0, b01_1, b01_b, hF.x0, hF.x2, hF.x5, hF.x6, hF.x7, hF.x10, hF.x12, hF.x13, hF.x15, hF.k0, hF.k1, hF.k2, hF.m4, hF.m5, hF.m6, hF.m7, hF.m8, hF.m9, hF.m10, hF.m16, hF.m17, hF.m18, hF.m19, hF.m20, hF.m21, hF.m22, hF.m23, hF.m29, hF.m30, hF.m35, hF.m37, hF.m38, hF.m40, hF.m41, hF.m43, hF.m44, hF.q0, hF.q1, kd_0, kd_2, kd_3, kd_11, kd_19, kd_22, kd_27, kd_87, al_1, al_4, al_5, al_6, al_7, al_8, al_9, al_10, al_12, al_13, al_14, al_15, al_16, al_17, al_18, al_20, al_21, al_23, al_24, al_28, al_29, al_30, al_31, al_32, al_1001, al_1002, ql_25, ql_26, Nat.reduceLT, nI_ltI (show ful co s < 2 ^ 31 by omega) (show i < 2 ^ 31 by omega), show ¬ ful co s < i by omega, if_false, ab_ixN (show i < 625 by omega) (show 625 < 2 ^ 31 by decide), nI_clamp (show i < 2 ^ 31 by omega), nI_add]
    exact e
  · have hKJ := hK.off hc hq oJ
    obtain ⟨J', e, r⟩ := kB J oJ (fun r hr => hJ r (by omega))
    refine ⟨J', ?_, r⟩
    have et := s_allThings (Z := Z) (R := R) (L := L) hc hKJ.1.1 hw
    have ew := k_wantedTops (Z := Z) (L := L) hF hc hq hKJ.1.1 hKJ.1.2 hw hv (K := 2 ^ co 0 3 - 1) (by omega)
    rw [e35_14]
    simp only [e35_0, e35_1, e35_2, e35_3, e35_4, e35_7, e35_10, e35_11, e35_12, e35_16, e35_17, e35_20, e35_21, e35_24, e35_26, e35_27, e35_28, e35_31, e35_34, e35_35, e35_36, e35_37, e35_38, e35_41, e35_44, e35_46, e35_47, e35_51, e35_52, e35_55, e35_58, e35_60, e35_62, e35_65, e35_66, e35_69, e35_70, e35_71, e35_72, e35_74, e35_77, e35_78, e35_79, e35_80, e35_82, e35_85, e35_86, e35_89, e35_92, e35_95, bI_s, bL_s, bV_s, rv_s1, nl_i, nl_a, nl_n, w8_0, w8_i, w8_a, w8_l, ct_i, ct_a, b01_0, b01_1, b01_b, kd_27, kdC hc, nI_ltI (show ful co s < 2 ^ 31 by omega) (show ful co s + 1 < 2 ^ 31 by omega), show ful co s < ful co s + 1 by omega, if_true, et, ew]
    exact e
  obtain ⟨J', e, r⟩ := kA I OffK.rf (fun r hr => by omega)
  refine ⟨J', ?_, r⟩
  rw [n35]
  simp only [e35_0, e35_1, e35_2, e35_3, e35_4, e35_7, e35_10, e35_11, e35_12, e35_16, e35_17, e35_20, e35_21, e35_24, e35_26, e35_27, e35_28, e35_31, e35_34, e35_35, e35_36, e35_37, e35_38, e35_41, e35_44, e35_46, e35_47, e35_51, e35_52, e35_55, e35_58, e35_60, e35_62, e35_65, e35_66, e35_69, e35_70, e35_71, e35_72, e35_74, e35_77, e35_78, e35_79, e35_80, e35_82, e35_85, e35_86, e35_89, e35_92, e35_95, bI_s, bL_s, bV_s, rv_s1, nl_i, nl_a, nl_n, w8_0, w8_i, w8_a, w8_l, ct_i, ct_a, b01_0, b01_1, b01_b, kd_27, kdC hc, ea, ep]
  exact e
theorem k_worthBy (hF : Fx R) (hc : IsC c) (hq : IsS q) (hK : KC I c q co s) (hw : WF co) (hv : WS co s) (hT : ∀ r, r ≤ ful co s → I 29 r = nI (Ck co s (co 0 3) r)) {x : Nat} (hx : x < 16) : cl Z 38 [.ref 27, .ref c, .ref q, .int (nI x)] I R L = some (some (.int (nI (Ck co s (co 0 3) (pu co s x (co 0 2))))), I, R, L) := by
  have hl := pu_625 (s := s) hw x
  have hm := pu_mono (co := co) (s := s) (x := x) (co 0 2) (Nat.le_refl _)
  rw [n38]
  simp only [e38_0, e38_1, e38_4, e38_5, e38_6, e38_7, e38_8, e38_11, e38_12, bI_s, bL_s, bV_s, rv_s1, nl_i, nl_a, nl_n, w8_0, w8_i, w8_a, w8_l, ct_i, ct_a, b01_0, b01_1, b01_b, hF.x0, hF.x2, hF.x5, hF.x6, hF.x7, hF.x10, hF.x12, hF.x13, hF.x15, hF.k0, hF.k1, hF.k2, hF.m4, hF.m5, hF.m6, hF.m7, hF.m8, hF.m9, hF.m10, hF.m16, hF.m17, hF.m18, hF.m19, hF.m20, hF.m21, hF.m22, hF.m23, hF.m29, hF.m30, hF.m35, hF.m37, hF.m38, hF.m40, hF.m41, hF.m43, hF.m44, hF.q0, hF.q1, kd_0, kd_2, kd_3, kd_11, kd_19, kd_22, kd_27, kd_87, al_1, al_4, al_5, al_6, al_7, al_8, al_9, al_10, al_12, al_13, al_14, al_15, al_16, al_17, al_18, al_20, al_21, al_23, al_24, al_28, al_29, al_30, al_31, al_32, al_1001, al_1002, ql_25, ql_26, Nat.reduceLT, k_purseOf hF hc hq hK hw hv hx, ab_ixN hl (show 625 < 2 ^ 31 by decide), nI_clamp (show pu co s x (co 0 2) < 2 ^ 31 by omega), hT _ hm]
end KEEP5
