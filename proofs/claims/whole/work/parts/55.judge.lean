/-! judge -/
theorem lN_nz {a : Nat} (h0 : 0 < a) (h : a < 2 ^ 63) : ¬ lN a = 0 := fun w => by
  have := (pk_lEQ h (show 0 < 2 ^ 63 by decide)).mp w
  omega
theorem lN_sub1 {a : Nat} (h : a < 2 ^ 62) : (lN a - lN 1).toInt = (a : Int) - 1 := by
  rw [Int64.toInt_sub, pk_lT (by omega), pk_lT (by decide), Int.bmod_eq_of_le (by omega) (by omega)]
  rfl
theorem cmp_eq (x y : Int64) : lg_cmp x y = nI 0 ↔ x = y := by
  unfold lg_cmp
  by_cases h : x > y
  · rw [if_pos h]
    refine ⟨fun w => absurd w (by decide), fun w => ?_⟩
    subst w
    exact absurd h Int64.lt_irrefl
  · rw [if_neg h]
    by_cases h3 : x = y
    · rw [if_pos h3]
      exact ⟨fun _ => h3, fun _ => by decide⟩
    · rw [if_neg h3]
      exact ⟨fun w => absurd w (by decide), fun w => absurd w h3⟩
theorem rem_b {a d : Nat} (h : a < 2 ^ 31) (h0 : 0 < d) (hd : d < 2 ^ 31) : nI a - nI (a / d) * nI d = nI (a % d) := by
  rw [← pk_div h h0 hd, pk_rem h h0 hd]
def dgf (m n i : Nat) : Nat := m / 100 ^ (n - 1 - i) % 100
def jok (co sh : Co) (a : Nat) : Bool := if a = 90 then decide (lastf co (shd co sh) 0 = lastf co sh 0) else decide (a / 10 < co 0 2 ∧ a % 10 < co 0 3) && decide (whyf co sh (a / 10) (a % 10) = nI 0)
def jnx (co sh : Co) (a : Nat) : Co := if a = 90 then shd co sh else shW sh 1 (a / 10) (sh 1 (a / 10) ||| 2 ^ (a % 10))
def jrs (co : Co) (m n : Nat) : Nat → Nat → Co → Int32
  | 0, _, _ => iI (-9)
  | d + 1, i, sh => if jok co sh (dgf m n i) = true then jrs co m n d (i + 1) (jnx co sh (dgf m n i)) else nI i
theorem last_up {co sh : Co} (hv : WS co sh) (j : Nat) (h : (lastf co sh 0).testBit j = true) : (lastf co (shd co sh) 0).testBit j = true := by
  unfold lastf at h ⊢
  rw [mk_bit, Bool.and_eq_true] at h ⊢
  have hj := of_decide_eq_true h.1
  have h2 := of_decide_eq_true h.2
  refine ⟨h.1, decide_eq_true ?_⟩
  rw [plbf_0 hv hj] at h2
  rw [plbf_0 (shd_WS hv) hj]
  show plbf co sh j 1 = co 0 1
  unfold plbf
  split
  · exact h2
  · omega
theorem andn_z {a b : Nat} (h : ∀ j, b.testBit j = true → a.testBit j = true) : a ^^^ (a &&& b) = 0 ↔ a = b := by
  constructor
  · intro w
    apply Nat.eq_of_testBit_eq
    intro j
    cases hb : b.testBit j
    · cases ha : a.testBit j
      · rfl
      · have := sub_bit w j ha
        rw [hb] at this
        exact absurd this (by decide)
    · exact h j hb
  · intro w
    rw [w, Nat.and_self, Nat.xor_self]
theorem jnx_WS {co sh : Co} {a : Nat} (hw : WF co) (hv : WS co sh) (h : jok co sh a = true) : WS co (jnx co sh a) := by
  have h4 := hw.h4
  have h6 := hw.t6
  unfold jok at h
  unfold jnx
  by_cases h9 : a = 90
  · rw [if_pos h9]
    exact shd_WS hv
  · rw [if_neg h9] at h ⊢
    rw [Bool.and_eq_true] at h
    have h1 := of_decide_eq_true h.1
    exact shW1_WS hv (or_64 (hv.2.1 _ (by omega)) (by omega))
theorem whyf_0 {co sh : Co} {h t : Nat} : whyf co sh h t = nI 0 ↔ nearf co sh h t = true ∧ (sh 1 h).testBit t = false ∧ pc (sh 1 h) 6 < co 2 h := by
  unfold whyf
  cases nearf co sh h t
  · simp [show ¬ iI (-2) = nI 0 by decide]
  · by_cases h1 : (sh 1 h).testBit t = true ∨ co 2 h ≤ pc (sh 1 h) 6
    · rw [if_neg (by decide), if_pos h1]
      refine ⟨fun w => absurd w (by decide), fun w => ?_⟩
      rcases h1 with h1 | h1
      · rw [h1] at w
        exact absurd w.2.1 (by decide)
      · omega
    · rw [if_neg (by decide), if_neg h1]
      refine ⟨fun _ => ⟨rfl, ?_, ?_⟩, fun _ => rfl⟩
      · cases hb : (sh 1 h).testBit t
        · rfl
        · exact absurd (Or.inl hb) h1
      · have : ¬ co 2 h ≤ pc (sh 1 h) 6 := fun w => h1 (Or.inr w)
        omega
section JUDGE
variable {Z c : Nat} {g : Gs} {sd : Int64} {co sh : Co} {I : ab_I} {R : ab_R} {L : ab_L}
theorem x_upper {m k : Nat} (hm : m < 2 ^ 63) (hk : k < 100) : cl Z 74 [.long (lN m), .int (nI k)] I R L = some (some (.long (lN (m / 100 ^ k))), I, R, L) := by
  rw [n74]
  simp only [e74_0, e74_1, e74_2, e74_3, e74_7, e74_8, e74_11, e74_12, e74_15, e74_16, e74_17, e74_20, e74_23, e74_24, bI_s, bL_s, bV_s, rv_s1, nl_i, nl_a, nl_n, w8_0, w8_i, w8_a, w8_l, ct_i, ct_a, b01_0, b01_1, b01_b]
  have key := loop_up (F := fun i => ex Z 0 0 74 5 [some (.long (lN m)), none, some (.int (nI k)), some (.long (lN (m / 100 ^ i))), none, some (.int (nI i))] [] I R L) (r := some (some (.long (lN (m / 100 ^ k))), I, R, L)) k (fun i hi => ?_) ?_ 0 (Nat.zero_le _)
  · rw [Nat.pow_zero, Nat.div_one] at key
    exact key
  · have hlt : m / 100 ^ i < 2 ^ 63 := Nat.lt_of_le_of_lt (Nat.div_le_self _ _) hm
    rw [e74_5]
    simp only [e74_0, e74_1, e74_2, e74_3, e74_7, e74_8, e74_11, e74_12, e74_15, e74_16, e74_17, e74_20, e74_23, e74_24, bI_s, bL_s, bV_s, rv_s1, nl_i, nl_a, nl_n, w8_0, w8_i, w8_a, w8_l, ct_i, ct_a, b01_0, b01_1, b01_b, nI_leI (show k < 2 ^ 31 by omega) (show i < 2 ^ 31 by omega), show ¬ k ≤ i by omega, if_false, show ¬ lN 100 = 0 by decide, not_false_eq_true, pk_lDiv hlt (show 0 < 100 by decide) (show 100 < 2 ^ 63 by decide), nI_add, Nat.pow_succ, Nat.div_div_eq_div_mul]
  · rw [e74_5]
    simp only [e74_0, e74_1, e74_2, e74_3, e74_7, e74_8, e74_11, e74_12, e74_15, e74_16, e74_17, e74_20, e74_23, e74_24, bI_s, bL_s, bV_s, rv_s1, nl_i, nl_a, nl_n, w8_0, w8_i, w8_a, w8_l, ct_i, ct_a, b01_0, b01_1, b01_b, Int32.le_refl, if_true]
theorem m_tenTo {k : Nat} (hk : k < 100) : cl Z 144 [.int (nI k)] I R L = some (some (.long (lN (10 ^ k))), I, R, L) := by
  rw [n144]
  simp only [e144_0, e144_1, e144_2, e144_3, e144_5, e144_6, e144_9, e144_10, e144_13, e144_14, e144_15, e144_18, e144_21, e144_22, bI_s, bL_s, bV_s, rv_s1, nl_i, nl_a, nl_n, w8_0, w8_i, w8_a, w8_l, ct_i, ct_a, b01_0, b01_1, b01_b]
  refine loop_up (F := fun i => ex Z 0 0 144 4 [some (.int (nI k)), some (.long (lN (10 ^ i))), none, some (.int (nI i))] [] I R L) k (fun i hi => ?_) ?_ 0 (Nat.zero_le _)
  · rw [e144_4]
    simp only [e144_0, e144_1, e144_2, e144_3, e144_5, e144_6, e144_9, e144_10, e144_13, e144_14, e144_15, e144_18, e144_21, e144_22, bI_s, bL_s, bV_s, rv_s1, nl_i, nl_a, nl_n, w8_0, w8_i, w8_a, w8_l, ct_i, ct_a, b01_0, b01_1, b01_b, nI_leI (show k < 2 ^ 31 by omega) (show i < 2 ^ 31 by omega), show ¬ k ≤ i by omega, if_false, lN_mul, nI_add, Nat.pow_succ]
  · rw [e144_4]
    simp only [e144_0, e144_1, e144_2, e144_3, e144_5, e144_6, e144_9, e144_10, e144_13, e144_14, e144_15, e144_18, e144_21, e144_22, bI_s, bL_s, bV_s, rv_s1, nl_i, nl_a, nl_n, w8_0, w8_i, w8_a, w8_l, ct_i, ct_a, b01_0, b01_1, b01_b, Int32.le_refl, if_true]
theorem x_passes (hF : Fx R) (h3 : R 0 3 = c + 1) (hc : IsC c) (hC : XC I c co) (hS : XS I 22 co sh) (hw : WF co) (hv : WS co sh) {a : Nat} (ha : a < 100) : ∃ J, cl Z 75 [.ref 0, .ref 22, .int (nI (a / 10)), .int (nI (a % 10))] I R L = some (some (.int (nI (jok co sh a).toNat)), J, R, L) ∧ OffS I J 22 ∧ (jok co sh a = true → XS J 22 co (jnx co sh a)) := by
  have h4 := hw.h4
  have h6 := hw.t6
  have r22 : R 22 1 = 25 := hF.s1 IsS_22
  by_cases h9 : a = 90
  · obtain ⟨J, e, o, S⟩ := s_drift (Z := Z) (L := L) hF hc IsS_22 hC hS hw hv
    have hv2 := shd_WS hv
    have l1 := s_atLastBehind (Z := Z) (L := L) hF hc IsS_22 hC hS hw hv (show 0 < 100 by decide)
    have l2 := s_atLastBehind (Z := Z) (L := L) hF hc IsS_22 (hC.offS hc IsS_22 o) S hw hv2 (show 0 < 100 by decide)
    have b2 : lastf co (shd co sh) 0 < 2 ^ 6 := Nat.lt_of_lt_of_le (mk_lt _ _) (Nat.pow_le_pow_right (by decide) h6)
    have b3 : lastf co (shd co sh) 0 ^^^ (lastf co (shd co sh) 0 &&& lastf co sh 0) < 2 ^ 6 := andn_lt b2
    have ez := andn_z (last_up hv)
    refine ⟨J, ?_, o, fun _ => ?_⟩
    · rw [n75]
      subst h9
      simp only [e75_0, e75_1, e75_3, e75_6, e75_7, e75_10, e75_11, e75_14, e75_15, e75_16, e75_19, e75_21, e75_22, e75_25, e75_26, e75_29, e75_30, e75_31, e75_34, e75_35, e75_36, e75_39, e75_41, e75_42, e75_43, e75_44, e75_47, e75_48, e75_51, e75_52, e75_53, e75_54, e75_57, e75_58, e75_59, e75_60, e75_63, e75_66, e75_67, e75_68, e75_69, e75_72, e75_73, e75_74, e75_75, e75_76, e75_77, e75_78, e75_79, e75_80, e75_81, bI_s, bL_s, bV_s, rv_s1, nl_i, nl_a, nl_n, w8_0, w8_i, w8_a, w8_l, ct_i, ct_a, b01_0, b01_1, b01_b, hF.x0, hF.x2, hF.x5, hF.x6, hF.x7, hF.x10, hF.x12, hF.x13, hF.x15, hF.k0, hF.k1, hF.k2, hF.m4, hF.m5, hF.m6, hF.m7, hF.m8, hF.m9, hF.m10, hF.m16, hF.m17, hF.m18, hF.m19, hF.m20, hF.m21, hF.m22, hF.m23, hF.m29, hF.m30, hF.m35, hF.m37, hF.m38, hF.m40, hF.m41, hF.m43, hF.m44, hF.q0, hF.q1, kd_0, kd_2, kd_3, kd_11, kd_19, kd_22, kd_27, kd_87, al_1, al_4, al_5, al_6, al_7, al_8, al_9, al_10, al_12, al_13, al_14, al_15, al_16, al_17, al_18, al_20, al_21, al_23, al_24, al_28, al_29, al_30, al_31, al_32, al_1001, al_1002, ql_25, ql_26, Nat.reduceLT, h3, kdC hc, Nat.reduceDiv, Nat.reduceMod, if_true, l1, e, l2, nI_andn, nI_eq (show lastf co (shd co sh) 0 ^^^ (lastf co (shd co sh) 0 &&& lastf co sh 0) < 2 ^ 31 by omega) (show 0 < 2 ^ 31 by decide), ez]
      unfold jok
      by_cases hq : lastf co (shd co sh) 0 = lastf co sh 0 <;> simp [hq]
    · unfold jnx
      rw [if_pos h9]
      exact S
  · have e9 : ∀ x : ab_Rm, ∀ y : ab_Rm, (if nI (a / 10) = nI 9 then (if nI (a % 10) = nI 0 then x else y) else y) = y := fun x y => by
      simp only [nI_eq (show a / 10 < 2 ^ 31 by omega) (show 9 < 2 ^ 31 by decide), nI_eq (show a % 10 < 2 ^ 31 by omega) (show 0 < 2 ^ 31 by decide)]
      by_cases q1 : a / 10 = 9
      · rw [if_pos q1, if_neg (by omega)]
      · rw [if_neg q1]
    by_cases hall : a / 10 < co 0 2 ∧ a % 10 < co 0 3
    · have w1 := s_whyNotSaid (Z := Z) (L := L) hF hc IsS_22 hC hS hw hv hall.1 hall.2
      have b1 := hv.2.1 (a / 10) (by omega)
      have sd1 : I 24 (a / 10) = nI (sh 1 (a / 10)) := hS.sd (by omega)
      by_cases hq : whyf co sh (a / 10) (a % 10) = nI 0
      · have ej : jok co sh a = true := by
          unfold jok
          rw [if_neg h9, decide_eq_true hall, decide_eq_true hq]
          rfl
        have S2 := hS.w1 (h := a / 10) (v := sh 1 (a / 10) ||| 2 ^ (a % 10)) (by omega)
        refine ⟨_, ?_, OffS.w (o := 24) (k := a / 10) (v := nI (sh 1 (a / 10) ||| 2 ^ (a % 10))) (by omega), fun _ => ?_⟩
        · rw [n75]
          simp only [e75_0, e75_1, e75_3, e75_6, e75_7, e75_10, e75_11, e75_14, e75_15, e75_16, e75_19, e75_21, e75_22, e75_25, e75_26, e75_29, e75_30, e75_31, e75_34, e75_35, e75_36, e75_39, e75_41, e75_42, e75_43, e75_44, e75_47, e75_48, e75_51, e75_52, e75_53, e75_54, e75_57, e75_58, e75_59, e75_60, e75_63, e75_66, e75_67, e75_68, e75_69, e75_72, e75_73, e75_74, e75_75, e75_76, e75_77, e75_78, e75_79, e75_80, e75_81, bI_s, bL_s, bV_s, rv_s1, nl_i, nl_a, nl_n, w8_0, w8_i, w8_a, w8_l, ct_i, ct_a, b01_0, b01_1, b01_b, hF.x0, hF.x2, hF.x5, hF.x6, hF.x7, hF.x10, hF.x12, hF.x13, hF.x15, hF.k0, hF.k1, hF.k2, hF.m4, hF.m5, hF.m6, hF.m7, hF.m8, hF.m9, hF.m10, hF.m16, hF.m17, hF.m18, hF.m19, hF.m20, hF.m21, hF.m22, hF.m23, hF.m29, hF.m30, hF.m35, hF.m37, hF.m38, hF.m40, hF.m41, hF.m43, hF.m44, hF.q0, hF.q1, kd_0, kd_2, kd_3, kd_11, kd_19, kd_22, kd_27, kd_87, al_1, al_4, al_5, al_6, al_7, al_8, al_9, al_10, al_12, al_13, al_14, al_15, al_16, al_17, al_18, al_20, al_21, al_23, al_24, al_28, al_29, al_30, al_31, al_32, al_1001, al_1002, ql_25, ql_26, Nat.reduceLT, h3, kdC hc, e9, r22, w1, hq, if_true, ab_ixN (show a / 10 < 4 by omega) (show 4 < 2 ^ 31 by decide), nI_clamp (show a / 10 < 2 ^ 31 by omega), sd1, nI_1shl (show a % 10 < 31 by omega), nx_or', ej, Bool.toNat_true]
        · unfold jnx
          rw [if_neg h9]
          exact S2
      · have ej : jok co sh a = false := by
          unfold jok
          rw [if_neg h9, decide_eq_false hq, Bool.and_false]
        refine ⟨I, ?_, fun _ _ _ _ => rfl, fun w => absurd w (by rw [ej]; decide)⟩
        rw [n75]
        simp only [e75_0, e75_1, e75_3, e75_6, e75_7, e75_10, e75_11, e75_14, e75_15, e75_16, e75_19, e75_21, e75_22, e75_25, e75_26, e75_29, e75_30, e75_31, e75_34, e75_35, e75_36, e75_39, e75_41, e75_42, e75_43, e75_44, e75_47, e75_48, e75_51, e75_52, e75_53, e75_54, e75_57, e75_58, e75_59, e75_60, e75_63, e75_66, e75_67, e75_68, e75_69, e75_72, e75_73, e75_74, e75_75, e75_76, e75_77, e75_78, e75_79, e75_80, e75_81, bI_s, bL_s, bV_s, rv_s1, nl_i, nl_a, nl_n, w8_0, w8_i, w8_a, w8_l, ct_i, ct_a, b01_0, b01_1, b01_b, hF.x0, hF.x2, hF.x5, hF.x6, hF.x7, hF.x10, hF.x12, hF.x13, hF.x15, hF.k0, hF.k1, hF.k2, hF.m4, hF.m5, hF.m6, hF.m7, hF.m8, hF.m9, hF.m10, hF.m16, hF.m17, hF.m18, hF.m19, hF.m20, hF.m21, hF.m22, hF.m23, hF.m29, hF.m30, hF.m35, hF.m37, hF.m38, hF.m40, hF.m41, hF.m43, hF.m44, hF.q0, hF.q1, kd_0, kd_2, kd_3, kd_11, kd_19, kd_22, kd_27, kd_87, al_1, al_4, al_5, al_6, al_7, al_8, al_9, al_10, al_12, al_13, al_14, al_15, al_16, al_17, al_18, al_20, al_21, al_23, al_24, al_28, al_29, al_30, al_31, al_32, al_1001, al_1002, ql_25, ql_26, Nat.reduceLT, h3, kdC hc, e9, w1, hq, if_false, ej, Bool.toNat_false]
    · have ej : jok co sh a = false := by
        unfold jok
        rw [if_neg h9, decide_eq_false hall, Bool.false_and]
      have w1 := s_whyNot0 (Z := Z) (s := 22) (R := R) (L := L) hc hC hw (nI (a / 10)) (nI (a % 10)) (by
        rw [hasI_nI (by omega), hasI_nI (by omega)]
        by_cases q1 : a / 10 < co 0 2
        · exact Or.inr (decide_eq_false (fun w => hall ⟨q1, w⟩))
        · exact Or.inl (decide_eq_false q1))
      refine ⟨I, ?_, fun _ _ _ _ => rfl, fun w => absurd w (by rw [ej]; decide)⟩
      rw [n75]
      simp only [e75_0, e75_1, e75_3, e75_6, e75_7, e75_10, e75_11, e75_14, e75_15, e75_16, e75_19, e75_21, e75_22, e75_25, e75_26, e75_29, e75_30, e75_31, e75_34, e75_35, e75_36, e75_39, e75_41, e75_42, e75_43, e75_44, e75_47, e75_48, e75_51, e75_52, e75_53, e75_54, e75_57, e75_58, e75_59, e75_60, e75_63, e75_66, e75_67, e75_68, e75_69, e75_72, e75_73, e75_74, e75_75, e75_76, e75_77, e75_78, e75_79, e75_80, e75_81, bI_s, bL_s, bV_s, rv_s1, nl_i, nl_a, nl_n, w8_0, w8_i, w8_a, w8_l, ct_i, ct_a, b01_0, b01_1, b01_b, hF.x0, hF.x2, hF.x5, hF.x6, hF.x7, hF.x10, hF.x12, hF.x13, hF.x15, hF.k0, hF.k1, hF.k2, hF.m4, hF.m5, hF.m6, hF.m7, hF.m8, hF.m9, hF.m10, hF.m16, hF.m17, hF.m18, hF.m19, hF.m20, hF.m21, hF.m22, hF.m23, hF.m29, hF.m30, hF.m35, hF.m37, hF.m38, hF.m40, hF.m41, hF.m43, hF.m44, hF.q0, hF.q1, kd_0, kd_2, kd_3, kd_11, kd_19, kd_22, kd_27, kd_87, al_1, al_4, al_5, al_6, al_7, al_8, al_9, al_10, al_12, al_13, al_14, al_15, al_16, al_17, al_18, al_20, al_21, al_23, al_24, al_28, al_29, al_30, al_31, al_32, al_1001, al_1002, ql_25, ql_26, Nat.reduceLT, h3, kdC hc, e9, w1, show ¬ iI (-1) = nI 0 by decide, if_false, ej, Bool.toNat_false]
theorem m_trySay (hF : Fx R) (hC : MC I co) (hS : MS (I 94) 13 co sh) (hw : WF co) (hv : WS co sh) {a : Nat} (ha : a < 100) (h9 : a ≠ 90) : ∃ J, cl Z 147 [.ref 87, .int (nI (a / 10)), .int (nI (a % 10))] I R L = some (some (.int (nI (jok co sh a).toNat)), J, R, L) ∧ OffL I J 13 ∧ (jok co sh a = true → MS (J 94) 13 co (jnx co sh a)) := by
  have h4 := hw.h4
  have h6 := hw.t6
  by_cases hall : a / 10 < co 0 2 ∧ a % 10 < co 0 3
  · have a1 := (hw.2.2.2.2.2.1 _ hall.1)
    have a2 := hv.1 _ hall.2
    have a3 := hw.2.2.2.1.2
    have b1 := hv.2.1 (a / 10) (by omega)
    have sd1 : I 94 (19 + a / 10) = nI (sh 1 (a / 10)) := hS.sd (by omega)
    have p6 := pc_le (sh 1 (a / 10)) 6
    have pl := hS.pl hall.2
    have ej : jok co sh a = decide (nearf co sh (a / 10) (a % 10) = true ∧ (sh 1 (a / 10)).testBit (a % 10) = false ∧ pc (sh 1 (a / 10)) 6 < co 2 (a / 10)) := by
      unfold jok
      rw [if_neg h9, decide_eq_true hall, Bool.true_and]
      exact decide_eq_decide.mpr whyf_0
    have S2 : MS (wI I 94 (19 + a / 10) (nI (sh 1 (a / 10) ||| 2 ^ (a % 10))) 94) 13 co (shW sh 1 (a / 10) (sh 1 (a / 10) ||| 2 ^ (a % 10))) := hS.w1 h6 (by omega)
    have en : decide (sh 0 (a % 10) ≤ co 1 (a / 10) + 1 ∧ co 1 (a / 10) ≤ sh 0 (a % 10) + 1) = nearf co sh (a / 10) (a % 10) := rfl
    refine ⟨if jok co sh a = true then wI I 94 (19 + a / 10) (nI (sh 1 (a / 10) ||| 2 ^ (a % 10))) else I, ?_, ?_, fun w => ?_⟩
    · rw [n147]
      simp only [e147_0, e147_1, e147_2, e147_5, e147_8, e147_9, e147_10, e147_13, e147_16, e147_17, e147_20, e147_21, e147_22, e147_23, e147_26, e147_28, e147_29, e147_30, e147_31, e147_32, e147_33, e147_36, e147_37, e147_40, e147_43, e147_44, e147_47, e147_48, e147_49, e147_50, e147_53, e147_54, e147_57, e147_59, e147_60, e147_61, e147_62, e147_63, e147_66, e147_69, e147_70, e147_73, e147_74, e147_75, e147_76, e147_79, e147_81, e147_82, e147_83, e147_84, e147_87, e147_90, e147_91, e147_94, e147_95, e147_96, e147_97, e147_100, e147_101, e147_104, e147_106, e147_107, e147_108, e147_109, e147_110, e147_111, e147_112, e147_113, e147_114, e147_115, e147_116, bI_s, bL_s, bV_s, rv_s1, nl_i, nl_a, nl_n, w8_0, w8_i, w8_a, w8_l, ct_i, ct_a, b01_0, b01_1, b01_b, hF.m4, hF.m5, hF.m6, hF.m7, hF.m8, hF.m9, hF.m10, hF.m16, hF.m17, hF.m18, hF.m19, hF.m20, hF.m21, hF.m22, hF.m23, hF.m29, hF.m30, hF.m35, hF.m37, hF.m38, hF.m40, hF.m41, hF.m43, hF.m44, kd_87, al_88, al_89, al_90, al_91, al_92, al_93, al_94, al_95, al_96, al_97, al_98, al_99, al_100, al_101, al_102, al_103, al_104, al_105, al_106, al_108, al_111, zl_107, zl_109, zl_110, Nat.reduceLT, m_isHouse hC hw, m_isThing hC hw, hasI_nI (show a / 10 < 2 ^ 31 by omega), hasI_nI (show a % 10 < 2 ^ 31 by omega), decide_eq_true hall.1, decide_eq_true hall.2, Bool.toNat_true, nI10, if_false, if_true, ab_ixN (show a / 10 < 4 by omega) (show 4 < 2 ^ 31 by decide), nI_clamp (show a / 10 < 2 ^ 31 by omega), hC.a1 hall.1, nI_add, ab_ixN (show 13 + a % 10 < 26 by omega) (show 26 < 2 ^ 31 by decide), nI_clamp (show 13 + a % 10 < 2 ^ 31 by omega), pl, s_in, near_in (co 1 (a / 10)) (by omega) (sh 0 (a % 10)) (by omega), en, ab_ixN (show 19 + a / 10 < 26 by omega) (show 26 < 2 ^ 31 by decide), nI_clamp (show 19 + a / 10 < 2 ^ 31 by omega), sd1, s_has (show sh 1 (a / 10) < 2 ^ 31 by omega) (show a % 10 < 31 by omega), hC.a2 hall.1, m_ones (show sh 1 (a / 10) < 2 ^ 31 by omega), nI_leI (show co 2 (a / 10) < 2 ^ 31 by omega) (show pc (sh 1 (a / 10)) 6 < 2 ^ 31 by omega), nI_1shl (show a % 10 < 31 by omega), nx_or', nI_b]
      rw [ej]
      cases nearf co sh (a / 10) (a % 10) <;> cases (sh 1 (a / 10)).testBit (a % 10) <;> by_cases hp : co 2 (a / 10) ≤ pc (sh 1 (a / 10)) 6 <;> simp [hp, show (pc (sh 1 (a / 10)) 6 < co 2 (a / 10)) = ¬ (co 2 (a / 10) ≤ pc (sh 1 (a / 10)) 6) from propext Nat.not_le.symm]
    · split
      · exact OffL.w (by omega)
      · exact OffL.rf
    · rw [if_pos w]
      unfold jnx
      rw [if_neg h9]
      exact S2
  · have ej : jok co sh a = false := by
      unfold jok
      rw [if_neg h9, decide_eq_false hall, Bool.false_and]
    refine ⟨I, ?_, OffL.rf, fun w => absurd w (by rw [ej]; decide)⟩
    rw [n147, ej]
    simp only [e147_0, e147_1, e147_2, e147_5, e147_8, e147_9, e147_10, e147_13, e147_16, e147_17, e147_20, e147_21, e147_22, e147_23, e147_26, e147_28, e147_29, e147_30, e147_31, e147_32, e147_33, e147_36, e147_37, e147_40, e147_43, e147_44, e147_47, e147_48, e147_49, e147_50, e147_53, e147_54, e147_57, e147_59, e147_60, e147_61, e147_62, e147_63, e147_66, e147_69, e147_70, e147_73, e147_74, e147_75, e147_76, e147_79, e147_81, e147_82, e147_83, e147_84, e147_87, e147_90, e147_91, e147_94, e147_95, e147_96, e147_97, e147_100, e147_101, e147_104, e147_106, e147_107, e147_108, e147_109, e147_110, e147_111, e147_112, e147_113, e147_114, e147_115, e147_116, bI_s, bL_s, bV_s, rv_s1, nl_i, nl_a, nl_n, w8_0, w8_i, w8_a, w8_l, ct_i, ct_a, b01_0, b01_1, b01_b, hF.m4, hF.m5, hF.m6, hF.m7, hF.m8, hF.m9, hF.m10, hF.m16, hF.m17, hF.m18, hF.m19, hF.m20, hF.m21, hF.m22, hF.m23, hF.m29, hF.m30, hF.m35, hF.m37, hF.m38, hF.m40, hF.m41, hF.m43, hF.m44, kd_87, al_88, al_89, al_90, al_91, al_92, al_93, al_94, al_95, al_96, al_97, al_98, al_99, al_100, al_101, al_102, al_103, al_104, al_105, al_106, al_108, al_111, zl_107, zl_109, zl_110, Nat.reduceLT, m_isHouse hC hw, m_isThing hC hw, hasI_nI (show a / 10 < 2 ^ 31 by omega), hasI_nI (show a % 10 < 2 ^ 31 by omega), nI_b]
    by_cases q1 : a / 10 < co 0 2
    · have q2 : ¬ a % 10 < co 0 3 := fun w => hall ⟨q1, w⟩
      simp [q1, q2]
    · simp [q1]
theorem x_judgeL {n m : Nat} (hp : PG g) (k : XX g sd c I R L) (hn : 1 ≤ n ∧ n ≤ 5) (hm : m < 2 ^ 63) : ∀ d i J sh y, i + d = n → OffS I J 22 → XS J 22 (g 0) sh → WS (g 0) sh → ∃ J', ex Z 0 0 73 43 [some (.ref 0), some (.int (nI n)), some (.long (lN m)), none, some (.int (nI i)), y] [] J R L = some (some (.int (jrs (g 0) m n d i sh)), J', R, L) ∧ OffS I J' 22 := by
  have hw := hp.wf
  have hc := k.cc
  have hF := k.F
  intro d
  induction d with
  | zero =>
    intro i J sh y hi oJ SJ hvJ
    refine ⟨J, ?_, oJ⟩
    rw [Nat.add_zero] at hi
    subst hi
    rw [e73_43]
    simp only [e73_0, e73_1, e73_2, e73_5, e73_6, e73_7, e73_10, e73_11, e73_12, e73_13, e73_16, e73_17, e73_18, e73_21, e73_22, e73_23, e73_26, e73_28, e73_29, e73_30, e73_33, e73_34, e73_37, e73_40, e73_41, e73_45, e73_46, e73_49, e73_50, e73_51, e73_52, e73_53, e73_55, e73_56, e73_59, e73_62, e73_63, e73_64, e73_66, e73_67, e73_68, e73_71, e73_73, e73_75, e73_76, e73_78, e73_80, e73_81, e73_84, e73_87, e73_89, e73_90, e73_93, e73_96, e73_98, bI_s, bL_s, bV_s, rv_s1, nl_i, nl_a, nl_n, w8_0, w8_i, w8_a, w8_l, ct_i, ct_a, b01_0, b01_1, b01_b, Int32.le_refl, if_true, jrs]
  | succ d ih =>
    intro i J sh y hi oJ SJ hvJ
    have hlt : m / 100 ^ (n - 1 - i) < 2 ^ 63 := Nat.lt_of_le_of_lt (Nat.div_le_self _ _) hm
    have ha : dgf m n i < 100 := Nat.mod_lt _ (by decide)
    obtain ⟨J1, e1, o1, S1⟩ := x_passes (Z := Z) (L := L) hF k.r3 hc (k.C.offS hc IsS_22 oJ) SJ hw hvJ ha
    have edg : m / 100 ^ (n - 1 - i) % 100 = dgf m n i := rfl
    rw [e73_43, jrs]
    simp only [e73_0, e73_1, e73_2, e73_5, e73_6, e73_7, e73_10, e73_11, e73_12, e73_13, e73_16, e73_17, e73_18, e73_21, e73_22, e73_23, e73_26, e73_28, e73_29, e73_30, e73_33, e73_34, e73_37, e73_40, e73_41, e73_45, e73_46, e73_49, e73_50, e73_51, e73_52, e73_53, e73_55, e73_56, e73_59, e73_62, e73_63, e73_64, e73_66, e73_67, e73_68, e73_71, e73_73, e73_75, e73_76, e73_78, e73_80, e73_81, e73_84, e73_87, e73_89, e73_90, e73_93, e73_96, e73_98, bI_s, bL_s, bV_s, rv_s1, nl_i, nl_a, nl_n, w8_0, w8_i, w8_a, w8_l, ct_i, ct_a, b01_0, b01_1, b01_b, hF.x0, hF.x2, hF.x5, hF.x6, hF.x7, hF.x10, hF.x12, hF.x13, hF.x15, hF.k0, hF.k1, hF.k2, hF.m4, hF.m5, hF.m6, hF.m7, hF.m8, hF.m9, hF.m10, hF.m16, hF.m17, hF.m18, hF.m19, hF.m20, hF.m21, hF.m22, hF.m23, hF.m29, hF.m30, hF.m35, hF.m37, hF.m38, hF.m40, hF.m41, hF.m43, hF.m44, hF.q0, hF.q1, kd_0, kd_2, kd_3, kd_11, kd_19, kd_22, kd_27, kd_87, al_1, al_4, al_5, al_6, al_7, al_8, al_9, al_10, al_12, al_13, al_14, al_15, al_16, al_17, al_18, al_20, al_21, al_23, al_24, al_28, al_29, al_30, al_31, al_32, al_1001, al_1002, ql_25, ql_26, Nat.reduceLT, nI_leI (show n < 2 ^ 31 by omega) (show i < 2 ^ 31 by omega), show ¬ n ≤ i by omega, if_false, pk_sub hn.1, pk_sub (show i ≤ n - 1 by omega), x_upper hm (show n - 1 - i < 100 by omega), show ¬ lN 100 = 0 by decide, not_false_eq_true, pk_lRem hlt (show 0 < 100 by decide) (show 100 < 2 ^ 63 by decide), lN_i, edg, show ¬ nI 10 = 0 by decide, pk_div (show dgf m n i < 2 ^ 31 by omega) (show 0 < 10 by decide) (show 10 < 2 ^ 31 by decide), rem_b (show dgf m n i < 2 ^ 31 by omega) (show 0 < 10 by decide) (show 10 < 2 ^ 31 by decide), e1, nI_b, nI_add]
    cases hj : jok (g 0) sh (dgf m n i) with
    | false => exact ⟨J1, by simp, oJ.tr o1⟩
    | true =>
      obtain ⟨J', e, o'⟩ := ih (i + 1) J1 _ (some (.int (nI (dgf m n i)))) (by omega) (oJ.tr o1) (S1 hj) (jnx_WS hw hvJ hj)
      refine ⟨J', ?_, o'⟩
      rw [if_neg (by decide), if_pos rfl]
      exact e
theorem m_judgeL {n m : Nat} (hp : PG g) (k : MM g sd I R L) (hn : 1 ≤ n ∧ n ≤ 5) (hm : m < 2 ^ 63) : ∀ d i J sh y z w, i + d = n → OffL I J 13 → MS (J 94) 13 (g 0) sh → WS (g 0) sh → ∃ J', ex Z 0 0 143 38 [some (.ref 87), some (.int (nI n)), some (.long (lN m)), none, some (.int (nI i)), y, z, w] [] J R L = some (some (.int (jrs (g 0) m n d i sh)), J', R, L) ∧ OffL I J' 13 := by
  have hw := hp.wf
  have h6 := hw.t6
  have hF := k.F
  intro d
  induction d with
  | zero =>
    intro i J sh y z w hi oJ SJ hvJ
    refine ⟨J, ?_, oJ⟩
    rw [Nat.add_zero] at hi
    subst hi
    rw [e143_38]
    simp only [e143_0, e143_1, e143_2, e143_3, e143_6, e143_9, e143_12, e143_13, e143_14, e143_15, e143_16, e143_17, e143_20, e143_21, e143_22, e143_25, e143_28, e143_30, e143_31, e143_32, e143_35, e143_36, e143_40, e143_41, e143_44, e143_45, e143_46, e143_47, e143_48, e143_49, e143_51, e143_52, e143_53, e143_56, e143_57, e143_60, e143_61, e143_62, e143_64, e143_65, e143_66, e143_69, e143_71, e143_73, e143_75, e143_78, e143_79, e143_81, e143_83, e143_84, e143_86, e143_88, e143_89, e143_92, e143_95, e143_96, e143_99, e143_100, e143_102, e143_104, e143_107, e143_109, e143_111, e143_114, e143_115, e143_116, e143_119, e143_120, e143_122, e143_125, e143_126, e143_127, e143_130, e143_132, e143_135, e143_137, e143_138, e143_141, e143_144, e143_146, bI_s, bL_s, bV_s, rv_s1, nl_i, nl_a, nl_n, w8_0, w8_i, w8_a, w8_l, ct_i, ct_a, b01_0, b01_1, b01_b, Int32.le_refl, if_true, jrs]
  | succ d ih =>
    intro i J sh y z w hi oJ SJ hvJ
    have hlt : m / 10 ^ (2 * (n - 1 - i)) < 2 ^ 63 := Nat.lt_of_le_of_lt (Nat.div_le_self _ _) hm
    have ht1 : 0 < 10 ^ (2 * (n - 1 - i)) := Nat.pow_pos (by decide)
    have ht2 : 10 ^ (2 * (n - 1 - i)) ≤ 10 ^ 10 := Nat.pow_le_pow_right (by decide) (by omega)
    have ha : dgf m n i < 100 := Nat.mod_lt _ (by decide)
    have edg : m / 10 ^ (2 * (n - 1 - i)) % 100 = dgf m n i := by
      rw [Nat.pow_mul, show 10 ^ 2 = 100 from rfl]
      rfl
    have hCJ := k.C.off oJ.1
    have l0 : ∀ sh, lastf (g 0) sh 0 < 2 ^ 31 := fun sh => Nat.lt_of_lt_of_le (mk_lt _ _) (Nat.pow_le_pow_right (by decide) (by omega))
    have la := m_atLast (Z := Z) (L := L) (l := 1) hF hCJ (by decide) SJ hw hvJ
    have ez : ¬ lN (10 ^ (2 * (n - 1 - i))) = 0 := lN_nz ht1 (by omega)
    rw [e143_38, jrs]
    by_cases h9 : dgf m n i = 90
    · obtain ⟨J1, e1, o1, S1⟩ := m_pass (Z := Z) (L := L) (l := 1) hF hCJ (by decide) SJ hw hvJ
      have hv2 := shd_WS hvJ
      have lb := m_atLast (Z := Z) (L := L) (l := 1) hF (hCJ.off o1.1) (by decide) S1 hw hv2
      have ej : jok (g 0) sh (dgf m n i) = decide (lastf (g 0) (shd (g 0) sh) 0 = lastf (g 0) sh 0) := by
        unfold jok
        rw [if_pos h9]
      have en : jnx (g 0) sh (dgf m n i) = shd (g 0) sh := by
        unfold jnx
        rw [if_pos h9]
      simp only [e143_0, e143_1, e143_2, e143_3, e143_6, e143_9, e143_12, e143_13, e143_14, e143_15, e143_16, e143_17, e143_20, e143_21, e143_22, e143_25, e143_28, e143_30, e143_31, e143_32, e143_35, e143_36, e143_40, e143_41, e143_44, e143_45, e143_46, e143_47, e143_48, e143_49, e143_51, e143_52, e143_53, e143_56, e143_57, e143_60, e143_61, e143_62, e143_64, e143_65, e143_66, e143_69, e143_71, e143_73, e143_75, e143_78, e143_79, e143_81, e143_83, e143_84, e143_86, e143_88, e143_89, e143_92, e143_95, e143_96, e143_99, e143_100, e143_102, e143_104, e143_107, e143_109, e143_111, e143_114, e143_115, e143_116, e143_119, e143_120, e143_122, e143_125, e143_126, e143_127, e143_130, e143_132, e143_135, e143_137, e143_138, e143_141, e143_144, e143_146, bI_s, bL_s, bV_s, rv_s1, nl_i, nl_a, nl_n, w8_0, w8_i, w8_a, w8_l, ct_i, ct_a, b01_0, b01_1, b01_b, hF.m4, hF.m5, hF.m6, hF.m7, hF.m8, hF.m9, hF.m10, hF.m16, hF.m17, hF.m18, hF.m19, hF.m20, hF.m21, hF.m22, hF.m23, hF.m29, hF.m30, hF.m35, hF.m37, hF.m38, hF.m40, hF.m41, hF.m43, hF.m44, kd_87, al_88, al_89, al_90, al_91, al_92, al_93, al_94, al_95, al_96, al_97, al_98, al_99, al_100, al_101, al_102, al_103, al_104, al_105, al_106, al_108, al_111, zl_107, zl_109, zl_110, Nat.reduceLT, nI_leI (show n < 2 ^ 31 by omega) (show i < 2 ^ 31 by omega), show ¬ n ≤ i by omega, if_false, pk_sub hn.1, pk_sub (show i ≤ n - 1 by omega), pk_mul, m_tenTo (show 2 * (n - 1 - i) < 100 by omega), ez, not_false_eq_true, pk_lDiv hm ht1 (show 10 ^ (2 * (n - 1 - i)) < 2 ^ 63 by omega), show ¬ lN 100 = 0 by decide, pk_lRem hlt (show 0 < 100 by decide) (show 100 < 2 ^ 63 by decide), lN_i, edg, la, h9, if_true, nI10, e1, lb, nI_eq (l0 (shd (g 0) sh)) (l0 sh), nI_add]
      rw [h9] at ej en
      rw [ej]
      by_cases hq : lastf (g 0) (shd (g 0) sh) 0 = lastf (g 0) sh 0
      · obtain ⟨J', e, o'⟩ := ih (i + 1) J1 _ (some (.int (nI 90))) (some (.int (nI (lastf (g 0) sh 0)))) (some (.int (nI 1))) (by omega) (oJ.tr o1) S1 hv2
        refine ⟨J', ?_, o'⟩
        rw [en]
        simp only [hq, decide_true, if_true]
        exact e
      · refine ⟨J1, ?_, oJ.tr o1⟩
        simp only [hq, decide_false, if_false, Bool.false_eq_true]
    · obtain ⟨J1, e1, o1, S1⟩ := m_trySay (Z := Z) (L := L) hF hCJ SJ hw hvJ ha h9
      have h91 : ¬ nI (dgf m n i) = nI 90 := by
        rw [nI_eq (by omega) (by decide)]
        exact h9
      simp only [e143_0, e143_1, e143_2, e143_3, e143_6, e143_9, e143_12, e143_13, e143_14, e143_15, e143_16, e143_17, e143_20, e143_21, e143_22, e143_25, e143_28, e143_30, e143_31, e143_32, e143_35, e143_36, e143_40, e143_41, e143_44, e143_45, e143_46, e143_47, e143_48, e143_49, e143_51, e143_52, e143_53, e143_56, e143_57, e143_60, e143_61, e143_62, e143_64, e143_65, e143_66, e143_69, e143_71, e143_73, e143_75, e143_78, e143_79, e143_81, e143_83, e143_84, e143_86, e143_88, e143_89, e143_92, e143_95, e143_96, e143_99, e143_100, e143_102, e143_104, e143_107, e143_109, e143_111, e143_114, e143_115, e143_116, e143_119, e143_120, e143_122, e143_125, e143_126, e143_127, e143_130, e143_132, e143_135, e143_137, e143_138, e143_141, e143_144, e143_146, bI_s, bL_s, bV_s, rv_s1, nl_i, nl_a, nl_n, w8_0, w8_i, w8_a, w8_l, ct_i, ct_a, b01_0, b01_1, b01_b, hF.m4, hF.m5, hF.m6, hF.m7, hF.m8, hF.m9, hF.m10, hF.m16, hF.m17, hF.m18, hF.m19, hF.m20, hF.m21, hF.m22, hF.m23, hF.m29, hF.m30, hF.m35, hF.m37, hF.m38, hF.m40, hF.m41, hF.m43, hF.m44, kd_87, al_88, al_89, al_90, al_91, al_92, al_93, al_94, al_95, al_96, al_97, al_98, al_99, al_100, al_101, al_102, al_103, al_104, al_105, al_106, al_108, al_111, zl_107, zl_109, zl_110, Nat.reduceLT, nI_leI (show n < 2 ^ 31 by omega) (show i < 2 ^ 31 by omega), show ¬ n ≤ i by omega, if_false, pk_sub hn.1, pk_sub (show i ≤ n - 1 by omega), pk_mul, m_tenTo (show 2 * (n - 1 - i) < 100 by omega), ez, not_false_eq_true, pk_lDiv hm ht1 (show 10 ^ (2 * (n - 1 - i)) < 2 ^ 63 by omega), show ¬ lN 100 = 0 by decide, pk_lRem hlt (show 0 < 100 by decide) (show 100 < 2 ^ 63 by decide), lN_i, edg, la, h91, show ¬ nI 10 = 0 by decide, pk_div (show dgf m n i < 2 ^ 31 by omega) (show 0 < 10 by decide) (show 10 < 2 ^ 31 by decide)]
      have er := rem_b (show dgf m n i < 2 ^ 31 by omega) (show 0 < 10 by decide) (show 10 < 2 ^ 31 by decide)
      rw [pk_mul] at er
      simp only [er, e1, bI_s, bL_s, bV_s, rv_s1, nl_i, nl_a, nl_n, w8_0, w8_i, w8_a, w8_l, ct_i, ct_a, b01_0, b01_1, b01_b, nI_b]
      cases hj : jok (g 0) sh (dgf m n i) with
      | false =>
        refine ⟨J1, ?_, oJ.tr o1⟩
        simp only [e143_0, e143_1, e143_2, e143_3, e143_6, e143_9, e143_12, e143_13, e143_14, e143_15, e143_16, e143_17, e143_20, e143_21, e143_22, e143_25, e143_28, e143_30, e143_31, e143_32, e143_35, e143_36, e143_40, e143_41, e143_44, e143_45, e143_46, e143_47, e143_48, e143_49, e143_51, e143_52, e143_53, e143_56, e143_57, e143_60, e143_61, e143_62, e143_64, e143_65, e143_66, e143_69, e143_71, e143_73, e143_75, e143_78, e143_79, e143_81, e143_83, e143_84, e143_86, e143_88, e143_89, e143_92, e143_95, e143_96, e143_99, e143_100, e143_102, e143_104, e143_107, e143_109, e143_111, e143_114, e143_115, e143_116, e143_119, e143_120, e143_122, e143_125, e143_126, e143_127, e143_130, e143_132, e143_135, e143_137, e143_138, e143_141, e143_144, e143_146, bI_s, bL_s, bV_s, rv_s1, nl_i, nl_a, nl_n, w8_0, w8_i, w8_a, w8_l, ct_i, ct_a, b01_0, b01_1, b01_b, if_true, if_false, Bool.false_eq_true]
      | true =>
        have hv2 := jnx_WS hw hvJ hj
        have lb := m_atLast (Z := Z) (L := L) (l := 1) hF (hCJ.off o1.1) (by decide) (S1 hj) hw hv2
        have en : lastf (g 0) (jnx (g 0) sh (dgf m n i)) 0 = lastf (g 0) sh 0 := by
          unfold lastf
          refine mk_congr _ fun j hjj => ?_
          rw [plbf_0 hv2 hjj, plbf_0 hvJ hjj]
          unfold jnx
          rw [if_neg h9]
          rfl
        obtain ⟨J', e, o'⟩ := ih (i + 1) J1 _ (some (.int (nI (dgf m n i)))) (some (.int (nI (lastf (g 0) sh 0)))) (some (.int (nI 1))) (by omega) (oJ.tr o1) (S1 hj) hv2
        refine ⟨J', ?_, o'⟩
        rw [en] at lb
        simp only [e143_0, e143_1, e143_2, e143_3, e143_6, e143_9, e143_12, e143_13, e143_14, e143_15, e143_16, e143_17, e143_20, e143_21, e143_22, e143_25, e143_28, e143_30, e143_31, e143_32, e143_35, e143_36, e143_40, e143_41, e143_44, e143_45, e143_46, e143_47, e143_48, e143_49, e143_51, e143_52, e143_53, e143_56, e143_57, e143_60, e143_61, e143_62, e143_64, e143_65, e143_66, e143_69, e143_71, e143_73, e143_75, e143_78, e143_79, e143_81, e143_83, e143_84, e143_86, e143_88, e143_89, e143_92, e143_95, e143_96, e143_99, e143_100, e143_102, e143_104, e143_107, e143_109, e143_111, e143_114, e143_115, e143_116, e143_119, e143_120, e143_122, e143_125, e143_126, e143_127, e143_130, e143_132, e143_135, e143_137, e143_138, e143_141, e143_144, e143_146, bI_s, bL_s, bV_s, rv_s1, nl_i, nl_a, nl_n, w8_0, w8_i, w8_a, w8_l, ct_i, ct_a, b01_0, b01_1, b01_b, kd_87, if_true, if_false, Bool.true_eq_false, nI10, h91, lb, nI_add]
        exact e
theorem B_judge (x : Int32) (r : Int64) : Both Z 73 143 [.int x, .long r] := by
  intro g sd hp
  have hw := hp.wf
  have hv := hp.ws
  have h6 := hw.t6
  have in5 := in_1 (show 5 < 2 ^ 31 by decide) x
  by_cases hx : 1 ≤ x.toInt ∧ x.toInt ≤ 5
  · obtain ⟨n, hn, rfl⟩ : ∃ n : Nat, (1 ≤ n ∧ n ≤ 5) ∧ x = nI n := by
      refine ⟨x.toInt.toNat, by omega, ?_⟩
      rw [nI_iI, show (x.toInt.toNat : Int) = x.toInt by omega]
      exact iI_of x
    rw [decide_eq_true (show 1 ≤ (nI n).toInt ∧ (nI n).toInt ≤ (5 : Nat) from hx)] at in5
    have ht2 : 10 ^ (2 * n) ≤ 10 ^ 10 := Nat.pow_le_pow_right (by decide) (by omega)
    have ht1 : 0 < 10 ^ (2 * n) := Nat.pow_pos (by decide)
    have e100 : 100 ^ n = 10 ^ (2 * n) := by
      rw [Nat.pow_mul, show 10 ^ 2 = 100 from rfl]
    generalize hT : 10 ^ (2 * n) = T at ht1 ht2 e100
    have htn : ∀ (I : ab_I) (R : ab_R) (L : ab_L), cl Z 144 [.int (nI (2 * n))] I R L = some (some (.long (lN T)), I, R, L) := fun I R L => by
      rw [← hT]
      exact m_tenTo (by omega)
    have hsub := lN_sub1 (a := T) (by omega)
    have hin : (decide ((lN 0).toInt ≤ r.toInt ∧ r.toInt ≤ (lN T - lN 1).toInt)) = decide (0 ≤ r.toInt ∧ r.toInt < (T : Int)) := by
      rw [hsub, lN0]
      exact decide_eq_decide.mpr ⟨fun w => ⟨w.1, by omega⟩, fun w => ⟨w.1, by omega⟩⟩
    by_cases hr : 0 ≤ r.toInt
    · obtain ⟨m, hm, rfl⟩ := pk_lOf (x := r) (fun w => by
        rw [Int64.lt_iff_toInt_lt] at w
        have : (0 : Int64).toInt = 0 := by decide
        omega)
      have hlt : m / 100 ^ n < 2 ^ 63 := Nat.lt_of_le_of_lt (Nat.div_le_self _ _) hm
      have eT := pk_lT hm
      rw [eT] at hr
      have hmz : ¬ lg_cmp (lN m) (lN 0) < nI 0 := by
        rw [cmp_lt, pk_lT hm, lN0]
        omega
      by_cases hq : m < T
      · have hz : m / 100 ^ n = 0 := Nat.div_eq_of_lt (by omega)
        rw [decide_eq_true (show 0 ≤ (lN m).toInt ∧ (lN m).toInt < (T : Int) by rw [eT]; omega)] at hin
        refine ⟨.int (jrs (g 0) m n n 0 (g 1)), g, sd, hp, fun c I R L k => ?_, fun I R L k => ?_⟩
        · have hc := k.cc
          have hF := k.F
          obtain ⟨J1, e1, o1, S1⟩ := s_copy (Z := Z) (L := L) hF IsS_22 IsS_19 (by omega) h6 k.S
          obtain ⟨J', e, o'⟩ := x_judgeL (Z := Z) hp k hn hm n 0 J1 (g 1) none (by omega) o1 S1 hv
          refine ⟨c, J', R, L, ?_, k.tri (fun p a b d _ _ _ => o' p a b d), o'.fx IsS_22, rfl⟩
          rw [n73]
          simp only [e73_0, e73_1, e73_2, e73_5, e73_6, e73_7, e73_10, e73_11, e73_12, e73_13, e73_16, e73_17, e73_18, e73_21, e73_22, e73_23, e73_26, e73_28, e73_29, e73_30, e73_33, e73_34, e73_37, e73_40, e73_41, e73_45, e73_46, e73_49, e73_50, e73_51, e73_52, e73_53, e73_55, e73_56, e73_59, e73_62, e73_63, e73_64, e73_66, e73_67, e73_68, e73_71, e73_73, e73_75, e73_76, e73_78, e73_80, e73_81, e73_84, e73_87, e73_89, e73_90, e73_93, e73_96, e73_98, bI_s, bL_s, bV_s, rv_s1, nl_i, nl_a, nl_n, w8_0, w8_i, w8_a, w8_l, ct_i, ct_a, b01_0, b01_1, b01_b, hF.x0, hF.x2, hF.x5, hF.x6, hF.x7, hF.x10, hF.x12, hF.x13, hF.x15, hF.k0, hF.k1, hF.k2, hF.m4, hF.m5, hF.m6, hF.m7, hF.m8, hF.m9, hF.m10, hF.m16, hF.m17, hF.m18, hF.m19, hF.m20, hF.m21, hF.m22, hF.m23, hF.m29, hF.m30, hF.m35, hF.m37, hF.m38, hF.m40, hF.m41, hF.m43, hF.m44, hF.q0, hF.q1, kd_0, kd_2, kd_3, kd_11, kd_19, kd_22, kd_27, kd_87, al_1, al_4, al_5, al_6, al_7, al_8, al_9, al_10, al_12, al_13, al_14, al_15, al_16, al_17, al_18, al_20, al_21, al_23, al_24, al_28, al_29, al_30, al_31, al_32, al_1001, al_1002, ql_25, ql_26, Nat.reduceLT, nI_ltI (show n < 2 ^ 31 by omega) (show 1 < 2 ^ 31 by decide), show ¬ n < 1 by omega, nI_ltI (show 5 < 2 ^ 31 by decide) (show n < 2 ^ 31 by omega), show ¬ 5 < n by omega, if_false, hmz, x_upper hm (show n < 100 by omega), hz, cmp_eq, if_true, e1]
          exact e
        · have hF := k.F
          obtain ⟨J1, e1, o1, S1⟩ := m_layTrial (Z := Z) (L := L) hF k.S h6
          obtain ⟨J', e, o'⟩ := m_judgeL (Z := Z) hp k hn hm n 0 J1 (g 1) none none none (by omega) o1 S1 hv
          refine ⟨J', L, ?_, k.tri (fun p a _ _ _ => o'.1 p a) (fun k' _ => by rw [o'.1 87 (by decide)]) (fun j hj => o'.2 j (Or.inl hj)) h6, o'.fm, rfl⟩
          rw [n143]
          simp only [e143_0, e143_1, e143_2, e143_3, e143_6, e143_9, e143_12, e143_13, e143_14, e143_15, e143_16, e143_17, e143_20, e143_21, e143_22, e143_25, e143_28, e143_30, e143_31, e143_32, e143_35, e143_36, e143_40, e143_41, e143_44, e143_45, e143_46, e143_47, e143_48, e143_49, e143_51, e143_52, e143_53, e143_56, e143_57, e143_60, e143_61, e143_62, e143_64, e143_65, e143_66, e143_69, e143_71, e143_73, e143_75, e143_78, e143_79, e143_81, e143_83, e143_84, e143_86, e143_88, e143_89, e143_92, e143_95, e143_96, e143_99, e143_100, e143_102, e143_104, e143_107, e143_109, e143_111, e143_114, e143_115, e143_116, e143_119, e143_120, e143_122, e143_125, e143_126, e143_127, e143_130, e143_132, e143_135, e143_137, e143_138, e143_141, e143_144, e143_146, bI_s, bL_s, bV_s, rv_s1, nl_i, nl_a, nl_n, w8_0, w8_i, w8_a, w8_l, ct_i, ct_a, b01_0, b01_1, b01_b, hF.m4, hF.m5, hF.m6, hF.m7, hF.m8, hF.m9, hF.m10, hF.m16, hF.m17, hF.m18, hF.m19, hF.m20, hF.m21, hF.m22, hF.m23, hF.m29, hF.m30, hF.m35, hF.m37, hF.m38, hF.m40, hF.m41, hF.m43, hF.m44, kd_87, al_88, al_89, al_90, al_91, al_92, al_93, al_94, al_95, al_96, al_97, al_98, al_99, al_100, al_101, al_102, al_103, al_104, al_105, al_106, al_108, al_111, zl_107, zl_109, zl_110, Nat.reduceLT, s_in, in5, Bool.toNat_true, nI10, if_false, pk_mul, htn, hin, e1]
          exact e
      · have hz : ¬ m / 100 ^ n = 0 := by
          rw [e100, Nat.div_eq_zero_iff]
          omega
        rw [decide_eq_false (show ¬ (0 ≤ (lN m).toInt ∧ (lN m).toInt < (T : Int)) by rw [eT]; omega)] at hin
        refine Both.tell (v := .int (iI (-2))) hp (fun c I R L k => ?_) (fun I R L k => ?_)
        · rw [n73]
          simp only [e73_0, e73_1, e73_2, e73_5, e73_6, e73_7, e73_10, e73_11, e73_12, e73_13, e73_16, e73_17, e73_18, e73_21, e73_22, e73_23, e73_26, e73_28, e73_29, e73_30, e73_33, e73_34, e73_37, e73_40, e73_41, e73_45, e73_46, e73_49, e73_50, e73_51, e73_52, e73_53, e73_55, e73_56, e73_59, e73_62, e73_63, e73_64, e73_66, e73_67, e73_68, e73_71, e73_73, e73_75, e73_76, e73_78, e73_80, e73_81, e73_84, e73_87, e73_89, e73_90, e73_93, e73_96, e73_98, bI_s, bL_s, bV_s, rv_s1, nl_i, nl_a, nl_n, w8_0, w8_i, w8_a, w8_l, ct_i, ct_a, b01_0, b01_1, b01_b, nI_ltI (show n < 2 ^ 31 by omega) (show 1 < 2 ^ 31 by decide), show ¬ n < 1 by omega, nI_ltI (show 5 < 2 ^ 31 by decide) (show n < 2 ^ 31 by omega), show ¬ 5 < n by omega, if_false, hmz, x_upper hm (show n < 100 by omega), cmp_eq, pk_lEQ hlt (show 0 < 2 ^ 63 by decide), hz]
        · rw [n143]
          simp only [e143_0, e143_1, e143_2, e143_3, e143_6, e143_9, e143_12, e143_13, e143_14, e143_15, e143_16, e143_17, e143_20, e143_21, e143_22, e143_25, e143_28, e143_30, e143_31, e143_32, e143_35, e143_36, e143_40, e143_41, e143_44, e143_45, e143_46, e143_47, e143_48, e143_49, e143_51, e143_52, e143_53, e143_56, e143_57, e143_60, e143_61, e143_62, e143_64, e143_65, e143_66, e143_69, e143_71, e143_73, e143_75, e143_78, e143_79, e143_81, e143_83, e143_84, e143_86, e143_88, e143_89, e143_92, e143_95, e143_96, e143_99, e143_100, e143_102, e143_104, e143_107, e143_109, e143_111, e143_114, e143_115, e143_116, e143_119, e143_120, e143_122, e143_125, e143_126, e143_127, e143_130, e143_132, e143_135, e143_137, e143_138, e143_141, e143_144, e143_146, bI_s, bL_s, bV_s, rv_s1, nl_i, nl_a, nl_n, w8_0, w8_i, w8_a, w8_l, ct_i, ct_a, b01_0, b01_1, b01_b, kd_87, s_in, in5, Bool.toNat_true, nI10, if_false, pk_mul, htn, hin, Bool.toNat_false, if_true]
    · have hmz : lg_cmp r (lN 0) < nI 0 := by
        rw [cmp_lt, lN0]
        omega
      rw [decide_eq_false (show ¬ (0 ≤ r.toInt ∧ r.toInt < (T : Int)) from fun w => hr w.1)] at hin
      refine Both.tell (v := .int (iI (-2))) hp (fun c I R L k => ?_) (fun I R L k => ?_)
      · rw [n73]
        simp only [e73_0, e73_1, e73_2, e73_5, e73_6, e73_7, e73_10, e73_11, e73_12, e73_13, e73_16, e73_17, e73_18, e73_21, e73_22, e73_23, e73_26, e73_28, e73_29, e73_30, e73_33, e73_34, e73_37, e73_40, e73_41, e73_45, e73_46, e73_49, e73_50, e73_51, e73_52, e73_53, e73_55, e73_56, e73_59, e73_62, e73_63, e73_64, e73_66, e73_67, e73_68, e73_71, e73_73, e73_75, e73_76, e73_78, e73_80, e73_81, e73_84, e73_87, e73_89, e73_90, e73_93, e73_96, e73_98, bI_s, bL_s, bV_s, rv_s1, nl_i, nl_a, nl_n, w8_0, w8_i, w8_a, w8_l, ct_i, ct_a, b01_0, b01_1, b01_b, nI_ltI (show n < 2 ^ 31 by omega) (show 1 < 2 ^ 31 by decide), show ¬ n < 1 by omega, nI_ltI (show 5 < 2 ^ 31 by decide) (show n < 2 ^ 31 by omega), show ¬ 5 < n by omega, if_false, hmz, if_true]
      · rw [n143]
        simp only [e143_0, e143_1, e143_2, e143_3, e143_6, e143_9, e143_12, e143_13, e143_14, e143_15, e143_16, e143_17, e143_20, e143_21, e143_22, e143_25, e143_28, e143_30, e143_31, e143_32, e143_35, e143_36, e143_40, e143_41, e143_44, e143_45, e143_46, e143_47, e143_48, e143_49, e143_51, e143_52, e143_53, e143_56, e143_57, e143_60, e143_61, e143_62, e143_64, e143_65, e143_66, e143_69, e143_71, e143_73, e143_75, e143_78, e143_79, e143_81, e143_83, e143_84, e143_86, e143_88, e143_89, e143_92, e143_95, e143_96, e143_99, e143_100, e143_102, e143_104, e143_107, e143_109, e143_111, e143_114, e143_115, e143_116, e143_119, e143_120, e143_122, e143_125, e143_126, e143_127, e143_130, e143_132, e143_135, e143_137, e143_138, e143_141, e143_144, e143_146, bI_s, bL_s, bV_s, rv_s1, nl_i, nl_a, nl_n, w8_0, w8_i, w8_a, w8_l, ct_i, ct_a, b01_0, b01_1, b01_b, kd_87, s_in, in5, Bool.toNat_true, nI10, if_false, pk_mul, htn, hin, Bool.toNat_false, if_true]
  · rw [decide_eq_false (show ¬ (1 ≤ x.toInt ∧ x.toInt ≤ (5 : Nat)) from hx)] at in5
    refine Both.tell (v := .int (iI (-2))) hp (fun c I R L k => ?_) (fun I R L k => ?_)
    · rw [n73]
      simp only [e73_0, e73_1, e73_2, e73_5, e73_6, e73_7, e73_10, e73_11, e73_12, e73_13, e73_16, e73_17, e73_18, e73_21, e73_22, e73_23, e73_26, e73_28, e73_29, e73_30, e73_33, e73_34, e73_37, e73_40, e73_41, e73_45, e73_46, e73_49, e73_50, e73_51, e73_52, e73_53, e73_55, e73_56, e73_59, e73_62, e73_63, e73_64, e73_66, e73_67, e73_68, e73_71, e73_73, e73_75, e73_76, e73_78, e73_80, e73_81, e73_84, e73_87, e73_89, e73_90, e73_93, e73_96, e73_98, bI_s, bL_s, bV_s, rv_s1, nl_i, nl_a, nl_n, w8_0, w8_i, w8_a, w8_l, ct_i, ct_a, b01_0, b01_1, b01_b, Int32.lt_iff_toInt_lt, nI_toInt (show 1 < 2 ^ 31 by decide), nI_toInt (show 5 < 2 ^ 31 by decide)]
      by_cases h1 : x.toInt < 1
      · simp [h1]
      · simp [h1, show (5 : Int) < x.toInt by omega]
    · rw [n143]
      simp only [e143_0, e143_1, e143_2, e143_3, e143_6, e143_9, e143_12, e143_13, e143_14, e143_15, e143_16, e143_17, e143_20, e143_21, e143_22, e143_25, e143_28, e143_30, e143_31, e143_32, e143_35, e143_36, e143_40, e143_41, e143_44, e143_45, e143_46, e143_47, e143_48, e143_49, e143_51, e143_52, e143_53, e143_56, e143_57, e143_60, e143_61, e143_62, e143_64, e143_65, e143_66, e143_69, e143_71, e143_73, e143_75, e143_78, e143_79, e143_81, e143_83, e143_84, e143_86, e143_88, e143_89, e143_92, e143_95, e143_96, e143_99, e143_100, e143_102, e143_104, e143_107, e143_109, e143_111, e143_114, e143_115, e143_116, e143_119, e143_120, e143_122, e143_125, e143_126, e143_127, e143_130, e143_132, e143_135, e143_137, e143_138, e143_141, e143_144, e143_146, bI_s, bL_s, bV_s, rv_s1, nl_i, nl_a, nl_n, w8_0, w8_i, w8_a, w8_l, ct_i, ct_a, b01_0, b01_1, b01_b, kd_87, s_in, in5, Bool.toNat_false, if_true]
end JUDGE
