/-! say, stone, pay, blow, dawn, undo, keep, again -/
def shW (sh : Co) (a b v : Nat) : Co := fun a' b' => if a' = a ∧ b' = b then v else sh a' b'
theorem or_pc : ∀ s, s < 64 → ∀ t, t < 6 → s.testBit t = false → pc (s ||| 2 ^ t) 6 = pc s 6 + 1 := by decide +kernel
theorem or_64 {s t : Nat} (hs : s < 64) (ht : t < 6) : s ||| 2 ^ t < 64 := Nat.or_lt_two_pow (n := 6) hs (Nat.pow_lt_pow_right (by decide) ht)
theorem xor_64 {s t : Nat} (hs : s < 64) (ht : t < 6) : s ^^^ 2 ^ t < 64 := Nat.xor_lt_two_pow (n := 6) hs (Nat.pow_lt_pow_right (by decide) ht)
theorem PG.now {g : Gs} {sh : Co} (h : PG g) (h1 : WS (g 0) sh) (h2 : WN (g 0) sh) : PG (gS g 1 sh) := by
  have e10 : ∀ j, gS g 1 sh (10 + j) = g (10 + j) := fun j => if_neg (by omega)
  have e30 : ∀ j, gS g 1 sh (30 + j) = g (30 + j) := fun j => if_neg (by omega)
  refine ⟨h.wf, h1, h2, h.2.2.2.1, h.2.2.2.2.1, h.2.2.2.2.2.1, h.2.2.2.2.2.2.1, h.2.2.2.2.2.2.2.1, ?_, ?_⟩
  · simp only [e10]
    exact h.2.2.2.2.2.2.2.2.1
  · simp only [e30]
    exact h.2.2.2.2.2.2.2.2.2
theorem OffS.w {I : ab_I} {s o k : Nat} {v : Int32} (h : o = s ∨ o = s + 1 ∨ o = s + 2) : OffS I (wI I o k v) s := fun p a b d => by
  funext j
  rw [wI_o (by omega)]
theorem OffL.w {I : ab_I} {b k : Nat} {v : Int32} (h : b ≤ k ∧ k < b + 13) : OffL I (wI I 94 k v) b := ⟨fun o ho => by funext j; rw [wI_o ho], fun j hj => wI_k (by omega)⟩
theorem XS.w1 {I : ab_I} {s h v : Nat} {co sh : Co} (hS : XS I s co sh) (hh : h < 4) : XS (wI I (s + 2) h (nI v)) s co (shW sh 1 h v) := by
  refine ⟨fun t ht => ?_, fun i hi => ?_, ?_, ?_, ?_⟩
  · rw [wI_o (by omega), hS.pl ht, shW, if_neg (by omega)]
  · by_cases e : i = h
    · rw [e, wI_self, shW, if_pos ⟨rfl, rfl⟩]
    · rw [wI_k e, hS.sd hi, shW, if_neg (by omega)]
  · rw [wI_o (by omega), hS.st, shW, if_neg (by omega)]
  · rw [wI_o (by omega), hS.ow, shW, if_neg (by omega)]
  · rw [wI_o (by omega), hS.bl, shW, if_neg (by omega)]
theorem XS.w2 {I : ab_I} {s v : Nat} {co sh : Co} (hS : XS I s co sh) : XS (wI I s 2 (nI v)) s co (shW sh 2 0 v) := by
  refine ⟨fun t ht => ?_, fun i hi => ?_, ?_, ?_, ?_⟩
  · rw [wI_o (by omega), hS.pl ht, shW, if_neg (by omega)]
  · rw [wI_o (by omega), hS.sd hi, shW, if_neg (by omega)]
  · rw [wI_self, shW, if_pos ⟨rfl, rfl⟩]
  · rw [wI_k (by decide), hS.ow, shW, if_neg (by omega)]
  · rw [wI_k (by decide), hS.bl, shW, if_neg (by omega)]
theorem XS.w3 {I : ab_I} {s v : Nat} {co sh : Co} (hS : XS I s co sh) : XS (wI I s 3 (nI v)) s co (shW sh 2 1 v) := by
  refine ⟨fun t ht => ?_, fun i hi => ?_, ?_, ?_, ?_⟩
  · rw [wI_o (by omega), hS.pl ht, shW, if_neg (by omega)]
  · rw [wI_o (by omega), hS.sd hi, shW, if_neg (by omega)]
  · rw [wI_k (by decide), hS.st, shW, if_neg (by omega)]
  · rw [wI_self, shW, if_pos ⟨rfl, rfl⟩]
  · rw [wI_k (by decide), hS.bl, shW, if_neg (by omega)]
theorem MS.w1 {I : ab_I} {b h v : Nat} {co sh : Co} (hS : MS (I 94) b co sh) (h6 : co 0 3 ≤ 6) (hh : h < 4) : MS (wI I 94 (b + 6 + h) (nI v) 94) b co (shW sh 1 h v) := by
  refine ⟨fun t ht => ?_, fun i hi => ?_, ?_, ?_, ?_⟩
  · rw [wI_k (by omega), hS.pl ht, shW, if_neg (by omega)]
  · by_cases e : i = h
    · rw [e, wI_self, shW, if_pos ⟨rfl, rfl⟩]
    · rw [wI_k (by omega), hS.sd hi, shW, if_neg (by omega)]
  · rw [wI_k (by omega), hS.st, shW, if_neg (by omega)]
  · rw [wI_k (by omega), hS.ow, shW, if_neg (by omega)]
  · rw [wI_k (by omega), hS.bl, shW, if_neg (by omega)]
theorem MS.w2 {I : ab_I} {b k v : Nat} {co sh : Co} (hS : MS (I 94) b co sh) (h6 : co 0 3 ≤ 6) (hk : k < 3) : MS (wI I 94 (b + 10 + k) (nI v) 94) b co (shW sh 2 k v) := by
  refine ⟨fun t ht => ?_, fun i hi => ?_, ?_, ?_, ?_⟩
  · rw [wI_k (by omega), hS.pl ht, shW, if_neg (by omega)]
  · rw [wI_k (by omega), hS.sd hi, shW, if_neg (by omega)]
  · by_cases e : k = 0
    · rw [e, wI_self, shW, if_pos ⟨rfl, rfl⟩]
    · rw [wI_k (by omega), hS.st, shW, if_neg (by omega)]
  · by_cases e : k = 1
    · rw [e, show b + 10 + 1 = b + 11 by omega, wI_self, shW, if_pos ⟨rfl, rfl⟩]
    · rw [wI_k (by omega), hS.ow, shW, if_neg (by omega)]
  · by_cases e : k = 2
    · rw [e, show b + 10 + 2 = b + 12 by omega, wI_self, shW, if_pos ⟨rfl, rfl⟩]
    · rw [wI_k (by omega), hS.bl, shW, if_neg (by omega)]
theorem shW1_WS {co sh : Co} {h v : Nat} (hv : WS co sh) (h64 : v < 64) : WS co (shW sh 1 h v) := by
  refine ⟨fun t ht => ?_, fun i hi => ?_, ?_, ?_⟩
  · rw [shW, if_neg (by omega)]
    exact hv.1 t ht
  · rw [shW]
    split
    · exact h64
    · exact hv.2.1 i hi
  · rw [shW, if_neg (by omega)]
    exact hv.2.2.1
  · rw [shW, if_neg (by omega)]
    exact hv.2.2.2
theorem shW2_WS {co sh : Co} {k v : Nat} (hv : WS co sh) (h : (k = 0 ∧ v < 64) ∨ (k = 1 ∧ v < 16)) : WS co (shW sh 2 k v) := by
  refine ⟨fun t ht => ?_, fun i hi => ?_, ?_, ?_⟩
  · rw [shW, if_neg (by omega)]
    exact hv.1 t ht
  · rw [shW, if_neg (by omega)]
    exact hv.2.1 i hi
  · rw [shW]
    split
    · omega
    · exact hv.2.2.1
  · rw [shW]
    split
    · omega
    · exact hv.2.2.2
theorem shW2_WN {co sh : Co} {k v : Nat} (hv : WN co sh) : WN co (shW sh 2 k v) := by
  refine ⟨fun h hh => ?_, fun h hh h2 => ?_⟩
  · rw [shW, if_neg (by omega)]
    exact hv.1 h hh
  · rw [shW, if_neg (by omega)]
    exact hv.2 h hh h2
theorem shW1_WN {co sh : Co} {k v : Nat} (hv : WN co sh) (hk : k < co 0 2) (h : pc v 6 ≤ co 2 k) : WN co (shW sh 1 k v) := by
  refine ⟨fun i hi => ?_, fun i hi h2 => ?_⟩
  · rw [shW]
    split
    · rename_i e
      rw [e.2]
      exact h
    · exact hv.1 i hi
  · rw [shW, if_neg (by omega)]
    exact hv.2 i hi h2
section SAID
variable {Z : Nat}
theorem B_say (x y : Int32) : Both Z 66 133 [.int x, .int y] := by
  intro g sd hp
  have hw := hp.wf
  have hv := hp.ws
  have h4 := hw.h4
  have h6 := hw.t6
  by_cases hxy : hasI x (g 0 0 2) = false ∨ hasI y (g 0 0 3) = false
  · refine Both.tell (v := .int (iI (-1))) hp (fun c I R L h => ?_) (fun I R L h => ?_)
    · have hc := h.cc
      have hF := h.F
      rw [n66]
      simp only [e66_0, e66_1, e66_4, e66_5, e66_8, e66_9, e66_10, e66_13, e66_14, e66_15, e66_18, e66_19, e66_20, e66_21, e66_24, e66_25, e66_28, e66_31, e66_32, e66_33, e66_34, e66_35, e66_36, e66_37, e66_38, e66_39, e66_40, e66_43, e66_44, e66_47, e66_48, e66_51, e66_54, e66_55, e66_58, e66_59, bI_s, bL_s, bV_s, rv_s1, nl_i, nl_a, nl_n, w8_0, w8_i, w8_a, w8_l, ct_i, ct_a, b01_0, b01_1, b01_b, kd_0, h.r3, hF.x5, kdC hc, s_whyNot0 hc h.C hw x y hxy]
      simp
      exact fun w => absurd w (by decide)
    · rw [n133]
      simp only [e133_0, e133_1, e133_2, e133_5, e133_8, e133_9, e133_10, e133_13, e133_16, e133_17, e133_18, e133_19, e133_20, e133_21, e133_24, e133_27, e133_29, e133_30, e133_31, e133_34, e133_36, e133_37, e133_38, e133_39, e133_40, e133_43, e133_46, e133_47, e133_48, e133_51, e133_54, e133_56, e133_57, e133_58, e133_61, e133_62, e133_65, e133_67, e133_68, e133_69, e133_70, e133_71, e133_72, e133_73, e133_74, e133_75, e133_76, e133_77, e133_78, e133_79, e133_82, e133_85, e133_86, e133_89, e133_90, bI_s, bL_s, bV_s, rv_s1, nl_i, nl_a, nl_n, w8_0, w8_i, w8_a, w8_l, ct_i, ct_a, b01_0, b01_1, b01_b, kd_87, m_isHouse h.C hw, m_isThing h.C hw]
      rcases hxy with h1 | h1
      · simp [h1]
      · simp only [h1]
        cases hasI x (g 0 0 2) <;> simp
  · have hx : hasI x (g 0 0 2) = true := by
      cases h1 : hasI x (g 0 0 2)
      · exact absurd (Or.inl h1) hxy
      · rfl
    have hy : hasI y (g 0 0 3) = true := by
      cases h1 : hasI y (g 0 0 3)
      · exact absurd (Or.inr h1) hxy
      · rfl
    obtain ⟨h, hh, rfl⟩ := hasI_t (by omega) hx
    obtain ⟨t, ht, rfl⟩ := hasI_t (by omega) hy
    have h64 := hv.2.1 h (by omega)
    have hn := hp.wn.1 h hh
    by_cases hwhy : whyf (g 0) (g 1) h t = nI 0
    · have hnear : nearf (g 0) (g 1) h t = true := by
        cases h1 : nearf (g 0) (g 1) h t
        · unfold whyf at hwhy
          rw [h1, if_pos rfl] at hwhy
          exact absurd hwhy (by decide)
        · rfl
      have hrest : ¬ ((g 1 1 h).testBit t = true ∨ g 0 2 h ≤ pc (g 1 1 h) 6) := by
        intro w
        unfold whyf at hwhy
        rw [hnear, if_neg (by decide), if_pos w] at hwhy
        exact absurd hwhy (by decide)
      have hbit : (g 1 1 h).testBit t = false := by
        cases h1 : (g 1 1 h).testBit t
        · rfl
        · exact absurd (Or.inl h1) hrest
      have hless : pc (g 1 1 h) 6 < g 0 2 h := by omega
      have hpc := or_pc (g 1 1 h) h64 t (by omega) hbit
      have hp2 := keepA_PG hp
      have s0 : WS (g 0) (shW (g 1) 1 h (g 1 1 h ||| 2 ^ t)) := shW1_WS hv (or_64 h64 (by omega))
      have s1 : WN (g 0) (shW (g 1) 1 h (g 1 1 h ||| 2 ^ t)) := shW1_WN hp.wn hh (by omega)
      refine ⟨.int (nI (stayf (g 0) (shW (g 1) 1 h (g 1 1 h ||| 2 ^ t)) t).toNat), gS (keepA g) 1 (shW (g 1) 1 h (g 1 1 h ||| 2 ^ t)), sd, hp2.now (by rw [keepA_0]; exact s0) (by rw [keepA_0]; exact s1), fun c I R L k => ?_, fun I R L k => ?_⟩
      · have hc := k.cc
        have hF := k.F
        obtain ⟨I1, e1, x1, f1⟩ := x_noteAct (Z := Z) hp k
        have S1 := x1.S
        have C1 := x1.C
        rw [keepA_0, keepA_1] at S1
        rw [keepA_0] at C1
        have S2 := S1.w1 (h := h) (v := g 1 1 h ||| 2 ^ t) (by omega)
        have o2 : OffS I1 (wI I1 (19 + 2) h (nI (g 1 1 h ||| 2 ^ t))) 19 := OffS.w (Or.inr (Or.inr rfl))
        refine ⟨c, wI I1 (19 + 2) h (nI (g 1 1 h ||| 2 ^ t)), R, L, ?_, x1.now o2 (by rw [keepA_0]; exact S2), f1.tr (o2.fx IsS_19), rfl⟩
        have s21 : I1 21 h = nI (g 1 1 h) := S1.sd (by omega)
        have C2 := C1.offS hc IsS_19 o2
        rw [n66]
        simp only [e66_0, e66_1, e66_4, e66_5, e66_8, e66_9, e66_10, e66_13, e66_14, e66_15, e66_18, e66_19, e66_20, e66_21, e66_24, e66_25, e66_28, e66_31, e66_32, e66_33, e66_34, e66_35, e66_36, e66_37, e66_38, e66_39, e66_40, e66_43, e66_44, e66_47, e66_48, e66_51, e66_54, e66_55, e66_58, e66_59, bI_s, bL_s, bV_s, rv_s1, nl_i, nl_a, nl_n, w8_0, w8_i, w8_a, w8_l, ct_i, ct_a, b01_0, b01_1, b01_b, hF.x0, hF.x2, hF.x5, hF.x6, hF.x7, hF.x10, hF.x12, hF.x13, hF.x15, hF.k0, hF.k1, hF.k2, hF.m4, hF.m5, hF.m6, hF.m7, hF.m8, hF.m9, hF.m10, hF.m16, hF.m17, hF.m18, hF.m19, hF.m20, hF.m21, hF.m22, hF.m23, hF.m29, hF.m30, hF.m35, hF.m37, hF.m38, hF.m40, hF.m41, hF.m43, hF.m44, hF.q0, hF.q1, kd_0, kd_2, kd_3, kd_11, kd_19, kd_22, kd_27, kd_87, al_1, al_4, al_5, al_6, al_7, al_8, al_9, al_10, al_12, al_13, al_14, al_15, al_16, al_17, al_18, al_20, al_21, al_23, al_24, al_28, al_29, al_30, al_31, al_32, al_1001, al_1002, ql_25, ql_26, Nat.reduceLT, k.r3, kdC hc, s_whyNotSaid hF hc IsS_19 k.C k.S hw hv hh ht, hwhy, if_true, e1, hF.s1 IsS_19, Nat.reduceAdd, ab_ixN (show h < 4 by omega) (show 4 < 2 ^ 31 by decide), nI_clamp (show h < 2 ^ 31 by omega), s21, nI_1shl (show t < 31 by omega), nx_or', s_stays hF hc IsS_19 C2 S2 hw s0 ht]
        cases stayf (g 0) (shW (g 1) 1 h (g 1 1 h ||| 2 ^ t)) t <;> simp [nI10]
      · have hF := k.F
        obtain ⟨I1, e1, x1, f1⟩ := m_keepAct (Z := Z) hp k
        have S1 := x1.S
        have C1 := x1.C
        rw [keepA_0, keepA_1] at S1
        rw [keepA_0] at C1
        have S2 := S1.w1 (h := h) (v := g 1 1 h ||| 2 ^ t) h6 (by omega)
        have o2 : OffL I1 (wI I1 94 (0 + 6 + h) (nI (g 1 1 h ||| 2 ^ t))) 0 := OffL.w ⟨by omega, by omega⟩
        refine ⟨wI I1 94 (0 + 6 + h) (nI (g 1 1 h ||| 2 ^ t)), L, ?_, x1.now o2 (by rw [keepA_0]; exact S2), f1.tr o2.fm, rfl⟩
        have s9 := k.S.sd (show h < 4 by omega)
        have s9' := S1.sd (show h < 4 by omega)
        rw [Nat.zero_add] at s9 s9'
        have C2 := C1.off o2.1
        rw [n133]
        simp only [Nat.zero_add] at C2 S2 ⊢
        simp only [e133_0, e133_1, e133_2, e133_5, e133_8, e133_9, e133_10, e133_13, e133_16, e133_17, e133_18, e133_19, e133_20, e133_21, e133_24, e133_27, e133_29, e133_30, e133_31, e133_34, e133_36, e133_37, e133_38, e133_39, e133_40, e133_43, e133_46, e133_47, e133_48, e133_51, e133_54, e133_56, e133_57, e133_58, e133_61, e133_62, e133_65, e133_67, e133_68, e133_69, e133_70, e133_71, e133_72, e133_73, e133_74, e133_75, e133_76, e133_77, e133_78, e133_79, e133_82, e133_85, e133_86, e133_89, e133_90, bI_s, bL_s, bV_s, rv_s1, nl_i, nl_a, nl_n, w8_0, w8_i, w8_a, w8_l, ct_i, ct_a, b01_0, b01_1, b01_b, hF.m4, hF.m5, hF.m6, hF.m7, hF.m8, hF.m9, hF.m10, hF.m16, hF.m17, hF.m18, hF.m19, hF.m20, hF.m21, hF.m22, hF.m23, hF.m29, hF.m30, hF.m35, hF.m37, hF.m38, hF.m40, hF.m41, hF.m43, hF.m44, kd_87, al_88, al_89, al_90, al_91, al_92, al_93, al_94, al_95, al_96, al_97, al_98, al_99, al_100, al_101, al_102, al_103, al_104, al_105, al_106, al_108, al_111, zl_107, zl_109, zl_110, Nat.reduceLT, m_isHouse k.C hw, m_isThing k.C hw, hx, hy, Bool.toNat_true, nI10, if_false, m_isNear hF k.C k.S hw hv hh ht, hnear, nI_add, ab_ixN (show 6 + h < 26 by omega) (show 26 < 2 ^ 31 by decide), nI_clamp (show 6 + h < 2 ^ 31 by omega), s9, s_has (show g 1 1 h < 2 ^ 31 by omega) (show t < 31 by omega), hbit, Bool.toNat_false, if_true, m_leftOf hF k.C k.S hw hv hh, pk_sub hn, nI_eq (show g 0 2 h - pc (g 1 1 h) 6 < 2 ^ 31 by have := (hw.2.2.2.2.2.1 h hh).2; omega) (show 0 < 2 ^ 31 by decide), show ¬ g 0 2 h - pc (g 1 1 h) 6 = 0 by omega, e1, s9', nI_1shl (show t < 31 by omega), nx_or', m_stays (l := 0) hF C2 (by decide) S2 hw s0 ht]
        cases stayf (g 0) (shW (g 1) 1 h (g 1 1 h ||| 2 ^ t)) t <;> simp [nI10]
    · refine Both.tell (v := .int (whyf (g 0) (g 1) h t)) hp (fun c I R L k => ?_) (fun I R L k => ?_)
      · have hc := k.cc
        have hF := k.F
        rw [n66]
        simp only [e66_0, e66_1, e66_4, e66_5, e66_8, e66_9, e66_10, e66_13, e66_14, e66_15, e66_18, e66_19, e66_20, e66_21, e66_24, e66_25, e66_28, e66_31, e66_32, e66_33, e66_34, e66_35, e66_36, e66_37, e66_38, e66_39, e66_40, e66_43, e66_44, e66_47, e66_48, e66_51, e66_54, e66_55, e66_58, e66_59, bI_s, bL_s, bV_s, rv_s1, nl_i, nl_a, nl_n, w8_0, w8_i, w8_a, w8_l, ct_i, ct_a, b01_0, b01_1, b01_b, hF.x0, hF.x2, hF.x5, hF.x6, hF.x7, hF.x10, hF.x12, hF.x13, hF.x15, hF.k0, hF.k1, hF.k2, hF.m4, hF.m5, hF.m6, hF.m7, hF.m8, hF.m9, hF.m10, hF.m16, hF.m17, hF.m18, hF.m19, hF.m20, hF.m21, hF.m22, hF.m23, hF.m29, hF.m30, hF.m35, hF.m37, hF.m38, hF.m40, hF.m41, hF.m43, hF.m44, hF.q0, hF.q1, kd_0, kd_2, kd_3, kd_11, kd_19, kd_22, kd_27, kd_87, al_1, al_4, al_5, al_6, al_7, al_8, al_9, al_10, al_12, al_13, al_14, al_15, al_16, al_17, al_18, al_20, al_21, al_23, al_24, al_28, al_29, al_30, al_31, al_32, al_1001, al_1002, ql_25, ql_26, Nat.reduceLT, k.r3, kdC hc, s_whyNotSaid hF hc IsS_19 k.C k.S hw hv hh ht, hwhy, if_false]
      · have hF := k.F
        have s9 := k.S.sd (show h < 4 by omega)
        rw [Nat.zero_add] at s9
        rw [n133]
        simp only [e133_0, e133_1, e133_2, e133_5, e133_8, e133_9, e133_10, e133_13, e133_16, e133_17, e133_18, e133_19, e133_20, e133_21, e133_24, e133_27, e133_29, e133_30, e133_31, e133_34, e133_36, e133_37, e133_38, e133_39, e133_40, e133_43, e133_46, e133_47, e133_48, e133_51, e133_54, e133_56, e133_57, e133_58, e133_61, e133_62, e133_65, e133_67, e133_68, e133_69, e133_70, e133_71, e133_72, e133_73, e133_74, e133_75, e133_76, e133_77, e133_78, e133_79, e133_82, e133_85, e133_86, e133_89, e133_90, bI_s, bL_s, bV_s, rv_s1, nl_i, nl_a, nl_n, w8_0, w8_i, w8_a, w8_l, ct_i, ct_a, b01_0, b01_1, b01_b, hF.m4, hF.m5, hF.m6, hF.m7, hF.m8, hF.m9, hF.m10, hF.m16, hF.m17, hF.m18, hF.m19, hF.m20, hF.m21, hF.m22, hF.m23, hF.m29, hF.m30, hF.m35, hF.m37, hF.m38, hF.m40, hF.m41, hF.m43, hF.m44, kd_87, al_88, al_89, al_90, al_91, al_92, al_93, al_94, al_95, al_96, al_97, al_98, al_99, al_100, al_101, al_102, al_103, al_104, al_105, al_106, al_108, al_111, zl_107, zl_109, zl_110, Nat.reduceLT, m_isHouse k.C hw, m_isThing k.C hw, hx, hy, Bool.toNat_true, nI10, if_false, m_isNear hF k.C k.S hw hv hh ht, nI_add, ab_ixN (show 6 + h < 26 by omega) (show 26 < 2 ^ 31 by decide), nI_clamp (show 6 + h < 2 ^ 31 by omega), s9, s_has (show g 1 1 h < 2 ^ 31 by omega) (show t < 31 by omega), m_leftOf hF k.C k.S hw hv hh, pk_sub hn, nI_eq (show g 0 2 h - pc (g 1 1 h) 6 < 2 ^ 31 by have := (hw.2.2.2.2.2.1 h hh).2; omega) (show 0 < 2 ^ 31 by decide), nI_b]
        unfold whyf at hwhy ⊢
        cases hnear : nearf (g 0) (g 1) h t with
        | false => simp
        | true =>
          rw [hnear, if_neg (by decide)] at hwhy
          by_cases hb : (g 1 1 h).testBit t = true ∨ g 0 2 h ≤ pc (g 1 1 h) 6
          · cases hbit : (g 1 1 h).testBit t with
            | true => simp
            | false =>
              have h9 : g 0 2 h ≤ pc (g 1 1 h) 6 := by
                rcases hb with hb | hb
                · rw [hbit] at hb
                  exact absurd hb (by decide)
                · exact hb
              simp [h9, show g 0 2 h - pc (g 1 1 h) 6 = 0 by omega]
          · exact absurd (if_neg hb) hwhy
end SAID
