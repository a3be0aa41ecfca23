/-! stone, pay, blow, dawn -/
section ACTS2
variable {Z : Nat}
theorem B_stone (x : Int32) : Both Z 68 135 [.int x] := by
  intro g sd hp
  have hw := hp.wf
  have hv := hp.ws
  have h6 := hw.t6
  cases hx : hasI x (g 0 0 3) with
  | false =>
    refine Both.tell (v := .int (iI (-1))) hp (fun c I R L h => ?_) (fun I R L h => ?_)
    · have hc := h.cc
      rw [n68]
      simp only [e68_0, e68_1, e68_4, e68_5, e68_8, e68_11, e68_12, e68_13, e68_14, e68_17, e68_18, e68_21, e68_22, e68_25, e68_26, e68_27, e68_28, e68_29, e68_32, e68_33, e68_36, e68_39, e68_40, e68_43, bI_s, bL_s, bV_s, rv_s1, nl_i, nl_a, nl_n, w8_0, w8_i, w8_a, w8_l, ct_i, ct_a, b01_0, b01_1, b01_b, kd_0, h.r3, kdC hc, s_hasThing hc h.C hw, hx]
      simp
    · rw [n135]
      simp only [e135_0, e135_1, e135_2, e135_5, e135_8, e135_9, e135_10, e135_11, e135_14, e135_15, e135_18, e135_20, e135_21, e135_22, e135_23, e135_24, e135_25, e135_26, e135_27, e135_28, e135_31, e135_33, e135_34, e135_35, e135_36, e135_37, e135_38, bI_s, bL_s, bV_s, rv_s1, nl_i, nl_a, nl_n, w8_0, w8_i, w8_a, w8_l, ct_i, ct_a, b01_0, b01_1, b01_b, kd_87, m_isThing h.C hw, hx]
      simp
  | true =>
    obtain ⟨t, ht, rfl⟩ := hasI_t (by omega) hx
    have h64 := hv.2.2.1
    have hx64 := xor_64 h64 (show t < 6 by omega)
    have s0 : WS (g 0) (shW (g 1) 2 0 (g 1 2 0 ^^^ 2 ^ t)) := shW2_WS hv (Or.inl ⟨rfl, hx64⟩)
    refine ⟨.int (nI ((g 1 2 0 ^^^ 2 ^ t).testBit t).toNat), gS (keepA g) 1 (shW (g 1) 2 0 (g 1 2 0 ^^^ 2 ^ t)), sd, (keepA_PG hp).now (by rw [keepA_0]; exact s0) (by rw [keepA_0]; exact shW2_WN hp.wn), fun c I R L k => ?_, fun I R L k => ?_⟩
    · have hc := k.cc
      have hF := k.F
      obtain ⟨I1, e1, x1, f1⟩ := x_noteAct (Z := Z) hp k
      have S1 := x1.S
      rw [keepA_0, keepA_1] at S1
      have o2 : OffS I1 (wI I1 19 2 (nI (g 1 2 0 ^^^ 2 ^ t))) 19 := OffS.w (Or.inl rfl)
      refine ⟨c, wI I1 19 2 (nI (g 1 2 0 ^^^ 2 ^ t)), R, L, ?_, x1.now o2 (by rw [keepA_0]; exact S1.w2), f1.tr (o2.fx IsS_19), rfl⟩
      rw [n68]
      simp only [e68_0, e68_1, e68_4, e68_5, e68_8, e68_11, e68_12, e68_13, e68_14, e68_17, e68_18, e68_21, e68_22, e68_25, e68_26, e68_27, e68_28, e68_29, e68_32, e68_33, e68_36, e68_39, e68_40, e68_43, bI_s, bL_s, bV_s, rv_s1, nl_i, nl_a, nl_n, w8_0, w8_i, w8_a, w8_l, ct_i, ct_a, b01_0, b01_1, b01_b, hF.x0, hF.x2, hF.x5, hF.x6, hF.x7, hF.x10, hF.x12, hF.x13, hF.x15, hF.k0, hF.k1, hF.k2, hF.m4, hF.m5, hF.m6, hF.m7, hF.m8, hF.m9, hF.m10, hF.m16, hF.m17, hF.m18, hF.m19, hF.m20, hF.m21, hF.m22, hF.m23, hF.m29, hF.m30, hF.m35, hF.m37, hF.m38, hF.m40, hF.m41, hF.m43, hF.m44, hF.q0, hF.q1, kd_0, kd_2, kd_3, kd_11, kd_19, kd_22, kd_27, kd_87, al_1, al_4, al_5, al_6, al_7, al_8, al_9, al_10, al_12, al_13, al_14, al_15, al_16, al_17, al_18, al_20, al_21, al_23, al_24, al_28, al_29, al_30, al_31, al_32, al_1001, al_1002, ql_25, ql_26, Nat.reduceLT, k.r3, kdC hc, s_hasThing hc k.C hw, hx, Bool.toNat_true, nI10, if_false, e1, S1.st, nI_1shl (show t < 31 by omega), nx_xor', wI_self, s_bit (show g 1 2 0 ^^^ 2 ^ t < 2 ^ 31 by omega) (show t < 31 by omega)]
    · have hF := k.F
      obtain ⟨I1, e1, x1, f1⟩ := m_keepAct (Z := Z) hp k
      have S1 := x1.S
      rw [keepA_0, keepA_1] at S1
      have o2 : OffL I1 (wI I1 94 10 (nI (g 1 2 0 ^^^ 2 ^ t))) 0 := OffL.w ⟨by omega, by omega⟩
      refine ⟨wI I1 94 10 (nI (g 1 2 0 ^^^ 2 ^ t)), L, ?_, x1.now o2 (by rw [keepA_0]; exact S1.w2 (k := 0) h6 (by decide)), f1.tr o2.fm, rfl⟩
      have s9 := S1.st
      rw [Nat.zero_add] at s9
      rw [n135]
      simp only [e135_0, e135_1, e135_2, e135_5, e135_8, e135_9, e135_10, e135_11, e135_14, e135_15, e135_18, e135_20, e135_21, e135_22, e135_23, e135_24, e135_25, e135_26, e135_27, e135_28, e135_31, e135_33, e135_34, e135_35, e135_36, e135_37, e135_38, bI_s, bL_s, bV_s, rv_s1, nl_i, nl_a, nl_n, w8_0, w8_i, w8_a, w8_l, ct_i, ct_a, b01_0, b01_1, b01_b, hF.m4, hF.m5, hF.m6, hF.m7, hF.m8, hF.m9, hF.m10, hF.m16, hF.m17, hF.m18, hF.m19, hF.m20, hF.m21, hF.m22, hF.m23, hF.m29, hF.m30, hF.m35, hF.m37, hF.m38, hF.m40, hF.m41, hF.m43, hF.m44, kd_87, al_88, al_89, al_90, al_91, al_92, al_93, al_94, al_95, al_96, al_97, al_98, al_99, al_100, al_101, al_102, al_103, al_104, al_105, al_106, al_108, al_111, zl_107, zl_109, zl_110, Nat.reduceLT, m_isThing k.C hw, hx, Bool.toNat_true, nI10, if_false, e1, ab_ixN (show 10 < 26 by omega) (show 26 < 2 ^ 31 by decide), nI_clamp (show 10 < 2 ^ 31 by omega), s9, nI_1shl (show t < 31 by omega), nx_xor', wI_self, nI_bit (show g 1 2 0 ^^^ 2 ^ t < 2 ^ 31 by omega) (show t < 31 by omega)]
theorem B_pay (x : Int32) : Both Z 69 136 [.int x] := by
  intro g sd hp
  have hw := hp.wf
  have hv := hp.ws
  have h4 := hw.h4
  have h6 := hw.t6
  cases hx : hasI x (g 0 0 2) with
  | false =>
    refine Both.tell (v := .int (iI (-1))) hp (fun c I R L h => ?_) (fun I R L h => ?_)
    · have hc := h.cc
      rw [n69]
      simp only [e69_0, e69_1, e69_4, e69_5, e69_8, e69_11, e69_12, e69_13, e69_14, e69_17, e69_20, e69_21, e69_24, e69_27, e69_29, e69_30, e69_31, e69_34, e69_35, e69_38, e69_39, e69_42, e69_43, e69_44, e69_45, e69_46, e69_47, e69_48, e69_51, e69_52, e69_55, e69_56, e69_59, e69_62, bI_s, bL_s, bV_s, rv_s1, nl_i, nl_a, nl_n, w8_0, w8_i, w8_a, w8_l, ct_i, ct_a, b01_0, b01_1, b01_b, kd_0, h.r3, kdC hc, s_hasHouse hc h.C hw, hx]
      simp
    · rw [n136]
      simp only [e136_0, e136_1, e136_2, e136_5, e136_8, e136_9, e136_10, e136_11, e136_14, e136_16, e136_17, e136_18, e136_21, e136_24, e136_26, e136_27, e136_28, e136_31, e136_32, e136_35, e136_37, e136_38, e136_39, e136_40, e136_41, e136_42, e136_43, e136_44, e136_45, e136_46, e136_47, e136_48, e136_51, bI_s, bL_s, bV_s, rv_s1, nl_i, nl_a, nl_n, w8_0, w8_i, w8_a, w8_l, ct_i, ct_a, b01_0, b01_1, b01_b, kd_87, m_isHouse h.C hw, hx]
      simp
  | true =>
    obtain ⟨t, ht, rfl⟩ := hasI_t (by omega) hx
    have h16 := hv.2.2.2
    cases hb : (g 1 2 1).testBit t with
    | false =>
      refine Both.tell (v := .int (iI (-3))) hp (fun c I R L h => ?_) (fun I R L h => ?_)
      · have hc := h.cc
        have hF := h.F
        rw [n69]
        simp only [e69_0, e69_1, e69_4, e69_5, e69_8, e69_11, e69_12, e69_13, e69_14, e69_17, e69_20, e69_21, e69_24, e69_27, e69_29, e69_30, e69_31, e69_34, e69_35, e69_38, e69_39, e69_42, e69_43, e69_44, e69_45, e69_46, e69_47, e69_48, e69_51, e69_52, e69_55, e69_56, e69_59, e69_62, bI_s, bL_s, bV_s, rv_s1, nl_i, nl_a, nl_n, w8_0, w8_i, w8_a, w8_l, ct_i, ct_a, b01_0, b01_1, b01_b, hF.x0, hF.x2, hF.x5, hF.x6, hF.x7, hF.x10, hF.x12, hF.x13, hF.x15, hF.k0, hF.k1, hF.k2, hF.m4, hF.m5, hF.m6, hF.m7, hF.m8, hF.m9, hF.m10, hF.m16, hF.m17, hF.m18, hF.m19, hF.m20, hF.m21, hF.m22, hF.m23, hF.m29, hF.m30, hF.m35, hF.m37, hF.m38, hF.m40, hF.m41, hF.m43, hF.m44, hF.q0, hF.q1, kd_0, kd_2, kd_3, kd_11, kd_19, kd_22, kd_27, kd_87, al_1, al_4, al_5, al_6, al_7, al_8, al_9, al_10, al_12, al_13, al_14, al_15, al_16, al_17, al_18, al_20, al_21, al_23, al_24, al_28, al_29, al_30, al_31, al_32, al_1001, al_1002, ql_25, ql_26, Nat.reduceLT, h.r3, kdC hc, s_hasHouse hc h.C hw, hx, Bool.toNat_true, nI10, if_false, h.S.ow, s_bit (show g 1 2 1 < 2 ^ 31 by omega) (show t < 31 by omega), hb, Bool.toNat_false, if_true]
      · have hF := h.F
        have s9 := h.S.ow
        rw [Nat.zero_add] at s9
        rw [n136]
        simp only [e136_0, e136_1, e136_2, e136_5, e136_8, e136_9, e136_10, e136_11, e136_14, e136_16, e136_17, e136_18, e136_21, e136_24, e136_26, e136_27, e136_28, e136_31, e136_32, e136_35, e136_37, e136_38, e136_39, e136_40, e136_41, e136_42, e136_43, e136_44, e136_45, e136_46, e136_47, e136_48, e136_51, bI_s, bL_s, bV_s, rv_s1, nl_i, nl_a, nl_n, w8_0, w8_i, w8_a, w8_l, ct_i, ct_a, b01_0, b01_1, b01_b, hF.m4, hF.m5, hF.m6, hF.m7, hF.m8, hF.m9, hF.m10, hF.m16, hF.m17, hF.m18, hF.m19, hF.m20, hF.m21, hF.m22, hF.m23, hF.m29, hF.m30, hF.m35, hF.m37, hF.m38, hF.m40, hF.m41, hF.m43, hF.m44, kd_87, al_88, al_89, al_90, al_91, al_92, al_93, al_94, al_95, al_96, al_97, al_98, al_99, al_100, al_101, al_102, al_103, al_104, al_105, al_106, al_108, al_111, zl_107, zl_109, zl_110, Nat.reduceLT, m_isHouse h.C hw, hx, Bool.toNat_true, nI10, if_false, ab_ixN (show 11 < 26 by omega) (show 26 < 2 ^ 31 by decide), nI_clamp (show 11 < 2 ^ 31 by omega), s9, s_has (show g 1 2 1 < 2 ^ 31 by omega) (show t < 31 by omega), hb, Bool.toNat_false, if_true]
    | true =>
      have s0 : WS (g 0) (shW (g 1) 2 1 (g 1 2 1 ^^^ (g 1 2 1 &&& 2 ^ t))) := shW2_WS hv (Or.inr ⟨rfl, andn_lt (n := 4) h16⟩)
      refine ⟨.int (nI (mk (stayf (g 0) (shW (g 1) 2 1 (g 1 2 1 ^^^ (g 1 2 1 &&& 2 ^ t)))) (g 0 0 3))), gS (keepA g) 1 (shW (g 1) 2 1 (g 1 2 1 ^^^ (g 1 2 1 &&& 2 ^ t))), sd, (keepA_PG hp).now (by rw [keepA_0]; exact s0) (by rw [keepA_0]; exact shW2_WN hp.wn), fun c I R L k => ?_, fun I R L k => ?_⟩
      · have hc := k.cc
        have hF := k.F
        obtain ⟨I1, e1, x1, f1⟩ := x_noteAct (Z := Z) hp k
        have S1 := x1.S
        have C1 := x1.C
        rw [keepA_0, keepA_1] at S1
        rw [keepA_0] at C1
        have o2 : OffS I1 (wI I1 19 3 (nI (g 1 2 1 ^^^ (g 1 2 1 &&& 2 ^ t)))) 19 := OffS.w (Or.inl rfl)
        have C2 := C1.offS hc IsS_19 o2
        refine ⟨c, wI I1 19 3 (nI (g 1 2 1 ^^^ (g 1 2 1 &&& 2 ^ t))), R, L, ?_, x1.now o2 (by rw [keepA_0]; exact S1.w3), f1.tr (o2.fx IsS_19), rfl⟩
        rw [n69]
        simp only [e69_0, e69_1, e69_4, e69_5, e69_8, e69_11, e69_12, e69_13, e69_14, e69_17, e69_20, e69_21, e69_24, e69_27, e69_29, e69_30, e69_31, e69_34, e69_35, e69_38, e69_39, e69_42, e69_43, e69_44, e69_45, e69_46, e69_47, e69_48, e69_51, e69_52, e69_55, e69_56, e69_59, e69_62, bI_s, bL_s, bV_s, rv_s1, nl_i, nl_a, nl_n, w8_0, w8_i, w8_a, w8_l, ct_i, ct_a, b01_0, b01_1, b01_b, hF.x0, hF.x2, hF.x5, hF.x6, hF.x7, hF.x10, hF.x12, hF.x13, hF.x15, hF.k0, hF.k1, hF.k2, hF.m4, hF.m5, hF.m6, hF.m7, hF.m8, hF.m9, hF.m10, hF.m16, hF.m17, hF.m18, hF.m19, hF.m20, hF.m21, hF.m22, hF.m23, hF.m29, hF.m30, hF.m35, hF.m37, hF.m38, hF.m40, hF.m41, hF.m43, hF.m44, hF.q0, hF.q1, kd_0, kd_2, kd_3, kd_11, kd_19, kd_22, kd_27, kd_87, al_1, al_4, al_5, al_6, al_7, al_8, al_9, al_10, al_12, al_13, al_14, al_15, al_16, al_17, al_18, al_20, al_21, al_23, al_24, al_28, al_29, al_30, al_31, al_32, al_1001, al_1002, ql_25, ql_26, Nat.reduceLT, k.r3, kdC hc, s_hasHouse hc k.C hw, hx, Bool.toNat_true, nI10, if_false, k.S.ow, s_bit (show g 1 2 1 < 2 ^ 31 by omega) (show t < 31 by omega), hb, e1, S1.ow, nI_1shl (show t < 31 by omega), nI_andn, s_staying hF hc IsS_19 C2 S1.w3 hw s0]
      · have hF := k.F
        obtain ⟨I1, e1, x1, f1⟩ := m_keepAct (Z := Z) hp k
        have S1 := x1.S
        have C1 := x1.C
        rw [keepA_0, keepA_1] at S1
        rw [keepA_0] at C1
        have o2 : OffL I1 (wI I1 94 11 (nI (g 1 2 1 ^^^ (g 1 2 1 &&& 2 ^ t)))) 0 := OffL.w ⟨by omega, by omega⟩
        have S2 : MS (wI I1 94 11 (nI (g 1 2 1 ^^^ (g 1 2 1 &&& 2 ^ t))) 94) 0 (g 0) (shW (g 1) 2 1 (g 1 2 1 ^^^ (g 1 2 1 &&& 2 ^ t))) := S1.w2 (k := 1) h6 (by decide)
        have C2 := C1.off o2.1
        refine ⟨wI I1 94 11 (nI (g 1 2 1 ^^^ (g 1 2 1 &&& 2 ^ t))), L, ?_, x1.now o2 (by rw [keepA_0]; exact S2), f1.tr o2.fm, rfl⟩
        have s9 := S1.ow
        have s8 := k.S.ow
        rw [Nat.zero_add] at s9 s8
        rw [n136]
        simp only [e136_0, e136_1, e136_2, e136_5, e136_8, e136_9, e136_10, e136_11, e136_14, e136_16, e136_17, e136_18, e136_21, e136_24, e136_26, e136_27, e136_28, e136_31, e136_32, e136_35, e136_37, e136_38, e136_39, e136_40, e136_41, e136_42, e136_43, e136_44, e136_45, e136_46, e136_47, e136_48, e136_51, bI_s, bL_s, bV_s, rv_s1, nl_i, nl_a, nl_n, w8_0, w8_i, w8_a, w8_l, ct_i, ct_a, b01_0, b01_1, b01_b, hF.m4, hF.m5, hF.m6, hF.m7, hF.m8, hF.m9, hF.m10, hF.m16, hF.m17, hF.m18, hF.m19, hF.m20, hF.m21, hF.m22, hF.m23, hF.m29, hF.m30, hF.m35, hF.m37, hF.m38, hF.m40, hF.m41, hF.m43, hF.m44, kd_87, al_88, al_89, al_90, al_91, al_92, al_93, al_94, al_95, al_96, al_97, al_98, al_99, al_100, al_101, al_102, al_103, al_104, al_105, al_106, al_108, al_111, zl_107, zl_109, zl_110, Nat.reduceLT, m_isHouse k.C hw, hx, Bool.toNat_true, nI10, if_false, e1, ab_ixN (show 11 < 26 by omega) (show 26 < 2 ^ 31 by decide), nI_clamp (show 11 < 2 ^ 31 by omega), s8, s_has (show g 1 2 1 < 2 ^ 31 by omega) (show t < 31 by omega), hb, s9, nI_1shl (show t < 31 by omega), nI_andn, m_staying (l := 0) hF C2 (by decide) S2 hw s0]
theorem B_blow : Both Z 70 138 [] := by
  intro g sd hp
  have hw := hp.wf
  have hv := hp.ws
  refine ⟨.int (nI (mk (fun t => decide (plbf (g 0) (g 1) t 1 ≠ g 1 0 t)) (g 0 0 3))), gS (keepA g) 1 (shd (g 0) (g 1)), sd, (keepA_PG hp).now (by rw [keepA_0]; exact shd_WS hv) (by rw [keepA_0]; exact shd_WN hp.wn), fun c I R L k => ?_, fun I R L k => ?_⟩
  · have hc := k.cc
    have hF := k.F
    obtain ⟨I1, e1, x1, f1⟩ := x_noteAct (Z := Z) hp k
    have S1 := x1.S
    have C1 := x1.C
    rw [keepA_0, keepA_1] at S1
    rw [keepA_0] at C1
    obtain ⟨I2, e2, o2, S2⟩ := s_drift (Z := Z) (L := L) hF hc IsS_19 C1 S1 hw hv
    refine ⟨c, I2, R, L, ?_, x1.now o2 (by rw [keepA_0]; exact S2), f1.tr (o2.fx IsS_19), rfl⟩
    rw [n70]
    simp only [e70_0, e70_1, e70_4, e70_5, e70_8, e70_9, e70_12, e70_15, bI_s, bL_s, bV_s, rv_s1, nl_i, nl_a, nl_n, w8_0, w8_i, w8_a, w8_l, ct_i, ct_a, b01_0, b01_1, b01_b, hF.x0, hF.x2, hF.x5, hF.x6, hF.x7, hF.x10, hF.x12, hF.x13, hF.x15, hF.k0, hF.k1, hF.k2, hF.m4, hF.m5, hF.m6, hF.m7, hF.m8, hF.m9, hF.m10, hF.m16, hF.m17, hF.m18, hF.m19, hF.m20, hF.m21, hF.m22, hF.m23, hF.m29, hF.m30, hF.m35, hF.m37, hF.m38, hF.m40, hF.m41, hF.m43, hF.m44, hF.q0, hF.q1, kd_0, kd_2, kd_3, kd_11, kd_19, kd_22, kd_27, kd_87, al_1, al_4, al_5, al_6, al_7, al_8, al_9, al_10, al_12, al_13, al_14, al_15, al_16, al_17, al_18, al_20, al_21, al_23, al_24, al_28, al_29, al_30, al_31, al_32, al_1001, al_1002, ql_25, ql_26, Nat.reduceLT, k.r3, kdC hc, e1, e2]
  · have hF := k.F
    obtain ⟨I1, e1, x1, f1⟩ := m_keepAct (Z := Z) hp k
    have S1 := x1.S
    have C1 := x1.C
    rw [keepA_0, keepA_1] at S1
    rw [keepA_0] at C1
    obtain ⟨I2, e2, o2, S2⟩ := m_pass (Z := Z) (L := L) (l := 0) hF C1 (by decide) S1 hw hv
    refine ⟨I2, L, ?_, x1.now o2 (by rw [keepA_0]; exact S2), f1.tr o2.fm, rfl⟩
    rw [n138]
    simp only [e138_0, e138_1, e138_4, e138_5, e138_6, e138_9, bI_s, bL_s, bV_s, rv_s1, nl_i, nl_a, nl_n, w8_0, w8_i, w8_a, w8_l, ct_i, ct_a, b01_0, b01_1, b01_b, hF.m4, hF.m5, hF.m6, hF.m7, hF.m8, hF.m9, hF.m10, hF.m16, hF.m17, hF.m18, hF.m19, hF.m20, hF.m21, hF.m22, hF.m23, hF.m29, hF.m30, hF.m35, hF.m37, hF.m38, hF.m40, hF.m41, hF.m43, hF.m44, kd_87, al_88, al_89, al_90, al_91, al_92, al_93, al_94, al_95, al_96, al_97, al_98, al_99, al_100, al_101, al_102, al_103, al_104, al_105, al_106, al_108, al_111, zl_107, zl_109, zl_110, Nat.reduceLT, e1, e2]
def zmI (I : ab_I) : Nat → ab_I
  | 0 => I
  | n + 1 => wI (zmI I n) 94 (6 + n) (nI 0)
theorem zmI_o {I : ab_I} {o : Nat} (h : o ≠ 94) : ∀ n, zmI I n o = I o
  | 0 => rfl
  | n + 1 => by
    funext j
    rw [zmI, wI_o h, zmI_o h n]
theorem zmI_out {I : ab_I} {j : Nat} : ∀ n, j < 6 ∨ 6 + n ≤ j → zmI I n 94 j = I 94 j
  | 0, _ => rfl
  | n + 1, h => by rw [zmI, wI_k (by omega), zmI_out n (by omega)]
theorem zmI_at {I : ab_I} {j : Nat} : ∀ n, j < n → zmI I n 94 (6 + j) = nI 0
  | n + 1, h => by
    rw [zmI]
    by_cases hj : j = n
    · subst hj
      rw [wI_self]
    · rw [wI_k (by omega), zmI_at n (by omega)]
theorem B_dawn : Both Z 71 140 [] := by
  intro g sd hp
  have hw := hp.wf
  have hv := hp.ws
  have h6 := hw.t6
  refine ⟨.int (nI (cntS (g 1))), gS (keepA g) 1 (shU (g 1)), sd, (keepA_PG hp).now (by rw [keepA_0]; exact shU_WS hv) (by rw [keepA_0]; exact shU_WN), fun c I R L k => ?_, fun I R L k => ?_⟩
  · have hc := k.cc
    have hF := k.F
    obtain ⟨I1, e1, x1, f1⟩ := x_noteAct (Z := Z) hp k
    have S1 := x1.S
    rw [keepA_0, keepA_1] at S1
    obtain ⟨I2, e2, o2, S2⟩ := s_unsay (Z := Z) (R := R) (L := L) hF IsS_19 S1
    refine ⟨c, I2, R, L, ?_, x1.now o2 (by rw [keepA_0]; exact S2), f1.tr (o2.fx IsS_19), rfl⟩
    rw [n71]
    simp only [e71_0, e71_1, e71_4, e71_5, e71_8, e71_11, e71_12, e71_13, e71_16, e71_19, e71_20, bI_s, bL_s, bV_s, rv_s1, nl_i, nl_a, nl_n, w8_0, w8_i, w8_a, w8_l, ct_i, ct_a, b01_0, b01_1, b01_b, hF.x0, hF.x2, hF.x5, hF.x6, hF.x7, hF.x10, hF.x12, hF.x13, hF.x15, hF.k0, hF.k1, hF.k2, hF.m4, hF.m5, hF.m6, hF.m7, hF.m8, hF.m9, hF.m10, hF.m16, hF.m17, hF.m18, hF.m19, hF.m20, hF.m21, hF.m22, hF.m23, hF.m29, hF.m30, hF.m35, hF.m37, hF.m38, hF.m40, hF.m41, hF.m43, hF.m44, hF.q0, hF.q1, kd_0, kd_2, kd_3, kd_11, kd_19, kd_22, kd_27, kd_87, al_1, al_4, al_5, al_6, al_7, al_8, al_9, al_10, al_12, al_13, al_14, al_15, al_16, al_17, al_18, al_20, al_21, al_23, al_24, al_28, al_29, al_30, al_31, al_32, al_1001, al_1002, ql_25, ql_26, Nat.reduceLT, e1, s_saidCount hF IsS_19 S1 hv, e2]
  · have hF := k.F
    obtain ⟨I1, e1, x1, f1⟩ := m_keepAct (Z := Z) hp k
    have S1 := x1.S
    have C1 := x1.C
    rw [keepA_0, keepA_1] at S1
    rw [keepA_0] at C1
    have o2 : OffL I1 (zmI I1 4) 0 := ⟨fun o ho => zmI_o ho 4, fun j hj => zmI_out 4 (by omega)⟩
    have S2 : MS (zmI I1 4 94) 0 (g 0) (shU (g 1)) := by
      refine ⟨fun t ht => ?_, fun h hh => ?_, ?_, ?_, ?_⟩
      · rw [zmI_out 4 (by omega), S1.pl ht]
        rfl
      · rw [Nat.zero_add, zmI_at 4 hh]
        rfl
      · rw [zmI_out 4 (by omega), S1.st]
        rfl
      · rw [zmI_out 4 (by omega), S1.ow]
        rfl
      · rw [zmI_out 4 (by omega), S1.bl]
        rfl
    refine ⟨zmI I1 4, L, ?_, x1.now o2 (by rw [keepA_0]; exact S2), f1.tr o2.fm, rfl⟩
    rw [n140]
    simp only [e140_0, e140_1, e140_4, e140_5, e140_8, e140_9, e140_10, e140_12, e140_13, e140_16, e140_17, e140_20, e140_22, e140_23, e140_24, e140_25, e140_26, e140_29, e140_32, e140_33, bI_s, bL_s, bV_s, rv_s1, nl_i, nl_a, nl_n, w8_0, w8_i, w8_a, w8_l, ct_i, ct_a, b01_0, b01_1, b01_b, hF.m4, hF.m5, hF.m6, hF.m7, hF.m8, hF.m9, hF.m10, hF.m16, hF.m17, hF.m18, hF.m19, hF.m20, hF.m21, hF.m22, hF.m23, hF.m29, hF.m30, hF.m35, hF.m37, hF.m38, hF.m40, hF.m41, hF.m43, hF.m44, kd_87, al_88, al_89, al_90, al_91, al_92, al_93, al_94, al_95, al_96, al_97, al_98, al_99, al_100, al_101, al_102, al_103, al_104, al_105, al_106, al_108, al_111, zl_107, zl_109, zl_110, Nat.reduceLT, e1, m_allSaid hF C1 S1 hw hv hp.wn]
    refine loop_up (F := fun i => ex Z 0 0 140 11 [some (.ref 87), some (.int (nI (cntS (g 1)))), some (.int (nI i))] [] (zmI I1 i) R L) 4 (fun i hi => ?_) ?_ 0 (Nat.zero_le _)
    · rw [e140_11]
      simp only [e140_0, e140_1, e140_4, e140_5, e140_8, e140_9, e140_10, e140_12, e140_13, e140_16, e140_17, e140_20, e140_22, e140_23, e140_24, e140_25, e140_26, e140_29, e140_32, e140_33, bI_s, bL_s, bV_s, rv_s1, nl_i, nl_a, nl_n, w8_0, w8_i, w8_a, w8_l, ct_i, ct_a, b01_0, b01_1, b01_b, hF.m4, hF.m5, hF.m6, hF.m7, hF.m8, hF.m9, hF.m10, hF.m16, hF.m17, hF.m18, hF.m19, hF.m20, hF.m21, hF.m22, hF.m23, hF.m29, hF.m30, hF.m35, hF.m37, hF.m38, hF.m40, hF.m41, hF.m43, hF.m44, kd_87, al_88, al_89, al_90, al_91, al_92, al_93, al_94, al_95, al_96, al_97, al_98, al_99, al_100, al_101, al_102, al_103, al_104, al_105, al_106, al_108, al_111, zl_107, zl_109, zl_110, Nat.reduceLT, nI_leI (show 4 < 2 ^ 31 by decide) (show i < 2 ^ 31 by omega), show ¬ 4 ≤ i by omega, if_false, nI_add, ab_ixN (show 6 + i < 26 by omega) (show 26 < 2 ^ 31 by decide), nI_clamp (show 6 + i < 2 ^ 31 by omega), zmI]
    · rw [e140_11]
      simp only [e140_0, e140_1, e140_4, e140_5, e140_8, e140_9, e140_10, e140_12, e140_13, e140_16, e140_17, e140_20, e140_22, e140_23, e140_24, e140_25, e140_26, e140_29, e140_32, e140_33, bI_s, bL_s, bV_s, rv_s1, nl_i, nl_a, nl_n, w8_0, w8_i, w8_a, w8_l, ct_i, ct_a, b01_0, b01_1, b01_b, Int32.le_refl, if_true]
end ACTS2
