/-! again, behind, quay -/
section AGAIN
variable {Z : Nat}
theorem B_again (x : Int32) : Both Z 104 186 [.int x] := by
  intro g sd hp
  have hw := hp.wf
  have hv := hp.ws
  have h6 := hw.t6
  have hkb := hp.kb
  cases hx : hasI x 2 with
  | false =>
    refine Both.tell (v := .int (iI (-1))) hp (fun c I R L h => ?_) (fun I R L h => ?_)
    · rw [n104]
      simp only [e104_0, e104_1, e104_4, e104_5, e104_6, e104_9, e104_10, e104_11, e104_12, e104_15, e104_16, e104_19, e104_22, e104_24, e104_25, e104_26, e104_29, e104_30, e104_33, e104_34, e104_35, e104_38, e104_39, e104_40, e104_43, e104_44, e104_47, e104_50, bI_s, bL_s, bV_s, rv_s1, nl_i, nl_a, nl_n, w8_0, w8_i, w8_a, w8_l, ct_i, ct_a, b01_0, b01_1, b01_b]
      rcases slot_f hx with h1 | h1
      · rw [if_pos h1]
      · rw [if_neg h1]
        split <;> rfl
    · rw [n186]
      simp only [e186_0, e186_1, e186_2, e186_3, e186_4, e186_7, e186_10, e186_11, e186_12, e186_13, e186_16, e186_17, e186_18, e186_21, e186_23, e186_24, e186_25, e186_27, e186_29, e186_32, e186_33, e186_36, e186_37, e186_38, e186_41, e186_43, e186_44, e186_45, e186_46, e186_47, e186_48, e186_49, e186_52, e186_55, e186_56, e186_57, e186_60, e186_61, e186_64, e186_66, e186_67, bI_s, bL_s, bV_s, rv_s1, nl_i, nl_a, nl_n, w8_0, w8_i, w8_a, w8_l, ct_i, ct_a, b01_0, b01_1, b01_b, s_in, in_c (show 1 < 2 ^ 31 by decide), hx]
      simp
  | true =>
    obtain ⟨k, hk, rfl⟩ := hasI_t (by decide) hx
    cases hb : (g 2 1 3).testBit k with
    | false =>
      refine Both.tell (v := .int (iI (-3))) hp (fun c I R L h => ?_) (fun I R L h => ?_)
      · have a := h.kb
        rw [n104]
        simp only [e104_0, e104_1, e104_4, e104_5, e104_6, e104_9, e104_10, e104_11, e104_12, e104_15, e104_16, e104_19, e104_22, e104_24, e104_25, e104_26, e104_29, e104_30, e104_33, e104_34, e104_35, e104_38, e104_39, e104_40, e104_43, e104_44, e104_47, e104_50, bI_s, bL_s, bV_s, rv_s1, nl_i, nl_a, nl_n, w8_0, w8_i, w8_a, w8_l, ct_i, ct_a, b01_0, b01_1, b01_b, kd_0, nI_ltI (show k < 2 ^ 31 by omega) (show 0 < 2 ^ 31 by decide), Nat.not_lt_zero, if_false, nI_ltI (show k < 2 ^ 31 by omega) (show 2 < 2 ^ 31 by decide), hk, if_true, a, s_bit (show g 2 1 3 < 2 ^ 31 by omega) (show k < 31 by omega), hb, Bool.toNat_false]
      · have a := h.kb hk
        have hF := h.F
        rw [n186]
        simp only [e186_0, e186_1, e186_2, e186_3, e186_4, e186_7, e186_10, e186_11, e186_12, e186_13, e186_16, e186_17, e186_18, e186_21, e186_23, e186_24, e186_25, e186_27, e186_29, e186_32, e186_33, e186_36, e186_37, e186_38, e186_41, e186_43, e186_44, e186_45, e186_46, e186_47, e186_48, e186_49, e186_52, e186_55, e186_56, e186_57, e186_60, e186_61, e186_64, e186_66, e186_67, bI_s, bL_s, bV_s, rv_s1, nl_i, nl_a, nl_n, w8_0, w8_i, w8_a, w8_l, ct_i, ct_a, b01_0, b01_1, b01_b, hF.m4, hF.m5, hF.m6, hF.m7, hF.m8, hF.m9, hF.m10, hF.m16, hF.m17, hF.m18, hF.m19, hF.m20, hF.m21, hF.m22, hF.m23, hF.m29, hF.m30, hF.m35, hF.m37, hF.m38, hF.m40, hF.m41, hF.m43, hF.m44, kd_87, al_88, al_89, al_90, al_91, al_92, al_93, al_94, al_95, al_96, al_97, al_98, al_99, al_100, al_101, al_102, al_103, al_104, al_105, al_106, al_108, al_111, zl_107, zl_109, zl_110, Nat.reduceLT, s_in, in_c (show 1 < 2 ^ 31 by decide), hx, Bool.toNat_true, nI10, if_false, ab_ixN hk (show 2 < 2 ^ 31 by decide), nI_clamp (show k < 2 ^ 31 by omega), a, hb, Bool.toNat_false, if_true]
    | true =>
      obtain ⟨v1, v2⟩ := hp.sl hk hb
      have er : ∀ j, j < 16 → inR (gA g 1 2 0 2 1 1) (gA g 1 2 0 2 1 2) j → inR (g 2 1 1) (g 2 1 2) j ∧ gA g 1 2 0 (10 + j) = g (10 + j) := by
        intro j hj hr
        rw [show gA g 1 2 0 2 1 2 = 0 by simp [gA_2]] at hr
        exact absurd hr (Nat.not_lt_zero _)
      have hp1 : PG (gA g 1 2 0) := by
        refine hp.up gA_0 gA_1 er (sameS (by simp [gA_2]) (by simp only [gA_s, implies_true])) (by simpa [gA_2] using hp.2.2.2.1) (by simpa [gA_2, hp.pe] using hp.kb) (by simpa [gA_2] using hp.2.2.2.2.2.1) (by simpa [gA_2] using hp.2.2.2.2.2.2.1) (by simpa [gA_2] using hp.2.2.2.2.2.2.2.1)
      refine ⟨.int (nI (g (30 + k) 2 2)), gS (gA g 1 2 0) 1 (g (30 + k)), sd, hp1.now (by simpa only [gA_0] using v1) (by simpa only [gA_0] using v2), fun c I R L h => ?_, fun I R L h => ?_⟩
      · have hF := h.F
        have a := h.kb
        obtain ⟨I1, e1, o1, S1⟩ := s_copy (Z := Z) (L := L) hF IsS_19 (IsS_k hk) (by omega) h6 (h.sl hk hb)
        have x1 : XX (gS g 1 (g (30 + k))) sd c I1 R L := h.now o1 S1
        have k4 : wI I1 0 9 (nI 0) 19 4 = nI (g (30 + k) 2 2) := by rw [wI_o (by decide), S1.bl]
        have eg : gS (gA g 1 2 0) 1 (g (30 + k)) = gA (gS g 1 (g (30 + k))) 1 2 0 := by
          funext y b d
          simp only [gS, gA]
          by_cases h1 : y = 1
          · subst h1
            simp
          · by_cases h2 : y = 2
            · subst h2
              simp
            · simp [h1, h2]
        refine ⟨c, wI I1 0 9 (nI 0), R, L, ?_, ?_, FX.tr (o1.fx IsS_19) (fun o a b => ?_), rfl⟩
        · rw [n104]
          simp only [e104_0, e104_1, e104_4, e104_5, e104_6, e104_9, e104_10, e104_11, e104_12, e104_15, e104_16, e104_19, e104_22, e104_24, e104_25, e104_26, e104_29, e104_30, e104_33, e104_34, e104_35, e104_38, e104_39, e104_40, e104_43, e104_44, e104_47, e104_50, bI_s, bL_s, bV_s, rv_s1, nl_i, nl_a, nl_n, w8_0, w8_i, w8_a, w8_l, ct_i, ct_a, b01_0, b01_1, b01_b, hF.x0, hF.x2, hF.x5, hF.x6, hF.x7, hF.x10, hF.x12, hF.x13, hF.x15, hF.k0, hF.k1, hF.k2, hF.m4, hF.m5, hF.m6, hF.m7, hF.m8, hF.m9, hF.m10, hF.m16, hF.m17, hF.m18, hF.m19, hF.m20, hF.m21, hF.m22, hF.m23, hF.m29, hF.m30, hF.m35, hF.m37, hF.m38, hF.m40, hF.m41, hF.m43, hF.m44, hF.q0, hF.q1, kd_0, kd_2, kd_3, kd_11, kd_19, kd_22, kd_27, kd_87, al_1, al_4, al_5, al_6, al_7, al_8, al_9, al_10, al_12, al_13, al_14, al_15, al_16, al_17, al_18, al_20, al_21, al_23, al_24, al_28, al_29, al_30, al_31, al_32, al_1001, al_1002, ql_25, ql_26, Nat.reduceLT, nI_ltI (show k < 2 ^ 31 by omega) (show 0 < 2 ^ 31 by decide), Nat.not_lt_zero, if_false, nI_ltI (show k < 2 ^ 31 by omega) (show 2 < 2 ^ 31 by decide), hk, if_true, a, s_bit (show g 2 1 3 < 2 ^ 31 by omega) (show k < 31 by omega), hb, Bool.toNat_true, nI10, ab_ixN hk (show 2 < 2 ^ 31 by decide), nI_clamp (show k < 2 ^ 31 by omega), r26 hF hk, kdS (IsS_k hk), e1, k4]
        · rw [eg]
          refine x1.up (fun o h0 _ _ _ => ?_) gA_0 gA_1 (fun j hj hr => ?_) (sameS (by simp [gA_2]) (by simp only [gA_s, implies_true])) ?_ ?_ ?_ ?_ ?_ x1.sed
          · funext j
            rw [wI_o h0]
          · rw [show gA (gS g 1 (g (30 + k))) 1 2 0 2 1 2 = 0 by simp [gA_2]] at hr
            exact absurd hr (Nat.not_lt_zero _)
          · simpa [gA_2, wI_app] using x1.2.2.1
          · simpa [gA_2, wI_app, x1.pe] using x1.kb
          · simpa [gA_2, wI_app] using x1.2.2.2.2.2.2.1
          · simpa [gA_2, wI_app] using x1.2.2.2.2.2.2.2.1
          · simpa [gA_2, wI_app] using x1.2.2.2.2.2.2.2.2.1
        · funext j
          rw [wI_o (by omega)]
      · have hF := h.F
        have a := h.kb hk
        have S1 := cyI_MS (d := 94) (b := 0) h6 (h.sl hk hb)
        have o1 : OffL I (cyI I 94 0 111 (13 * k) 13) 0 := ⟨fun o ho => cyI_o ho, fun j hj => cyI_out hj⟩
        have x1 : MM (gS g 1 (g (30 + k))) sd (cyI I 94 0 111 (13 * k) 13) R L := h.now o1 S1
        have eg : gS (gA g 1 2 0) 1 (g (30 + k)) = gA (gS g 1 (g (30 + k))) 1 2 0 := by
          funext y b d
          simp only [gS, gA]
          by_cases h1 : y = 1
          · subst h1
            simp
          · by_cases h2 : y = 2
            · subst h2
              simp
            · simp [h1, h2]
        refine ⟨wI (cyI I 94 0 111 (13 * k) 13) 87 27 (nI 0), L, ?_, ?_, FM.tr o1.fm (fun o a => ?_), rfl⟩
        · rw [n186]
          simp only [e186_0, e186_1, e186_2, e186_3, e186_4, e186_7, e186_10, e186_11, e186_12, e186_13, e186_16, e186_17, e186_18, e186_21, e186_23, e186_24, e186_25, e186_27, e186_29, e186_32, e186_33, e186_36, e186_37, e186_38, e186_41, e186_43, e186_44, e186_45, e186_46, e186_47, e186_48, e186_49, e186_52, e186_55, e186_56, e186_57, e186_60, e186_61, e186_64, e186_66, e186_67, bI_s, bL_s, bV_s, rv_s1, nl_i, nl_a, nl_n, w8_0, w8_i, w8_a, w8_l, ct_i, ct_a, b01_0, b01_1, b01_b, hF.m4, hF.m5, hF.m6, hF.m7, hF.m8, hF.m9, hF.m10, hF.m16, hF.m17, hF.m18, hF.m19, hF.m20, hF.m21, hF.m22, hF.m23, hF.m29, hF.m30, hF.m35, hF.m37, hF.m38, hF.m40, hF.m41, hF.m43, hF.m44, kd_87, al_88, al_89, al_90, al_91, al_92, al_93, al_94, al_95, al_96, al_97, al_98, al_99, al_100, al_101, al_102, al_103, al_104, al_105, al_106, al_108, al_111, zl_107, zl_109, zl_110, Nat.reduceLT, s_in, in_c (show 1 < 2 ^ 31 by decide), hx, Bool.toNat_true, nI10, if_false, ab_ixN hk (show 2 < 2 ^ 31 by decide), nI_clamp (show k < 2 ^ 31 by omega), a, hb]
          have key := loop_up (F := fun i => ex Z 0 0 186 26 [some (.ref 87), some (.int (nI k)), some (.int (nI i))] [] (cyI I 94 0 111 (13 * k) i) R L) (r := some (some (.int (nI (g (30 + k) 2 2))), wI (cyI I 94 0 111 (13 * k) 13) 87 27 (nI 0), R, L)) 13 (fun i hi => ?_) ?_ 0 (Nat.zero_le _)
          · rw [cyI_0] at key
            exact key
          · have q := cyI_src (I := I) (d := 94) (b := 0) (s := 111) (c := 13 * k) (i := i) (Or.inl (by decide))
            have q2 := cyI_step (I := I) (d := 94) (b := 0) (s := 111) (c := 13 * k) (i := i)
            rw [Nat.zero_add] at q2
            rw [e186_26]
            simp only [e186_0, e186_1, e186_2, e186_3, e186_4, e186_7, e186_10, e186_11, e186_12, e186_13, e186_16, e186_17, e186_18, e186_21, e186_23, e186_24, e186_25, e186_27, e186_29, e186_32, e186_33, e186_36, e186_37, e186_38, e186_41, e186_43, e186_44, e186_45, e186_46, e186_47, e186_48, e186_49, e186_52, e186_55, e186_56, e186_57, e186_60, e186_61, e186_64, e186_66, e186_67, bI_s, bL_s, bV_s, rv_s1, nl_i, nl_a, nl_n, w8_0, w8_i, w8_a, w8_l, ct_i, ct_a, b01_0, b01_1, b01_b, hF.m4, hF.m5, hF.m6, hF.m7, hF.m8, hF.m9, hF.m10, hF.m16, hF.m17, hF.m18, hF.m19, hF.m20, hF.m21, hF.m22, hF.m23, hF.m29, hF.m30, hF.m35, hF.m37, hF.m38, hF.m40, hF.m41, hF.m43, hF.m44, kd_87, al_88, al_89, al_90, al_91, al_92, al_93, al_94, al_95, al_96, al_97, al_98, al_99, al_100, al_101, al_102, al_103, al_104, al_105, al_106, al_108, al_111, zl_107, zl_109, zl_110, Nat.reduceLT, nI_leI (show 13 < 2 ^ 31 by decide) (show i < 2 ^ 31 by omega), show ¬ 13 ≤ i by omega, if_false, pk_mul, nI_add, ab_ixN (show 13 * k + i < 26 by omega) (show 26 < 2 ^ 31 by decide), ab_ixN (show i < 26 by omega) (show 26 < 2 ^ 31 by decide), nI_clamp (show 13 * k + i < 2 ^ 31 by omega), nI_clamp (show i < 2 ^ 31 by omega), q, q2]
          · have q9 : wI (cyI I 94 0 111 (13 * k) 13) 87 27 (nI 0) 94 12 = nI (g (30 + k) 2 2) := by
              have := S1.bl
              rw [Nat.zero_add] at this
              rw [wI_o (by decide), this]
            rw [e186_26]
            simp only [e186_0, e186_1, e186_2, e186_3, e186_4, e186_7, e186_10, e186_11, e186_12, e186_13, e186_16, e186_17, e186_18, e186_21, e186_23, e186_24, e186_25, e186_27, e186_29, e186_32, e186_33, e186_36, e186_37, e186_38, e186_41, e186_43, e186_44, e186_45, e186_46, e186_47, e186_48, e186_49, e186_52, e186_55, e186_56, e186_57, e186_60, e186_61, e186_64, e186_66, e186_67, bI_s, bL_s, bV_s, rv_s1, nl_i, nl_a, nl_n, w8_0, w8_i, w8_a, w8_l, ct_i, ct_a, b01_0, b01_1, b01_b, hF.m4, hF.m5, hF.m6, hF.m7, hF.m8, hF.m9, hF.m10, hF.m16, hF.m17, hF.m18, hF.m19, hF.m20, hF.m21, hF.m22, hF.m23, hF.m29, hF.m30, hF.m35, hF.m37, hF.m38, hF.m40, hF.m41, hF.m43, hF.m44, kd_87, al_88, al_89, al_90, al_91, al_92, al_93, al_94, al_95, al_96, al_97, al_98, al_99, al_100, al_101, al_102, al_103, al_104, al_105, al_106, al_108, al_111, zl_107, zl_109, zl_110, Nat.reduceLT, Int32.le_refl, if_true, ab_ixN (show 12 < 26 by omega) (show 26 < 2 ^ 31 by decide), nI_clamp (show 12 < 2 ^ 31 by omega), q9]
        · rw [eg]
          refine x1.up (fun o h0 _ _ _ _ _ _ => ?_) (fun k hk => wI_k (by omega)) gA_0 gA_1 (fun j hj hr => ?_) (sameS (by simp [gA_2]) (by simp only [gA_s, implies_true])) ?_ ?_ ?_ ?_ ?_ x1.sed
          · funext j
            rw [wI_o h0]
          · rw [show gA (gS g 1 (g (30 + k))) 1 2 0 2 1 2 = 0 by simp [gA_2]] at hr
            exact absurd hr (Nat.not_lt_zero _)
          · simpa [gA_2, wI_app] using x1.2.2.1
          · simpa [gA_2, wI_app, x1.pe] using x1.2.2.2.1.2.2
          · simpa [gA_2, wI_app] using x1.2.2.2.2.2.2.1
          · simpa [gA_2, wI_app] using x1.2.2.2.2.2.2.2.1
          · simpa [gA_2, wI_app] using x1.2.2.2.2.2.2.2.2.1
        · funext j
          rw [wI_o (by omega)]
theorem s_isNumberOfBlows (x : Int32) {I : ab_I} {R : ab_R} {L : ab_L} : cl Z 87 [.int x] I R L = some (some (.int (nI (hasI x 10).toNat)), I, R, L) := by
  rw [n87]
  simp only [e87_0, e87_1, e87_4, e87_5, e87_7, e87_10, e87_11, e87_14, e87_15, bI_s, bL_s, bV_s, rv_s1, nl_i, nl_a, nl_n, w8_0, w8_i, w8_a, w8_l, ct_i, ct_a, b01_0, b01_1, b01_b, Int32.lt_iff_toInt_lt, nI_toInt (show 9 < 2 ^ 31 by decide), show (nI 0).toInt = 0 by decide]
  unfold hasI
  by_cases h1 : x.toInt < 0
  · simp [h1, show ¬ 0 ≤ x.toInt by omega]
  · by_cases h2 : (9 : Int) < x.toInt
    · simp [h1, show ¬ x.toInt < 10 by omega, show (9 : Int) < x.toInt by omega]
    · simp [h1, show x.toInt < 10 by omega, show 0 ≤ x.toInt by omega, show ¬ (9 : Int) < x.toInt by omega]
theorem B_behind (x y : Int32) : Both Z 86 169 [.int x, .int y] := by
  intro g sd hp
  have hw := hp.wf
  have hv := hp.ws
  have h6 := hw.t6
  cases hx : hasI x (g 0 0 3) with
  | false =>
    refine Both.tell (v := .int (iI (-1))) hp (fun c I R L h => ?_) (fun I R L h => ?_)
    · have hc := h.cc
      rw [n86]
      simp only [e86_0, e86_1, e86_4, e86_5, e86_8, e86_11, e86_12, e86_13, e86_14, e86_17, e86_20, e86_22, e86_23, e86_24, e86_27, e86_28, e86_31, e86_32, e86_33, e86_36, bI_s, bL_s, bV_s, rv_s1, nl_i, nl_a, nl_n, w8_0, w8_i, w8_a, w8_l, ct_i, ct_a, b01_0, b01_1, b01_b, kd_0, h.r3, kdC hc, s_hasThing hc h.C hw, hx]
      simp
    · rw [n169]
      simp only [e169_0, e169_1, e169_2, e169_5, e169_8, e169_9, e169_10, e169_11, e169_12, e169_13, e169_16, e169_19, e169_22, e169_24, e169_25, e169_26, e169_27, e169_30, e169_31, e169_34, e169_36, e169_37, e169_38, e169_39, bI_s, bL_s, bV_s, rv_s1, nl_i, nl_a, nl_n, w8_0, w8_i, w8_a, w8_l, ct_i, ct_a, b01_0, b01_1, b01_b, kd_87, m_isThing h.C hw, hx]
      simp
  | true =>
    obtain ⟨t, ht, rfl⟩ := hasI_t (by omega) hx
    cases hy : hasI y 10 with
    | false =>
      refine Both.tell (v := .int (iI (-2))) hp (fun c I R L h => ?_) (fun I R L h => ?_)
      · have hc := h.cc
        rw [n86]
        simp only [e86_0, e86_1, e86_4, e86_5, e86_8, e86_11, e86_12, e86_13, e86_14, e86_17, e86_20, e86_22, e86_23, e86_24, e86_27, e86_28, e86_31, e86_32, e86_33, e86_36, bI_s, bL_s, bV_s, rv_s1, nl_i, nl_a, nl_n, w8_0, w8_i, w8_a, w8_l, ct_i, ct_a, b01_0, b01_1, b01_b, kd_0, h.r3, kdC hc, s_hasThing hc h.C hw, hx, Bool.toNat_true, nI10, if_false, s_isNumberOfBlows, hy, Bool.toNat_false, if_true]
      · rw [n169]
        simp only [e169_0, e169_1, e169_2, e169_5, e169_8, e169_9, e169_10, e169_11, e169_12, e169_13, e169_16, e169_19, e169_22, e169_24, e169_25, e169_26, e169_27, e169_30, e169_31, e169_34, e169_36, e169_37, e169_38, e169_39, bI_s, bL_s, bV_s, rv_s1, nl_i, nl_a, nl_n, w8_0, w8_i, w8_a, w8_l, ct_i, ct_a, b01_0, b01_1, b01_b, kd_87, m_isThing h.C hw, hx, Bool.toNat_true, nI10, if_false, s_in, in_c (show 9 < 2 ^ 31 by decide), hy, Bool.toNat_false, if_true]
    | true =>
      obtain ⟨n, hn, rfl⟩ := hasI_t (by omega) hy
      refine ⟨.int (nI (plbf (g 0) (g 1) t n)), g, sd, hp, XK.tell fun c I R L h => ?_, fun I R L h => ?_⟩
      · have hc := h.cc
        have hF := h.F
        rw [n86]
        simp only [e86_0, e86_1, e86_4, e86_5, e86_8, e86_11, e86_12, e86_13, e86_14, e86_17, e86_20, e86_22, e86_23, e86_24, e86_27, e86_28, e86_31, e86_32, e86_33, e86_36, bI_s, bL_s, bV_s, rv_s1, nl_i, nl_a, nl_n, w8_0, w8_i, w8_a, w8_l, ct_i, ct_a, b01_0, b01_1, b01_b, hF.x0, hF.x2, hF.x5, hF.x6, hF.x7, hF.x10, hF.x12, hF.x13, hF.x15, hF.k0, hF.k1, hF.k2, hF.m4, hF.m5, hF.m6, hF.m7, hF.m8, hF.m9, hF.m10, hF.m16, hF.m17, hF.m18, hF.m19, hF.m20, hF.m21, hF.m22, hF.m23, hF.m29, hF.m30, hF.m35, hF.m37, hF.m38, hF.m40, hF.m41, hF.m43, hF.m44, hF.q0, hF.q1, kd_0, kd_2, kd_3, kd_11, kd_19, kd_22, kd_27, kd_87, al_1, al_4, al_5, al_6, al_7, al_8, al_9, al_10, al_12, al_13, al_14, al_15, al_16, al_17, al_18, al_20, al_21, al_23, al_24, al_28, al_29, al_30, al_31, al_32, al_1001, al_1002, ql_25, ql_26, Nat.reduceLT, h.r3, kdC hc, s_hasThing hc h.C hw, hx, Bool.toNat_true, nI10, if_false, s_isNumberOfBlows, hy, s_placeBehind hF hc IsS_19 h.C h.S hw hv ht (show n < 100 by omega)]
      · have hF := h.F
        obtain ⟨I1, e1, o1, S1⟩ := m_passes (Z := Z) (L := L) hF h.C h.S hw hv (show n < 100 by omega)
        refine ⟨I1, L, ?_, h.tri (fun o a _ _ _ => o1.1 o a) (fun k _ => by rw [o1.1 87 (by decide)]) (fun j hj => o1.2 j (Or.inl hj)) h6, o1.fm, rfl⟩
        rw [n169]
        simp only [e169_0, e169_1, e169_2, e169_5, e169_8, e169_9, e169_10, e169_11, e169_12, e169_13, e169_16, e169_19, e169_22, e169_24, e169_25, e169_26, e169_27, e169_30, e169_31, e169_34, e169_36, e169_37, e169_38, e169_39, bI_s, bL_s, bV_s, rv_s1, nl_i, nl_a, nl_n, w8_0, w8_i, w8_a, w8_l, ct_i, ct_a, b01_0, b01_1, b01_b, hF.m4, hF.m5, hF.m6, hF.m7, hF.m8, hF.m9, hF.m10, hF.m16, hF.m17, hF.m18, hF.m19, hF.m20, hF.m21, hF.m22, hF.m23, hF.m29, hF.m30, hF.m35, hF.m37, hF.m38, hF.m40, hF.m41, hF.m43, hF.m44, kd_87, al_88, al_89, al_90, al_91, al_92, al_93, al_94, al_95, al_96, al_97, al_98, al_99, al_100, al_101, al_102, al_103, al_104, al_105, al_106, al_108, al_111, zl_107, zl_109, zl_110, Nat.reduceLT, m_isThing h.C hw, hx, Bool.toNat_true, nI10, if_false, s_in, in_c (show 9 < 2 ^ 31 by decide), hy, e1, nI_add, ab_ixN (show 13 + t < 26 by omega) (show 26 < 2 ^ 31 by decide), nI_clamp (show 13 + t < 2 ^ 31 by omega), S1.pl ht, blwn_at hw hv ht n]
theorem B_quay (y : Int32) : Both Z 88 171 [.int y] := by
  intro g sd hp
  have hw := hp.wf
  have hv := hp.ws
  have h6 := hw.t6
  cases hy : hasI y 10 with
  | false =>
    refine Both.tell (v := .int (iI (-2))) hp (fun c I R L h => ?_) (fun I R L h => ?_)
    · rw [n88]
      simp only [e88_0, e88_1, e88_4, e88_7, e88_9, e88_10, e88_11, e88_14, e88_15, e88_18, e88_19, e88_22, e88_23, e88_26, e88_29, bI_s, bL_s, bV_s, rv_s1, nl_i, nl_a, nl_n, w8_0, w8_i, w8_a, w8_l, ct_i, ct_a, b01_0, b01_1, b01_b, kd_0, s_isNumberOfBlows, hy, Bool.toNat_false, if_true]
    · rw [n171]
      simp only [e171_0, e171_1, e171_2, e171_3, e171_6, e171_9, e171_12, e171_14, e171_15, e171_16, e171_17, e171_20, e171_21, e171_24, bI_s, bL_s, bV_s, rv_s1, nl_i, nl_a, nl_n, w8_0, w8_i, w8_a, w8_l, ct_i, ct_a, b01_0, b01_1, b01_b, kd_87, s_in, in_c (show 9 < 2 ^ 31 by decide), hy, Bool.toNat_false, if_true]
  | true =>
    obtain ⟨n, hn, rfl⟩ := hasI_t (by omega) hy
    have hlt : lastf (g 0) (g 1) n < 2 ^ 31 := Nat.lt_of_lt_of_le (mk_lt _ _) (Nat.pow_le_pow_right (by decide) (by omega))
    refine ⟨.int (nI (sumw (g 0) (lastf (g 0) (g 1) n) (g 0 0 3))), g, sd, hp, XK.tell fun c I R L h => ?_, fun I R L h => ?_⟩
    · have hc := h.cc
      have hF := h.F
      rw [n88]
      simp only [e88_0, e88_1, e88_4, e88_7, e88_9, e88_10, e88_11, e88_14, e88_15, e88_18, e88_19, e88_22, e88_23, e88_26, e88_29, bI_s, bL_s, bV_s, rv_s1, nl_i, nl_a, nl_n, w8_0, w8_i, w8_a, w8_l, ct_i, ct_a, b01_0, b01_1, b01_b, hF.x0, hF.x2, hF.x5, hF.x6, hF.x7, hF.x10, hF.x12, hF.x13, hF.x15, hF.k0, hF.k1, hF.k2, hF.m4, hF.m5, hF.m6, hF.m7, hF.m8, hF.m9, hF.m10, hF.m16, hF.m17, hF.m18, hF.m19, hF.m20, hF.m21, hF.m22, hF.m23, hF.m29, hF.m30, hF.m35, hF.m37, hF.m38, hF.m40, hF.m41, hF.m43, hF.m44, hF.q0, hF.q1, kd_0, kd_2, kd_3, kd_11, kd_19, kd_22, kd_27, kd_87, al_1, al_4, al_5, al_6, al_7, al_8, al_9, al_10, al_12, al_13, al_14, al_15, al_16, al_17, al_18, al_20, al_21, al_23, al_24, al_28, al_29, al_30, al_31, al_32, al_1001, al_1002, ql_25, ql_26, Nat.reduceLT, h.r3, kdC hc, Bool.toNat_true, nI10, if_false, s_isNumberOfBlows, hy, s_atLastBehind hF hc IsS_19 h.C h.S hw hv (show n < 100 by omega), s_worthOf hF hc h.C hw hlt]
    · have hF := h.F
      obtain ⟨I1, e1, o1, S1⟩ := m_passes (Z := Z) (L := L) hF h.C h.S hw hv (show n < 100 by omega)
      refine ⟨I1, L, ?_, h.tri (fun o a _ _ _ => o1.1 o a) (fun k _ => by rw [o1.1 87 (by decide)]) (fun j hj => o1.2 j (Or.inl hj)) h6, o1.fm, rfl⟩
      rw [n171]
      simp only [e171_0, e171_1, e171_2, e171_3, e171_6, e171_9, e171_12, e171_14, e171_15, e171_16, e171_17, e171_20, e171_21, e171_24, bI_s, bL_s, bV_s, rv_s1, nl_i, nl_a, nl_n, w8_0, w8_i, w8_a, w8_l, ct_i, ct_a, b01_0, b01_1, b01_b, hF.m4, hF.m5, hF.m6, hF.m7, hF.m8, hF.m9, hF.m10, hF.m16, hF.m17, hF.m18, hF.m19, hF.m20, hF.m21, hF.m22, hF.m23, hF.m29, hF.m30, hF.m35, hF.m37, hF.m38, hF.m40, hF.m41, hF.m43, hF.m44, kd_87, al_88, al_89, al_90, al_91, al_92, al_93, al_94, al_95, al_96, al_97, al_98, al_99, al_100, al_101, al_102, al_103, al_104, al_105, al_106, al_108, al_111, zl_107, zl_109, zl_110, Nat.reduceLT, Bool.toNat_true, nI10, if_false, s_in, in_c (show 9 < 2 ^ 31 by decide), hy, e1, m_quayOf hF (h.C.off o1.1) S1 hw (blwn_WS hv n), blwn_last hw hv n]
end AGAIN
