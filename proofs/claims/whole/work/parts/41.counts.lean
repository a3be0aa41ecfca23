/-! the other counts -/
section COUNTS
variable {Z : Nat}
theorem B_wipe : Both Z 59 109 [] := by
  intro g sd hp
  refine ⟨.int (nI (g 2 1 0)), gA g 1 0 0, sd, ?_, fun c I R L h => ⟨c, wI I 0 1 (nI 0), R, L, ?_, ?_, fun o _ _ => ?_, rfl⟩, fun I R L h => ⟨wI I 87 24 (nI 0), L, ?_, ?_, fun o _ => ?_, rfl⟩⟩
  · refine hp.up gA_0 gA_1 (sameR (by simp [gA_2]) (by simp [gA_2]) (by simp only [gA_r, implies_true])) (sameS (by simp [gA_2]) (by simp only [gA_s, implies_true])) ?_ ?_ ?_ ?_ ?_
    · simpa [gA_2] using hp.2.2.2.1
    · simpa [gA_2] using hp.2.2.2.2.1
    · simpa [gA_2, hp.ln, hp.sn] using hp.2.2.2.2.2.1
    · simpa [gA_2] using hp.2.2.2.2.2.2.1
    · simpa [gA_2] using hp.2.2.2.2.2.2.2.1
  · have a := h.tn
    rw [n59]
    simp only [e59_0, e59_1, e59_4, e59_5, e59_6, e59_7, e59_10, e59_11, bI_s, bL_s, bV_s, rv_s1, nl_i, nl_a, nl_n, w8_0, w8_i, w8_a, w8_l, ct_i, ct_a, b01_0, b01_1, b01_b, kd_0, a]
  · refine h.up (fun o h0 _ _ _ => ?_) gA_0 gA_1 (sameR (by simp [gA_2]) (by simp [gA_2]) (by simp only [gA_r, implies_true])) (sameS (by simp [gA_2]) (by simp only [gA_s, implies_true])) ?_ ?_ ?_ ?_ ?_ h.sed
    · funext j
      rw [wI_o h0]
    · simpa [gA_2, wI_app] using h.2.2.1
    · simpa [gA_2, wI_app] using h.2.2.2.1
    · simpa [gA_2, wI_app, h.ln, h.sn] using h.2.2.2.2.2.2.1
    · simpa [gA_2, wI_app] using h.2.2.2.2.2.2.2.1
    · simpa [gA_2, wI_app] using h.2.2.2.2.2.2.2.2.1
  · funext j
    rw [wI_o (by omega)]
  · have a := h.tn
    rw [n109]
    simp only [e109_0, e109_1, e109_4, e109_5, e109_6, e109_7, e109_10, e109_11, bI_s, bL_s, bV_s, rv_s1, nl_i, nl_a, nl_n, w8_0, w8_i, w8_a, w8_l, ct_i, ct_a, b01_0, b01_1, b01_b, kd_87, a]
  · refine h.up (fun o h0 _ _ _ _ _ _ => ?_) (fun k hk => wI_k (by omega)) gA_0 gA_1 (sameR (by simp [gA_2]) (by simp [gA_2]) (by simp only [gA_r, implies_true])) (sameS (by simp [gA_2]) (by simp only [gA_s, implies_true])) ?_ ?_ ?_ ?_ ?_ h.sed
    · funext j
      rw [wI_o h0]
    · simpa [gA_2, wI_app] using h.2.2.1
    · simpa [gA_2, wI_app] using h.2.2.2.1
    · simpa [gA_2, wI_app, h.ln, h.sn] using h.2.2.2.2.2.2.1
    · simpa [gA_2, wI_app] using h.2.2.2.2.2.2.2.1
    · simpa [gA_2, wI_app] using h.2.2.2.2.2.2.2.2.1
  · funext j
    rw [wI_o (by omega)]
theorem B_unlearn : Both Z 90 174 [] := by
  intro g sd hp
  refine ⟨.int (nI (g 2 1 4)), gA g 1 4 0, sd, ?_, fun c I R L h => ⟨c, wI I 0 14 (nI 0), R, L, ?_, ?_, fun o _ _ => ?_, rfl⟩, fun I R L h => ⟨wI I 87 36 (nI 0), L, ?_, ?_, fun o _ => ?_, rfl⟩⟩
  · refine hp.up gA_0 gA_1 (sameR (by simp [gA_2]) (by simp [gA_2]) (by simp only [gA_r, implies_true])) (sameS (by simp [gA_2]) (by simp only [gA_s, implies_true])) ?_ ?_ ?_ ?_ ?_
    · simpa [gA_2] using hp.2.2.2.1
    · simpa [gA_2] using hp.2.2.2.2.1
    · simpa [gA_2, hp.ln, hp.sn] using hp.2.2.2.2.2.1
    · simpa [gA_2] using hp.2.2.2.2.2.2.1
    · simpa [gA_2] using hp.2.2.2.2.2.2.2.1
  · have a := h.ln
    rw [n90]
    simp only [e90_0, e90_1, e90_4, e90_5, e90_6, e90_7, e90_10, e90_11, bI_s, bL_s, bV_s, rv_s1, nl_i, nl_a, nl_n, w8_0, w8_i, w8_a, w8_l, ct_i, ct_a, b01_0, b01_1, b01_b, kd_0, a]
  · refine h.up (fun o h0 _ _ _ => ?_) gA_0 gA_1 (sameR (by simp [gA_2]) (by simp [gA_2]) (by simp only [gA_r, implies_true])) (sameS (by simp [gA_2]) (by simp only [gA_s, implies_true])) ?_ ?_ ?_ ?_ ?_ h.sed
    · funext j
      rw [wI_o h0]
    · simpa [gA_2, wI_app] using h.2.2.1
    · simpa [gA_2, wI_app] using h.2.2.2.1
    · simpa [gA_2, wI_app, h.ln, h.sn] using h.2.2.2.2.2.2.1
    · simpa [gA_2, wI_app] using h.2.2.2.2.2.2.2.1
    · simpa [gA_2, wI_app] using h.2.2.2.2.2.2.2.2.1
  · funext j
    rw [wI_o (by omega)]
  · have a := h.ln
    rw [n174]
    simp only [e174_0, e174_1, e174_4, e174_5, e174_6, e174_7, e174_10, e174_11, bI_s, bL_s, bV_s, rv_s1, nl_i, nl_a, nl_n, w8_0, w8_i, w8_a, w8_l, ct_i, ct_a, b01_0, b01_1, b01_b, kd_87, a]
  · refine h.up (fun o h0 _ _ _ _ _ _ => ?_) (fun k hk => wI_k (by omega)) gA_0 gA_1 (sameR (by simp [gA_2]) (by simp [gA_2]) (by simp only [gA_r, implies_true])) (sameS (by simp [gA_2]) (by simp only [gA_s, implies_true])) ?_ ?_ ?_ ?_ ?_ h.sed
    · funext j
      rw [wI_o h0]
    · simpa [gA_2, wI_app] using h.2.2.1
    · simpa [gA_2, wI_app] using h.2.2.2.1
    · simpa [gA_2, wI_app, h.ln, h.sn] using h.2.2.2.2.2.2.1
    · simpa [gA_2, wI_app] using h.2.2.2.2.2.2.2.1
    · simpa [gA_2, wI_app] using h.2.2.2.2.2.2.2.2.1
  · funext j
    rw [wI_o (by omega)]
theorem B_unsee : Both Z 96 179 [] := by
  intro g sd hp
  refine ⟨.int (nI (g 2 1 5)), gA g 1 5 0, sd, ?_, fun c I R L h => ⟨c, wI I 0 16 (nI 0), R, L, ?_, ?_, fun o _ _ => ?_, rfl⟩, fun I R L h => ⟨wI I 87 39 (nI 0), L, ?_, ?_, fun o _ => ?_, rfl⟩⟩
  · refine hp.up gA_0 gA_1 (sameR (by simp [gA_2]) (by simp [gA_2]) (by simp only [gA_r, implies_true])) (sameS (by simp [gA_2]) (by simp only [gA_s, implies_true])) ?_ ?_ ?_ ?_ ?_
    · simpa [gA_2] using hp.2.2.2.1
    · simpa [gA_2] using hp.2.2.2.2.1
    · simpa [gA_2, hp.ln, hp.sn] using hp.2.2.2.2.2.1
    · simpa [gA_2] using hp.2.2.2.2.2.2.1
    · simpa [gA_2] using hp.2.2.2.2.2.2.2.1
  · have a := h.sn
    rw [n96]
    simp only [e96_0, e96_1, e96_4, e96_5, e96_6, e96_7, e96_10, e96_11, bI_s, bL_s, bV_s, rv_s1, nl_i, nl_a, nl_n, w8_0, w8_i, w8_a, w8_l, ct_i, ct_a, b01_0, b01_1, b01_b, kd_0, a]
  · refine h.up (fun o h0 _ _ _ => ?_) gA_0 gA_1 (sameR (by simp [gA_2]) (by simp [gA_2]) (by simp only [gA_r, implies_true])) (sameS (by simp [gA_2]) (by simp only [gA_s, implies_true])) ?_ ?_ ?_ ?_ ?_ h.sed
    · funext j
      rw [wI_o h0]
    · simpa [gA_2, wI_app] using h.2.2.1
    · simpa [gA_2, wI_app] using h.2.2.2.1
    · simpa [gA_2, wI_app, h.ln, h.sn] using h.2.2.2.2.2.2.1
    · simpa [gA_2, wI_app] using h.2.2.2.2.2.2.2.1
    · simpa [gA_2, wI_app] using h.2.2.2.2.2.2.2.2.1
  · funext j
    rw [wI_o (by omega)]
  · have a := h.sn
    rw [n179]
    simp only [e179_0, e179_1, e179_4, e179_5, e179_6, e179_7, e179_10, e179_11, bI_s, bL_s, bV_s, rv_s1, nl_i, nl_a, nl_n, w8_0, w8_i, w8_a, w8_l, ct_i, ct_a, b01_0, b01_1, b01_b, kd_87, a]
  · refine h.up (fun o h0 _ _ _ _ _ _ => ?_) (fun k hk => wI_k (by omega)) gA_0 gA_1 (sameR (by simp [gA_2]) (by simp [gA_2]) (by simp only [gA_r, implies_true])) (sameS (by simp [gA_2]) (by simp only [gA_s, implies_true])) ?_ ?_ ?_ ?_ ?_ h.sed
    · funext j
      rw [wI_o h0]
    · simpa [gA_2, wI_app] using h.2.2.1
    · simpa [gA_2, wI_app] using h.2.2.2.1
    · simpa [gA_2, wI_app, h.ln, h.sn] using h.2.2.2.2.2.2.1
    · simpa [gA_2, wI_app] using h.2.2.2.2.2.2.2.1
    · simpa [gA_2, wI_app] using h.2.2.2.2.2.2.2.2.1
  · funext j
    rw [wI_o (by omega)]
theorem B_seed (v : Int64) : Both Z 101 183 [.long v] := by
  intro g sd hp
  refine ⟨.long sd, g, v, hp, fun c I R L h => ⟨c, I, R, wL L 0 17 v, ?_, ?_, FX.rf, ?_⟩, fun I R L h => ⟨I, wL L 87 42 v, ?_, ?_, FM.rf, ?_⟩⟩
  · have a := h.sed
    rw [n101]
    simp only [e101_0, e101_1, e101_4, e101_5, e101_6, e101_7, e101_10, e101_11, bI_s, bL_s, bV_s, rv_s1, nl_i, nl_a, nl_n, w8_0, w8_i, w8_a, w8_l, ct_i, ct_a, b01_0, b01_1, b01_b, kd_0, a]
  · exact ⟨h.1, h.2.1, h.2.2.1, h.2.2.2.1, h.2.2.2.2.1, h.2.2.2.2.2.1, h.2.2.2.2.2.2.1, h.2.2.2.2.2.2.2.1, h.2.2.2.2.2.2.2.2.1, h.2.2.2.2.2.2.2.2.2.1, by simp [wL]⟩
  · funext j
    simp [wL]
  · have a := h.sed
    rw [n183]
    simp only [e183_0, e183_1, e183_4, e183_5, e183_6, e183_7, e183_10, e183_11, bI_s, bL_s, bV_s, rv_s1, nl_i, nl_a, nl_n, w8_0, w8_i, w8_a, w8_l, ct_i, ct_a, b01_0, b01_1, b01_b, kd_87, a]
  · exact ⟨h.1, h.2.1, h.2.2.1, h.2.2.2.1, h.2.2.2.2.1, h.2.2.2.2.2.1, h.2.2.2.2.2.2.1, h.2.2.2.2.2.2.2.1, h.2.2.2.2.2.2.2.2.1, by simp [wL]⟩
  · funext j
    simp [wL]

theorem B_learn (x : Int32) (own held : Bool) : Both Z 89 173 [.int x, .int (nI own.toNat), .int (nI held.toNat)] := by
  intro g sd hp
  have hln := hp.ln
  cases hx : hasI x 5 with
  | false =>
    refine ⟨.int (iI (-2)), g, sd, hp, XK.tell fun c I R L h => ?_, MK.tell fun I R L h => ?_⟩
    · rw [n89]
      simp only [e89_0, e89_1, e89_4, e89_5, e89_6, e89_9, e89_10, e89_13, e89_14, e89_17, e89_19, e89_20, e89_21, e89_24, e89_26, e89_29, e89_31, e89_32, e89_33, e89_36, e89_37, e89_40, e89_41, e89_42, e89_43, e89_44, e89_47, e89_48, e89_51, e89_52, e89_53, e89_54, e89_57, e89_58, e89_61, e89_62, e89_63, e89_64, e89_65, e89_66, e89_69, e89_70, e89_71, e89_74, e89_75, e89_78, bI_s, bL_s, bV_s, rv_s1, nl_i, nl_a, nl_n, w8_0, w8_i, w8_a, w8_l, ct_i, ct_a, b01_0, b01_1, b01_b, lt0_iff, Int32.lt_iff_toInt_lt, nI_toInt (show 4 < 2 ^ 31 by decide), nI_toInt (show 0 < 2 ^ 31 by decide)]
      rcases hasI_f hx with h1 | h1
      · simp [h1]
      · simp [show (4 : Int) < x.toInt by omega]
    · rw [n173]
      simp only [e173_0, e173_1, e173_2, e173_3, e173_6, e173_9, e173_12, e173_13, e173_16, e173_17, e173_20, e173_22, e173_23, e173_24, e173_27, e173_29, e173_32, e173_34, e173_35, e173_36, e173_39, e173_40, e173_43, e173_45, e173_46, e173_47, e173_48, e173_51, e173_52, e173_55, e173_56, e173_57, e173_58, e173_59, e173_62, e173_63, e173_66, e173_67, e173_68, e173_69, e173_70, e173_73, e173_74, e173_75, e173_78, e173_79, e173_82, bI_s, bL_s, bV_s, rv_s1, nl_i, nl_a, nl_n, w8_0, w8_i, w8_a, w8_l, ct_i, ct_a, b01_0, b01_1, b01_b, s_in, in_c (show 4 < 2 ^ 31 by decide), hx]
      simp
  | true =>
    obtain ⟨l, hl, rfl⟩ := hasI_t (by decide) hx
    by_cases hz : own = true ∧ l = 0
    · obtain ⟨rfl, rfl⟩ := hz
      refine ⟨.int (iI (-2)), g, sd, hp, XK.tell fun c I R L h => ?_, MK.tell fun I R L h => ?_⟩
      · rw [n89]
        simp only [e89_0, e89_1, e89_4, e89_5, e89_6, e89_9, e89_10, e89_13, e89_14, e89_17, e89_19, e89_20, e89_21, e89_24, e89_26, e89_29, e89_31, e89_32, e89_33, e89_36, e89_37, e89_40, e89_41, e89_42, e89_43, e89_44, e89_47, e89_48, e89_51, e89_52, e89_53, e89_54, e89_57, e89_58, e89_61, e89_62, e89_63, e89_64, e89_65, e89_66, e89_69, e89_70, e89_71, e89_74, e89_75, e89_78, bI_s, bL_s, bV_s, rv_s1, nl_i, nl_a, nl_n, w8_0, w8_i, w8_a, w8_l, ct_i, ct_a, b01_0, b01_1, b01_b, nI_ltI (show 0 < 2 ^ 31 by decide) (show 0 < 2 ^ 31 by decide), nI_ltI (show 4 < 2 ^ 31 by decide) (show 0 < 2 ^ 31 by decide), Nat.not_lt_zero, Nat.lt_irrefl, if_false, Bool.toNat_true, nI10, if_true]
      · rw [n173]
        simp only [e173_0, e173_1, e173_2, e173_3, e173_6, e173_9, e173_12, e173_13, e173_16, e173_17, e173_20, e173_22, e173_23, e173_24, e173_27, e173_29, e173_32, e173_34, e173_35, e173_36, e173_39, e173_40, e173_43, e173_45, e173_46, e173_47, e173_48, e173_51, e173_52, e173_55, e173_56, e173_57, e173_58, e173_59, e173_62, e173_63, e173_66, e173_67, e173_68, e173_69, e173_70, e173_73, e173_74, e173_75, e173_78, e173_79, e173_82, bI_s, bL_s, bV_s, rv_s1, nl_i, nl_a, nl_n, w8_0, w8_i, w8_a, w8_l, ct_i, ct_a, b01_0, b01_1, b01_b, s_in, in_c (show 4 < 2 ^ 31 by decide), hx, Bool.toNat_true, nI10, if_false, if_true]
    · have e1 : ∀ a b : ab_Rm, (if nI own.toNat = nI 0 then a else if nI l = nI 0 then b else a) = a := fun a b => by
        cases own with
        | false => simp
        | true => simp only [Bool.toNat_true, nI10, if_false, nI_eq (show l < 2 ^ 31 by omega) (show 0 < 2 ^ 31 by decide), show ¬ l = 0 from fun w => hz ⟨rfl, w⟩]
      have e2 : ∀ a b : ab_Rm, (if nI l = nI 0 then if nI own.toNat = nI 0 then a else b else a) = a := fun a b => by
        cases own with
        | false => simp
        | true => simp only [Bool.toNat_true, nI10, if_false, nI_eq (show l < 2 ^ 31 by omega) (show 0 < 2 ^ 31 by decide), show ¬ l = 0 from fun w => hz ⟨rfl, w⟩]
      by_cases hf : g 2 1 4 = 6
      · refine ⟨.int (iI (-4)), g, sd, hp, XK.tell fun c I R L h => ?_, MK.tell fun I R L h => ?_⟩
        · have a := h.ln
          have hF := h.F
          rw [n89]
          simp only [e89_0, e89_1, e89_4, e89_5, e89_6, e89_9, e89_10, e89_13, e89_14, e89_17, e89_19, e89_20, e89_21, e89_24, e89_26, e89_29, e89_31, e89_32, e89_33, e89_36, e89_37, e89_40, e89_41, e89_42, e89_43, e89_44, e89_47, e89_48, e89_51, e89_52, e89_53, e89_54, e89_57, e89_58, e89_61, e89_62, e89_63, e89_64, e89_65, e89_66, e89_69, e89_70, e89_71, e89_74, e89_75, e89_78, bI_s, bL_s, bV_s, rv_s1, nl_i, nl_a, nl_n, w8_0, w8_i, w8_a, w8_l, ct_i, ct_a, b01_0, b01_1, b01_b, hF.x0, hF.x2, hF.x5, hF.x6, hF.x7, hF.x10, hF.x12, hF.x13, hF.x15, hF.k0, hF.k1, hF.k2, hF.m4, hF.m5, hF.m6, hF.m7, hF.m8, hF.m9, hF.m10, hF.m16, hF.m17, hF.m18, hF.m19, hF.m20, hF.m21, hF.m22, hF.m23, hF.m29, hF.m30, hF.m35, hF.m37, hF.m38, hF.m40, hF.m41, hF.m43, hF.m44, hF.q0, hF.q1, kd_0, kd_2, kd_3, kd_11, kd_19, kd_22, kd_27, kd_87, al_1, al_4, al_5, al_6, al_7, al_8, al_9, al_10, al_12, al_13, al_14, al_15, al_16, al_17, al_18, al_20, al_21, al_23, al_24, al_28, al_29, al_30, al_31, al_32, al_1001, al_1002, ql_25, ql_26, Nat.reduceLT, nI_ltI (show l < 2 ^ 31 by omega) (show 0 < 2 ^ 31 by decide), Nat.not_lt_zero, if_false, nI_ltI (show 4 < 2 ^ 31 by decide) (show l < 2 ^ 31 by omega), show ¬ 4 < l by omega, a, hf, Int32.lt_irrefl, e1]
        · have a := h.ln
          have hF := h.F
          rw [n173]
          simp only [e173_0, e173_1, e173_2, e173_3, e173_6, e173_9, e173_12, e173_13, e173_16, e173_17, e173_20, e173_22, e173_23, e173_24, e173_27, e173_29, e173_32, e173_34, e173_35, e173_36, e173_39, e173_40, e173_43, e173_45, e173_46, e173_47, e173_48, e173_51, e173_52, e173_55, e173_56, e173_57, e173_58, e173_59, e173_62, e173_63, e173_66, e173_67, e173_68, e173_69, e173_70, e173_73, e173_74, e173_75, e173_78, e173_79, e173_82, bI_s, bL_s, bV_s, rv_s1, nl_i, nl_a, nl_n, w8_0, w8_i, w8_a, w8_l, ct_i, ct_a, b01_0, b01_1, b01_b, hF.m4, hF.m5, hF.m6, hF.m7, hF.m8, hF.m9, hF.m10, hF.m16, hF.m17, hF.m18, hF.m19, hF.m20, hF.m21, hF.m22, hF.m23, hF.m29, hF.m30, hF.m35, hF.m37, hF.m38, hF.m40, hF.m41, hF.m43, hF.m44, kd_87, al_88, al_89, al_90, al_91, al_92, al_93, al_94, al_95, al_96, al_97, al_98, al_99, al_100, al_101, al_102, al_103, al_104, al_105, al_106, al_108, al_111, zl_107, zl_109, zl_110, Nat.reduceLT, s_in, in_c (show 4 < 2 ^ 31 by decide), hx, a, hf, Bool.toNat_true, nI10, if_false, if_true, e2]
      · have r1 : gA (gA g 1 4 (g 2 1 4 + 1)) 2 (g 2 1 4) (4 * l + 2 * own.toNat + held.toNat) 2 1 4 = g 2 1 4 + 1 := by simp [gA_2]
        have r2 : ∀ i, gA (gA g 1 4 (g 2 1 4 + 1)) 2 (g 2 1 4) (4 * l + 2 * own.toNat + held.toNat) 2 2 i = if i = g 2 1 4 then 4 * l + 2 * own.toNat + held.toNat else g 2 2 i := fun i => by simp [gA_2]
        have b1 := Bool.toNat_le own
        have b2 := Bool.toNat_le held
        refine ⟨.int (nI (g 2 1 4 + 1)), gA (gA g 1 4 (g 2 1 4 + 1)) 2 (g 2 1 4) (4 * l + 2 * own.toNat + held.toNat), sd, ?_, fun c I R L h => ?_, fun I R L h => ?_⟩
        · refine hp.up (by simp only [gA_0]) (by simp only [gA_1]) (sameR (by simp [gA_2]) (by simp [gA_2]) (by simp only [gA_r, implies_true])) (sameS (by simp [gA_2]) (by simp only [gA_s, implies_true])) (by simpa [gA_2] using hp.2.2.2.1) (by simpa [gA_2] using hp.2.2.2.2.1) ⟨by rw [r1]; omega, by simpa [gA_2] using hp.sn⟩ (fun i hi => ?_) (by simpa [gA_2] using hp.2.2.2.2.2.2.2.1)
          rw [r1] at hi
          rw [r2 i]
          split
          · omega
          · exact hp.le (by omega)
        · have a := h.ln
          have hF := h.F
          refine ⟨c, wI (wI I 31 (g 2 1 4) (nI (4 * l + 2 * own.toNat + held.toNat))) 0 14 (nI (g 2 1 4 + 1)), R, L, ?_, ?_, fun o _ _ => ?_, rfl⟩
          · rw [n89]
            simp only [e89_0, e89_1, e89_4, e89_5, e89_6, e89_9, e89_10, e89_13, e89_14, e89_17, e89_19, e89_20, e89_21, e89_24, e89_26, e89_29, e89_31, e89_32, e89_33, e89_36, e89_37, e89_40, e89_41, e89_42, e89_43, e89_44, e89_47, e89_48, e89_51, e89_52, e89_53, e89_54, e89_57, e89_58, e89_61, e89_62, e89_63, e89_64, e89_65, e89_66, e89_69, e89_70, e89_71, e89_74, e89_75, e89_78, bI_s, bL_s, bV_s, rv_s1, nl_i, nl_a, nl_n, w8_0, w8_i, w8_a, w8_l, ct_i, ct_a, b01_0, b01_1, b01_b, hF.x0, hF.x2, hF.x5, hF.x6, hF.x7, hF.x10, hF.x12, hF.x13, hF.x15, hF.k0, hF.k1, hF.k2, hF.m4, hF.m5, hF.m6, hF.m7, hF.m8, hF.m9, hF.m10, hF.m16, hF.m17, hF.m18, hF.m19, hF.m20, hF.m21, hF.m22, hF.m23, hF.m29, hF.m30, hF.m35, hF.m37, hF.m38, hF.m40, hF.m41, hF.m43, hF.m44, hF.q0, hF.q1, kd_0, kd_2, kd_3, kd_11, kd_19, kd_22, kd_27, kd_87, al_1, al_4, al_5, al_6, al_7, al_8, al_9, al_10, al_12, al_13, al_14, al_15, al_16, al_17, al_18, al_20, al_21, al_23, al_24, al_28, al_29, al_30, al_31, al_32, al_1001, al_1002, ql_25, ql_26, Nat.reduceLT, nI_ltI (show l < 2 ^ 31 by omega) (show 0 < 2 ^ 31 by decide), Nat.not_lt_zero, if_false, nI_ltI (show 4 < 2 ^ 31 by decide) (show l < 2 ^ 31 by omega), show ¬ 4 < l by omega, a, nI_ltI (show g 2 1 4 < 2 ^ 31 by omega) (show 6 < 2 ^ 31 by decide), show g 2 1 4 < 6 by omega, if_true, e1, pk_mul, nI_add]
            cases own <;> cases held <;> simp [nI10, nI_add, e89_52, e89_53, e89_54, e89_57, e89_58, e89_61, e89_62, e89_63, e89_64, e89_65, e89_66, e89_69, e89_70, e89_71, e89_74, e89_75, e89_78, ab_ixN (show g 2 1 4 < 6 by omega) (show 6 < 2 ^ 31 by decide), al_31, nI_clamp (show g 2 1 4 < 2 ^ 31 by omega), kd_0, wI_app, a, bI_s, bL_s, bV_s, rv_s1, nl_i, nl_a, nl_n, w8_0, w8_i, w8_a, w8_l, ct_i, ct_a, b01_0, b01_1, b01_b]
          · refine h.up (fun o h0 _ h31 _ => ?_) (by simp only [gA_0]) (by simp only [gA_1]) (sameR (by simp [gA_2]) (by simp [gA_2]) (by simp only [gA_r, implies_true])) (sameS (by simp [gA_2]) (by simp only [gA_s, implies_true])) ?_ ?_ ⟨by rw [r1, wI_self], ?_⟩ (fun i hi => ?_) ?_ h.sed
            · funext j
              rw [wI_o h0, wI_o h31]
            · simpa [gA_2, wI_app] using h.2.2.1
            · simpa [gA_2, wI_app] using h.2.2.2.1
            · simpa [gA_2, wI_app] using h.sn
            · rw [r1] at hi
              rw [r2 i, wI_o (by decide)]
              by_cases hi2 : i = g 2 1 4
              · rw [hi2, wI_self, if_pos rfl]
              · rw [wI_k hi2, if_neg hi2, h.le (by omega)]
            · simpa [gA_2, wI_app] using h.2.2.2.2.2.2.2.2.1
          · funext j
            rw [wI_o (by omega), wI_o (by omega)]
        · have a := h.ln
          have hF := h.F
          refine ⟨wI (wI (wI I 106 (g 2 1 4) (nI (10 * l + own.toNat))) 107 (g 2 1 4) (nI held.toNat)) 87 36 (nI (g 2 1 4 + 1)), L, ?_, ?_, fun o _ => ?_, rfl⟩
          · rw [n173]
            simp only [e173_0, e173_1, e173_2, e173_3, e173_6, e173_9, e173_12, e173_13, e173_16, e173_17, e173_20, e173_22, e173_23, e173_24, e173_27, e173_29, e173_32, e173_34, e173_35, e173_36, e173_39, e173_40, e173_43, e173_45, e173_46, e173_47, e173_48, e173_51, e173_52, e173_55, e173_56, e173_57, e173_58, e173_59, e173_62, e173_63, e173_66, e173_67, e173_68, e173_69, e173_70, e173_73, e173_74, e173_75, e173_78, e173_79, e173_82, bI_s, bL_s, bV_s, rv_s1, nl_i, nl_a, nl_n, w8_0, w8_i, w8_a, w8_l, ct_i, ct_a, b01_0, b01_1, b01_b, hF.m4, hF.m5, hF.m6, hF.m7, hF.m8, hF.m9, hF.m10, hF.m16, hF.m17, hF.m18, hF.m19, hF.m20, hF.m21, hF.m22, hF.m23, hF.m29, hF.m30, hF.m35, hF.m37, hF.m38, hF.m40, hF.m41, hF.m43, hF.m44, kd_87, al_88, al_89, al_90, al_91, al_92, al_93, al_94, al_95, al_96, al_97, al_98, al_99, al_100, al_101, al_102, al_103, al_104, al_105, al_106, al_108, al_111, zl_107, zl_109, zl_110, Nat.reduceLT, s_in, in_c (show 4 < 2 ^ 31 by decide), hx, a, nI_eq (show g 2 1 4 < 2 ^ 31 by omega) (show 6 < 2 ^ 31 by decide), hf, Bool.toNat_true, nI10, if_false, e2, pk_mul, nI_add]
            cases own <;> simp [nI10, nI_add, e173_0, e173_1, e173_2, e173_3, e173_6, e173_9, e173_12, e173_13, e173_16, e173_17, e173_20, e173_22, e173_23, e173_24, e173_27, e173_29, e173_32, e173_34, e173_35, e173_36, e173_39, e173_40, e173_43, e173_45, e173_46, e173_47, e173_48, e173_51, e173_52, e173_55, e173_56, e173_57, e173_58, e173_59, e173_62, e173_63, e173_66, e173_67, e173_68, e173_69, e173_70, e173_73, e173_74, e173_75, e173_78, e173_79, e173_82, ab_ixN (show g 2 1 4 < 6 by omega) (show 6 < 2 ^ 31 by decide), hF.m4, hF.m5, hF.m6, hF.m7, hF.m8, hF.m9, hF.m10, hF.m16, hF.m17, hF.m18, hF.m19, hF.m20, hF.m21, hF.m22, hF.m23, hF.m29, hF.m30, hF.m35, hF.m37, hF.m38, hF.m40, hF.m41, hF.m43, hF.m44, kd_87, al_88, al_89, al_90, al_91, al_92, al_93, al_94, al_95, al_96, al_97, al_98, al_99, al_100, al_101, al_102, al_103, al_104, al_105, al_106, al_108, al_111, zl_107, zl_109, zl_110, Nat.reduceLT, nI_clamp (show g 2 1 4 < 2 ^ 31 by omega), wI_app, a, bI_s, bL_s, bV_s, rv_s1, nl_i, nl_a, nl_n, w8_0, w8_i, w8_a, w8_l, ct_i, ct_a, b01_0, b01_1, b01_b]
          · refine h.up (fun o h0 _ h2 h3 _ _ _ => ?_) (fun k hk => ?_) (by simp only [gA_0]) (by simp only [gA_1]) (sameR (by simp [gA_2]) (by simp [gA_2]) (by simp only [gA_r, implies_true])) (sameS (by simp [gA_2]) (by simp only [gA_s, implies_true])) ?_ ?_ ⟨by rw [r1, wI_self], ?_⟩ (fun i hi => ?_) ?_ h.sed
            · funext j
              rw [wI_o h0, wI_o h3, wI_o h2]
            · rw [wI_k (by omega), wI_o (by decide), wI_o (by decide)]
            · simpa [gA_2, wI_app] using h.2.2.1
            · simpa [gA_2, wI_app] using h.2.2.2.1
            · simpa [gA_2, wI_app] using h.sn
            · rw [r1] at hi
              have k6 : wI (wI (wI I 106 (g 2 1 4) (nI (10 * l + own.toNat))) 107 (g 2 1 4) (nI held.toNat)) 87 36 (nI (g 2 1 4 + 1)) 106 i = if i = g 2 1 4 then nI (10 * l + own.toNat) else I 106 i := by simp [wI_app]
              have k7 : wI (wI (wI I 106 (g 2 1 4) (nI (10 * l + own.toNat))) 107 (g 2 1 4) (nI held.toNat)) 87 36 (nI (g 2 1 4 + 1)) 107 i = if i = g 2 1 4 then nI held.toNat else I 107 i := by simp [wI_app]
              rw [r2 i, k6, k7]
              by_cases hi2 : i = g 2 1 4
              · rw [if_pos hi2, if_pos hi2, if_pos hi2, show (4 * l + 2 * own.toNat + held.toNat) / 4 = l by omega, show (4 * l + 2 * own.toNat + held.toNat) / 2 % 2 = own.toNat by omega, show (4 * l + 2 * own.toNat + held.toNat) % 2 = held.toNat by omega]
                exact ⟨rfl, rfl⟩
              · rw [if_neg hi2, if_neg hi2, if_neg hi2]
                exact h.le (by omega)
            · simpa [gA_2, wI_app] using h.2.2.2.2.2.2.2.2.1
          · funext j
            rw [wI_o (by omega), wI_o (by omega), wI_o (by omega)]
theorem B_see (x : Int32) (there : Bool) : Both Z 95 178 [.int x, .int (nI there.toNat)] := by
  intro g sd hp
  have hsn := hp.sn
  have hw := hp.wf
  have h6 := hw.t6
  cases hx : hasI x (g 0 0 3) with
  | false =>
    refine ⟨.int (iI (-1)), g, sd, hp, XK.tell fun c I R L h => ?_, MK.tell fun I R L h => ?_⟩
    · have hc := h.cc
      rw [n95]
      simp only [e95_0, e95_1, e95_4, e95_5, e95_8, e95_11, e95_12, e95_13, e95_14, e95_17, e95_19, e95_22, e95_24, e95_25, e95_26, e95_29, e95_30, e95_33, e95_34, e95_35, e95_36, e95_37, e95_40, e95_41, e95_44, e95_45, e95_46, e95_47, e95_48, e95_49, e95_52, e95_53, e95_54, e95_57, e95_58, e95_61, bI_s, bL_s, bV_s, rv_s1, nl_i, nl_a, nl_n, w8_0, w8_i, w8_a, w8_l, ct_i, ct_a, b01_0, b01_1, b01_b, kd_0, h.r3, kdC hc, s_hasThing hc h.C hw, hx]
      simp
    · rw [n178]
      simp only [e178_0, e178_1, e178_2, e178_5, e178_8, e178_9, e178_10, e178_11, e178_14, e178_16, e178_19, e178_21, e178_22, e178_23, e178_26, e178_27, e178_30, e178_31, e178_32, e178_33, e178_36, e178_37, e178_40, e178_41, e178_42, e178_43, e178_44, e178_47, e178_48, e178_49, e178_52, e178_53, e178_56, bI_s, bL_s, bV_s, rv_s1, nl_i, nl_a, nl_n, w8_0, w8_i, w8_a, w8_l, ct_i, ct_a, b01_0, b01_1, b01_b, kd_87, m_isThing h.C hw, hx]
      simp
  | true =>
    obtain ⟨l, hl, rfl⟩ := hasI_t (by omega) hx
    by_cases hf : g 2 1 5 = 6
    · refine ⟨.int (iI (-4)), g, sd, hp, XK.tell fun c I R L h => ?_, MK.tell fun I R L h => ?_⟩
      · have a := h.sn
        have hF := h.F
        have hc := h.cc
        rw [n95]
        simp only [e95_0, e95_1, e95_4, e95_5, e95_8, e95_11, e95_12, e95_13, e95_14, e95_17, e95_19, e95_22, e95_24, e95_25, e95_26, e95_29, e95_30, e95_33, e95_34, e95_35, e95_36, e95_37, e95_40, e95_41, e95_44, e95_45, e95_46, e95_47, e95_48, e95_49, e95_52, e95_53, e95_54, e95_57, e95_58, e95_61, bI_s, bL_s, bV_s, rv_s1, nl_i, nl_a, nl_n, w8_0, w8_i, w8_a, w8_l, ct_i, ct_a, b01_0, b01_1, b01_b, hF.x0, hF.x2, hF.x5, hF.x6, hF.x7, hF.x10, hF.x12, hF.x13, hF.x15, hF.k0, hF.k1, hF.k2, hF.m4, hF.m5, hF.m6, hF.m7, hF.m8, hF.m9, hF.m10, hF.m16, hF.m17, hF.m18, hF.m19, hF.m20, hF.m21, hF.m22, hF.m23, hF.m29, hF.m30, hF.m35, hF.m37, hF.m38, hF.m40, hF.m41, hF.m43, hF.m44, hF.q0, hF.q1, kd_0, kd_2, kd_3, kd_11, kd_19, kd_22, kd_27, kd_87, al_1, al_4, al_5, al_6, al_7, al_8, al_9, al_10, al_12, al_13, al_14, al_15, al_16, al_17, al_18, al_20, al_21, al_23, al_24, al_28, al_29, al_30, al_31, al_32, al_1001, al_1002, ql_25, ql_26, Nat.reduceLT, h.r3, kdC hc, s_hasThing hc h.C hw, hx, a, hf, Bool.toNat_true, nI10, if_false, Int32.lt_irrefl]
      · have a := h.sn
        have hF := h.F
        rw [n178]
        simp only [e178_0, e178_1, e178_2, e178_5, e178_8, e178_9, e178_10, e178_11, e178_14, e178_16, e178_19, e178_21, e178_22, e178_23, e178_26, e178_27, e178_30, e178_31, e178_32, e178_33, e178_36, e178_37, e178_40, e178_41, e178_42, e178_43, e178_44, e178_47, e178_48, e178_49, e178_52, e178_53, e178_56, bI_s, bL_s, bV_s, rv_s1, nl_i, nl_a, nl_n, w8_0, w8_i, w8_a, w8_l, ct_i, ct_a, b01_0, b01_1, b01_b, hF.m4, hF.m5, hF.m6, hF.m7, hF.m8, hF.m9, hF.m10, hF.m16, hF.m17, hF.m18, hF.m19, hF.m20, hF.m21, hF.m22, hF.m23, hF.m29, hF.m30, hF.m35, hF.m37, hF.m38, hF.m40, hF.m41, hF.m43, hF.m44, kd_87, al_88, al_89, al_90, al_91, al_92, al_93, al_94, al_95, al_96, al_97, al_98, al_99, al_100, al_101, al_102, al_103, al_104, al_105, al_106, al_108, al_111, zl_107, zl_109, zl_110, Nat.reduceLT, m_isThing h.C hw, hx, a, hf, Bool.toNat_true, nI10, if_false, if_true]
    · have r1 : gA (gA g 1 5 (g 2 1 5 + 1)) 3 (g 2 1 5) (2 * l + there.toNat) 2 1 5 = g 2 1 5 + 1 := by simp [gA_2]
      have r2 : ∀ i, gA (gA g 1 5 (g 2 1 5 + 1)) 3 (g 2 1 5) (2 * l + there.toNat) 2 3 i = if i = g 2 1 5 then 2 * l + there.toNat else g 2 3 i := fun i => by simp [gA_2]
      have b1 := Bool.toNat_le there
      refine ⟨.int (nI (g 2 1 5 + 1)), gA (gA g 1 5 (g 2 1 5 + 1)) 3 (g 2 1 5) (2 * l + there.toNat), sd, ?_, fun c I R L h => ?_, fun I R L h => ?_⟩
      · refine hp.up (by simp only [gA_0]) (by simp only [gA_1]) (sameR (by simp [gA_2]) (by simp [gA_2]) (by simp only [gA_r, implies_true])) (sameS (by simp [gA_2]) (by simp only [gA_s, implies_true])) (by simpa [gA_2] using hp.2.2.2.1) (by simpa [gA_2] using hp.2.2.2.2.1) ⟨by simpa [gA_2] using hp.ln, by rw [r1]; omega⟩ (by simpa [gA_2] using hp.2.2.2.2.2.2.1) (fun i hi => ?_)
        rw [r1] at hi
        rw [r2 i]
        split
        · omega
        · exact hp.se (by omega)
      · have a := h.sn
        have hF := h.F
        have hc := h.cc
        refine ⟨c, wI (wI I 32 (g 2 1 5) (nI (2 * l + there.toNat))) 0 16 (nI (g 2 1 5 + 1)), R, L, ?_, ?_, fun o _ _ => ?_, rfl⟩
        · rw [n95]
          simp only [e95_0, e95_1, e95_4, e95_5, e95_8, e95_11, e95_12, e95_13, e95_14, e95_17, e95_19, e95_22, e95_24, e95_25, e95_26, e95_29, e95_30, e95_33, e95_34, e95_35, e95_36, e95_37, e95_40, e95_41, e95_44, e95_45, e95_46, e95_47, e95_48, e95_49, e95_52, e95_53, e95_54, e95_57, e95_58, e95_61, bI_s, bL_s, bV_s, rv_s1, nl_i, nl_a, nl_n, w8_0, w8_i, w8_a, w8_l, ct_i, ct_a, b01_0, b01_1, b01_b, hF.x0, hF.x2, hF.x5, hF.x6, hF.x7, hF.x10, hF.x12, hF.x13, hF.x15, hF.k0, hF.k1, hF.k2, hF.m4, hF.m5, hF.m6, hF.m7, hF.m8, hF.m9, hF.m10, hF.m16, hF.m17, hF.m18, hF.m19, hF.m20, hF.m21, hF.m22, hF.m23, hF.m29, hF.m30, hF.m35, hF.m37, hF.m38, hF.m40, hF.m41, hF.m43, hF.m44, hF.q0, hF.q1, kd_0, kd_2, kd_3, kd_11, kd_19, kd_22, kd_27, kd_87, al_1, al_4, al_5, al_6, al_7, al_8, al_9, al_10, al_12, al_13, al_14, al_15, al_16, al_17, al_18, al_20, al_21, al_23, al_24, al_28, al_29, al_30, al_31, al_32, al_1001, al_1002, ql_25, ql_26, Nat.reduceLT, h.r3, kdC hc, s_hasThing hc h.C hw, hx, Bool.toNat_true, nI10, if_false, a, nI_ltI (show g 2 1 5 < 2 ^ 31 by omega) (show 6 < 2 ^ 31 by decide), show g 2 1 5 < 6 by omega, if_true, pk_mul, nI_add]
          cases there <;> simp [nI10, nI_add, e95_0, e95_1, e95_4, e95_5, e95_8, e95_11, e95_12, e95_13, e95_14, e95_17, e95_19, e95_22, e95_24, e95_25, e95_26, e95_29, e95_30, e95_33, e95_34, e95_35, e95_36, e95_37, e95_40, e95_41, e95_44, e95_45, e95_46, e95_47, e95_48, e95_49, e95_52, e95_53, e95_54, e95_57, e95_58, e95_61, ab_ixN (show g 2 1 5 < 6 by omega) (show 6 < 2 ^ 31 by decide), al_32, nI_clamp (show g 2 1 5 < 2 ^ 31 by omega), kd_0, wI_app, a, bI_s, bL_s, bV_s, rv_s1, nl_i, nl_a, nl_n, w8_0, w8_i, w8_a, w8_l, ct_i, ct_a, b01_0, b01_1, b01_b]
        · refine h.up (fun o h0 _ _ h32 => ?_) (by simp only [gA_0]) (by simp only [gA_1]) (sameR (by simp [gA_2]) (by simp [gA_2]) (by simp only [gA_r, implies_true])) (sameS (by simp [gA_2]) (by simp only [gA_s, implies_true])) ?_ ?_ ⟨?_, by rw [r1, wI_self]⟩ ?_ (fun i hi => ?_) h.sed
          · funext j
            rw [wI_o h0, wI_o h32]
          · simpa [gA_2, wI_app] using h.2.2.1
          · simpa [gA_2, wI_app] using h.2.2.2.1
          · simpa [gA_2, wI_app] using h.ln
          · simpa [gA_2, wI_app] using h.2.2.2.2.2.2.2.1
          · rw [r1] at hi
            rw [r2 i, wI_o (by decide)]
            by_cases hi2 : i = g 2 1 5
            · rw [hi2, wI_self, if_pos rfl]
            · rw [wI_k hi2, if_neg hi2, h.se (by omega)]
        · funext j
          rw [wI_o (by omega), wI_o (by omega)]
      · have a := h.sn
        have hF := h.F
        refine ⟨wI (wI (wI I 108 (g 2 1 5) (nI l)) 109 (g 2 1 5) (nI there.toNat)) 87 39 (nI (g 2 1 5 + 1)), L, ?_, ?_, fun o _ => ?_, rfl⟩
        · rw [n178]
          simp only [e178_0, e178_1, e178_2, e178_5, e178_8, e178_9, e178_10, e178_11, e178_14, e178_16, e178_19, e178_21, e178_22, e178_23, e178_26, e178_27, e178_30, e178_31, e178_32, e178_33, e178_36, e178_37, e178_40, e178_41, e178_42, e178_43, e178_44, e178_47, e178_48, e178_49, e178_52, e178_53, e178_56, bI_s, bL_s, bV_s, rv_s1, nl_i, nl_a, nl_n, w8_0, w8_i, w8_a, w8_l, ct_i, ct_a, b01_0, b01_1, b01_b, hF.m4, hF.m5, hF.m6, hF.m7, hF.m8, hF.m9, hF.m10, hF.m16, hF.m17, hF.m18, hF.m19, hF.m20, hF.m21, hF.m22, hF.m23, hF.m29, hF.m30, hF.m35, hF.m37, hF.m38, hF.m40, hF.m41, hF.m43, hF.m44, kd_87, al_88, al_89, al_90, al_91, al_92, al_93, al_94, al_95, al_96, al_97, al_98, al_99, al_100, al_101, al_102, al_103, al_104, al_105, al_106, al_108, al_111, zl_107, zl_109, zl_110, Nat.reduceLT, m_isThing h.C hw, hx, a, nI_eq (show g 2 1 5 < 2 ^ 31 by omega) (show 6 < 2 ^ 31 by decide), hf, Bool.toNat_true, nI10, if_false, nI_add, ab_ixN (show g 2 1 5 < 6 by omega) (show 6 < 2 ^ 31 by decide), nI_clamp (show g 2 1 5 < 2 ^ 31 by omega), wI_o (show 87 ≠ 108 by decide), wI_o (show 87 ≠ 109 by decide), wI_self]
        · refine h.up (fun o h0 _ _ _ h4 h5 _ => ?_) (fun k hk => ?_) (by simp only [gA_0]) (by simp only [gA_1]) (sameR (by simp [gA_2]) (by simp [gA_2]) (by simp only [gA_r, implies_true])) (sameS (by simp [gA_2]) (by simp only [gA_s, implies_true])) ?_ ?_ ⟨?_, by rw [r1, wI_self]⟩ ?_ (fun i hi => ?_) h.sed
          · funext j
            rw [wI_o h0, wI_o h5, wI_o h4]
          · rw [wI_k (by omega), wI_o (by decide), wI_o (by decide)]
          · simpa [gA_2, wI_app] using h.2.2.1
          · simpa [gA_2, wI_app] using h.2.2.2.1
          · simpa [gA_2, wI_app] using h.ln
          · simpa [gA_2, wI_app] using h.2.2.2.2.2.2.2.1
          · rw [r1] at hi
            have k6 : wI (wI (wI I 108 (g 2 1 5) (nI l)) 109 (g 2 1 5) (nI there.toNat)) 87 39 (nI (g 2 1 5 + 1)) 108 i = if i = g 2 1 5 then nI l else I 108 i := by simp [wI_app]
            have k7 : wI (wI (wI I 108 (g 2 1 5) (nI l)) 109 (g 2 1 5) (nI there.toNat)) 87 39 (nI (g 2 1 5 + 1)) 109 i = if i = g 2 1 5 then nI there.toNat else I 109 i := by simp [wI_app]
            rw [r2 i, k6, k7]
            by_cases hi2 : i = g 2 1 5
            · rw [if_pos hi2, if_pos hi2, if_pos hi2, show (2 * l + there.toNat) / 2 = l by omega, show (2 * l + there.toNat) % 2 = there.toNat by omega]
              exact ⟨rfl, rfl⟩
            · rw [if_neg hi2, if_neg hi2, if_neg hi2]
              exact h.se (by omega)
        · funext j
          rw [wI_o (by omega), wI_o (by omega), wI_o (by omega)]

end COUNTS
