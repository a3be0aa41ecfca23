/-! the calls that only tell, and those that change a count -/
theorem gA_ne {g : Gs} {b i v x : Nat} (h : x ≠ 2) : gA g b i v x = g x := if_neg h
theorem gA_2 {g : Gs} {b i v b' d : Nat} : gA g b i v 2 b' d = if b' = b ∧ d = i then v else g 2 b' d := by
  unfold gA
  rw [if_pos rfl]
theorem gA_0 {g : Gs} {b i v : Nat} : gA g b i v 0 = g 0 := gA_ne (by decide)
theorem gA_1 {g : Gs} {b i v : Nat} : gA g b i v 1 = g 1 := gA_ne (by decide)
theorem gA_r {g : Gs} {b i v j : Nat} : gA g b i v (10 + j) = g (10 + j) := gA_ne (by omega)
theorem gA_s {g : Gs} {b i v j : Nat} : gA g b i v (30 + j) = g (30 + j) := gA_ne (by omega)
theorem PG.up {g g' : Gs} (h : PG g) (e0 : g' 0 = g 0) (e1 : g' 1 = g 1) (er : ∀ j, j < 16 → inR (g' 2 1 1) (g' 2 1 2) j → inR (g 2 1 1) (g 2 1 2) j ∧ g' (10 + j) = g (10 + j)) (es : ∀ k, k < 2 → (g' 2 1 3).testBit k = true → (g 2 1 3).testBit k = true ∧ g' (30 + k) = g (30 + k))
    (f1 : g' 2 1 0 ≤ 56 ∧ ∀ i, i < g' 2 1 0 → g' 2 0 i ≤ 255) (f2 : g' 2 1 1 < 16 ∧ g' 2 1 2 ≤ 16 ∧ g' 2 1 3 < 4) (f3 : g' 2 1 4 ≤ 6 ∧ g' 2 1 5 ≤ 6) (f4 : ∀ i, i < g' 2 1 4 → g' 2 2 i < 20) (f5 : ∀ i, i < g' 2 1 5 → g' 2 3 i < 12) : PG g' := by
  refine ⟨?_, ?_, ?_, f1, f2, f3, f4, f5, fun j hj hr => ?_, fun k hk hb => ?_⟩
  · rw [e0]
    exact h.wf
  · rw [e0, e1]
    exact h.ws
  · rw [e0, e1]
    exact h.wn
  · obtain ⟨a, b⟩ := er j hj hr
    rw [e0, b]
    exact h.ri hj a
  · obtain ⟨a, b⟩ := es k hk hb
    rw [e0, b]
    exact h.sl hk a
theorem sameR {g g' : Gs} (h1 : g' 2 1 1 = g 2 1 1) (h2 : g' 2 1 2 = g 2 1 2) (h3 : ∀ j, g' (10 + j) = g (10 + j)) : ∀ j, j < 16 → inR (g' 2 1 1) (g' 2 1 2) j → inR (g 2 1 1) (g 2 1 2) j ∧ g' (10 + j) = g (10 + j) := fun j _ hr => ⟨by rw [← h1, ← h2]; exact hr, h3 j⟩
theorem sameS {g g' : Gs} (h1 : g' 2 1 3 = g 2 1 3) (h3 : ∀ j, g' (30 + j) = g (30 + j)) : ∀ k, k < 2 → (g' 2 1 3).testBit k = true → (g 2 1 3).testBit k = true ∧ g' (30 + k) = g (30 + k) := fun k _ hb => ⟨by rw [← h1]; exact hb, h3 k⟩
theorem XK.tell {Z M : Nat} {av : List Value} {v : Value} {g : Gs} {sd : Int64} (h : ∀ c I R L, XX g sd c I R L → cl Z M (.ref 0 :: av) I R L = some (some v, I, R, L)) : XK Z M av v g g sd sd := fun c I R L hx => ⟨c, I, R, L, h c I R L hx, hx, FX.rf, rfl⟩
theorem MK.tell {Z M : Nat} {av : List Value} {v : Value} {g : Gs} {sd : Int64} (h : ∀ I R L, MM g sd I R L → cl Z M (.ref 87 :: av) I R L = some (some v, I, R, L)) : MK Z M av v g g sd sd := fun I R L hx => ⟨I, L, h I R L hx, hx, FM.rf, rfl⟩
theorem iL_int {n : Nat} (h : n < 2 ^ 31) : (lN n).toInt = n := lN_toInt h
theorem in_c {n : Nat} (h : n < 2 ^ 31) (x : Int32) : decide ((lN 0).toInt ≤ x.toInt64.toInt ∧ x.toInt64.toInt ≤ (lN n).toInt) = hasI x (n + 1) := by
  rw [lN0, Int32.toInt_toInt64, lN_toInt h, hasI]
  exact decide_eq_decide.mpr ⟨fun w => ⟨w.1, by omega⟩, fun w => ⟨w.1, by omega⟩⟩
theorem hasI_f {x : Int32} {n : Nat} (h : hasI x n = false) : x.toInt < 0 ∨ (n : Int) ≤ x.toInt := by
  unfold hasI at h
  have := of_decide_eq_false h
  omega
theorem nI10 : (nI 1 = nI 0) = False := by decide
theorem nI01 : (nI 0 = nI 1) = False := by decide
section EASY
variable {Z : Nat}
theorem B_write (x : Int32) : Both Z 58 107 [.int x] := by
  intro g sd hp
  have htn := hp.tn
  cases hx : hasI x 256 with
  | false =>
    refine ⟨.int (iI (-2)), g, sd, hp, XK.tell fun c I R L h => ?_, MK.tell fun I R L h => ?_⟩
    · rw [n58]
      simp only [e58_0, e58_1, e58_4, e58_5, e58_8, e58_11, e58_13, e58_14, e58_15, e58_18, e58_20, e58_23, e58_25, e58_26, e58_27, e58_30, e58_31, e58_34, e58_35, e58_36, e58_37, e58_38, e58_41, e58_42, e58_43, e58_46, e58_47, e58_50, bI_s, bL_s, bV_s, rv_s1, nl_i, nl_a, nl_n, w8_0, w8_i, w8_a, w8_l, ct_i, ct_a, b01_0, b01_1, b01_b, lt0_iff, nle_iffR (show 255 < 2 ^ 31 by decide)]
      rcases hasI_f hx with h1 | h1
      · simp [h1]
      · simp [show ¬ x.toInt ≤ 255 by omega]
    · rw [n107]
      simp only [e107_0, e107_1, e107_2, e107_3, e107_6, e107_9, e107_12, e107_14, e107_15, e107_16, e107_19, e107_21, e107_24, e107_26, e107_27, e107_28, e107_31, e107_32, e107_35, e107_36, e107_37, e107_38, e107_39, e107_42, e107_43, e107_44, e107_47, e107_48, e107_51, bI_s, bL_s, bV_s, rv_s1, nl_i, nl_a, nl_n, w8_0, w8_i, w8_a, w8_l, ct_i, ct_a, b01_0, b01_1, b01_b, s_in, in_c (show 255 < 2 ^ 31 by decide), hx]
      simp
  | true =>
    obtain ⟨l, hl, rfl⟩ := hasI_t (by decide) hx
    by_cases hf : g 2 1 0 = 56
    · refine ⟨.int (iI (-4)), g, sd, hp, XK.tell fun c I R L h => ?_, MK.tell fun I R L h => ?_⟩
      · have a := h.tn
        have hF := h.F
        rw [n58]
        simp only [e58_0, e58_1, e58_4, e58_5, e58_8, e58_11, e58_13, e58_14, e58_15, e58_18, e58_20, e58_23, e58_25, e58_26, e58_27, e58_30, e58_31, e58_34, e58_35, e58_36, e58_37, e58_38, e58_41, e58_42, e58_43, e58_46, e58_47, e58_50, bI_s, bL_s, bV_s, rv_s1, nl_i, nl_a, nl_n, w8_0, w8_i, w8_a, w8_l, ct_i, ct_a, b01_0, b01_1, b01_b, hF.x0, hF.x2, hF.x5, hF.x6, hF.x7, hF.x10, hF.x12, hF.x13, hF.x15, hF.k0, hF.k1, hF.k2, hF.m4, hF.m5, hF.m6, hF.m7, hF.m8, hF.m9, hF.m10, hF.m16, hF.m17, hF.m18, hF.m19, hF.m20, hF.m21, hF.m22, hF.m23, hF.m29, hF.m30, hF.m35, hF.m37, hF.m38, hF.m40, hF.m41, hF.m43, hF.m44, hF.q0, hF.q1, kd_0, kd_2, kd_3, kd_11, kd_19, kd_22, kd_27, kd_87, al_1, al_4, al_5, al_6, al_7, al_8, al_9, al_10, al_12, al_13, al_14, al_15, al_16, al_17, al_18, al_20, al_21, al_23, al_24, al_28, al_29, al_30, al_31, al_32, al_1001, al_1002, ql_25, ql_26, Nat.reduceLT, nI_ltI (show l < 2 ^ 31 by omega) (show 0 < 2 ^ 31 by decide), Nat.not_lt_zero, if_false, nI_leI (show l < 2 ^ 31 by omega) (show 255 < 2 ^ 31 by decide), show l ≤ 255 by omega, if_true, a, hf, nI_ltI (show 56 < 2 ^ 31 by decide) (show 56 < 2 ^ 31 by decide), Nat.lt_irrefl]
      · have a := h.tn
        have hF := h.F
        rw [n107]
        simp only [e107_0, e107_1, e107_2, e107_3, e107_6, e107_9, e107_12, e107_14, e107_15, e107_16, e107_19, e107_21, e107_24, e107_26, e107_27, e107_28, e107_31, e107_32, e107_35, e107_36, e107_37, e107_38, e107_39, e107_42, e107_43, e107_44, e107_47, e107_48, e107_51, bI_s, bL_s, bV_s, rv_s1, nl_i, nl_a, nl_n, w8_0, w8_i, w8_a, w8_l, ct_i, ct_a, b01_0, b01_1, b01_b, hF.m4, hF.m5, hF.m6, hF.m7, hF.m8, hF.m9, hF.m10, hF.m16, hF.m17, hF.m18, hF.m19, hF.m20, hF.m21, hF.m22, hF.m23, hF.m29, hF.m30, hF.m35, hF.m37, hF.m38, hF.m40, hF.m41, hF.m43, hF.m44, kd_87, al_88, al_89, al_90, al_91, al_92, al_93, al_94, al_95, al_96, al_97, al_98, al_99, al_100, al_101, al_102, al_103, al_104, al_105, al_106, al_108, al_111, zl_107, zl_109, zl_110, Nat.reduceLT, s_in, in_c (show 255 < 2 ^ 31 by decide), hx, a, hf]
        simp [nI10]
    · have r1 : gA (gA g 1 0 (g 2 1 0 + 1)) 0 (g 2 1 0) l 2 1 0 = g 2 1 0 + 1 := by simp [gA_2]
      have r2 : ∀ i, i < g 2 1 0 + 1 → gA (gA g 1 0 (g 2 1 0 + 1)) 0 (g 2 1 0) l 2 0 i = if i = g 2 1 0 then l else g 2 0 i := fun i _ => by simp [gA_2]
      refine ⟨.int (nI (g 2 1 0 + 1)), gA (gA g 1 0 (g 2 1 0 + 1)) 0 (g 2 1 0) l, sd, ?_, fun c I R L h => ?_, fun I R L h => ?_⟩
      · refine hp.up (by simp only [gA_0]) (by simp only [gA_1]) (sameR (by simp [gA_2]) (by simp [gA_2]) (by simp only [gA_r, implies_true])) (sameS (by simp [gA_2]) (by simp only [gA_s, implies_true])) ⟨by rw [r1]; omega, fun i hi => ?_⟩ (by simpa [gA_2] using hp.2.2.2.2.1) (by simpa [gA_2] using hp.2.2.2.2.2.1) (by simpa [gA_2] using hp.2.2.2.2.2.2.1) (by simpa [gA_2] using hp.2.2.2.2.2.2.2.1)
        rw [r1] at hi
        rw [r2 i hi]
        split
        · omega
        · exact hp.tx (by omega)
      · have a := h.tn
        refine ⟨c, wI (wI I 1 (g 2 1 0) (nI l)) 0 1 (nI (g 2 1 0 + 1)), R, L, ?_, ?_, fun o _ _ => ?_, rfl⟩
        · rw [n58]
          simp only [e58_0, e58_1, e58_4, e58_5, e58_8, e58_11, e58_13, e58_14, e58_15, e58_18, e58_20, e58_23, e58_25, e58_26, e58_27, e58_30, e58_31, e58_34, e58_35, e58_36, e58_37, e58_38, e58_41, e58_42, e58_43, e58_46, e58_47, e58_50, bI_s, bL_s, bV_s, rv_s1, nl_i, nl_a, nl_n, w8_0, w8_i, w8_a, w8_l, ct_i, ct_a, b01_0, b01_1, b01_b, kd_0, h.F.x0, al_1, Nat.reduceLT, nI_ltI (show l < 2 ^ 31 by omega) (show 0 < 2 ^ 31 by decide), Nat.not_lt_zero, if_false, nI_leI (show l < 2 ^ 31 by omega) (show 255 < 2 ^ 31 by decide), show l ≤ 255 by omega, if_true, a, nI_ltI (show g 2 1 0 < 2 ^ 31 by omega) (show 56 < 2 ^ 31 by decide), show g 2 1 0 < 56 by omega, ab_ixN (show g 2 1 0 < 56 by omega) (by decide), nI_clamp (show g 2 1 0 < 2 ^ 31 by omega), wI_o (show 0 ≠ 1 by decide), nI_add, wI_self]
        · refine h.up (fun o h0 h1 _ _ => ?_) (by simp only [gA_0]) (by simp only [gA_1]) (sameR (by simp [gA_2]) (by simp [gA_2]) (by simp only [gA_r, implies_true])) (sameS (by simp [gA_2]) (by simp only [gA_s, implies_true])) ⟨by rw [r1, wI_self], fun i hi => ?_⟩ ?_ ?_ ?_ ?_ h.sed
          · funext j
            rw [wI_o h0, wI_o h1]
          · rw [r1] at hi
            rw [r2 i hi, wI_o (by decide)]
            by_cases hi2 : i = g 2 1 0
            · rw [hi2, wI_self, if_pos rfl]
            · rw [wI_k hi2, if_neg hi2, h.tx (by omega)]
          · simpa [gA_2, wI_app] using h.2.2.2.1
          · simpa [gA_2, wI_app] using h.2.2.2.2.2.2.1
          · simpa [gA_2, wI_app] using h.2.2.2.2.2.2.2.1
          · simpa [gA_2, wI_app] using h.2.2.2.2.2.2.2.2.1
        · funext j
          rw [wI_o (by omega), wI_o (by omega)]
      · have a := h.tn
        refine ⟨wI (wI I 102 (g 2 1 0) (nI l)) 87 24 (nI (g 2 1 0 + 1)), L, ?_, ?_, fun o _ => ?_, rfl⟩
        · rw [n107]
          simp only [e107_0, e107_1, e107_2, e107_3, e107_6, e107_9, e107_12, e107_14, e107_15, e107_16, e107_19, e107_21, e107_24, e107_26, e107_27, e107_28, e107_31, e107_32, e107_35, e107_36, e107_37, e107_38, e107_39, e107_42, e107_43, e107_44, e107_47, e107_48, e107_51, bI_s, bL_s, bV_s, rv_s1, nl_i, nl_a, nl_n, w8_0, w8_i, w8_a, w8_l, ct_i, ct_a, b01_0, b01_1, b01_b, kd_87, h.F.m22, h.F.m23, al_102, Nat.reduceLT, s_in, in_c (show 255 < 2 ^ 31 by decide), hx, a, nI_eq (show g 2 1 0 < 2 ^ 31 by omega) (show 56 < 2 ^ 31 by decide), hf, if_false, ab_ixN (show g 2 1 0 < 56 by omega) (by decide), nI_clamp (show g 2 1 0 < 2 ^ 31 by omega), wI_o (show 87 ≠ 102 by decide), nI_add, wI_self, show (nI true.toNat = nI 0) = False by decide]
        · refine h.up (fun o h0 h1 _ _ _ _ _ => ?_) (fun k hk => ?_) (by simp only [gA_0]) (by simp only [gA_1]) (sameR (by simp [gA_2]) (by simp [gA_2]) (by simp only [gA_r, implies_true])) (sameS (by simp [gA_2]) (by simp only [gA_s, implies_true])) ⟨by rw [r1, wI_self], fun i hi => ?_⟩ ?_ ?_ ?_ ?_ h.sed
          · funext j
            rw [wI_o h0, wI_o h1]
          · rw [wI_k (by omega), wI_o (by decide)]
          · rw [r1] at hi
            rw [r2 i hi, wI_o (by decide)]
            by_cases hi2 : i = g 2 1 0
            · rw [hi2, wI_self, if_pos rfl]
            · rw [wI_k hi2, if_neg hi2, h.tx (by omega)]
          · simpa [gA_2, wI_app] using h.2.2.2.1
          · simpa [gA_2, wI_app] using h.2.2.2.2.2.2.1
          · simpa [gA_2, wI_app] using h.2.2.2.2.2.2.2.1
          · simpa [gA_2, wI_app] using h.2.2.2.2.2.2.2.2.1
        · funext j
          rw [wI_o (by omega), wI_o (by omega)]
end EASY
