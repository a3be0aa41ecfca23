/-! fewest, the first way, worth, in the class -/
/-- the purses left, by -/
def ppf (co s : Co) (wn : Nat → Bool) : Nat → Nat
  | 0 => ful co s
  | n + 1 => ppf co s wn n - prc (lwf co s wn (co 0 3 - 1 - n) (ppf co s wn n) - 1)
theorem ppf_le {co s : Co} {wn : Nat → Bool} : ∀ n, ppf co s wn n ≤ ful co s
  | 0 => Nat.le_refl _
  | n + 1 => Nat.le_trans (Nat.sub_le _ _) (ppf_le n)
theorem ppf_fe {co s : Co} (hw : WF co) {wn : Nat → Bool} (h : fe co s wn (co 0 3) (ful co s) = true) : ∀ n, n ≤ co 0 3 → fe co s wn (co 0 3 - n) (ppf co s wn n) = true
  | 0, _ => h
  | n + 1, hn => by
    have ih := ppf_fe hw h n (by omega)
    rw [show co 0 3 - n = (co 0 3 - 1 - n) + 1 by omega, fe] at ih
    have ih := of_decide_eq_true ih
    obtain ⟨k, hk⟩ := Nat.exists_eq_succ_of_ne_zero ih
    obtain ⟨a, b, -⟩ := ff_some 16 hk
    rw [Bool.and_eq_true, Bool.and_eq_true] at b
    have e : lwf co s wn (co 0 3 - 1 - n) (ppf co s wn n) = k + 1 := hk
    rw [ppf, e, show co 0 3 - (n + 1) = co 0 3 - 1 - n by omega]
    exact b.2.2
theorem ppf_lw {co s : Co} (hw : WF co) {wn : Nat → Bool} (h : fe co s wn (co 0 3) (ful co s) = true) {n : Nat} (hn : n < co 0 3) : ∃ k, k < 16 ∧ lwf co s wn (co 0 3 - 1 - n) (ppf co s wn n) = k + 1 ∧ fit (ppf co s wn n) k = true := by
  have ih := ppf_fe hw h n (by omega)
  rw [show co 0 3 - n = (co 0 3 - 1 - n) + 1 by omega, fe] at ih
  have ih := of_decide_eq_true ih
  obtain ⟨k, hk⟩ := Nat.exists_eq_succ_of_ne_zero ih
  obtain ⟨a, b, -⟩ := ff_some 16 hk
  rw [Bool.and_eq_true, Bool.and_eq_true] at b
  exact ⟨k, a, hk, b.2.1⟩
section KEEP4
variable {Z c q t : Nat} {co s : Co} {I : ab_I} {R : ab_R} {L : ab_L}
theorem wtn_held (hw : WF co) {K : Nat} {t : Nat} (h : (wtn co s K (co 0 3)).testBit t = true) : tpf co t = true ∧ stayf co s t = false ∧ heldf co t (cntf co s t) = false ∧ (s 2 0).testBit t = false := by
  obtain ⟨u, a, b, c, d⟩ := (wtn_bit (co 0 3)).mp h
  have ht := tp_top hw a
  have hs := stay_top (s := s) hw a
  rw [d] at ht hs
  rw [c] at hs
  have h2 := hs
  unfold stayf at h2
  rw [top_tp ht] at h2
  refine ⟨ht, hs, ?_⟩
  cases h1 : (s 2 0).testBit t <;> cases h3 : heldf co t (cntf co s t) <;> simp [h1, h3] at h2 ⊢
theorem k_fewest (hF : Fx R) (hc : IsC c) (hq : IsS q) (hK : KC I c q co s) (hw : WF co) (hv : WS co s) {K : Nat} (hK31 : K < 2 ^ 31) : ∃ J, cl Z 23 [.ref 27, .ref c, .ref q, .int (nI K)] I R L = some (some (.int (if fe co s (wbt (wtn co s K (co 0 3))) (co 0 3) (ful co s) = true then nI (Ds co s (wbt (wtn co s K (co 0 3))) (co 0 3)) else iI (-9))), J, R, L) ∧ OffK I J := by
  have h6 := hw.t6
  have ewt := k_wantedTops (Z := Z) (L := L) hF hc hq hK.1.1 hK.1.2 hw hv hK31
  have hW64 : wtn co s K (co 0 3) < 2 ^ 6 := wtn_lt hw _ (Nat.le_refl _)
  have hn : ∀ t, t < co 0 3 → (wtn co s K (co 0 3)).testBit t = true → heldf co t (cntf co s t) = false := fun t _ hb => (wtn_held hw hb).2.2.1
  obtain ⟨J, e, o, -⟩ := k_canKeep (Z := Z) (L := L) hF hc hq hK hw hv (W := wtn co s K (co 0 3)) (by omega) hn
  have hKJ := hK.off hc hq o
  refine ⟨J, ?_, o⟩
  rw [n23]
  simp only [e23_0, e23_1, e23_2, e23_3, e23_4, e23_7, e23_9, e23_10, e23_11, e23_12, e23_14, e23_17, e23_20, e23_22, e23_23, e23_24, e23_26, e23_27, e23_31, e23_32, e23_35, e23_38, e23_40, e23_42, e23_44, e23_47, e23_48, e23_49, e23_50, e23_51, e23_53, e23_56, e23_59, e23_60, e23_61, e23_63, e23_66, e23_69, e23_71, bI_s, bL_s, bV_s, rv_s1, nl_i, nl_a, nl_n, w8_0, w8_i, w8_a, w8_l, ct_i, ct_a, b01_0, b01_1, b01_b, kd_27, ewt, e]
  generalize hW : wtn co s K (co 0 3) = W at *
  cases hfe : fe co s (wbt W) (co 0 3) (ful co s) with
  | false => simp only [Bool.toNat_false, if_true, Bool.false_eq_true, if_false]
  | true =>
    simp only [Bool.toNat_true, nI10, if_false, if_true]
    refine loop_up (F := fun i => ex Z 0 0 23 29 [some (.ref 27), some (.ref c), some (.ref q), some (.int (nI K)), some (.int (nI W)), some (.int (nI (Ds co s (wbt W) i))), some (.int (nI i))] [] J R L) (co 0 3) (fun i hi => ?_) ?_ 0 (Nat.zero_le _)
    · have elk : nI (W.testBit i).toNat * lk32 co s i = nI (if wbt W i = true then lkf co s i else 0) := by
        unfold wbt
        cases hb : W.testBit i with
        | false =>
          rw [if_neg (by decide), Bool.toNat_false]
          unfold lk32
          split
          · rw [nI_iI, nI_iI, nI_iI, iI_sub, iI_mul]
            congr 1
            omega
          · rw [pk_mul]
        | true =>
          have h16 := cntf_16 hw s i
          have hlk := lkl_pos (co 0 0) (by have := hw.2.2.1; omega) (co 6 i) (by have := (hw.2.2.2.2.2.2 i hi).2.2.2.2.1; have := hw.h4; omega) (cntf co s i) h16 (hn i hi hb)
          rw [if_pos rfl, Bool.toNat_true]
          unfold lk32 lkf
          unfold lkl at hlk
          by_cases e3 : co 0 0 = 3
          · rw [if_pos e3, if_pos e3]
            rw [if_pos e3] at hlk
            rw [pk_sub (by omega), pk_mul, Nat.one_mul]
          · rw [if_neg e3, if_neg e3, pk_mul]
      rw [e23_29]
      simp only [e23_0, e23_1, e23_2, e23_3, e23_4, e23_7, e23_9, e23_10, e23_11, e23_12, e23_14, e23_17, e23_20, e23_22, e23_23, e23_24, e23_26, e23_27, e23_31, e23_32, e23_35, e23_38, e23_40, e23_42, e23_44, e23_47, e23_48, e23_49, e23_50, e23_51, e23_53, e23_56, e23_59, e23_60, e23_61, e23_63, e23_66, e23_69, e23_71, bI_s, bL_s, bV_s, rv_s1, nl_i, nl_a, nl_n, w8_0, w8_i, w8_a, w8_l, ct_i, ct_a, b01_0, b01_1, b01_b, kd_27, kdC hc, hKJ.1.1.th, nI_leI (show co 0 3 < 2 ^ 31 by omega) (show i < 2 ^ 31 by omega), show ¬ co 0 3 ≤ i by omega, if_false, s_bit (show W < 2 ^ 31 by omega) (show i < 31 by omega), s_counted hF hc hq hKJ.1.1 hKJ.1.2 hw hv hi, k_lacking hc hKJ.1.1 hw, elk, nI_add, Ds]
    · rw [e23_29]
      simp only [e23_0, e23_1, e23_2, e23_3, e23_4, e23_7, e23_9, e23_10, e23_11, e23_12, e23_14, e23_17, e23_20, e23_22, e23_23, e23_24, e23_26, e23_27, e23_31, e23_32, e23_35, e23_38, e23_40, e23_42, e23_44, e23_47, e23_48, e23_49, e23_50, e23_51, e23_53, e23_56, e23_59, e23_60, e23_61, e23_63, e23_66, e23_69, e23_71, bI_s, bL_s, bV_s, rv_s1, nl_i, nl_a, nl_n, w8_0, w8_i, w8_a, w8_l, ct_i, ct_a, b01_0, b01_1, b01_b, kdC hc, hKJ.1.1.th, Int32.le_refl, if_true]
theorem k_firstWay (hF : Fx R) (hc : IsC c) (hq : IsS q) (hK : KC I c q co s) (hw : WF co) (hv : WS co s) {K a : Nat} (hK31 : K < 2 ^ 31) (ha : a < co 0 3) : ∃ J, cl Z 33 [.ref 27, .ref c, .ref q, .int (nI K), .int (nI a)] I R L = some (some (.int (if fe co s (wbt (wtn co s K (co 0 3))) (co 0 3) (ful co s) = true then nI (lwf co s (wbt (wtn co s K (co 0 3))) (co 0 3 - 1 - a) (ppf co s (wbt (wtn co s K (co 0 3))) a) - 1) else iI (-9))), J, R, L) ∧ OffK I J := by
  have h4 := hw.h4
  have h6 := hw.t6
  have hH : 2 ^ co 0 2 ≤ 16 := Nat.pow_le_pow_right (n := 2) (by decide) h4
  have hH1 := Nat.two_pow_pos (co 0 2)
  have hfl : ful co s < 625 := pu_625 hw _
  have ewt := k_wantedTops (Z := Z) (L := L) hF hc hq hK.1.1 hK.1.2 hw hv hK31
  have hW64 : wtn co s K (co 0 3) < 2 ^ 6 := wtn_lt hw _ (Nat.le_refl _)
  have hn : ∀ t, t < co 0 3 → (wtn co s K (co 0 3)).testBit t = true → heldf co t (cntf co s t) = false := fun t _ hb => (wtn_held hw hb).2.2.1
  obtain ⟨J, e, o, tT⟩ := k_canKeep (Z := Z) (L := L) hF hc hq hK hw hv (W := wtn co s K (co 0 3)) (by omega) hn
  have hKJ := hK.off hc hq o
  generalize hW : wtn co s K (co 0 3) = W at *
  cases hfe : fe co s (wbt W) (co 0 3) (ful co s) with
  | false =>
    rw [hfe] at e
    refine ⟨J, ?_, o⟩
    rw [n33]
    simp only [e33_0, e33_1, e33_2, e33_3, e33_4, e33_7, e33_9, e33_10, e33_11, e33_12, e33_14, e33_17, e33_20, e33_22, e33_23, e33_24, e33_25, e33_26, e33_27, e33_30, e33_33, e33_35, e33_36, e33_40, e33_42, e33_45, e33_47, e33_50, e33_51, e33_52, e33_53, e33_55, e33_57, e33_59, e33_62, e33_63, e33_64, e33_66, e33_69, e33_72, e33_73, e33_74, e33_75, e33_77, e33_79, e33_81, e33_84, bI_s, bL_s, bV_s, rv_s1, nl_i, nl_a, nl_n, w8_0, w8_i, w8_a, w8_l, ct_i, ct_a, b01_0, b01_1, b01_b, kd_27, ewt, e, Bool.toNat_false, if_true, Bool.false_eq_true, if_false]
  | true =>
    rw [hfe] at e
    have key := loop_all (P := fun i => ∀ J, OffK I J → (∀ r, r ≤ ful co s → J 29 r = nI (TBd co s (wbt W) (co 0 3) r)) → ∃ J', ex Z 0 0 33 38 [some (.ref 27), some (.ref c), some (.ref q), some (.int (nI K)), some (.int (nI a)), some (.int (nI W)), some (.int (nI (ppf co s (wbt W) i))), some (.int (nI i))] [] J R L = some (some (.int (nI (lwf co s (wbt W) (co 0 3 - 1 - a) (ppf co s (wbt W) a) - 1))), J', R, L) ∧ OffK I J') a (fun i hi ih J oJ tJ => ?_) (fun J oJ tJ => ?_) 0 (Nat.zero_le _)
    · obtain ⟨J', e', o'⟩ := key J o tT
      have ep := k_purseOf (Z := Z) (L := L) hF hc hq hKJ hw hv (x := 2 ^ co 0 2 - 1) (by omega)
      have ea := s_allHouses (Z := Z) (R := R) (L := L) hc hKJ.1.1 hw
      have ef : pu co s (2 ^ co 0 2 - 1) (co 0 2) = ful co s := rfl
      rw [ef] at ep
      refine ⟨J', ?_, o'⟩
      rw [n33]
      simp only [e33_0, e33_1, e33_2, e33_3, e33_4, e33_7, e33_9, e33_10, e33_11, e33_12, e33_14, e33_17, e33_20, e33_22, e33_23, e33_24, e33_25, e33_26, e33_27, e33_30, e33_33, e33_35, e33_36, e33_40, e33_42, e33_45, e33_47, e33_50, e33_51, e33_52, e33_53, e33_55, e33_57, e33_59, e33_62, e33_63, e33_64, e33_66, e33_69, e33_72, e33_73, e33_74, e33_75, e33_77, e33_79, e33_81, e33_84, bI_s, bL_s, bV_s, rv_s1, nl_i, nl_a, nl_n, w8_0, w8_i, w8_a, w8_l, ct_i, ct_a, b01_0, b01_1, b01_b, kd_27, kdC hc, ewt, e, Bool.toNat_true, nI10, if_false, ea, ep, if_true]
      exact e'
    · have hKJ := hK.off hc hq oJ
      obtain ⟨k, hk16, hk, hfit⟩ := ppf_lw hw hfe (show i < co 0 3 by omega)
      obtain ⟨J1, e1, o1, t1⟩ := k_leastWay (Z := Z) (L := L) hF hc hq hKJ hw hv (W := W) (by omega) hn tJ (d := co 0 3 - 1 - i) (p := ppf co s (wbt W) i) (by omega) (ppf_le _)
      rw [show co 0 3 - 1 - (co 0 3 - 1 - i) = i by omega, hk, Nat.add_sub_cancel] at e1
      obtain ⟨J', e', o'⟩ := ih J1 (oJ.tr o1) (fun r hr => by rw [t1]; exact tJ r hr)
      have hpc := prc_le hk16 hfit
      have epp : ppf co s (wbt W) (i + 1) = ppf co s (wbt W) i - prc k := by rw [ppf, hk, Nat.add_sub_cancel]
      rw [epp] at e'
      have hK1 := (hKJ.off hc hq o1).2.2 k hk16
      refine ⟨J', ?_, o'⟩
      rw [e33_38]
      simp only [e33_0, e33_1, e33_2, e33_3, e33_4, e33_7, e33_9, e33_10, e33_11, e33_12, e33_14, e33_17, e33_20, e33_22, e33_23, e33_24, e33_25, e33_26, e33_27, e33_30, e33_33, e33_35, e33_36, e33_40, e33_42, e33_45, e33_47, e33_50, e33_51, e33_52, e33_53, e33_55, e33_57, e33_59, e33_62, e33_63, e33_64, e33_66, e33_69, e33_72, e33_73, e33_74, e33_75, e33_77, e33_79, e33_81, e33_84, bI_s, bL_s, bV_s, rv_s1, nl_i, nl_a, nl_n, w8_0, w8_i, w8_a, w8_l, ct_i, ct_a, b01_0, b01_1, b01_b, kd_27, al_1001, nI_leI (show a < 2 ^ 31 by omega) (show i < 2 ^ 31 by omega), show ¬ a ≤ i by omega, if_false, e1, ab_ixN hk16 (show 16 < 2 ^ 31 by decide), nI_clamp (show k < 2 ^ 31 by omega), hK1, pk_sub hpc, nI_add]
      exact e'
    · have hKJ := hK.off hc hq oJ
      obtain ⟨J1, e1, o1, t1⟩ := k_leastWay (Z := Z) (L := L) hF hc hq hKJ hw hv (W := W) (by omega) hn tJ (d := co 0 3 - 1 - a) (p := ppf co s (wbt W) a) (by omega) (ppf_le _)
      rw [show co 0 3 - 1 - (co 0 3 - 1 - a) = a by omega] at e1
      refine ⟨J1, ?_, oJ.tr o1⟩
      rw [e33_38]
      simp only [e33_0, e33_1, e33_2, e33_3, e33_4, e33_7, e33_9, e33_10, e33_11, e33_12, e33_14, e33_17, e33_20, e33_22, e33_23, e33_24, e33_25, e33_26, e33_27, e33_30, e33_33, e33_35, e33_36, e33_40, e33_42, e33_45, e33_47, e33_50, e33_51, e33_52, e33_53, e33_55, e33_57, e33_59, e33_62, e33_63, e33_64, e33_66, e33_69, e33_72, e33_73, e33_74, e33_75, e33_77, e33_79, e33_81, e33_84, bI_s, bL_s, bV_s, rv_s1, nl_i, nl_a, nl_n, w8_0, w8_i, w8_a, w8_l, ct_i, ct_a, b01_0, b01_1, b01_b, kd_27, Int32.le_refl, if_true, e1]
end KEEP4
