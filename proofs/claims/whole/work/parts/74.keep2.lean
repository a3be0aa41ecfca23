/-! the class's ways, told by a table -/
theorem wyf_N {co s : Co} {t x : Nat} (h : wyf co s t x = true) : x < 2 ^ co 0 2 := by
  unfold wyf at h
  rw [Bool.and_eq_true] at h
  have h1 := of_decide_eq_true h.1
  have hm : x &&& mayf co s t = x := and_of fun j hj => by
    have := sub_bit h1 j hj
    unfold frf at this
    rw [andn_bit, Bool.and_eq_true] at this
    exact this.1
  have h2 : x ≤ mayf co s t := by
    rw [← hm]
    exact Nat.and_le_right
  exact Nat.lt_of_le_of_lt h2 (mk_lt _ _)
theorem wyw_N {co s : Co} {wn : Nat → Bool} {t x : Nat} (h : wyw co s wn t x = true) : x < 2 ^ co 0 2 := by
  unfold wyw at h
  split at h
  · exact wyf_N h
  · have := of_decide_eq_true h
    rw [this]
    exact Nat.two_pow_pos _
theorem ff_up {Q : Nat → Bool} {n : Nat} (h : ff Q n ≠ 0) : ∀ d, ff Q (n + d) = ff Q n
  | 0 => rfl
  | d + 1 => by rw [← Nat.add_assoc, ff, ff_up h d, if_neg h]
def ffI : Nat → Int32
  | 0 => iI (-9)
  | k + 1 => nI k
theorem wcn_lt {P : Nat → Bool} {x N : Nat} (hx : x < N) (h : P x = true) : wcn P x < wcn P N := by
  have := wcn_mono P (a := x + 1) N (by omega)
  rw [wcn, h] at this
  have e : (true : Bool).toNat = 1 := rfl
  omega
/-- the table's bits -/
def TBd (co s : Co) (wn : Nat → Bool) : Nat → Nat → Nat
  | 0, _ => 2 ^ co 0 3
  | d + 1, p => TBd co s wn d p ||| (if fe co s wn (d + 1) p = true then 2 ^ (co 0 3 - 1 - d) else 0)
theorem TBd_lt {co s : Co} {wn : Nat → Bool} {p : Nat} : ∀ d, TBd co s wn d p < 2 ^ (co 0 3 + 1)
  | 0 => Nat.pow_lt_pow_right (by decide) (by omega)
  | d + 1 => by
    rw [TBd]
    refine Nat.or_lt_two_pow (TBd_lt d) ?_
    split
    · exact Nat.pow_lt_pow_right (by decide) (by omega)
    · exact Nat.two_pow_pos _
theorem TBd_lo {co s : Co} {wn : Nat → Bool} {p j : Nat} : ∀ d, d ≤ co 0 3 → j < co 0 3 - d → (TBd co s wn d p).testBit j = false
  | 0, _, h => by
    rw [TBd, Nat.testBit_two_pow]
    exact decide_eq_false (by omega)
  | d + 1, hd, h => by
    rw [TBd, Nat.testBit_or, TBd_lo d (by omega) (by omega), Bool.false_or]
    split
    · rw [Nat.testBit_two_pow]
      exact decide_eq_false (by omega)
    · rw [Nat.zero_testBit]
theorem TBd_at {co s : Co} {wn : Nat → Bool} {p : Nat} : ∀ d, d ≤ co 0 3 → (TBd co s wn d p).testBit (co 0 3 - d) = fe co s wn d p
  | 0, _ => by
    rw [TBd, Nat.sub_zero, Nat.testBit_two_pow, decide_eq_true rfl]
    rw [fe]
  | d + 1, hd => by
    rw [TBd, Nat.testBit_or, TBd_lo d (by omega) (by omega), Bool.false_or, show co 0 3 - 1 - d = co 0 3 - (d + 1) by omega]
    cases fe co s wn (d + 1) p
    · rw [if_neg (by decide), Nat.zero_testBit]
    · rw [if_pos rfl, Nat.testBit_two_pow, decide_eq_true rfl]
theorem TBd_up {co s : Co} {wn : Nat → Bool} {p d : Nat} : ∀ k, d + k ≤ co 0 3 → (TBd co s wn (d + k) p).testBit (co 0 3 - d) = (TBd co s wn d p).testBit (co 0 3 - d)
  | 0, _ => rfl
  | k + 1, h => by
    rw [← Nat.add_assoc, TBd, Nat.testBit_or, TBd_up k (by omega)]
    split
    · rw [Nat.testBit_two_pow, decide_eq_false (by omega), Bool.or_false]
    · rw [Nat.zero_testBit, Bool.or_false]
section KEEP2
variable {Z c q t : Nat} {co s : Co} {I : ab_I} {R : ab_R} {L : ab_L}
theorem k_findWays (hF : Fx R) (hc : IsC c) (hq : IsS q) (hK : KC I c q co s) (hw : WF co) (hv : WS co s) (ht : t < co 0 3) (hn : heldf co t (cntf co s t) = false) : ∃ J, cl Z 28 [.ref 27, .ref c, .ref q, .int (nI t)] I R L = some (none, J, R, L) ∧ OffK I J ∧ J 29 = I 29 ∧ Ways J (wyf co s t) (2 ^ co 0 2) := by
  have h4 := hw.h4
  have h6 := hw.t6
  have h16 := cntf_16 hw s t
  have hH : 2 ^ co 0 2 ≤ 16 := Nat.pow_le_pow_right (n := 2) (by decide) h4
  have hH1 := Nat.two_pow_pos (co 0 2)
  have hlk := lkl_pos (co 0 0) (by have := hw.2.2.1; omega) (co 6 t) (by have := (hw.2.2.2.2.2.2 t ht).2.2.2.2.1; omega) (cntf co s t) h16 hn
  have elk : lk32 co s t = nI (lkf co s t) := by
    unfold lk32 lkf
    unfold lkl at hlk
    by_cases e : co 0 0 = 3
    · rw [if_pos e, if_pos e]
      rw [if_pos e] at hlk
      exact pk_sub (by omega)
    · rw [if_neg e, if_neg e]
  have hlk2 : lkf co s t ≤ 2 := hlk.2
  have key := loop_all (P := fun i => ∀ J y, OffK I J → J 29 = I 29 → Ways J (wyf co s t) i → ∃ J', ex Z 0 0 28 34 [some (.ref 27), some (.ref c), some (.ref q), some (.int (nI t)), some (.int (nI (cntf co s t))), some (.int (nI (frf co s t))), some (.int (nI (lkf co s t))), some (.int (nI i)), y] [] J R L = some (none, J', R, L) ∧ OffK I J' ∧ J' 29 = I 29 ∧ Ways J' (wyf co s t) (2 ^ co 0 2)) (2 ^ co 0 2) (fun i hi ih J y oJ j29 hW => ?_) (fun J y oJ j29 hW => ?_) 0 (Nat.zero_le _)
  · obtain ⟨J', e, r⟩ := key (wI I 27 3 (nI 0)) none (OffK.w (Or.inl rfl)) (by funext j; rw [wI_o (by decide)]) ⟨wI_self _ _ _ _, fun x hx => by omega⟩
    refine ⟨J', ?_, r⟩
    rw [n28]
    simp only [e28_0, e28_1, e28_2, e28_3, e28_6, e28_8, e28_9, e28_10, e28_11, e28_12, e28_15, e28_17, e28_18, e28_19, e28_21, e28_24, e28_26, e28_27, e28_28, e28_31, e28_32, e28_36, e28_37, e28_40, e28_43, e28_45, e28_47, e28_48, e28_49, e28_50, e28_53, e28_55, e28_58, e28_60, e28_63, e28_64, e28_67, e28_68, e28_70, e28_72, e28_75, e28_76, e28_77, e28_79, e28_81, e28_82, e28_85, e28_88, e28_89, e28_92, e28_93, e28_96, e28_98, e28_99, e28_100, e28_101, e28_104, e28_105, e28_106, e28_109, e28_112, e28_115, bI_s, bL_s, bV_s, rv_s1, nl_i, nl_a, nl_n, w8_0, w8_i, w8_a, w8_l, ct_i, ct_a, b01_0, b01_1, b01_b, kd_27, kdC hc, s_counted hF hc hq hK.1.1 hK.1.2 hw hv ht, k_freeFor hF hc hq hK.1.1 hK.1.2 hw hv ht, k_lacking hc hK.1.1 hw, elk]
    exact e
  · have hKJ := hK.off hc hq oJ
    have hlo : i ^^^ (i &&& frf co s t) < 2 ^ 4 := andn_lt (by omega)
    have hp6 := pc_le i 6
    have hor : cntf co s t ||| i < 64 := Nat.lt_trans (Nat.or_lt_two_pow (n := 4) h16 (by omega)) (by decide)
    have hwl := wcn_le (wyf co s t) i
    have ea := s_allHouses (Z := Z) (R := R) (L := L) hc hKJ.1.1 hw
    have eh := s_held (Z := Z) (L := L) hF hc hKJ.1.1 hw ht hor
    have w3 := hW.1
    have ep : wyf co s t i = (decide (i ^^^ (i &&& frf co s t) = 0) && (decide (pc i 6 = lkf co s t) && heldf co t (cntf co s t ||| i))) := rfl
    rw [e28_34]
    simp only [e28_0, e28_1, e28_2, e28_3, e28_6, e28_8, e28_9, e28_10, e28_11, e28_12, e28_15, e28_17, e28_18, e28_19, e28_21, e28_24, e28_26, e28_27, e28_28, e28_31, e28_32, e28_36, e28_37, e28_40, e28_43, e28_45, e28_47, e28_48, e28_49, e28_50, e28_53, e28_55, e28_58, e28_60, e28_63, e28_64, e28_67, e28_68, e28_70, e28_72, e28_75, e28_76, e28_77, e28_79, e28_81, e28_82, e28_85, e28_88, e28_89, e28_92, e28_93, e28_96, e28_98, e28_99, e28_100, e28_101, e28_104, e28_105, e28_106, e28_109, e28_112, e28_115, bI_s, bL_s, bV_s, rv_s1, nl_i, nl_a, nl_n, w8_0, w8_i, w8_a, w8_l, ct_i, ct_a, b01_0, b01_1, b01_b, hF.x0, hF.x2, hF.x5, hF.x6, hF.x7, hF.x10, hF.x12, hF.x13, hF.x15, hF.k0, hF.k1, hF.k2, hF.m4, hF.m5, hF.m6, hF.m7, hF.m8, hF.m9, hF.m10, hF.m16, hF.m17, hF.m18, hF.m19, hF.m20, hF.m21, hF.m22, hF.m23, hF.m29, hF.m30, hF.m35, hF.m37, hF.m38, hF.m40, hF.m41, hF.m43, hF.m44, hF.q0, hF.q1, kd_0, kd_2, kd_3, kd_11, kd_19, kd_22, kd_27, kd_87, al_1, al_4, al_5, al_6, al_7, al_8, al_9, al_10, al_12, al_13, al_14, al_15, al_16, al_17, al_18, al_20, al_21, al_23, al_24, al_28, al_29, al_30, al_31, al_32, al_1001, al_1002, ql_25, ql_26, Nat.reduceLT, kdC hc, ea, nI_ltI (show 2 ^ co 0 2 - 1 < 2 ^ 31 by omega) (show i < 2 ^ 31 by omega), show ¬ 2 ^ co 0 2 - 1 < i by omega, if_false, nI_andn, nI_eq (show i ^^^ (i &&& frf co s t) < 2 ^ 31 by omega) (show 0 < 2 ^ 31 by decide), s_ones (show i < 64 by omega), nI_eq (show pc i 6 < 2 ^ 31 by omega) (show lkf co s t < 2 ^ 31 by omega), nx_or', eh, nI_b, w3, ab_ixN (show wcn (wyf co s t) i < 16 by omega) (show 16 < 2 ^ 31 by decide), nI_clamp (show wcn (wyf co s t) i < 2 ^ 31 by omega), wI_app, Nat.reduceEqDiff, nI_add, nI10, if_true]
    have no : wyf co s t i = false → ∀ y, ∃ J', ex Z 0 0 28 34 [some (.ref 27), some (.ref c), some (.ref q), some (.int (nI t)), some (.int (nI (cntf co s t))), some (.int (nI (frf co s t))), some (.int (nI (lkf co s t))), some (.int (nI (i + 1))), y] [] J R L = some (none, J', R, L) ∧ OffK I J' ∧ J' 29 = I 29 ∧ Ways J' (wyf co s t) (2 ^ co 0 2) := fun hf y => ih J y oJ j29 ⟨by rw [wcn, hf]; exact w3, fun x hx hp => by
      by_cases e : x = i
      · rw [e, hf] at hp
        exact (Bool.false_ne_true hp).elim
      · exact hW.2 x (by omega) hp⟩
    by_cases c0 : i ^^^ (i &&& frf co s t) = 0
    · by_cases c1 : pc i 6 = lkf co s t
      · cases c2 : heldf co t (cntf co s t ||| i) with
        | true =>
          have hP : wyf co s t i = true := by rw [ep, decide_eq_true c0, decide_eq_true c1, c2]; rfl
          obtain ⟨J', e, r⟩ := ih (wI (wI J 30 (wcn (wyf co s t) i) (nI i)) 27 3 (nI (wcn (wyf co s t) i + 1))) (some (.int (nI 1))) (oJ.tr ((OffK.w (Or.inr (Or.inr rfl))).tr (OffK.w (Or.inl rfl)))) (by funext j; rw [wI_o (by decide), wI_o (by decide), j29]) ⟨by rw [wI_self, wcn, hP]; rfl, fun x hx hp => by
            by_cases e : x = i
            · rw [wI_o (by decide), e, wI_self]
            · have := wcn_lt (N := i) (by omega) hp
              rw [wI_o (by decide), wI_k (by omega), hW.2 x (by omega) hp]⟩
          refine ⟨J', ?_, r⟩
          simp only [c0, c1, if_true, if_false, Bool.true_eq_false]
          exact e
        | false =>
          obtain ⟨J', e, r⟩ := no (by rw [ep, c2, Bool.and_false, Bool.and_false]) (some (.int (nI 1)))
          refine ⟨J', ?_, r⟩
          simp only [c0, c1, if_true]
          exact e
      · obtain ⟨J', e, r⟩ := no (by rw [ep, decide_eq_false c1, Bool.false_and, Bool.and_false]) (some (.int (nI 0)))
        refine ⟨J', ?_, r⟩
        simp only [c0, c1, if_true, if_false]
        exact e
    · obtain ⟨J', e, r⟩ := no (by rw [ep, decide_eq_false c0, Bool.false_and]) (some (.int (nI 0)))
      refine ⟨J', ?_, r⟩
      simp only [c0, if_false]
      exact e
  · have ea := s_allHouses (Z := Z) (R := R) (L := L) hc (hK.off hc hq oJ).1.1 hw
    refine ⟨J, ?_, oJ, j29, hW⟩
    rw [e28_34]
    simp only [e28_0, e28_1, e28_2, e28_3, e28_6, e28_8, e28_9, e28_10, e28_11, e28_12, e28_15, e28_17, e28_18, e28_19, e28_21, e28_24, e28_26, e28_27, e28_28, e28_31, e28_32, e28_36, e28_37, e28_40, e28_43, e28_45, e28_47, e28_48, e28_49, e28_50, e28_53, e28_55, e28_58, e28_60, e28_63, e28_64, e28_67, e28_68, e28_70, e28_72, e28_75, e28_76, e28_77, e28_79, e28_81, e28_82, e28_85, e28_88, e28_89, e28_92, e28_93, e28_96, e28_98, e28_99, e28_100, e28_101, e28_104, e28_105, e28_106, e28_109, e28_112, e28_115, bI_s, bL_s, bV_s, rv_s1, nl_i, nl_a, nl_n, w8_0, w8_i, w8_a, w8_l, ct_i, ct_a, b01_0, b01_1, b01_b, kdC hc, ea, nI_ltI (show 2 ^ co 0 2 - 1 < 2 ^ 31 by omega) (show 2 ^ co 0 2 < 2 ^ 31 by omega), show 2 ^ co 0 2 - 1 < 2 ^ co 0 2 by omega, if_true]
theorem k_findIf (hF : Fx R) (hc : IsC c) (hq : IsS q) (hK : KC I c q co s) (hw : WF co) (hv : WS co s) (ht : t < co 0 3) {W : Nat} (hW31 : W < 2 ^ 31) (hn : W.testBit t = true → heldf co t (cntf co s t) = false) : ∃ J, cl Z 27 [.ref 27, .ref c, .ref q, .int (nI W), .int (nI t)] I R L = some (none, J, R, L) ∧ OffK I J ∧ J 29 = I 29 ∧ Ways J (wyw co s (fun t => W.testBit t) t) (2 ^ co 0 2) := by
  have h6 := hw.t6
  have hH1 := Nat.two_pow_pos (co 0 2)
  rw [n27]
  cases hb : W.testBit t with
  | true =>
    obtain ⟨J, e, o, j, w⟩ := k_findWays (Z := Z) (L := L) hF hc hq hK hw hv ht (hn hb)
    have ew : wyw co s (fun t => W.testBit t) t = wyf co s t := by
      funext x
      unfold wyw
      rw [if_pos hb]
    rw [← ew] at w
    refine ⟨J, ?_, o, j, w⟩
    simp only [e27_0, e27_1, e27_3, e27_6, e27_7, e27_10, e27_11, e27_12, e27_13, e27_15, e27_18, e27_21, e27_22, e27_25, e27_26, e27_27, e27_28, e27_29, e27_30, e27_33, bI_s, bL_s, bV_s, rv_s1, nl_i, nl_a, nl_n, w8_0, w8_i, w8_a, w8_l, ct_i, ct_a, b01_0, b01_1, b01_b, kd_27, s_bit hW31 (show t < 31 by omega), hb, Bool.toNat_true, if_true, e]
  | false =>
    have ew : wyw co s (fun t => W.testBit t) t = fun x => decide (x = 0) := by
      funext x
      unfold wyw
      exact if_neg (show ¬ W.testBit t = true by rw [hb]; decide)
    rw [ew]
    have ec : ∀ n, wcn (fun x => decide (x = 0)) (n + 1) = 1 := by
      intro n
      induction n with
      | zero => rfl
      | succ n ih =>
        rw [wcn, ih, decide_eq_false (by omega)]
        rfl
    refine ⟨wI (wI I 30 0 (nI 0)) 27 3 (nI 1), ?_, (OffK.w (Or.inr (Or.inr rfl))).tr (OffK.w (Or.inl rfl)), by funext j; rw [wI_o (by decide), wI_o (by decide)], ?_, fun x hx hp => ?_⟩
    · simp only [e27_0, e27_1, e27_3, e27_6, e27_7, e27_10, e27_11, e27_12, e27_13, e27_15, e27_18, e27_21, e27_22, e27_25, e27_26, e27_27, e27_28, e27_29, e27_30, e27_33, bI_s, bL_s, bV_s, rv_s1, nl_i, nl_a, nl_n, w8_0, w8_i, w8_a, w8_l, ct_i, ct_a, b01_0, b01_1, b01_b, hF.x0, hF.x2, hF.x5, hF.x6, hF.x7, hF.x10, hF.x12, hF.x13, hF.x15, hF.k0, hF.k1, hF.k2, hF.m4, hF.m5, hF.m6, hF.m7, hF.m8, hF.m9, hF.m10, hF.m16, hF.m17, hF.m18, hF.m19, hF.m20, hF.m21, hF.m22, hF.m23, hF.m29, hF.m30, hF.m35, hF.m37, hF.m38, hF.m40, hF.m41, hF.m43, hF.m44, hF.q0, hF.q1, kd_0, kd_2, kd_3, kd_11, kd_19, kd_22, kd_27, kd_87, al_1, al_4, al_5, al_6, al_7, al_8, al_9, al_10, al_12, al_13, al_14, al_15, al_16, al_17, al_18, al_20, al_21, al_23, al_24, al_28, al_29, al_30, al_31, al_32, al_1001, al_1002, ql_25, ql_26, Nat.reduceLT, s_bit hW31 (show t < 31 by omega), hb, Bool.toNat_false, nI01, if_false, ab_ixN (show 0 < 16 by decide) (show 16 < 2 ^ 31 by decide), nI_clamp (show 0 < 2 ^ 31 by decide)]
    · rw [wI_self, show 2 ^ co 0 2 = (2 ^ co 0 2 - 1) + 1 by omega, ec]
    · have := of_decide_eq_true hp
      subst this
      rw [wI_o (by decide)]
      exact wI_self _ _ _ _
theorem k_firstFit (hF : Fx R) (hc : IsC c) (hq : IsS q) (hK : KC I c q co s) (hw : WF co) {P : Nat → Bool} (hW : Ways I P (2 ^ co 0 2)) {p d : Nat} (hp : p < 625) {tb : Nat → Nat} (htb : ∀ r, r ≤ p → I 29 r = nI (tb r) ∧ tb r < 2 ^ 31) {u : Nat} (hu : u < 30) : cl Z 31 [.ref 27, .int (nI u), .int (nI p)] I R L = some (some (.int (ffI (ff (fun x => P x && (fit p x && (tb (p - prc x)).testBit (u + 1))) (2 ^ co 0 2)))), I, R, L) := by
  have h4 := hw.h4
  have hH : 2 ^ co 0 2 ≤ 16 := Nat.pow_le_pow_right (n := 2) (by decide) h4
  have hN := wcn_le P (2 ^ co 0 2)
  have w3 := hW.1
  generalize hQ : (fun x => P x && (fit p x && (tb (p - prc x)).testBit (u + 1))) = Q
  have key := loop_all (P := fun x => ff Q x = 0 → ex Z 0 0 31 2 [some (.ref 27), some (.int (nI u)), some (.int (nI p)), some (.int (nI (wcn P x)))] [] I R L = some (some (.int (ffI (ff Q (2 ^ co 0 2)))), I, R, L)) (2 ^ co 0 2) (fun x hx ih hz => ?_) (fun hz => ?_) 0 (Nat.zero_le _)
  · rw [n31]
    simp only [e31_0, e31_1, e31_3, e31_4, e31_7, e31_10, e31_11, e31_12, e31_13, e31_16, e31_17, e31_18, e31_21, e31_24, e31_25, e31_28, e31_29, e31_32, e31_33, e31_36, e31_37, e31_38, e31_39, e31_40, e31_41, e31_42, e31_43, e31_44, e31_47, e31_48, e31_51, e31_52, e31_55, e31_56, e31_57, e31_58, e31_61, e31_64, e31_66, bI_s, bL_s, bV_s, rv_s1, nl_i, nl_a, nl_n, w8_0, w8_i, w8_a, w8_l, ct_i, ct_a, b01_0, b01_1, b01_b]
    exact key rfl
  · have eQ : Q x = (P x && (fit p x && (tb (p - prc x)).testBit (u + 1))) := by rw [← hQ]
    cases hP : P x with
    | false =>
      rw [hP, Bool.false_and] at eQ
      have := ih (by rw [ff, hz, if_pos rfl, eQ]; rfl)
      rw [wcn, hP] at this
      exact this
    | true =>
      have hl := wcn_lt hx hP
      have hi := ih
      rw [wcn, hP, Bool.toNat_true] at hi
      have hr := htb (p - prc x) (Nat.sub_le _ _)
      rw [e31_2]
      by_cases hf : fit p x = true
      · have hpl := prc_le (by omega) hf
        simp only [e31_0, e31_1, e31_3, e31_4, e31_7, e31_10, e31_11, e31_12, e31_13, e31_16, e31_17, e31_18, e31_21, e31_24, e31_25, e31_28, e31_29, e31_32, e31_33, e31_36, e31_37, e31_38, e31_39, e31_40, e31_41, e31_42, e31_43, e31_44, e31_47, e31_48, e31_51, e31_52, e31_55, e31_56, e31_57, e31_58, e31_61, e31_64, e31_66, bI_s, bL_s, bV_s, rv_s1, nl_i, nl_a, nl_n, w8_0, w8_i, w8_a, w8_l, ct_i, ct_a, b01_0, b01_1, b01_b, hF.x0, hF.x2, hF.x5, hF.x6, hF.x7, hF.x10, hF.x12, hF.x13, hF.x15, hF.k0, hF.k1, hF.k2, hF.m4, hF.m5, hF.m6, hF.m7, hF.m8, hF.m9, hF.m10, hF.m16, hF.m17, hF.m18, hF.m19, hF.m20, hF.m21, hF.m22, hF.m23, hF.m29, hF.m30, hF.m35, hF.m37, hF.m38, hF.m40, hF.m41, hF.m43, hF.m44, hF.q0, hF.q1, kd_0, kd_2, kd_3, kd_11, kd_19, kd_22, kd_27, kd_87, al_1, al_4, al_5, al_6, al_7, al_8, al_9, al_10, al_12, al_13, al_14, al_15, al_16, al_17, al_18, al_20, al_21, al_23, al_24, al_28, al_29, al_30, al_31, al_32, al_1001, al_1002, ql_25, ql_26, Nat.reduceLT, w3, nI_leI (show wcn P (2 ^ co 0 2) < 2 ^ 31 by omega) (show wcn P x < 2 ^ 31 by omega), show ¬ wcn P (2 ^ co 0 2) ≤ wcn P x by omega, if_false, ab_ixN (show wcn P x < 16 by omega) (show 16 < 2 ^ 31 by decide), nI_clamp (show wcn P x < 2 ^ 31 by omega), hW.2 x hx hP, k_affords hF hK hp (show x < 16 by omega), hf, Bool.toNat_true, nI10, ab_ixN (show x < 16 by omega) (show 16 < 2 ^ 31 by decide), nI_clamp (show x < 2 ^ 31 by omega), hK.2.2 x (by omega), pk_sub hpl, ab_ixN (show p - prc x < 625 by omega) (show 625 < 2 ^ 31 by decide), nI_clamp (show p - prc x < 2 ^ 31 by omega), hr.1, nI_add, s_bit hr.2 (show u + 1 < 31 by omega), nI_bt]
        cases hb : (tb (p - prc x)).testBit (u + 1) with
        | true =>
          have e1 : Q x = true := by rw [eQ, hP, hf, hb]; rfl
          have e2 : ff Q (x + 1) = x + 1 := by rw [ff, hz, if_pos rfl, e1, if_pos rfl]
          have e3 := ff_up (Q := Q) (n := x + 1) (by rw [e2]; omega) (2 ^ co 0 2 - (x + 1))
          rw [show x + 1 + (2 ^ co 0 2 - (x + 1)) = 2 ^ co 0 2 by omega, e2] at e3
          rw [e3]
          simp only [if_true]
          rfl
        | false =>
          have e1 : Q x = false := by rw [eQ, hP, hf, hb]; rfl
          simp only [Bool.false_eq_true, if_false]
          exact hi (by rw [ff, hz, if_pos rfl, e1]; rfl)
      · have hf2 : fit p x = false := by simpa using hf
        have e1 : Q x = false := by rw [eQ, hP, hf2]; rfl
        simp only [e31_0, e31_1, e31_3, e31_4, e31_7, e31_10, e31_11, e31_12, e31_13, e31_16, e31_17, e31_18, e31_21, e31_24, e31_25, e31_28, e31_29, e31_32, e31_33, e31_36, e31_37, e31_38, e31_39, e31_40, e31_41, e31_42, e31_43, e31_44, e31_47, e31_48, e31_51, e31_52, e31_55, e31_56, e31_57, e31_58, e31_61, e31_64, e31_66, bI_s, bL_s, bV_s, rv_s1, nl_i, nl_a, nl_n, w8_0, w8_i, w8_a, w8_l, ct_i, ct_a, b01_0, b01_1, b01_b, hF.x0, hF.x2, hF.x5, hF.x6, hF.x7, hF.x10, hF.x12, hF.x13, hF.x15, hF.k0, hF.k1, hF.k2, hF.m4, hF.m5, hF.m6, hF.m7, hF.m8, hF.m9, hF.m10, hF.m16, hF.m17, hF.m18, hF.m19, hF.m20, hF.m21, hF.m22, hF.m23, hF.m29, hF.m30, hF.m35, hF.m37, hF.m38, hF.m40, hF.m41, hF.m43, hF.m44, hF.q0, hF.q1, kd_0, kd_2, kd_3, kd_11, kd_19, kd_22, kd_27, kd_87, al_1, al_4, al_5, al_6, al_7, al_8, al_9, al_10, al_12, al_13, al_14, al_15, al_16, al_17, al_18, al_20, al_21, al_23, al_24, al_28, al_29, al_30, al_31, al_32, al_1001, al_1002, ql_25, ql_26, Nat.reduceLT, w3, nI_leI (show wcn P (2 ^ co 0 2) < 2 ^ 31 by omega) (show wcn P x < 2 ^ 31 by omega), show ¬ wcn P (2 ^ co 0 2) ≤ wcn P x by omega, if_false, ab_ixN (show wcn P x < 16 by omega) (show 16 < 2 ^ 31 by decide), nI_clamp (show wcn P x < 2 ^ 31 by omega), hW.2 x hx hP, k_affords hF hK hp (show x < 16 by omega), hf2, Bool.toNat_false, if_true, nI_add]
        exact hi (by rw [ff, hz, if_pos rfl, e1]; rfl)
  · rw [e31_2]
    simp only [e31_0, e31_1, e31_3, e31_4, e31_7, e31_10, e31_11, e31_12, e31_13, e31_16, e31_17, e31_18, e31_21, e31_24, e31_25, e31_28, e31_29, e31_32, e31_33, e31_36, e31_37, e31_38, e31_39, e31_40, e31_41, e31_42, e31_43, e31_44, e31_47, e31_48, e31_51, e31_52, e31_55, e31_56, e31_57, e31_58, e31_61, e31_64, e31_66, bI_s, bL_s, bV_s, rv_s1, nl_i, nl_a, nl_n, w8_0, w8_i, w8_a, w8_l, ct_i, ct_a, b01_0, b01_1, b01_b, kd_27, w3, Int32.le_refl, if_true]
    rw [hz]
    rfl
end KEEP2
