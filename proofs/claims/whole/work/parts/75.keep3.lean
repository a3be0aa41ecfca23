/-! to keep, in the class -/
def wbt (W : Nat) : Nat → Bool := fun t => W.testBit t
def lwf (co s : Co) (wn : Nat → Bool) (d p : Nat) : Nat := ff (fun x => wyw co s wn (co 0 3 - 1 - d) x && (fit p x && fe co s wn d (p - prc x))) 16
theorem lwf_N {co s : Co} (hw : WF co) {wn : Nat → Bool} {d p : Nat} : lwf co s wn d p = ff (fun x => wyw co s wn (co 0 3 - 1 - d) x && (fit p x && fe co s wn d (p - prc x))) (2 ^ co 0 2) := by
  have hH : 2 ^ co 0 2 ≤ 16 := Nat.pow_le_pow_right (n := 2) (by decide) hw.h4
  have := ff_hi (Q := fun x => wyw co s wn (co 0 3 - 1 - d) x && (fit p x && fe co s wn d (p - prc x))) (N := 2 ^ co 0 2) (fun j hj => by
    cases h : wyw co s wn (co 0 3 - 1 - d) j
    · rfl
    · have := wyw_N h
      omega) (16 - 2 ^ co 0 2)
  rw [show 2 ^ co 0 2 + (16 - 2 ^ co 0 2) = 16 by omega] at this
  exact this
theorem ff_16 {Q : Nat → Bool} : ff Q 16 ≤ 16 := by
  cases h : ff Q 16 with
  | zero => omega
  | succ k =>
    have := (ff_some 16 h).1
    omega
def Ds (co s : Co) (wn : Nat → Bool) : Nat → Nat
  | 0 => 0
  | n + 1 => Ds co s wn n + (if wn n = true then lkf co s n else 0)
theorem Dl_s {co s : Co} {wn : Nat → Bool} : ∀ d, d ≤ co 0 3 → Dl co s wn d + Ds co s wn (co 0 3 - d) = Ds co s wn (co 0 3)
  | 0, _ => by rw [Dl, Nat.zero_add, Nat.sub_zero]
  | d + 1, h => by
    rw [← Dl_s d (by omega), Dl, show co 0 3 - d = (co 0 3 - 1 - d) + 1 by omega, Ds, show co 0 3 - (d + 1) = co 0 3 - 1 - d by omega]
    omega
theorem Dl_T {co s : Co} {wn : Nat → Bool} : Dl co s wn (co 0 3) = Ds co s wn (co 0 3) := by
  have := Dl_s (co := co) (s := s) (wn := wn) (co 0 3) (Nat.le_refl _)
  rw [Nat.sub_self] at this
  exact this
section KEEP3
variable {Z c q t : Nat} {co s : Co} {I : ab_I} {R : ab_R} {L : ab_L}
/-- the fullest purse -/
def ful (co s : Co) : Nat := pu co s (2 ^ co 0 2 - 1) (co 0 2)
theorem k_canKeep (hF : Fx R) (hc : IsC c) (hq : IsS q) (hK : KC I c q co s) (hw : WF co) (hv : WS co s) {W : Nat} (hW31 : W < 2 ^ 31) (hn : ∀ t, t < co 0 3 → W.testBit t = true → heldf co t (cntf co s t) = false) : ∃ J, cl Z 25 [.ref 27, .ref c, .ref q, .int (nI W)] I R L = some (some (.int (nI (fe co s (wbt W) (co 0 3) (ful co s)).toNat)), J, R, L) ∧ OffK I J ∧ ∀ r, r ≤ ful co s → J 29 r = nI (TBd co s (wbt W) (co 0 3) r) := by
  have h4 := hw.h4
  have h6 := hw.t6
  have hH : 2 ^ co 0 2 ≤ 16 := Nat.pow_le_pow_right (n := 2) (by decide) h4
  have hH1 := Nat.two_pow_pos (co 0 2)
  have hfl : ful co s < 625 := pu_625 hw _
  have ep := k_purseOf (Z := Z) (L := L) hF hc hq hK hw hv (x := 2 ^ co 0 2 - 1) (by omega)
  have ea := s_allHouses (Z := Z) (R := R) (L := L) hc hK.1.1 hw
  have tbl : ∀ d r, TBd co s (wbt W) d r < 2 ^ 31 := fun d r => Nat.lt_of_lt_of_le (TBd_lt d) (Nat.pow_le_pow_right (by decide) (by omega))
  have h2T : 2 ^ co 0 3 ≤ 2 ^ 6 := Nat.pow_le_pow_right (by decide) h6
  have kA := loop_all (P := fun i => ∀ J y, OffK I J → (∀ r, r < i → J 29 r = nI (2 ^ co 0 3)) → ∃ J', ex Z 0 0 25 15 [some (.ref 27), some (.ref c), some (.ref q), some (.int (nI W)), some (.int (nI (ful co s))), some (.int (nI i)), y] [] J R L = ex Z 0 0 25 41 [some (.ref 27), some (.ref c), some (.ref q), some (.int (nI W)), some (.int (nI (ful co s))), some (.int (nI (ful co s + 1))), y] [] J' R L ∧ OffK I J' ∧ ∀ r, r ≤ ful co s → J' 29 r = nI (2 ^ co 0 3)) (ful co s + 1) (fun i hi ih J y oJ hJ => ?_) (fun J y oJ hJ => ?_) 0 (Nat.zero_le _)
  rotate_left
  · have hKJ := hK.off hc hq oJ
    obtain ⟨J', e, r⟩ := ih (wI J 29 i (nI (2 ^ co 0 3))) y (oJ.tr (OffK.w (Or.inr (Or.inl rfl)))) (fun r hr => by
      by_cases h : r = i
      · rw [h, wI_self]
      · rw [wI_k h, hJ r (by omega)])
    refine ⟨J', ?_, r⟩
    rw [e25_15]
    simp only [e25_0, e25_1, e25_2, e25_3, e25_4, e25_7, e25_10, e25_12, e25_13, e25_17, e25_19, e25_22, e25_23, e25_26, e25_28, e25_29, e25_30, e25_33, e25_34, e25_35, e25_38, e25_42, e25_45, e25_46, e25_47, e25_51, e25_54, e25_55, e25_56, e25_57, e25_58, e25_60, e25_63, e25_64, e25_68, e25_70, e25_73, e25_74, e25_77, e25_79, e25_80, e25_81, e25_82, e25_84, e25_86, e25_89, e25_91, e25_94, e25_95, e25_97, e25_98, e25_101, e25_102, e25_103, e25_104, e25_107, e25_110, e25_113, e25_116, e25_117, e25_120, e25_122, e25_123, e25_124, e25_127, e25_128, e25_131, e25_132, e25_135, e25_136, bI_s, bL_s, bV_s, rv_s1, nl_i, nl_a, nl_n, w8_0, w8_i, w8_a, w8_l, ct_i, ct_a, b01_0, b01_1, b01_b, hF.x0, hF.x2, hF.x5, hF.x6, hF.x7, hF.x10, hF.x12, hF.x13, hF.x15, hF.k0, hF.k1, hF.k2, hF.m4, hF.m5, hF.m6, hF.m7, hF.m8, hF.m9, hF.m10, hF.m16, hF.m17, hF.m18, hF.m19, hF.m20, hF.m21, hF.m22, hF.m23, hF.m29, hF.m30, hF.m35, hF.m37, hF.m38, hF.m40, hF.m41, hF.m43, hF.m44, hF.q0, hF.q1, kd_0, kd_2, kd_3, kd_11, kd_19, kd_22, kd_27, kd_87, al_1, al_4, al_5, al_6, al_7, al_8, al_9, al_10, al_12, al_13, al_14, al_15, al_16, al_17, al_18, al_20, al_21, al_23, al_24, al_28, al_29, al_30, al_31, al_32, al_1001, al_1002, ql_25, ql_26, Nat.reduceLT, kdC hc, nI_ltI (show ful co s < 2 ^ 31 by omega) (show i < 2 ^ 31 by omega), show ¬ ful co s < i by omega, if_false, ab_ixN (show i < 625 by omega) (show 625 < 2 ^ 31 by decide), nI_clamp (show i < 2 ^ 31 by omega), hKJ.1.1.th, nI_1shl (show co 0 3 < 31 by omega), nI_add]
    exact e
  · refine ⟨J, ?_, oJ, fun r hr => hJ r (by omega)⟩
    rw [e25_15]
    simp only [e25_0, e25_1, e25_2, e25_3, e25_4, e25_7, e25_10, e25_12, e25_13, e25_17, e25_19, e25_22, e25_23, e25_26, e25_28, e25_29, e25_30, e25_33, e25_34, e25_35, e25_38, e25_42, e25_45, e25_46, e25_47, e25_51, e25_54, e25_55, e25_56, e25_57, e25_58, e25_60, e25_63, e25_64, e25_68, e25_70, e25_73, e25_74, e25_77, e25_79, e25_80, e25_81, e25_82, e25_84, e25_86, e25_89, e25_91, e25_94, e25_95, e25_97, e25_98, e25_101, e25_102, e25_103, e25_104, e25_107, e25_110, e25_113, e25_116, e25_117, e25_120, e25_122, e25_123, e25_124, e25_127, e25_128, e25_131, e25_132, e25_135, e25_136, bI_s, bL_s, bV_s, rv_s1, nl_i, nl_a, nl_n, w8_0, w8_i, w8_a, w8_l, ct_i, ct_a, b01_0, b01_1, b01_b, nI_ltI (show ful co s < 2 ^ 31 by omega) (show ful co s + 1 < 2 ^ 31 by omega), show ful co s < ful co s + 1 by omega, if_true]
  have kC : ∀ d, d < co 0 3 → ∀ i, i ≤ ful co s + 1 → ∀ J, OffK I J → Ways J (wyw co s (wbt W) (co 0 3 - 1 - d)) (2 ^ co 0 2) → (∀ r, r ≤ ful co s → J 29 r = nI (if r < i then TBd co s (wbt W) (d + 1) r else TBd co s (wbt W) d r)) → ∃ J', ex Z 0 0 25 66 [some (.ref 27), some (.ref c), some (.ref q), some (.int (nI W)), some (.int (nI (ful co s))), some (.int (nI (co 0 3 - 1 - d))), some (.int (nI i))] [] J R L = ex Z 0 0 25 110 [some (.ref 27), some (.ref c), some (.ref q), some (.int (nI W)), some (.int (nI (ful co s))), some (.int (nI (co 0 3 - 1 - d))), some (.int (nI (ful co s + 1)))] [] J' R L ∧ OffK I J' ∧ ∀ r, r ≤ ful co s → J' 29 r = nI (TBd co s (wbt W) (d + 1) r) := by
    intro d hd
    refine loop_all (ful co s + 1) (fun i hi ih J oJ hWy hJ => ?_) (fun J oJ hWy hJ => ?_)
    · have hKJ := hK.off hc hq oJ
      have hi2 := hJ i (by omega)
      rw [if_neg (by omega)] at hi2
      have efit := k_firstFit (Z := Z) (L := L) hF hc hq hKJ hw hWy (p := i) (d := d) (show i < 625 by omega) (tb := fun r => if r < i then TBd co s (wbt W) (d + 1) r else TBd co s (wbt W) d r) (fun r hr => ⟨hJ r (by omega), by split <;> exact tbl _ _⟩) (u := co 0 3 - 1 - d) (by omega)
      have hbit : ∀ r, (if r < i then TBd co s (wbt W) (d + 1) r else TBd co s (wbt W) d r).testBit (co 0 3 - 1 - d + 1) = fe co s (wbt W) d r := fun r => by
        rw [show co 0 3 - 1 - d + 1 = co 0 3 - d by omega]
        split
        · rw [TBd_up 1 (by omega), TBd_at d (by omega)]
        · exact TBd_at d (by omega)
      simp only [hbit] at efit
      rw [← lwf_N hw] at efit
      have hfe : fe co s (wbt W) (d + 1) i = decide (lwf co s (wbt W) d i ≠ 0) := by rw [fe]; rfl
      have hTB : TBd co s (wbt W) (d + 1) i = TBd co s (wbt W) d i ||| (if lwf co s (wbt W) d i ≠ 0 then 2 ^ (co 0 3 - 1 - d) else 0) := by
        rw [TBd, hfe]
        simp only [decide_eq_true_eq]
      obtain ⟨J', e, r⟩ := ih (wI J 29 i (nI (TBd co s (wbt W) (d + 1) i))) (oJ.tr (OffK.w (Or.inr (Or.inl rfl)))) ⟨by rw [wI_o (by decide)]; exact hWy.1, fun x hx hp => by rw [wI_o (by decide)]; exact hWy.2 x hx hp⟩ (fun r hr => by
        by_cases h : r = i
        · rw [h, wI_self, if_pos (by omega)]
        · rw [wI_k h, hJ r hr]
          by_cases h2 : r < i
          · rw [if_pos h2, if_pos (by omega)]
          · rw [if_neg h2, if_neg (by omega)])
      refine ⟨J', ?_, r⟩
      rw [e25_66]
      rw [hTB] at e
      have h16 : lwf co s (wbt W) d i ≤ 16 := ff_16
      cases hl : lwf co s (wbt W) d i with
      | zero =>
        rw [hl] at e efit
        rw [if_neg (by decide)] at e
        simp only [e25_0, e25_1, e25_2, e25_3, e25_4, e25_7, e25_10, e25_12, e25_13, e25_17, e25_19, e25_22, e25_23, e25_26, e25_28, e25_29, e25_30, e25_33, e25_34, e25_35, e25_38, e25_41, e25_42, e25_45, e25_46, e25_47, e25_51, e25_54, e25_55, e25_56, e25_57, e25_58, e25_60, e25_63, e25_64, e25_68, e25_70, e25_73, e25_74, e25_77, e25_79, e25_80, e25_81, e25_82, e25_84, e25_86, e25_89, e25_91, e25_94, e25_95, e25_97, e25_98, e25_101, e25_102, e25_103, e25_104, e25_107, e25_113, e25_116, e25_117, e25_120, e25_122, e25_123, e25_124, e25_127, e25_128, e25_131, e25_132, e25_135, e25_136, bI_s, bL_s, bV_s, rv_s1, nl_i, nl_a, nl_n, w8_0, w8_i, w8_a, w8_l, ct_i, ct_a, b01_0, b01_1, b01_b, hF.x0, hF.x2, hF.x5, hF.x6, hF.x7, hF.x10, hF.x12, hF.x13, hF.x15, hF.k0, hF.k1, hF.k2, hF.m4, hF.m5, hF.m6, hF.m7, hF.m8, hF.m9, hF.m10, hF.m16, hF.m17, hF.m18, hF.m19, hF.m20, hF.m21, hF.m22, hF.m23, hF.m29, hF.m30, hF.m35, hF.m37, hF.m38, hF.m40, hF.m41, hF.m43, hF.m44, hF.q0, hF.q1, kd_0, kd_2, kd_3, kd_11, kd_19, kd_22, kd_27, kd_87, al_1, al_4, al_5, al_6, al_7, al_8, al_9, al_10, al_12, al_13, al_14, al_15, al_16, al_17, al_18, al_20, al_21, al_23, al_24, al_28, al_29, al_30, al_31, al_32, al_1001, al_1002, ql_25, ql_26, Nat.reduceLT, nI_ltI (show ful co s < 2 ^ 31 by omega) (show i < 2 ^ 31 by omega), show ¬ ful co s < i by omega, if_false, ab_ixN (show i < 625 by omega) (show 625 < 2 ^ 31 by decide), nI_clamp (show i < 2 ^ 31 by omega), hi2, efit, ffI, if_true, nx_or', nI_add]
        exact e
      | succ k =>
        rw [hl] at e efit h16
        rw [if_pos (by omega)] at e
        simp only [e25_0, e25_1, e25_2, e25_3, e25_4, e25_7, e25_10, e25_12, e25_13, e25_17, e25_19, e25_22, e25_23, e25_26, e25_28, e25_29, e25_30, e25_33, e25_34, e25_35, e25_38, e25_41, e25_42, e25_45, e25_46, e25_47, e25_51, e25_54, e25_55, e25_56, e25_57, e25_58, e25_60, e25_63, e25_64, e25_68, e25_70, e25_73, e25_74, e25_77, e25_79, e25_80, e25_81, e25_82, e25_84, e25_86, e25_89, e25_91, e25_94, e25_95, e25_97, e25_98, e25_101, e25_102, e25_103, e25_104, e25_107, e25_113, e25_116, e25_117, e25_120, e25_122, e25_123, e25_124, e25_127, e25_128, e25_131, e25_132, e25_135, e25_136, bI_s, bL_s, bV_s, rv_s1, nl_i, nl_a, nl_n, w8_0, w8_i, w8_a, w8_l, ct_i, ct_a, b01_0, b01_1, b01_b, hF.x0, hF.x2, hF.x5, hF.x6, hF.x7, hF.x10, hF.x12, hF.x13, hF.x15, hF.k0, hF.k1, hF.k2, hF.m4, hF.m5, hF.m6, hF.m7, hF.m8, hF.m9, hF.m10, hF.m16, hF.m17, hF.m18, hF.m19, hF.m20, hF.m21, hF.m22, hF.m23, hF.m29, hF.m30, hF.m35, hF.m37, hF.m38, hF.m40, hF.m41, hF.m43, hF.m44, hF.q0, hF.q1, kd_0, kd_2, kd_3, kd_11, kd_19, kd_22, kd_27, kd_87, al_1, al_4, al_5, al_6, al_7, al_8, al_9, al_10, al_12, al_13, al_14, al_15, al_16, al_17, al_18, al_20, al_21, al_23, al_24, al_28, al_29, al_30, al_31, al_32, al_1001, al_1002, ql_25, ql_26, Nat.reduceLT, nI_ltI (show ful co s < 2 ^ 31 by omega) (show i < 2 ^ 31 by omega), show ¬ ful co s < i by omega, if_false, ab_ixN (show i < 625 by omega) (show 625 < 2 ^ 31 by decide), nI_clamp (show i < 2 ^ 31 by omega), hi2, efit, ffI, nI_9 (show k ≤ 100 by omega), nI_1shl (show co 0 3 - 1 - d < 31 by omega), nx_or', nI_add]
        exact e
    · refine ⟨J, ?_, oJ, fun r hr => by rw [hJ r hr, if_pos (by omega)]⟩
      rw [e25_66]
      simp only [e25_0, e25_1, e25_2, e25_3, e25_4, e25_7, e25_10, e25_12, e25_13, e25_17, e25_19, e25_22, e25_23, e25_26, e25_28, e25_29, e25_30, e25_33, e25_34, e25_35, e25_38, e25_41, e25_42, e25_45, e25_46, e25_47, e25_51, e25_54, e25_55, e25_56, e25_57, e25_58, e25_60, e25_63, e25_64, e25_68, e25_70, e25_73, e25_74, e25_77, e25_79, e25_80, e25_81, e25_82, e25_84, e25_86, e25_89, e25_91, e25_94, e25_95, e25_97, e25_98, e25_101, e25_102, e25_103, e25_104, e25_107, e25_113, e25_116, e25_117, e25_120, e25_122, e25_123, e25_124, e25_127, e25_128, e25_131, e25_132, e25_135, e25_136, bI_s, bL_s, bV_s, rv_s1, nl_i, nl_a, nl_n, w8_0, w8_i, w8_a, w8_l, ct_i, ct_a, b01_0, b01_1, b01_b, nI_ltI (show ful co s < 2 ^ 31 by omega) (show ful co s + 1 < 2 ^ 31 by omega), show ful co s < ful co s + 1 by omega, if_true]
  have kB := loop_all (P := fun d => ∀ J y, OffK I J → (∀ r, r ≤ ful co s → J 29 r = nI (TBd co s (wbt W) d r)) → ∃ J', ex Z 0 0 25 49 [some (.ref 27), some (.ref c), some (.ref q), some (.int (nI W)), some (.int (nI (ful co s))), some (.int (iI ((co 0 3 : Int) - 1 - d))), y] [] J R L = some (some (.int (nI (fe co s (wbt W) (co 0 3) (ful co s)).toNat)), J', R, L) ∧ OffK I J' ∧ ∀ r, r ≤ ful co s → J' 29 r = nI (TBd co s (wbt W) (co 0 3) r)) (co 0 3) (fun d hd ih J y oJ hJ => ?_) (fun J y oJ hJ => ?_) 0 (Nat.zero_le _)
  · obtain ⟨J1, e1, o1, t1⟩ := kA I none OffK.rf (fun r hr => by omega)
    obtain ⟨J', e, r⟩ := kB J1 none o1 t1
    refine ⟨J', ?_, r⟩
    have hKJ := hK.off hc hq o1
    have ef : pu co s (2 ^ co 0 2 - 1) (co 0 2) = ful co s := rfl
    rw [ef] at ep
    rw [n25]
    simp only [e25_0, e25_1, e25_2, e25_3, e25_4, e25_7, e25_10, e25_12, e25_13, e25_17, e25_19, e25_22, e25_23, e25_26, e25_28, e25_29, e25_30, e25_33, e25_34, e25_35, e25_38, e25_42, e25_45, e25_46, e25_47, e25_51, e25_54, e25_55, e25_56, e25_57, e25_58, e25_60, e25_63, e25_64, e25_68, e25_70, e25_73, e25_74, e25_77, e25_79, e25_80, e25_81, e25_82, e25_84, e25_86, e25_89, e25_91, e25_94, e25_95, e25_97, e25_98, e25_101, e25_102, e25_103, e25_104, e25_107, e25_110, e25_113, e25_116, e25_117, e25_120, e25_122, e25_123, e25_124, e25_127, e25_128, e25_131, e25_132, e25_135, e25_136, bI_s, bL_s, bV_s, rv_s1, nl_i, nl_a, nl_n, w8_0, w8_i, w8_a, w8_l, ct_i, ct_a, b01_0, b01_1, b01_b, kd_27, kdC hc, ea, ep]
    rw [e1]
    have e5 : nI (co 0 3) - nI 1 = iI ((co 0 3 : Int) - 1 - (0 : Nat)) := by
      rw [nI_iI, nI_iI, iI_sub]
      congr 1
      omega
    simp only [e25_0, e25_1, e25_2, e25_3, e25_4, e25_7, e25_10, e25_12, e25_13, e25_17, e25_19, e25_22, e25_23, e25_26, e25_28, e25_29, e25_30, e25_33, e25_34, e25_35, e25_38, e25_41, e25_42, e25_45, e25_46, e25_47, e25_51, e25_54, e25_55, e25_56, e25_57, e25_58, e25_60, e25_63, e25_64, e25_68, e25_70, e25_73, e25_74, e25_77, e25_79, e25_80, e25_81, e25_82, e25_84, e25_86, e25_89, e25_91, e25_94, e25_95, e25_97, e25_98, e25_101, e25_102, e25_103, e25_104, e25_107, e25_110, e25_113, e25_116, e25_117, e25_120, e25_122, e25_123, e25_124, e25_127, e25_128, e25_131, e25_132, e25_135, e25_136, bI_s, bL_s, bV_s, rv_s1, nl_i, nl_a, nl_n, w8_0, w8_i, w8_a, w8_l, ct_i, ct_a, b01_0, b01_1, b01_b, kdC hc, hKJ.1.1.th, e5]
    exact e
  · have hKJ := hK.off hc hq oJ
    have ed : iI ((co 0 3 : Int) - 1 - d) = nI (co 0 3 - 1 - d) := by
      rw [nI_iI]
      congr 1
      omega
    obtain ⟨J1, e1, o1, t1, w1⟩ := k_findIf (Z := Z) (L := L) hF hc hq hKJ hw hv (show co 0 3 - 1 - d < co 0 3 by omega) hW31 (hn _ (by omega))
    obtain ⟨J2, e2, o2, t2⟩ := kC d hd 0 (Nat.zero_le _) J1 (oJ.tr o1) w1 (fun r hr => by rw [t1, hJ r hr, if_neg (by omega)])
    obtain ⟨J', e, r⟩ := ih J2 (some (.int (nI (ful co s + 1)))) o2 t2
    refine ⟨J', ?_, r⟩
    have e5 : nI (co 0 3 - 1 - d) + iI (-1) = iI ((co 0 3 : Int) - 1 - (d + 1 : Nat)) := by
      rw [nI_iI, iI_add]
      congr 1
      omega
    rw [e25_49]
    simp only [e25_0, e25_1, e25_2, e25_3, e25_4, e25_7, e25_10, e25_12, e25_13, e25_17, e25_19, e25_22, e25_23, e25_26, e25_28, e25_29, e25_30, e25_33, e25_34, e25_35, e25_38, e25_41, e25_42, e25_45, e25_46, e25_47, e25_51, e25_54, e25_55, e25_56, e25_57, e25_58, e25_60, e25_63, e25_64, e25_68, e25_70, e25_73, e25_74, e25_77, e25_79, e25_80, e25_81, e25_82, e25_84, e25_86, e25_89, e25_91, e25_94, e25_95, e25_97, e25_98, e25_101, e25_102, e25_103, e25_104, e25_107, e25_113, e25_116, e25_117, e25_120, e25_122, e25_123, e25_124, e25_127, e25_128, e25_131, e25_132, e25_135, e25_136, bI_s, bL_s, bV_s, rv_s1, nl_i, nl_a, nl_n, w8_0, w8_i, w8_a, w8_l, ct_i, ct_a, b01_0, b01_1, b01_b, kd_27, kdC hc, ed, nI_ltI (show co 0 3 - 1 - d < 2 ^ 31 by omega) (show 0 < 2 ^ 31 by decide), Nat.not_lt_zero, if_false, e1]
    rw [e2]
    simp only [e25_0, e25_1, e25_2, e25_3, e25_4, e25_7, e25_10, e25_12, e25_13, e25_17, e25_19, e25_22, e25_23, e25_26, e25_28, e25_29, e25_30, e25_33, e25_34, e25_35, e25_38, e25_41, e25_42, e25_45, e25_46, e25_47, e25_51, e25_54, e25_55, e25_56, e25_57, e25_58, e25_60, e25_63, e25_64, e25_68, e25_70, e25_73, e25_74, e25_77, e25_79, e25_80, e25_81, e25_82, e25_84, e25_86, e25_89, e25_91, e25_94, e25_95, e25_97, e25_98, e25_101, e25_102, e25_103, e25_104, e25_107, e25_110, e25_113, e25_116, e25_117, e25_120, e25_122, e25_123, e25_124, e25_127, e25_128, e25_131, e25_132, e25_135, e25_136, bI_s, bL_s, bV_s, rv_s1, nl_i, nl_a, nl_n, w8_0, w8_i, w8_a, w8_l, ct_i, ct_a, b01_0, b01_1, b01_b, e5]
    exact e
  · refine ⟨J, ?_, oJ, hJ⟩
    have hneg : iI ((co 0 3 : Int) - 1 - (co 0 3 : Nat)) < nI 0 := by
      rw [lt0_iff, iI_toInt (by omega) (by omega)]
      omega
    have hb := TBd_at (co := co) (s := s) (wn := wbt W) (p := ful co s) (co 0 3) (Nat.le_refl _)
    rw [Nat.sub_self] at hb
    rw [e25_49]
    simp only [e25_0, e25_1, e25_2, e25_3, e25_4, e25_7, e25_10, e25_12, e25_13, e25_17, e25_19, e25_22, e25_23, e25_26, e25_28, e25_29, e25_30, e25_33, e25_34, e25_35, e25_38, e25_41, e25_42, e25_45, e25_46, e25_47, e25_51, e25_54, e25_55, e25_56, e25_57, e25_58, e25_60, e25_63, e25_64, e25_68, e25_70, e25_73, e25_74, e25_77, e25_79, e25_80, e25_81, e25_82, e25_84, e25_86, e25_89, e25_91, e25_94, e25_95, e25_97, e25_98, e25_101, e25_102, e25_103, e25_104, e25_107, e25_110, e25_113, e25_116, e25_117, e25_120, e25_122, e25_123, e25_124, e25_127, e25_128, e25_131, e25_132, e25_135, e25_136, bI_s, bL_s, bV_s, rv_s1, nl_i, nl_a, nl_n, w8_0, w8_i, w8_a, w8_l, ct_i, ct_a, b01_0, b01_1, b01_b, hF.x0, hF.x2, hF.x5, hF.x6, hF.x7, hF.x10, hF.x12, hF.x13, hF.x15, hF.k0, hF.k1, hF.k2, hF.m4, hF.m5, hF.m6, hF.m7, hF.m8, hF.m9, hF.m10, hF.m16, hF.m17, hF.m18, hF.m19, hF.m20, hF.m21, hF.m22, hF.m23, hF.m29, hF.m30, hF.m35, hF.m37, hF.m38, hF.m40, hF.m41, hF.m43, hF.m44, hF.q0, hF.q1, kd_0, kd_2, kd_3, kd_11, kd_19, kd_22, kd_27, kd_87, al_1, al_4, al_5, al_6, al_7, al_8, al_9, al_10, al_12, al_13, al_14, al_15, al_16, al_17, al_18, al_20, al_21, al_23, al_24, al_28, al_29, al_30, al_31, al_32, al_1001, al_1002, ql_25, ql_26, Nat.reduceLT, hneg, if_true, ab_ixN hfl (show 625 < 2 ^ 31 by decide), nI_clamp (show ful co s < 2 ^ 31 by omega), hJ _ (Nat.le_refl _), s_bit (tbl _ _) (show 0 < 31 by decide), hb, nI_bt]
    cases fe co s (wbt W) (co 0 3) (ful co s) <;> simp
theorem k_leastWay (hF : Fx R) (hc : IsC c) (hq : IsS q) (hK : KC I c q co s) (hw : WF co) (hv : WS co s) {W : Nat} (hW31 : W < 2 ^ 31) (hn : ∀ t, t < co 0 3 → W.testBit t = true → heldf co t (cntf co s t) = false) (hT : ∀ r, r ≤ ful co s → I 29 r = nI (TBd co s (wbt W) (co 0 3) r)) {d p : Nat} (hd : d < co 0 3) (hp : p ≤ ful co s) : ∃ J, cl Z 34 [.ref 27, .ref c, .ref q, .int (nI W), .int (nI (co 0 3 - 1 - d)), .int (nI p)] I R L = some (some (.int (nI (lwf co s (wbt W) d p - 1))), J, R, L) ∧ OffK I J ∧ J 29 = I 29 := by
  have h6 := hw.t6
  have hfl : ful co s < 625 := pu_625 hw _
  have tbl : ∀ d r, TBd co s (wbt W) d r < 2 ^ 31 := fun d r => Nat.lt_of_lt_of_le (TBd_lt d) (Nat.pow_le_pow_right (by decide) (by omega))
  obtain ⟨J1, e1, o1, t1, w1⟩ := k_findIf (Z := Z) (L := L) hF hc hq hK hw hv (show co 0 3 - 1 - d < co 0 3 by omega) hW31 (hn _ (by omega))
  have w2 : Ways J1 (wyw co s (wbt W) (co 0 3 - 1 - d)) (2 ^ co 0 2) := w1
  have efit := k_firstFit (Z := Z) (L := L) hF hc hq (hK.off hc hq o1) hw w2 (p := p) (d := d) (show p < 625 by omega) (tb := TBd co s (wbt W) (co 0 3)) (fun r hr => ⟨by rw [t1]; exact hT r (by omega), tbl _ _⟩) (u := co 0 3 - 1 - d) (by omega)
  have hbit : ∀ r, (TBd co s (wbt W) (co 0 3) r).testBit (co 0 3 - 1 - d + 1) = fe co s (wbt W) d r := fun r => by
    have := TBd_up (co := co) (s := s) (wn := wbt W) (p := r) (d := d) (co 0 3 - d) (by omega)
    rw [show d + (co 0 3 - d) = co 0 3 by omega] at this
    rw [show co 0 3 - 1 - d + 1 = co 0 3 - d by omega, this]
    exact TBd_at d (by omega)
  simp only [hbit] at efit
  rw [← lwf_N hw] at efit
  refine ⟨J1, ?_, o1, t1⟩
  have h16 : lwf co s (wbt W) d p ≤ 16 := ff_16
  rw [n34]
  simp only [e34_0, e34_1, e34_2, e34_3, e34_4, e34_6, e34_9, e34_10, e34_12, e34_14, e34_17, e34_18, e34_21, bI_s, bL_s, bV_s, rv_s1, nl_i, nl_a, nl_n, w8_0, w8_i, w8_a, w8_l, ct_i, ct_a, b01_0, b01_1, b01_b, kd_27, e1]
  cases hl : lwf co s (wbt W) d p with
  | zero =>
    rw [hl] at efit
    simp only [e34_0, e34_1, e34_2, e34_3, e34_4, e34_6, e34_9, e34_10, e34_12, e34_14, e34_17, e34_18, e34_21, bI_s, bL_s, bV_s, rv_s1, nl_i, nl_a, nl_n, w8_0, w8_i, w8_a, w8_l, ct_i, ct_a, b01_0, b01_1, b01_b, kd_27, efit, ffI, show iI (-9) < nI 0 by decide, if_true]
  | succ k =>
    rw [hl] at efit h16
    simp only [e34_0, e34_1, e34_2, e34_3, e34_4, e34_6, e34_9, e34_10, e34_12, e34_14, e34_17, e34_18, e34_21, bI_s, bL_s, bV_s, rv_s1, nl_i, nl_a, nl_n, w8_0, w8_i, w8_a, w8_l, ct_i, ct_a, b01_0, b01_1, b01_b, kd_27, efit, ffI, nI_ltI (show k < 2 ^ 31 by omega) (show 0 < 2 ^ 31 by decide), Nat.not_lt_zero, if_false, Nat.succ_sub_one, Nat.add_sub_cancel]
end KEEP3
