/-! by, share -/
theorem nB_eq {a b : Nat} (ha : a < 2 ^ 30) (hb : b < 2 ^ 30) : (nB a = nB b) = (a = b) := by
  have k : ∀ v, v < 2 ^ 30 → ¬ nI v = iI (-1) := fun v hv w => by
    have := congrArg Int32.toInt w
    rw [nI_toInt (by omega), show (iI (-1)).toInt = -1 by decide] at this
    omega
  cases a with
  | zero =>
    cases b with
    | zero => simp
    | succ b => exact propext ⟨fun w => absurd w.symm (k b (by omega)), fun w => by omega⟩
  | succ a =>
    cases b with
    | zero => exact propext ⟨fun w => absurd w (k a (by omega)), fun w => by omega⟩
    | succ b =>
      rw [nB, nB, nI_eq (by omega) (by omega)]
      exact propext ⟨fun w => by omega, fun w => by omega⟩
theorem pc_ord : ∀ H, H < 5 → ∀ x, x < 2 ^ H → ∀ h, h < H → x.testBit h = false → pc x 6 + 1 ≤ H := by decide +kernel
theorem fct_24 : ∀ k, k < 5 → 1 ≤ fct k ∧ fct k ≤ 24 := by decide
def orf (H x : Nat) : Nat := fct (pc x 6) * fct (H - 1 - pc x 6)
/-- the share's sum -/
def shs (co s : Co) (h : Nat) : Nat → Int32
  | 0 => nI 0
  | n + 1 => if n.testBit h = true then shs co s h n else shs co s h n + (nI (Ck co s (co 0 3) (pu co s (n ||| 2 ^ h) (co 0 2))) - nI (Ck co s (co 0 3) (pu co s n (co 0 2)))) * nI (orf (co 0 2) n)
theorem sub_c (a b c : Nat) : nI (a + c) - nI (b + c) = nI a - nI b := by
  rw [nI_iI, nI_iI, nI_iI, nI_iI, iI_sub, iI_sub]
  congr 1
  omega
section BBY
variable {Z : Nat} {g : Gs} {sd : Int64} {c : Nat} {I J : ab_I} {R : ab_R} {L : ab_L}
theorem B_by (x y : Int32) : Both Z 78 161 [.int x, .int y] := by
  intro g sd hp
  have hw := hp.wf
  have h4 := hw.h4
  have h6 := hw.t6
  have h64 : 2 ^ g 0 0 3 ≤ 2 ^ 6 := Nat.pow_le_pow_right (by decide) h6
  have hT1 := Nat.two_pow_pos (g 0 0 3)
  cases hx : hasI x (2 ^ g 0 0 3) with
  | false =>
    refine Both.tell (v := .int (iI (-2))) hp (fun c I R L h => ?_) (fun I R L h => ?_)
    · have hc := h.cc
      have hs := set_I h6 x
      rw [n78]
      simp only [e78_0, e78_1, e78_2, e78_5, e78_8, e78_10, e78_11, e78_12, e78_15, e78_16, e78_19, e78_22, e78_23, e78_24, e78_25, e78_28, e78_29, e78_32, e78_33, e78_36, e78_37, e78_38, e78_41, e77_0, e77_1, e77_2, e77_5, e77_8, e77_9, e77_10, e77_11, e77_14, e77_15, e77_18, e77_19, n77, bI_s, bL_s, bV_s, rv_s1, nl_i, nl_a, nl_n, w8_0, w8_i, w8_a, w8_l, ct_i, ct_a, b01_0, b01_1, b01_b, kd_0, h.r3, kdC hc, s_allThings hc h.C hw, hs, hx, Bool.false_eq_true, if_false, if_true]
    · rw [n161]
      simp only [e161_0, e161_1, e161_2, e161_3, e161_4, e161_5, e161_8, e161_9, e161_10, e161_11, e161_12, e161_15, e161_18, e161_20, e161_21, e161_22, e161_23, e161_26, e161_29, e161_30, e161_31, e161_32, e161_33, e161_34, e161_36, e161_37, e161_40, e161_41, e161_44, e161_45, e161_46, e161_49, e161_50, e161_51, e161_54, e161_56, e161_57, e161_58, e161_60, e161_61, e161_65, e161_66, e161_69, e161_70, e161_73, e161_75, e161_76, e161_78, e161_81, e161_82, e161_85, e161_88, e161_90, e161_91, e161_92, e161_93, e161_94, e161_97, e161_100, e161_103, e161_104, e161_106, e161_109, e161_110, e161_111, e161_114, e161_117, e161_119, bI_s, bL_s, bV_s, rv_s1, nl_i, nl_a, nl_n, w8_0, w8_i, w8_a, w8_l, ct_i, ct_a, b01_0, b01_1, b01_b, kd_87, h.C.th, nI_1shl (show g 0 0 3 < 31 by omega), pk_sub (show 1 ≤ 2 ^ g 0 0 3 by omega), s_in, set_in h6, hx, Bool.toNat_false, if_true]
  | true =>
    obtain ⟨K, hK, rfl⟩ := hasI_t (by omega) hx
    have hs := set_I h6 (nI K)
    cases hy : hasI y (g 0 0 3) with
    | false =>
      refine Both.tell (v := .int (iI (-1))) hp (fun c I R L h => ?_) (fun I R L h => ?_)
      · have hc := h.cc
        rw [n78]
        simp only [e78_0, e78_1, e78_2, e78_5, e78_8, e78_10, e78_11, e78_12, e78_15, e78_16, e78_19, e78_22, e78_23, e78_24, e78_25, e78_28, e78_29, e78_32, e78_33, e78_36, e78_37, e78_38, e78_41, e77_0, e77_1, e77_2, e77_5, e77_8, e77_9, e77_10, e77_11, e77_14, e77_15, e77_18, e77_19, n77, bI_s, bL_s, bV_s, rv_s1, nl_i, nl_a, nl_n, w8_0, w8_i, w8_a, w8_l, ct_i, ct_a, b01_0, b01_1, b01_b, kd_0, h.r3, kdC hc, s_allThings hc h.C hw, hs, hx, if_true, nI10, if_false, s_hasThing hc h.C hw, hy, Bool.toNat_false]
      · rw [n161]
        simp only [e161_0, e161_1, e161_2, e161_3, e161_4, e161_5, e161_8, e161_9, e161_10, e161_11, e161_12, e161_15, e161_18, e161_20, e161_21, e161_22, e161_23, e161_26, e161_29, e161_30, e161_31, e161_32, e161_33, e161_34, e161_36, e161_37, e161_40, e161_41, e161_44, e161_45, e161_46, e161_49, e161_50, e161_51, e161_54, e161_56, e161_57, e161_58, e161_60, e161_61, e161_65, e161_66, e161_69, e161_70, e161_73, e161_75, e161_76, e161_78, e161_81, e161_82, e161_85, e161_88, e161_90, e161_91, e161_92, e161_93, e161_94, e161_97, e161_100, e161_103, e161_104, e161_106, e161_109, e161_110, e161_111, e161_114, e161_117, e161_119, bI_s, bL_s, bV_s, rv_s1, nl_i, nl_a, nl_n, w8_0, w8_i, w8_a, w8_l, ct_i, ct_a, b01_0, b01_1, b01_b, kd_87, h.C.th, nI_1shl (show g 0 0 3 < 31 by omega), pk_sub (show 1 ≤ 2 ^ g 0 0 3 by omega), s_in, set_in h6, hx, Bool.toNat_true, nI10, if_false, m_isThing h.C hw, hy, Bool.toNat_false, if_true]
    | true =>
      obtain ⟨a, ha, rfl⟩ := hasI_t (by omega) hy
      refine ⟨.int (if fe (g 0) (g 1) (wbt (wtn (g 0) (g 1) K (g 0 0 3))) (g 0 0 3) (ful (g 0) (g 1)) = true then nI (lwf (g 0) (g 1) (wbt (wtn (g 0) (g 1) K (g 0 0 3))) (g 0 0 3 - 1 - a) (ppf (g 0) (g 1) (wbt (wtn (g 0) (g 1) K (g 0 0 3))) a) - 1) else iI (-9)), g, sd, hp, fun c I R L h => ?_, fun I R L h => ?_⟩
      · have hc := h.cc
        have hF := h.F
        obtain ⟨J, e, o⟩ := k_firstWay (Z := Z) (L := L) hF hc IsS_19 h.kc hw hp.ws (K := K) (a := a) (by omega) ha
        refine ⟨c, J, R, L, ?_, h.kp o, o.fx, rfl⟩
        rw [n78]
        simp only [e78_0, e78_1, e78_2, e78_5, e78_8, e78_10, e78_11, e78_12, e78_15, e78_16, e78_19, e78_22, e78_23, e78_24, e78_25, e78_28, e78_29, e78_32, e78_33, e78_36, e78_37, e78_38, e78_41, e77_0, e77_1, e77_2, e77_5, e77_8, e77_9, e77_10, e77_11, e77_14, e77_15, e77_18, e77_19, n77, bI_s, bL_s, bV_s, rv_s1, nl_i, nl_a, nl_n, w8_0, w8_i, w8_a, w8_l, ct_i, ct_a, b01_0, b01_1, b01_b, hF.x0, hF.x2, hF.x5, hF.x6, hF.x7, hF.x10, hF.x12, hF.x13, hF.x15, hF.k0, hF.k1, hF.k2, hF.m4, hF.m5, hF.m6, hF.m7, hF.m8, hF.m9, hF.m10, hF.m16, hF.m17, hF.m18, hF.m19, hF.m20, hF.m21, hF.m22, hF.m23, hF.m29, hF.m30, hF.m35, hF.m37, hF.m38, hF.m40, hF.m41, hF.m43, hF.m44, hF.q0, hF.q1, kd_0, kd_2, kd_3, kd_11, kd_19, kd_22, kd_27, kd_87, al_1, al_4, al_5, al_6, al_7, al_8, al_9, al_10, al_12, al_13, al_14, al_15, al_16, al_17, al_18, al_20, al_21, al_23, al_24, al_28, al_29, al_30, al_31, al_32, al_1001, al_1002, ql_25, ql_26, Nat.reduceLT, h.r3, kdC hc, s_allThings hc h.C hw, hs, hx, if_true, nI10, if_false, s_hasThing hc h.C hw, hy, Bool.toNat_true, e]
      · have hF := h.F
        obtain ⟨J, e, o, hM, r⟩ := m_begin (Z := Z) hp h (cnt := false) (anew := false) (K := K) (who := 15) (by omega) (by decide)
        have e' : cl Z 149 [.ref 87, .int (nI 0), .int (nI K), .int (nI 15), .int (nI 0)] I R L = some (none, J, R, L) := e
        have el := m_leftNow (Z := Z) (L := L) hF hM hw hp.ws hp.wn (by decide)
        have es : s0f (g 1) false = g 1 := rfl
        have hW64 : otn (g 0) K (g 0 0 3) < 2 ^ 6 := otn_lt hw _ (Nat.le_refl _)
        have ep : pu (g 0) (g 1) 15 (g 0 0 2) = ful (g 0) (g 1) := pu_15 h4 _ (Nat.le_refl _)
        have hfl : ful (g 0) (g 1) < 625 := pu_625 hw _
        rw [es] at el r
        have hBf := Bm_f (s := g 1) hw (ot_tp (K := K) hw) (wt_ot (s := g 1) (K := K) hw)
        have hr := r (g 0 0 3) (Nat.le_refl _) (ful (g 0) (g 1)) hfl (fun n hn => by rw [ep]; exact Nat.le_refl _)
        rw [Nat.sub_self, Nat.mul_zero, Nat.zero_add, hBf _ (Nat.le_refl _)] at hr
        rw [ep] at el
        refine ⟨J, L, ?_, h.fb hp o, o.fm, rfl⟩
        have pre : cl Z 161 [.ref 87, .int (nI K), .int (nI a)] I R L = (if nI 0 ≤ nB (if fe (g 0) (g 1) (wbt (wtn (g 0) (g 1) K (g 0 0 3))) (g 0 0 3) (ful (g 0) (g 1)) = true then Dl (g 0) (g 1) (wbt (wtn (g 0) (g 1) K (g 0 0 3))) (g 0 0 3) + 1 else 0) then ex Z 0 0 161 63 [some (.ref 87), some (.int (nI K)), some (.int (nI a)), some (.int (nI (ful (g 0) (g 1)))), some (.int (nI 0)), some (.int (nI 0))] [] J R L else some (some (.int (iI (-9))), J, R, L)) := by
          rw [n161]
          simp only [e161_0, e161_1, e161_2, e161_3, e161_4, e161_5, e161_8, e161_9, e161_10, e161_11, e161_12, e161_15, e161_18, e161_20, e161_21, e161_22, e161_23, e161_26, e161_29, e161_30, e161_31, e161_32, e161_33, e161_34, e161_36, e161_37, e161_40, e161_41, e161_44, e161_45, e161_46, e161_49, e161_50, e161_51, e161_54, e161_56, e161_57, e161_58, e161_60, e161_61, e161_65, e161_66, e161_69, e161_70, e161_73, e161_75, e161_76, e161_78, e161_81, e161_82, e161_85, e161_88, e161_90, e161_91, e161_92, e161_93, e161_94, e161_97, e161_100, e161_103, e161_104, e161_106, e161_109, e161_110, e161_111, e161_114, e161_117, e161_119, bI_s, bL_s, bV_s, rv_s1, nl_i, nl_a, nl_n, w8_0, w8_i, w8_a, w8_l, ct_i, ct_a, b01_0, b01_1, b01_b, hF.m4, hF.m5, hF.m6, hF.m7, hF.m8, hF.m9, hF.m10, hF.m16, hF.m17, hF.m18, hF.m19, hF.m20, hF.m21, hF.m22, hF.m23, hF.m29, hF.m30, hF.m35, hF.m37, hF.m38, hF.m40, hF.m41, hF.m43, hF.m44, kd_87, al_88, al_89, al_90, al_91, al_92, al_93, al_94, al_95, al_96, al_97, al_98, al_99, al_100, al_101, al_102, al_103, al_104, al_105, al_106, al_108, al_111, zl_107, zl_109, zl_110, Nat.reduceLT, h.C.th, nI_1shl (show g 0 0 3 < 31 by omega), pk_sub (show 1 ≤ 2 ^ g 0 0 3 by omega), s_in, set_in h6, hx, Bool.toNat_true, nI10, if_false, m_isThing h.C hw, hy, e', el, ab_ixN (show ful (g 0) (g 1) < 4375 by omega) (show 4375 < 2 ^ 31 by decide), nI_clamp (show ful (g 0) (g 1) < 2 ^ 31 by omega), hr]
        rw [pre]
        have hDl : Dl (g 0) (g 1) (wbt (wtn (g 0) (g 1) K (g 0 0 3))) (g 0 0 3) < 2 ^ 30 := by
          have := Ds_le (co := g 0) (s := g 1) (wn := wbt (wtn (g 0) (g 1) K (g 0 0 3))) (g 0 0 3)
          rw [Dl_T]
          omega
        generalize hwn : wbt (wtn (g 0) (g 1) K (g 0 0 3)) = wn at *
        cases hfe : fe (g 0) (g 1) wn (g 0 0 3) (ful (g 0) (g 1)) with
        | false => simp only [Bool.false_eq_true, if_false, nB, show ¬ nI 0 ≤ iI (-1) by decide]
        | true =>
          simp only [if_true, nB, nI_leI (show 0 < 2 ^ 31 by decide) (show Dl (g 0) (g 1) wn (g 0 0 3) < 2 ^ 31 by omega), Nat.zero_le]
          have hBb := fun d q => Bm_b (cnt := false) (co := g 0) (s := g 1) hw (wm := wbt (otn (g 0) K (g 0 0 3))) d q
          have hcb := fun d t p x => chm_b (cnt := false) (co := g 0) (s := g 1) hw (wm := wbt (otn (g 0) K (g 0 0 3))) (rest := Bm false (g 0) (g 1) (wbt (otn (g 0) K (g 0 0 3))) d) (t := t) (p := p) (x := x) (fun q => hBb d q)
          have hwi : ∀ n, n ≤ g 0 0 3 → wiP (g 0) (g 1) 15 (ppf (g 0) (g 1) wn n) := by
            intro n
            induction n with
            | zero =>
              intro _ n hn
              rw [ep]
              exact Nat.le_refl _
            | succ n ih =>
              intro hn
              obtain ⟨k, hk16, hk, hfit⟩ := ppf_lw hw hfe (show n < g 0 0 3 by omega)
              rw [ppf, hk, Nat.add_sub_cancel]
              exact wiP_sub hk16 (ih (by omega)) hfit
          have inner : ∀ t, t ≤ a → ∀ y, ∃ k, k < 16 ∧ lwf (g 0) (g 1) wn (g 0 0 3 - 1 - t) (ppf (g 0) (g 1) wn t) = k + 1 ∧ prc k ≤ ppf (g 0) (g 1) wn t ∧ ex Z 0 0 161 63 [some (.ref 87), some (.int (nI K)), some (.int (nI a)), some (.int (nI (ppf (g 0) (g 1) wn t))), some (.int y), some (.int (nI t))] [] J R L = ex Z 0 0 161 63 [some (.ref 87), some (.int (nI K)), some (.int (nI a)), some (.int (nI (ppf (g 0) (g 1) wn t - prc k))), some (.int (nI k)), some (.int (nI (t + 1)))] [] J R L := by
            intro t ht y
            obtain ⟨k, hk16, hk, hfit⟩ := ppf_lw hw hfe (show t < g 0 0 3 by omega)
            have hpl := prc_le hk16 hfit
            have hpf : ppf (g 0) (g 1) wn t < 625 := Nat.lt_of_le_of_lt (ppf_le t) hfl
            have hwt := hwi t (by omega)
            obtain ⟨b1, b2, b3, b4, b5⟩ := by_f (s := g 1) hw (ot_tp (K := K) hw) (wt_ot (s := g 1) (K := K) hw) (d := g 0 0 3 - 1 - t) (p := ppf (g 0) (g 1) wn t) (k := k) (by omega) (by rw [hwn]; exact hk)
            rw [show g 0 0 3 - 1 - (g 0 0 3 - 1 - t) = t by omega] at b4 b5
            have hrow := r (g 0 0 3 - 1 - t + 1) (by omega) (ppf (g 0) (g 1) wn t) hpf hwt
            rw [show g 0 0 3 - (g 0 0 3 - 1 - t + 1) = t by omega] at hrow
            have ec : ∀ j, j < 16 → cl Z 155 [.ref 87, .int (nI t), .int (nI (ppf (g 0) (g 1) wn t)), .int (nI j)] J R L = some (some (.int (nB (chm false (g 0) (g 1) (wbt (otn (g 0) K (g 0 0 3))) (Bm false (g 0) (g 1) (wbt (otn (g 0) K (g 0 0 3))) (g 0 0 3 - 1 - t)) t (ppf (g 0) (g 1) wn t) j))), J, R, L) := fun j hj => m_choice (anew := false) (rest := Bm false (g 0) (g 1) (wbt (otn (g 0) K (g 0 0 3))) (g 0 0 3 - 1 - t)) hF hM hw hp.ws (by decide) (by omega) (by omega) hpf hj hwt (fun q => by have := hBb (g 0 0 3 - 1 - t) q; omega) (fun q hq hqi => by
              have := r (g 0 0 3 - 1 - t) (by omega) q hq hqi
              rw [show g 0 0 3 - (g 0 0 3 - 1 - t) = t + 1 by omega] at this
              exact this)
            have hb1 := hBb (g 0 0 3 - 1 - t + 1) (ppf (g 0) (g 1) wn t)
            refine ⟨k, hk16, hk, hpl, ?_⟩
            rw [e161_63]
            simp only [e161_0, e161_1, e161_2, e161_3, e161_4, e161_5, e161_8, e161_9, e161_10, e161_11, e161_12, e161_15, e161_18, e161_20, e161_21, e161_22, e161_23, e161_26, e161_29, e161_30, e161_31, e161_32, e161_33, e161_34, e161_36, e161_37, e161_40, e161_41, e161_44, e161_45, e161_46, e161_49, e161_50, e161_51, e161_54, e161_56, e161_57, e161_58, e161_60, e161_61, e161_65, e161_66, e161_69, e161_70, e161_73, e161_75, e161_76, e161_78, e161_81, e161_82, e161_85, e161_88, e161_90, e161_91, e161_92, e161_93, e161_94, e161_97, e161_100, e161_103, e161_104, e161_106, e161_109, e161_110, e161_111, e161_114, e161_117, e161_119, bI_s, bL_s, bV_s, rv_s1, nl_i, nl_a, nl_n, w8_0, w8_i, w8_a, w8_l, ct_i, ct_a, b01_0, b01_1, b01_b, nI_ltI (show a < 2 ^ 31 by omega) (show t < 2 ^ 31 by omega), show ¬ a < t by omega, if_false]
            refine loop_up (F := fun j => ex Z 0 0 161 72 [some (.ref 87), some (.int (nI K)), some (.int (nI a)), some (.int (nI (ppf (g 0) (g 1) wn t))), some (.int (nI j)), some (.int (nI t))] [] J R L) k (fun j hj => ?_) ?_ 0 (Nat.zero_le _)
            · have hcj := hcb (g 0 0 3 - 1 - t) t (ppf (g 0) (g 1) wn t) j
              rw [e161_72]
              simp only [e161_0, e161_1, e161_2, e161_3, e161_4, e161_5, e161_8, e161_9, e161_10, e161_11, e161_12, e161_15, e161_18, e161_20, e161_21, e161_22, e161_23, e161_26, e161_29, e161_30, e161_31, e161_32, e161_33, e161_34, e161_36, e161_37, e161_40, e161_41, e161_44, e161_45, e161_46, e161_49, e161_50, e161_51, e161_54, e161_56, e161_57, e161_58, e161_60, e161_61, e161_65, e161_66, e161_69, e161_70, e161_73, e161_75, e161_76, e161_78, e161_81, e161_82, e161_85, e161_88, e161_90, e161_91, e161_92, e161_93, e161_94, e161_97, e161_100, e161_103, e161_104, e161_106, e161_109, e161_110, e161_111, e161_114, e161_117, e161_119, bI_s, bL_s, bV_s, rv_s1, nl_i, nl_a, nl_n, w8_0, w8_i, w8_a, w8_l, ct_i, ct_a, b01_0, b01_1, b01_b, hF.m4, hF.m5, hF.m6, hF.m7, hF.m8, hF.m9, hF.m10, hF.m16, hF.m17, hF.m18, hF.m19, hF.m20, hF.m21, hF.m22, hF.m23, hF.m29, hF.m30, hF.m35, hF.m37, hF.m38, hF.m40, hF.m41, hF.m43, hF.m44, kd_87, al_88, al_89, al_90, al_91, al_92, al_93, al_94, al_95, al_96, al_97, al_98, al_99, al_100, al_101, al_102, al_103, al_104, al_105, al_106, al_108, al_111, zl_107, zl_109, zl_110, Nat.reduceLT, ec j (by omega), pk_mul, nI_add, ab_ixN (show 625 * t + ppf (g 0) (g 1) wn t < 4375 by omega) (show 4375 < 2 ^ 31 by decide), nI_clamp (show 625 * t + ppf (g 0) (g 1) wn t < 2 ^ 31 by omega), hrow, nB_eq (show chm false (g 0) (g 1) (wbt (otn (g 0) K (g 0 0 3))) (Bm false (g 0) (g 1) (wbt (otn (g 0) K (g 0 0 3))) (g 0 0 3 - 1 - t)) t (ppf (g 0) (g 1) wn t) j < 2 ^ 30 by omega) (show Bm false (g 0) (g 1) (wbt (otn (g 0) K (g 0 0 3))) (g 0 0 3 - 1 - t + 1) (ppf (g 0) (g 1) wn t) < 2 ^ 30 by omega), b5 j hj, if_false]
            · rw [e161_72]
              simp only [e161_0, e161_1, e161_2, e161_3, e161_4, e161_5, e161_8, e161_9, e161_10, e161_11, e161_12, e161_15, e161_18, e161_20, e161_21, e161_22, e161_23, e161_26, e161_29, e161_30, e161_31, e161_32, e161_33, e161_34, e161_36, e161_37, e161_40, e161_41, e161_44, e161_45, e161_46, e161_49, e161_50, e161_51, e161_54, e161_56, e161_57, e161_58, e161_60, e161_61, e161_65, e161_66, e161_69, e161_70, e161_73, e161_75, e161_76, e161_78, e161_81, e161_82, e161_85, e161_88, e161_90, e161_91, e161_92, e161_93, e161_94, e161_97, e161_100, e161_103, e161_104, e161_106, e161_109, e161_110, e161_111, e161_114, e161_117, e161_119, bI_s, bL_s, bV_s, rv_s1, nl_i, nl_a, nl_n, w8_0, w8_i, w8_a, w8_l, ct_i, ct_a, b01_0, b01_1, b01_b, hF.m4, hF.m5, hF.m6, hF.m7, hF.m8, hF.m9, hF.m10, hF.m16, hF.m17, hF.m18, hF.m19, hF.m20, hF.m21, hF.m22, hF.m23, hF.m29, hF.m30, hF.m35, hF.m37, hF.m38, hF.m40, hF.m41, hF.m43, hF.m44, kd_87, al_88, al_89, al_90, al_91, al_92, al_93, al_94, al_95, al_96, al_97, al_98, al_99, al_100, al_101, al_102, al_103, al_104, al_105, al_106, al_108, al_111, zl_107, zl_109, zl_110, Nat.reduceLT, ec k hk16, pk_mul, nI_add, ab_ixN (show 625 * t + ppf (g 0) (g 1) wn t < 4375 by omega) (show 4375 < 2 ^ 31 by decide), nI_clamp (show 625 * t + ppf (g 0) (g 1) wn t < 2 ^ 31 by omega), hrow, b4, if_true, m_lessBy hk16, pk_sub hpl]
          have key := loop_all (P := fun t => ∀ y, ex Z 0 0 161 63 [some (.ref 87), some (.int (nI K)), some (.int (nI a)), some (.int (nI (ppf (g 0) (g 1) wn t))), some (.int y), some (.int (nI t))] [] J R L = some (some (.int (nI (lwf (g 0) (g 1) wn (g 0 0 3 - 1 - a) (ppf (g 0) (g 1) wn a) - 1))), J, R, L)) a (fun t ht ih y => ?_) (fun y => ?_) 0 (Nat.zero_le _)
          · exact key _
          · obtain ⟨k, hk16, hk, hpl, e9⟩ := inner t (by omega) y
            have epp : ppf (g 0) (g 1) wn (t + 1) = ppf (g 0) (g 1) wn t - prc k := by rw [ppf, hk, Nat.add_sub_cancel]
            have ih2 := ih (nI k)
            rw [epp] at ih2
            exact e9.trans ih2
          · obtain ⟨k, hk16, hk, hpl, e9⟩ := inner a (Nat.le_refl _) y
            rw [e9, hk, Nat.add_sub_cancel, e161_63]
            simp only [e161_0, e161_1, e161_2, e161_3, e161_4, e161_5, e161_8, e161_9, e161_10, e161_11, e161_12, e161_15, e161_18, e161_20, e161_21, e161_22, e161_23, e161_26, e161_29, e161_30, e161_31, e161_32, e161_33, e161_34, e161_36, e161_37, e161_40, e161_41, e161_44, e161_45, e161_46, e161_49, e161_50, e161_51, e161_54, e161_56, e161_57, e161_58, e161_60, e161_61, e161_65, e161_66, e161_69, e161_70, e161_73, e161_75, e161_76, e161_78, e161_81, e161_82, e161_85, e161_88, e161_90, e161_91, e161_92, e161_93, e161_94, e161_97, e161_100, e161_103, e161_104, e161_106, e161_109, e161_110, e161_111, e161_114, e161_117, e161_119, bI_s, bL_s, bV_s, rv_s1, nl_i, nl_a, nl_n, w8_0, w8_i, w8_a, w8_l, ct_i, ct_a, b01_0, b01_1, b01_b, nI_ltI (show a < 2 ^ 31 by omega) (show a + 1 < 2 ^ 31 by omega), show a < a + 1 by omega, if_true]
end BBY
