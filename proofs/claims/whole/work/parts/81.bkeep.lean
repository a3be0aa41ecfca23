/-! toKeep, by, most -/
theorem set_I {T : Nat} (hT : T ≤ 6) (x : Int32) : (x &&& (nI (2 ^ T - 1) ^^^ iI (-1)) = nI 0) ↔ hasI x (2 ^ T) = true := by
  have h64 : 2 ^ T ≤ 2 ^ 6 := Nat.pow_le_pow_right (by decide) hT
  have h1 := Nat.two_pow_pos T
  by_cases hx : 0 ≤ x.toInt
  · obtain ⟨k, hk, rfl⟩ : ∃ k : Nat, k < 2 ^ 31 ∧ x = nI k := by
      have := x_rng x
      refine ⟨x.toInt.toNat, by omega, ?_⟩
      rw [nI_iI, show (x.toInt.toNat : Int) = x.toInt by omega]
      exact iI_of x
    have hlo : k ^^^ (k &&& (2 ^ T - 1)) < 2 ^ 31 := andn_lt hk
    rw [nI_andn, nI_eq hlo (by decide), hasI_nI hk, decide_eq_true_iff]
    constructor
    · intro w
      have : k &&& (2 ^ T - 1) ≤ 2 ^ T - 1 := Nat.and_le_right
      have e := xor_z w
      omega
    · intro w
      apply Nat.eq_of_testBit_eq
      intro j
      rw [andn_bit, Nat.zero_testBit, Nat.testBit_two_pow_sub_one]
      by_cases hj : j < T
      · rw [decide_eq_true hj]
        simp
      · rw [Nat.testBit_lt_two_pow (Nat.lt_of_lt_of_le w (Nat.pow_le_pow_right (by decide) (by omega)))]
        rfl
  · have hf : hasI x (2 ^ T) = false := decide_eq_false (fun w => hx w.1)
    rw [hf]
    refine ⟨fun w => ?_, fun w => (Bool.false_ne_true w).elim⟩
    exfalso
    rw [nI_m1] at w
    have e : (x &&& ~~~ nI (2 ^ T - 1)).toBitVec.getLsbD 31 = (nI 0).toBitVec.getLsbD 31 := by rw [w]
    have hm : x.toBitVec.getLsbD 31 = true := by
      have := BitVec.msb_eq_toInt (x := x.toBitVec)
      rw [BitVec.msb_eq_getLsbD_last] at this
      rw [show (32 - 1 : Nat) = 31 from rfl] at this
      rw [this]
      exact decide_eq_true (by show x.toInt < 0; omega)
    have hb : (nI (2 ^ T - 1)).toBitVec.getLsbD 31 = false := by
      show (BitVec.ofNat 32 (2 ^ T - 1)).getLsbD 31 = false
      rw [BitVec.getLsbD_ofNat, Nat.testBit_lt_two_pow (Nat.lt_of_lt_of_le (show 2 ^ T - 1 < 2 ^ 6 by omega) (by decide)), Bool.and_false]
    rw [Int32.toBitVec_and, Int32.toBitVec_not, BitVec.getLsbD_and, BitVec.getLsbD_not, hm, hb] at e
    exact absurd e (by decide)
theorem set_in {T : Nat} (hT : T ≤ 6) (x : Int32) : decide ((lN 0).toInt ≤ x.toInt64.toInt ∧ x.toInt64.toInt ≤ (nI (2 ^ T - 1)).toInt64.toInt) = hasI x (2 ^ T) := by
  have h64 : 2 ^ T ≤ 2 ^ 6 := Nat.pow_le_pow_right (by decide) hT
  have h1 := Nat.two_pow_pos T
  rw [lN0, Int32.toInt_toInt64, Int32.toInt_toInt64, nI_toInt (by omega), hasI]
  exact decide_eq_decide.mpr ⟨fun w => ⟨w.1, by omega⟩, fun w => ⟨w.1, by omega⟩⟩
theorem pu_15 {co s : Co} (h4 : co 0 2 ≤ 4) : ∀ n, n ≤ co 0 2 → pu co s 15 n = pu co s (2 ^ co 0 2 - 1) n
  | 0, _ => rfl
  | n + 1, h => by
    have e1 : (15 : Nat).testBit n = true := by
      have k : ∀ n, n < 4 → (15 : Nat).testBit n = true := by decide
      exact k n (by omega)
    have e2 : (2 ^ co 0 2 - 1).testBit n = true := by
      rw [Nat.testBit_two_pow_sub_one]
      exact decide_eq_true (by omega)
    rw [pu, pu, pu_15 h4 n (by omega), e1, e2]
theorem ot_tp {co : Co} (hw : WF co) {K : Nat} : ∀ t, wbt (otn co K (co 0 3)) t = true → tpf co t = true := fun t h => by
  obtain ⟨u, a, b, c⟩ := (otn_bit (co 0 3)).mp h
  rw [← c]
  exact tp_top hw a
theorem wt_ot {co s : Co} (hw : WF co) {K : Nat} : ∀ t, wbt (wtn co s K (co 0 3)) t = (wbt (otn co K (co 0 3)) t && !stayf co s t) := fun t => by
  have key : wbt (wtn co s K (co 0 3)) t = true ↔ (wbt (otn co K (co 0 3)) t && !stayf co s t) = true := by
    unfold wbt
    rw [wtn_bit, Bool.and_eq_true, otn_bit, Bool.not_eq_true']
    constructor
    · rintro ⟨u, a, b, c, d⟩
      have := stay_top (s := s) hw a
      rw [d] at this
      exact ⟨⟨u, a, b, d⟩, this.trans c⟩
    · rintro ⟨⟨u, a, b, d⟩, c⟩
      have := stay_top (s := s) hw a
      rw [d] at this
      exact ⟨u, a, b, this.symm.trans c, d⟩
  cases h1 : wbt (wtn co s K (co 0 3)) t <;> cases h2 : (wbt (otn co K (co 0 3)) t && !stayf co s t)
  · rfl
  · rw [h1, h2] at key
    exact absurd (key.mpr rfl) (by decide)
  · rw [h1, h2] at key
    exact absurd (key.mp rfl) (by decide)
  · rfl
def FB (I J : ab_I) : Prop := (∀ o, o ≠ 104 → o ≠ 87 → J o = I o) ∧ ∀ k, ¬ (31 ≤ k ∧ k ≤ 34) → J 87 k = I 87 k
theorem lkf_le {co s : Co} {t : Nat} : lkf co s t ≤ 2 := by
  unfold lkf
  split <;> omega
theorem Ds_le {co s : Co} {wn : Nat → Bool} : ∀ n, Ds co s wn n ≤ 2 * n
  | 0 => Nat.le_refl _
  | n + 1 => by
    have := Ds_le (co := co) (s := s) (wn := wn) n
    have := lkf_le (co := co) (s := s) (t := n)
    rw [Ds]
    split <;> omega
section BKEEP
variable {Z : Nat} {g : Gs} {sd : Int64} {c : Nat} {I J : ab_I} {R : ab_R} {L : ab_L}
theorem XX.kc (h : XX g sd c I R L) : KC I c 19 (g 0) (g 1) := ⟨⟨h.C, h.S⟩, fun _ hp => h.br hp, fun _ hk => h.pr hk⟩
theorem XX.kp (h : XX g sd c I R L) (o : OffK I J) : XX g sd c J R L := h.tri fun x _ _ _ a b d => o x d a b
theorem OffK.fx (o : OffK I J) : FX I J := fun x a b => o x (by omega) (by omega) (by omega)
theorem MM.fb (hp : PG g) (h : MM g sd I R L) (o : FB I J) : MM g sd J R L := h.tri (fun x _ a _ b => o.1 x a b) (fun k hk => o.2 k (by omega)) (fun j _ => by rw [o.1 94 (by decide) (by decide)]) hp.wf.t6
theorem FB.fm (o : FB I J) : FM I J := fun x hx => o.1 x (by omega) (by omega)
theorem m_begin (hp : PG g) (h : MM g sd I R L) {cnt anew : Bool} {K who : Nat} (hK : K < 2 ^ 31) (hwho : who < 16) : ∃ J, cl Z 149 [.ref 87, .int (nI cnt.toNat), .int (nI K), .int (nI who), .int (nI anew.toNat)] I R L = some (none, J, R, L) ∧ FB I J ∧ KM J (g 0) (g 1) cnt (otn (g 0) K (g 0 0 3)) who anew ∧ ∀ e, e ≤ g 0 0 3 → ∀ q, q < 625 → wiP (g 0) (s0f (g 1) anew) who q → J 104 (625 * (g 0 0 3 - e) + q) = nB (Bm cnt (g 0) (s0f (g 1) anew) (wbt (otn (g 0) K (g 0 0 3))) e q) := by
  have hF := h.F
  have hw := hp.wf
  have hW64 : otn (g 0) K (g 0 0 3) < 2 ^ 6 := otn_lt hw _ (Nat.le_refl _)
  generalize hJ0 : wI (wI (wI (wI I 87 32 (nI cnt.toNat)) 87 31 (nI (otn (g 0) K (g 0 0 3)))) 87 33 (nI who)) 87 34 (nI anew.toNat) = J0
  have o0 : FB I J0 := by
    rw [← hJ0]
    refine ⟨fun x a b => ?_, fun k hk => ?_⟩
    · funext j
      rw [wI_o b, wI_o b, wI_o b, wI_o b]
    · rw [wI_k (by omega), wI_k (by omega), wI_k (by omega), wI_k (by omega)]
  have h0 := h.fb hp o0
  have hM0 : KM J0 (g 0) (g 1) cnt (otn (g 0) K (g 0 0 3)) who anew := by
    refine ⟨⟨h0.C, h0.S⟩, ?_, ?_, ?_, ?_⟩ <;> rw [← hJ0] <;> simp [wI_app]
  have hC1 : MC (wI I 87 32 (nI cnt.toNat)) (g 0) := by
    have o1 : FB I (wI I 87 32 (nI cnt.toNat)) := ⟨fun x a b => by funext j; rw [wI_o b], fun k hk => by rw [wI_k (by omega)]⟩
    exact (h.fb hp o1).C
  obtain ⟨J, e, o, r⟩ := m_layBest (Z := Z) (L := L) hF hM0 hw hp.ws hp.wn hwho (by omega)
  refine ⟨J, ?_, ⟨fun x a b => (o x a).trans (o0.1 x a b), fun k hk => by rw [o 87 (by decide)]; exact o0.2 k hk⟩, hM0.off o, r⟩
  rw [n149]
  simp only [e149_0, e149_1, e149_2, e149_5, e149_6, e149_7, e149_8, e149_11, e149_14, e149_15, e149_16, e149_19, e149_20, e149_22, e149_25, e149_26, e149_29, bI_s, bL_s, bV_s, rv_s1, nl_i, nl_a, nl_n, w8_0, w8_i, w8_a, w8_l, ct_i, ct_a, b01_0, b01_1, b01_b, kd_87, m_outermostOf hF hC1 hw hK, hJ0, e]
theorem B_toKeep (x : Int32) : Both Z 76 148 [.int x] := by
  intro g sd hp
  have hw := hp.wf
  have h4 := hw.h4
  have h6 := hw.t6
  have h64 : 2 ^ g 0 0 3 ≤ 2 ^ 6 := Nat.pow_le_pow_right (by decide) h6
  have hT1 := Nat.two_pow_pos (g 0 0 3)
  cases hx : hasI x (2 ^ g 0 0 3) with
  | false =>
    refine Both.tell (v := .int (iI (-2))) hp (fun c I R L h => ?_) (fun I R L h => ?_)
    · have hc := h.cc
      have hs := set_I h6 x
      rw [n76]
      simp only [e76_0, e76_1, e76_2, e76_5, e76_8, e76_10, e76_11, e76_12, e76_15, e76_16, e76_19, e76_20, e76_23, e76_24, e76_27, e77_0, e77_1, e77_2, e77_5, e77_8, e77_9, e77_10, e77_11, e77_14, e77_15, e77_18, e77_19, n77, bI_s, bL_s, bV_s, rv_s1, nl_i, nl_a, nl_n, w8_0, w8_i, w8_a, w8_l, ct_i, ct_a, b01_0, b01_1, b01_b, kd_0, h.r3, kdC hc, s_allThings hc h.C hw, hs, hx, Bool.false_eq_true, if_false, if_true]
    · rw [n148]
      simp only [e148_0, e148_1, e148_2, e148_3, e148_4, e148_5, e148_8, e148_9, e148_10, e148_11, e148_12, e148_15, e148_18, e148_20, e148_21, e148_22, e148_23, e148_24, e148_26, e148_27, e148_30, e148_31, e148_34, e148_35, e148_38, e148_39, e148_40, e148_41, e148_44, e148_46, e148_49, e148_50, bI_s, bL_s, bV_s, rv_s1, nl_i, nl_a, nl_n, w8_0, w8_i, w8_a, w8_l, ct_i, ct_a, b01_0, b01_1, b01_b, kd_87, h.C.th, nI_1shl (show g 0 0 3 < 31 by omega), pk_sub (show 1 ≤ 2 ^ g 0 0 3 by omega), s_in, set_in h6, hx, Bool.toNat_false, if_true]
  | true =>
    obtain ⟨K, hK, rfl⟩ := hasI_t (by omega) hx
    refine ⟨.int (if fe (g 0) (g 1) (wbt (wtn (g 0) (g 1) K (g 0 0 3))) (g 0 0 3) (ful (g 0) (g 1)) = true then nI (Ds (g 0) (g 1) (wbt (wtn (g 0) (g 1) K (g 0 0 3))) (g 0 0 3)) else iI (-9)), g, sd, hp, fun c I R L h => ?_, fun I R L h => ?_⟩
    · have hc := h.cc
      have hF := h.F
      have hs := set_I h6 (nI K)
      obtain ⟨J, e, o⟩ := k_fewest (Z := Z) (L := L) hF hc IsS_19 h.kc hw hp.ws (K := K) (by omega)
      refine ⟨c, J, R, L, ?_, h.kp o, o.fx, rfl⟩
      rw [n76]
      simp only [e76_0, e76_1, e76_2, e76_5, e76_8, e76_10, e76_11, e76_12, e76_15, e76_16, e76_19, e76_20, e76_23, e76_24, e76_27, e77_0, e77_1, e77_2, e77_5, e77_8, e77_9, e77_10, e77_11, e77_14, e77_15, e77_18, e77_19, n77, bI_s, bL_s, bV_s, rv_s1, nl_i, nl_a, nl_n, w8_0, w8_i, w8_a, w8_l, ct_i, ct_a, b01_0, b01_1, b01_b, hF.x0, hF.x2, hF.x5, hF.x6, hF.x7, hF.x10, hF.x12, hF.x13, hF.x15, hF.k0, hF.k1, hF.k2, hF.m4, hF.m5, hF.m6, hF.m7, hF.m8, hF.m9, hF.m10, hF.m16, hF.m17, hF.m18, hF.m19, hF.m20, hF.m21, hF.m22, hF.m23, hF.m29, hF.m30, hF.m35, hF.m37, hF.m38, hF.m40, hF.m41, hF.m43, hF.m44, hF.q0, hF.q1, kd_0, kd_2, kd_3, kd_11, kd_19, kd_22, kd_27, kd_87, al_1, al_4, al_5, al_6, al_7, al_8, al_9, al_10, al_12, al_13, al_14, al_15, al_16, al_17, al_18, al_20, al_21, al_23, al_24, al_28, al_29, al_30, al_31, al_32, al_1001, al_1002, ql_25, ql_26, Nat.reduceLT, h.r3, kdC hc, s_allThings hc h.C hw, hs, hx, if_true, nI10, if_false, e]
    · have hF := h.F
      obtain ⟨J, e, o, hM, r⟩ := m_begin (Z := Z) hp h (cnt := false) (anew := false) (K := K) (who := 15) (by omega) (by decide)
      have e' : cl Z 149 [.ref 87, .int (nI 0), .int (nI K), .int (nI 15), .int (nI 0)] I R L = some (none, J, R, L) := e
      have el := m_leftNow (Z := Z) (L := L) hF hM hw hp.ws hp.wn (by decide)
      have es : s0f (g 1) false = g 1 := rfl
      rw [es] at el r
      have ep : pu (g 0) (g 1) 15 (g 0 0 2) = ful (g 0) (g 1) := pu_15 h4 _ (Nat.le_refl _)
      have hfl : ful (g 0) (g 1) < 625 := pu_625 hw _
      have hr := r (g 0 0 3) (Nat.le_refl _) (ful (g 0) (g 1)) hfl (fun n hn => by rw [ep]; exact Nat.le_refl _)
      rw [Nat.sub_self, Nat.mul_zero, Nat.zero_add, Bm_f hw (ot_tp hw) (wt_ot hw) _ (Nat.le_refl _), Dl_T] at hr
      rw [ep] at el
      have hds := Ds_le (co := g 0) (s := g 1) (wn := wbt (wtn (g 0) (g 1) K (g 0 0 3))) (g 0 0 3)
      refine ⟨J, L, ?_, h.fb hp o, o.fm, rfl⟩
      rw [n148]
      simp only [e148_0, e148_1, e148_2, e148_3, e148_4, e148_5, e148_8, e148_9, e148_10, e148_11, e148_12, e148_15, e148_18, e148_20, e148_21, e148_22, e148_23, e148_24, e148_26, e148_27, e148_30, e148_31, e148_34, e148_35, e148_38, e148_39, e148_40, e148_41, e148_44, e148_46, e148_49, e148_50, bI_s, bL_s, bV_s, rv_s1, nl_i, nl_a, nl_n, w8_0, w8_i, w8_a, w8_l, ct_i, ct_a, b01_0, b01_1, b01_b, hF.m4, hF.m5, hF.m6, hF.m7, hF.m8, hF.m9, hF.m10, hF.m16, hF.m17, hF.m18, hF.m19, hF.m20, hF.m21, hF.m22, hF.m23, hF.m29, hF.m30, hF.m35, hF.m37, hF.m38, hF.m40, hF.m41, hF.m43, hF.m44, kd_87, al_88, al_89, al_90, al_91, al_92, al_93, al_94, al_95, al_96, al_97, al_98, al_99, al_100, al_101, al_102, al_103, al_104, al_105, al_106, al_108, al_111, zl_107, zl_109, zl_110, Nat.reduceLT, h.C.th, nI_1shl (show g 0 0 3 < 31 by omega), pk_sub (show 1 ≤ 2 ^ g 0 0 3 by omega), s_in, set_in h6, hx, Bool.toNat_true, nI10, if_false, e', el, ab_ixN (show ful (g 0) (g 1) < 4375 by omega) (show 4375 < 2 ^ 31 by decide), nI_clamp (show ful (g 0) (g 1) < 2 ^ 31 by omega), hr]
      cases fe (g 0) (g 1) (wbt (wtn (g 0) (g 1) K (g 0 0 3))) (g 0 0 3) (ful (g 0) (g 1)) with
      | false => simp only [Bool.false_eq_true, if_false, nB, show ¬ nI 0 ≤ iI (-1) by decide]
      | true => simp only [if_true, nB, nI_leI (show 0 < 2 ^ 31 by decide) (show Ds (g 0) (g 1) (wbt (wtn (g 0) (g 1) K (g 0 0 3))) (g 0 0 3) < 2 ^ 31 by omega), Nat.zero_le]
theorem B_most : Both Z 79 162 [] := by
  intro g sd hp
  have hw := hp.wf
  have h4 := hw.h4
  have h6 := hw.t6
  have hH : 2 ^ g 0 0 2 ≤ 16 := Nat.pow_le_pow_right (n := 2) (by decide) h4
  have hH1 := Nat.two_pow_pos (g 0 0 2)
  refine ⟨.int (nI (sumw (g 0) (mk (stayf (g 0) (g 1)) (g 0 0 3)) (g 0 0 3) + Ck (g 0) (g 1) (g 0 0 3) (ful (g 0) (g 1)))), g, sd, hp, fun c I R L h => ?_, fun I R L h => ?_⟩
  · have hc := h.cc
    have hF := h.F
    obtain ⟨J, e, o, t⟩ := k_fillWorth (Z := Z) (L := L) hF hc IsS_19 h.kc hw hp.ws
    have hK := h.kc.off hc IsS_19 o
    have ew := k_worthBy (Z := Z) (L := L) hF hc IsS_19 hK hw hp.ws t (x := 2 ^ g 0 0 2 - 1) (by omega)
    have hml : mk (stayf (g 0) (g 1)) (g 0 0 3) < 2 ^ 31 := Nat.lt_of_lt_of_le (mk_lt _ _) (Nat.pow_le_pow_right (by decide) (by omega))
    refine ⟨c, J, R, L, ?_, h.kp o, o.fx, rfl⟩
    rw [n79]
    simp only [e79_0, e79_1, e79_4, e79_5, e79_8, e79_9, e79_12, e79_15, e79_16, e79_19, e79_20, e79_23, e79_24, e79_27, e79_30, e79_33, e79_34, e79_37, e79_38, e79_41, e79_42, e79_45, e79_46, e79_49, e79_52, e79_55, e79_56, bI_s, bL_s, bV_s, rv_s1, nl_i, nl_a, nl_n, w8_0, w8_i, w8_a, w8_l, ct_i, ct_a, b01_0, b01_1, b01_b, hF.x0, hF.x2, hF.x5, hF.x6, hF.x7, hF.x10, hF.x12, hF.x13, hF.x15, hF.k0, hF.k1, hF.k2, hF.m4, hF.m5, hF.m6, hF.m7, hF.m8, hF.m9, hF.m10, hF.m16, hF.m17, hF.m18, hF.m19, hF.m20, hF.m21, hF.m22, hF.m23, hF.m29, hF.m30, hF.m35, hF.m37, hF.m38, hF.m40, hF.m41, hF.m43, hF.m44, hF.q0, hF.q1, kd_0, kd_2, kd_3, kd_11, kd_19, kd_22, kd_27, kd_87, al_1, al_4, al_5, al_6, al_7, al_8, al_9, al_10, al_12, al_13, al_14, al_15, al_16, al_17, al_18, al_20, al_21, al_23, al_24, al_28, al_29, al_30, al_31, al_32, al_1001, al_1002, ql_25, ql_26, Nat.reduceLT, h.r3, kdC hc, e, s_staying hF hc IsS_19 hK.1.1 hK.1.2 hw hp.ws, s_worthOf hF hc hK.1.1 hw hml, s_allHouses hc hK.1.1 hw, ew, nI_add]
    rfl
  · have hF := h.F
    obtain ⟨J, e, o, hM, r⟩ := m_begin (Z := Z) hp h (cnt := true) (anew := false) (K := 0) (who := 15) (by decide) (by decide)
    have e' : cl Z 149 [.ref 87, .int (nI 1), .int (nI 0), .int (nI 15), .int (nI 0)] I R L = some (none, J, R, L) := e
    have el := m_leftNow (Z := Z) (L := L) hF hM hw hp.ws hp.wn (by decide)
    have es : s0f (g 1) false = g 1 := rfl
    rw [es] at el r
    have ep : pu (g 0) (g 1) 15 (g 0 0 2) = ful (g 0) (g 1) := pu_15 h4 _ (Nat.le_refl _)
    have hfl : ful (g 0) (g 1) < 625 := pu_625 hw _
    have hr := r (g 0 0 3) (Nat.le_refl _) (ful (g 0) (g 1)) hfl (fun n hn => by rw [ep]; exact Nat.le_refl _)
    rw [Nat.sub_self, Nat.mul_zero, Nat.zero_add, Bm_t hw _ (Nat.le_refl _), Mv_k, Sk_w hw] at hr
    rw [ep] at el
    refine ⟨J, L, ?_, h.fb hp o, o.fm, rfl⟩
    rw [n162]
    simp only [e162_0, e162_1, e162_3, e162_4, e162_7, e163_0, e163_1, e163_2, e163_3, e163_4, e163_5, e163_8, e163_9, e163_12, e163_13, e163_16, e163_17, n163, bI_s, bL_s, bV_s, rv_s1, nl_i, nl_a, nl_n, w8_0, w8_i, w8_a, w8_l, ct_i, ct_a, b01_0, b01_1, b01_b, hF.m4, hF.m5, hF.m6, hF.m7, hF.m8, hF.m9, hF.m10, hF.m16, hF.m17, hF.m18, hF.m19, hF.m20, hF.m21, hF.m22, hF.m23, hF.m29, hF.m30, hF.m35, hF.m37, hF.m38, hF.m40, hF.m41, hF.m43, hF.m44, kd_87, al_88, al_89, al_90, al_91, al_92, al_93, al_94, al_95, al_96, al_97, al_98, al_99, al_100, al_101, al_102, al_103, al_104, al_105, al_106, al_108, al_111, zl_107, zl_109, zl_110, Nat.reduceLT, e', el, ab_ixN (show ful (g 0) (g 1) < 4375 by omega) (show 4375 < 2 ^ 31 by decide), nI_clamp (show ful (g 0) (g 1) < 2 ^ 31 by omega), hr, nB]
    rw [Nat.add_comm]
end BKEEP
