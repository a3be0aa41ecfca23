/-! the reference reads -/
def MR (I : ab_I) (co : Co) : Prop :=
  (I 87 11 = nI (co 0 0) ∧ I 87 12 = nI (co 0 1) ∧ I 87 13 = nI (co 0 2) ∧ I 87 14 = nI (co 0 3) ∧ I 87 15 = nI (co 0 4)) ∧
  (∀ h, h < co 0 2 → I 95 h = nI (co 1 h)) ∧ (∀ h, h < co 0 2 → I 96 h = nI (co 2 h)) ∧
  (∀ t, t < co 0 3 → I 97 t = nI (co 3 t)) ∧ (∀ t, t < co 0 3 → I 98 t = nI (co 4 t)) ∧ (∀ t, t < co 0 3 → I 99 t = nI (co 5 t)) ∧ (∀ t, t < co 0 3 → I 100 t = nN (co 6 t)) ∧ (∀ t, t < co 0 3 → I 101 t = nN (co 7 t))
def TXm (I : ab_I) (tx : Nat → Nat) (n : Nat) : Prop := (n ≤ 56 ∧ ∀ i, i < n → tx i ≤ 255) ∧ I 87 24 = nI n ∧ ∀ i, i < n → I 102 i = nI (tx i)
def Fg (I J : ab_I) : Prop := (∀ o, o ≠ 87 → J o = I o) ∧ ∀ k, k ≠ 25 → k ≠ 26 → J 87 k = I 87 k
def OffR (I J : ab_I) : Prop := (∀ o, o ≠ 87 → ¬ (95 ≤ o ∧ o ≤ 101) → J o = I o) ∧ ∀ k, ¬ (11 ≤ k ∧ k ≤ 15) → k ≠ 25 → k ≠ 26 → J 87 k = I 87 k
theorem OffR.tr {I J K : ab_I} (h1 : OffR I J) (h2 : OffR J K) : OffR I K := ⟨fun o a b => (h2.1 o a b).trans (h1.1 o a b), fun k a b c => (h2.2 k a b c).trans (h1.2 k a b c)⟩
theorem OffR.rf {I : ab_I} : OffR I I := ⟨fun _ _ _ => rfl, fun _ _ _ _ => rfl⟩
theorem Fg.r {I J : ab_I} (h : Fg I J) : OffR I J := ⟨fun o a _ => h.1 o a, fun k _ b c => h.2 k b c⟩
theorem OffR.w {I : ab_I} {o k : Nat} {v : Int32} (h : (95 ≤ o ∧ o ≤ 101) ∨ (o = 87 ∧ ((11 ≤ k ∧ k ≤ 15) ∨ k = 25 ∨ k = 26))) : OffR I (wI I o k v) := by
  refine ⟨fun p a b => ?_, fun j a b c => ?_⟩
  · funext j
    rw [wI_o (by omega)]
  · by_cases ho : o = 87
    · subst ho
      rw [wI_k (by omega)]
    · rw [wI_o (fun w => ho w.symm)]
theorem TXm.off {I J : ab_I} {tx : Nat → Nat} {n : Nat} (h : TXm I tx n) (o : OffR I J) : TXm J tx n := by
  refine ⟨h.1, ?_, fun i hi => ?_⟩
  · rw [o.2 24 (by decide) (by decide) (by decide)]
    exact h.2.1
  · rw [o.1 102 (by decide) (by decide)]
    exact h.2.2 i hi
theorem MR.fg {I J : ab_I} {co : Co} (h : MR I co) (f : Fg I J) : MR J co := by
  unfold MR
  rw [f.2 11 (by decide) (by decide), f.2 12 (by decide) (by decide), f.2 13 (by decide) (by decide), f.2 14 (by decide) (by decide), f.2 15 (by decide) (by decide), f.1 95 (by decide), f.1 96 (by decide), f.1 97 (by decide), f.1 98 (by decide), f.1 99 (by decide), f.1 100 (by decide), f.1 101 (by decide)]
  exact h
theorem fin_in {tx : Nat → Nat} {n p lo hi : Nat} {x : Int32} (hlo : lo ≤ 1) (hx : x.toInt = (hi : Int) - 1) (hp : p < n) (ht : tx p ≤ 255) : decide ((nI lo).toInt64.toInt ≤ (nI (tx p) - nI 48).toInt64.toInt ∧ (nI (tx p) - nI 48).toInt64.toInt ≤ x.toInt64.toInt) = fin tx n p lo hi := by
  rw [Int32.toInt_toInt64, Int32.toInt_toInt64, Int32.toInt_toInt64, pk_sub_toInt (show tx p < 2 ^ 30 by omega) (show 48 < 2 ^ 30 by decide), nI_toInt (show lo < 2 ^ 31 by omega), hx]
  exact decide_eq_decide.mpr ⟨fun w => ⟨hp, by omega, by omega⟩, fun w => ⟨by omega, by omega⟩⟩
theorem fin_9 {lo : Nat} {x : Int32} (hlo : lo ≤ 1) : decide ((nI lo).toInt64.toInt ≤ (iI (-9)).toInt64.toInt ∧ (iI (-9)).toInt64.toInt ≤ x.toInt64.toInt) = false := by
  rw [Int32.toInt_toInt64, Int32.toInt_toInt64, nI_toInt (show lo < 2 ^ 31 by omega), show (iI (-9)).toInt = -9 by decide]
  exact decide_eq_false (by omega)
theorem fin_o {tx : Nat → Nat} {n p lo hi : Nat} (hp : ¬ p < n) : fin tx n p lo hi = false := decide_eq_false (fun w => hp w.1)
theorem f9_n {p : Nat} (hp : p ≤ 60) : (nI p = iI (-9)) = False := nI_9 (by omega)
section MREAD
variable {Z n p : Nat} {co : Co} {tx : Nat → Nat} {I : ab_I} {R : ab_R} {L : ab_L}
theorem m_fig (hF : Fx R) (hT : TXm I tx n) (h26 : I 87 26 = iI (-9)) (h25 : I 87 25 = nI p) (hp : p ≤ n) {lo hi : Nat} {x : Int32} (hlo : lo ≤ 1) (hx : x.toInt = (hi : Int) - 1) : ∃ J v, cl Z 112 [.ref 87, .int (nI lo), .int x] I R L = some (some (.int v), J, R, L) ∧ Fg I J ∧ ((fin tx n p lo hi = true ∧ v = nI (tx p - 48) ∧ J 87 26 = iI (-9) ∧ J 87 25 = nI (p + 1)) ∨ (fin tx n p lo hi = false ∧ v = nI lo ∧ J 87 26 = nI p)) := by
  obtain ⟨⟨h56, h255⟩, h24, htx⟩ := hT
  by_cases hpn : p < n
  · have ht := h255 p hpn
    have hi9 := fin_in (tx := tx) (n := n) (p := p) (lo := lo) (hi := hi) (x := x) hlo hx hpn ht
    cases hf : fin tx n p lo hi with
    | true =>
      have h48 := of_decide_eq_true hf
      refine ⟨wI I 87 25 (nI (p + 1)), nI (tx p - 48), ?_, ⟨fun o ho => by funext j; rw [wI_o ho], fun k a b => wI_k a⟩, Or.inl ⟨rfl, rfl, by rw [wI_k (by decide), h26], wI_self _ _ _ _⟩⟩
      rw [hf, pk_sub (show 48 ≤ tx p by omega)] at hi9
      rw [n112]
      simp only [e112_0, e112_1, e112_4, e112_6, e112_9, e112_10, e112_13, e112_14, e112_17, e112_20, e112_21, e112_24, e112_25, e112_28, e112_29, e112_31, e112_32, e112_35, e112_37, e112_38, e112_39, e112_40, e112_41, e112_42, e112_43, e112_44, e112_47, e112_50, e112_51, e112_52, e112_55, e112_57, e112_60, e112_61, e112_64, e112_67, e112_68, e112_71, e112_74, e112_75, e112_76, e112_77, e112_78, e112_81, e112_82, e112_83, e112_86, e112_87, bI_s, bL_s, bV_s, rv_s1, nl_i, nl_a, nl_n, w8_0, w8_i, w8_a, w8_l, ct_i, ct_a, b01_0, b01_1, b01_b, hF.m4, hF.m5, hF.m6, hF.m7, hF.m8, hF.m9, hF.m10, hF.m16, hF.m17, hF.m18, hF.m19, hF.m20, hF.m21, hF.m22, hF.m23, hF.m29, hF.m30, hF.m35, hF.m37, hF.m38, hF.m40, hF.m41, hF.m43, hF.m44, kd_87, al_88, al_89, al_90, al_91, al_92, al_93, al_94, al_95, al_96, al_97, al_98, al_99, al_100, al_101, al_102, al_103, al_104, al_105, al_106, al_108, al_111, zl_107, zl_109, zl_110, Nat.reduceLT, h26, if_true, h25, h24, nI_leI (show n < 2 ^ 31 by omega) (show p < 2 ^ 31 by omega), show ¬ n ≤ p by omega, if_false, ab_ixN (show p < 56 by omega) (show 56 < 2 ^ 31 by decide), nI_clamp (show p < 2 ^ 31 by omega), htx p hpn, pk_sub (show 48 ≤ tx p by omega), s_in, hi9, Bool.toNat_true, nI10, nI_add]
    | false =>
      refine ⟨wI I 87 26 (nI p), nI lo, ?_, ⟨fun o ho => by funext j; rw [wI_o ho], fun k a b => wI_k b⟩, Or.inr ⟨rfl, rfl, wI_self _ _ _ _⟩⟩
      rw [hf] at hi9
      rw [n112]
      simp only [e112_0, e112_1, e112_4, e112_6, e112_9, e112_10, e112_13, e112_14, e112_17, e112_20, e112_21, e112_24, e112_25, e112_28, e112_29, e112_31, e112_32, e112_35, e112_37, e112_38, e112_39, e112_40, e112_41, e112_42, e112_43, e112_44, e112_47, e112_50, e112_51, e112_52, e112_55, e112_57, e112_60, e112_61, e112_64, e112_67, e112_68, e112_71, e112_74, e112_75, e112_76, e112_77, e112_78, e112_81, e112_82, e112_83, e112_86, e112_87, bI_s, bL_s, bV_s, rv_s1, nl_i, nl_a, nl_n, w8_0, w8_i, w8_a, w8_l, ct_i, ct_a, b01_0, b01_1, b01_b, hF.m4, hF.m5, hF.m6, hF.m7, hF.m8, hF.m9, hF.m10, hF.m16, hF.m17, hF.m18, hF.m19, hF.m20, hF.m21, hF.m22, hF.m23, hF.m29, hF.m30, hF.m35, hF.m37, hF.m38, hF.m40, hF.m41, hF.m43, hF.m44, kd_87, al_88, al_89, al_90, al_91, al_92, al_93, al_94, al_95, al_96, al_97, al_98, al_99, al_100, al_101, al_102, al_103, al_104, al_105, al_106, al_108, al_111, zl_107, zl_109, zl_110, Nat.reduceLT, h26, if_true, h25, h24, nI_leI (show n < 2 ^ 31 by omega) (show p < 2 ^ 31 by omega), show ¬ n ≤ p by omega, if_false, ab_ixN (show p < 56 by omega) (show 56 < 2 ^ 31 by decide), nI_clamp (show p < 2 ^ 31 by omega), htx p hpn, s_in, hi9, Bool.toNat_false, wI_app]
  · refine ⟨wI I 87 26 (nI p), nI lo, ?_, ⟨fun o ho => by funext j; rw [wI_o ho], fun k a b => wI_k b⟩, Or.inr ⟨fin_o hpn, rfl, wI_self _ _ _ _⟩⟩
    rw [n112]
    simp only [e112_0, e112_1, e112_4, e112_6, e112_9, e112_10, e112_13, e112_14, e112_17, e112_20, e112_21, e112_24, e112_25, e112_28, e112_29, e112_31, e112_32, e112_35, e112_37, e112_38, e112_39, e112_40, e112_41, e112_42, e112_43, e112_44, e112_47, e112_50, e112_51, e112_52, e112_55, e112_57, e112_60, e112_61, e112_64, e112_67, e112_68, e112_71, e112_74, e112_75, e112_76, e112_77, e112_78, e112_81, e112_82, e112_83, e112_86, e112_87, bI_s, bL_s, bV_s, rv_s1, nl_i, nl_a, nl_n, w8_0, w8_i, w8_a, w8_l, ct_i, ct_a, b01_0, b01_1, b01_b, hF.m4, hF.m5, hF.m6, hF.m7, hF.m8, hF.m9, hF.m10, hF.m16, hF.m17, hF.m18, hF.m19, hF.m20, hF.m21, hF.m22, hF.m23, hF.m29, hF.m30, hF.m35, hF.m37, hF.m38, hF.m40, hF.m41, hF.m43, hF.m44, kd_87, al_88, al_89, al_90, al_91, al_92, al_93, al_94, al_95, al_96, al_97, al_98, al_99, al_100, al_101, al_102, al_103, al_104, al_105, al_106, al_108, al_111, zl_107, zl_109, zl_110, Nat.reduceLT, h26, if_true, h25, h24, nI_leI (show n < 2 ^ 31 by omega) (show p < 2 ^ 31 by omega), show n ≤ p by omega, s_in, fin_9 hlo, Bool.toNat_false, wI_app]
theorem m_figF {f : Nat} (h26 : I 87 26 = nI f) (hf : f ≤ 60) {lo : Nat} {x : Int32} (hlo : lo ≤ 1) : cl Z 112 [.ref 87, .int (nI lo), .int x] I R L = some (some (.int (nI lo)), I, R, L) := by
  rw [n112]
  simp only [e112_0, e112_1, e112_4, e112_6, e112_9, e112_10, e112_13, e112_14, e112_17, e112_20, e112_21, e112_24, e112_25, e112_28, e112_29, e112_31, e112_32, e112_35, e112_37, e112_38, e112_39, e112_40, e112_41, e112_42, e112_43, e112_44, e112_47, e112_50, e112_51, e112_52, e112_55, e112_57, e112_60, e112_61, e112_64, e112_67, e112_68, e112_71, e112_74, e112_75, e112_76, e112_77, e112_78, e112_81, e112_82, e112_83, e112_86, e112_87, bI_s, bL_s, bV_s, rv_s1, nl_i, nl_a, nl_n, w8_0, w8_i, w8_a, w8_l, ct_i, ct_a, b01_0, b01_1, b01_b, kd_87, h26, f9_n hf, if_false, s_in, fin_9 hlo, Bool.toNat_false, if_true, wI_id h26]
theorem m_figO (hF : Fx R) (hT : TXm I tx n) (h26 : I 87 26 = iI (-9)) (h25 : I 87 25 = nI p) (hp : p ≤ n) {s : Nat} (hs : s < 2 ^ 31) : ∃ J v, cl Z 116 [.ref 87, .int (nI s)] I R L = some (some (.int v), J, R, L) ∧ Fg I J ∧ (((fin tx n p 0 10 = true ∧ s.testBit (tx p - 48) = true) ∧ v = nI (tx p - 48) ∧ J 87 26 = iI (-9) ∧ J 87 25 = nI (p + 1)) ∨ (¬ (fin tx n p 0 10 = true ∧ s.testBit (tx p - 48) = true) ∧ v = nI 0 ∧ J 87 26 = nI p)) := by
  obtain ⟨⟨h56, h255⟩, h24, htx⟩ := hT
  have e9 : (nI 9).toInt = ((10 : Nat) : Int) - 1 := by decide
  have l0 : (nI 0).toInt64 = lN 0 := by decide
  have l9 : (nI 9).toInt64 = lN 9 := by decide
  have n9 := fin_9 (lo := 0) (x := nI 9) (by decide)
  rw [l0, l9] at n9
  by_cases hpn : p < n
  · have ht := h255 p hpn
    have hi9 := fin_in (tx := tx) (n := n) (p := p) (lo := 0) (hi := 10) (x := nI 9) (by decide) e9 hpn ht
    rw [l0, l9] at hi9
    cases hf : fin tx n p 0 10 with
    | true =>
      have h48 := of_decide_eq_true hf
      rw [hf, pk_sub (show 48 ≤ tx p by omega)] at hi9
      cases hb : s.testBit (tx p - 48) with
      | true =>
        refine ⟨wI I 87 25 (nI (p + 1)), nI (tx p - 48), ?_, ⟨fun o ho => by funext j; rw [wI_o ho], fun k a b => wI_k a⟩, Or.inl ⟨⟨rfl, rfl⟩, rfl, by rw [wI_k (by decide), h26], wI_self _ _ _ _⟩⟩
        rw [n116]
        simp only [e116_0, e116_1, e116_4, e116_6, e116_9, e116_10, e116_13, e116_14, e116_17, e116_20, e116_21, e116_24, e116_25, e116_28, e116_29, e116_31, e116_32, e116_35, e116_37, e116_38, e116_39, e116_40, e116_41, e116_44, e116_47, e116_50, e116_51, e116_52, e116_55, e116_58, e116_59, e116_60, e116_63, e116_65, e116_68, e116_69, e116_72, e116_75, e116_76, e116_79, e116_82, e116_83, e116_84, e116_85, e116_86, e116_89, e116_90, e116_91, e116_94, e116_95, bI_s, bL_s, bV_s, rv_s1, nl_i, nl_a, nl_n, w8_0, w8_i, w8_a, w8_l, ct_i, ct_a, b01_0, b01_1, b01_b, hF.m4, hF.m5, hF.m6, hF.m7, hF.m8, hF.m9, hF.m10, hF.m16, hF.m17, hF.m18, hF.m19, hF.m20, hF.m21, hF.m22, hF.m23, hF.m29, hF.m30, hF.m35, hF.m37, hF.m38, hF.m40, hF.m41, hF.m43, hF.m44, kd_87, al_88, al_89, al_90, al_91, al_92, al_93, al_94, al_95, al_96, al_97, al_98, al_99, al_100, al_101, al_102, al_103, al_104, al_105, al_106, al_108, al_111, zl_107, zl_109, zl_110, Nat.reduceLT, h26, if_true, h25, h24, nI_leI (show n < 2 ^ 31 by omega) (show p < 2 ^ 31 by omega), show ¬ n ≤ p by omega, if_false, ab_ixN (show p < 56 by omega) (show 56 < 2 ^ 31 by decide), nI_clamp (show p < 2 ^ 31 by omega), htx p hpn, pk_sub (show 48 ≤ tx p by omega), s_in, hi9, Bool.toNat_true, nI10, s_has hs (show tx p - 48 < 31 by omega), hb, nI_add]
      | false =>
        refine ⟨wI I 87 26 (nI p), nI 0, ?_, ⟨fun o ho => by funext j; rw [wI_o ho], fun k a b => wI_k b⟩, Or.inr ⟨fun w => Bool.false_ne_true w.2, rfl, wI_self _ _ _ _⟩⟩
        rw [n116]
        simp only [e116_0, e116_1, e116_4, e116_6, e116_9, e116_10, e116_13, e116_14, e116_17, e116_20, e116_21, e116_24, e116_25, e116_28, e116_29, e116_31, e116_32, e116_35, e116_37, e116_38, e116_39, e116_40, e116_41, e116_44, e116_47, e116_50, e116_51, e116_52, e116_55, e116_58, e116_59, e116_60, e116_63, e116_65, e116_68, e116_69, e116_72, e116_75, e116_76, e116_79, e116_82, e116_83, e116_84, e116_85, e116_86, e116_89, e116_90, e116_91, e116_94, e116_95, bI_s, bL_s, bV_s, rv_s1, nl_i, nl_a, nl_n, w8_0, w8_i, w8_a, w8_l, ct_i, ct_a, b01_0, b01_1, b01_b, hF.m4, hF.m5, hF.m6, hF.m7, hF.m8, hF.m9, hF.m10, hF.m16, hF.m17, hF.m18, hF.m19, hF.m20, hF.m21, hF.m22, hF.m23, hF.m29, hF.m30, hF.m35, hF.m37, hF.m38, hF.m40, hF.m41, hF.m43, hF.m44, kd_87, al_88, al_89, al_90, al_91, al_92, al_93, al_94, al_95, al_96, al_97, al_98, al_99, al_100, al_101, al_102, al_103, al_104, al_105, al_106, al_108, al_111, zl_107, zl_109, zl_110, Nat.reduceLT, h26, if_true, h25, h24, nI_leI (show n < 2 ^ 31 by omega) (show p < 2 ^ 31 by omega), show ¬ n ≤ p by omega, if_false, ab_ixN (show p < 56 by omega) (show 56 < 2 ^ 31 by decide), nI_clamp (show p < 2 ^ 31 by omega), htx p hpn, pk_sub (show 48 ≤ tx p by omega), s_in, hi9, Bool.toNat_true, nI10, s_has hs (show tx p - 48 < 31 by omega), hb, Bool.toNat_false, wI_app]
    | false =>
      refine ⟨wI I 87 26 (nI p), nI 0, ?_, ⟨fun o ho => by funext j; rw [wI_o ho], fun k a b => wI_k b⟩, Or.inr ⟨fun w => Bool.false_ne_true w.1, rfl, wI_self _ _ _ _⟩⟩
      rw [hf] at hi9
      rw [n116]
      simp only [e116_0, e116_1, e116_4, e116_6, e116_9, e116_10, e116_13, e116_14, e116_17, e116_20, e116_21, e116_24, e116_25, e116_28, e116_29, e116_31, e116_32, e116_35, e116_37, e116_38, e116_39, e116_40, e116_41, e116_44, e116_47, e116_50, e116_51, e116_52, e116_55, e116_58, e116_59, e116_60, e116_63, e116_65, e116_68, e116_69, e116_72, e116_75, e116_76, e116_79, e116_82, e116_83, e116_84, e116_85, e116_86, e116_89, e116_90, e116_91, e116_94, e116_95, bI_s, bL_s, bV_s, rv_s1, nl_i, nl_a, nl_n, w8_0, w8_i, w8_a, w8_l, ct_i, ct_a, b01_0, b01_1, b01_b, hF.m4, hF.m5, hF.m6, hF.m7, hF.m8, hF.m9, hF.m10, hF.m16, hF.m17, hF.m18, hF.m19, hF.m20, hF.m21, hF.m22, hF.m23, hF.m29, hF.m30, hF.m35, hF.m37, hF.m38, hF.m40, hF.m41, hF.m43, hF.m44, kd_87, al_88, al_89, al_90, al_91, al_92, al_93, al_94, al_95, al_96, al_97, al_98, al_99, al_100, al_101, al_102, al_103, al_104, al_105, al_106, al_108, al_111, zl_107, zl_109, zl_110, Nat.reduceLT, h26, if_true, h25, h24, nI_leI (show n < 2 ^ 31 by omega) (show p < 2 ^ 31 by omega), show ¬ n ≤ p by omega, if_false, ab_ixN (show p < 56 by omega) (show 56 < 2 ^ 31 by decide), nI_clamp (show p < 2 ^ 31 by omega), htx p hpn, s_in, hi9, Bool.toNat_false, wI_app]
  · refine ⟨wI I 87 26 (nI p), nI 0, ?_, ⟨fun o ho => by funext j; rw [wI_o ho], fun k a b => wI_k b⟩, Or.inr ⟨fun w => by rw [fin_o hpn] at w; exact Bool.false_ne_true w.1, rfl, wI_self _ _ _ _⟩⟩
    rw [n116]
    simp only [e116_0, e116_1, e116_4, e116_6, e116_9, e116_10, e116_13, e116_14, e116_17, e116_20, e116_21, e116_24, e116_25, e116_28, e116_29, e116_31, e116_32, e116_35, e116_37, e116_38, e116_39, e116_40, e116_41, e116_44, e116_47, e116_50, e116_51, e116_52, e116_55, e116_58, e116_59, e116_60, e116_63, e116_65, e116_68, e116_69, e116_72, e116_75, e116_76, e116_79, e116_82, e116_83, e116_84, e116_85, e116_86, e116_89, e116_90, e116_91, e116_94, e116_95, bI_s, bL_s, bV_s, rv_s1, nl_i, nl_a, nl_n, w8_0, w8_i, w8_a, w8_l, ct_i, ct_a, b01_0, b01_1, b01_b, hF.m4, hF.m5, hF.m6, hF.m7, hF.m8, hF.m9, hF.m10, hF.m16, hF.m17, hF.m18, hF.m19, hF.m20, hF.m21, hF.m22, hF.m23, hF.m29, hF.m30, hF.m35, hF.m37, hF.m38, hF.m40, hF.m41, hF.m43, hF.m44, kd_87, al_88, al_89, al_90, al_91, al_92, al_93, al_94, al_95, al_96, al_97, al_98, al_99, al_100, al_101, al_102, al_103, al_104, al_105, al_106, al_108, al_111, zl_107, zl_109, zl_110, Nat.reduceLT, h26, if_true, h25, h24, nI_leI (show n < 2 ^ 31 by omega) (show p < 2 ^ 31 by omega), show n ≤ p by omega, s_in, n9, Bool.toNat_false, wI_app]
theorem m_figOF {f s : Nat} (h26 : I 87 26 = nI f) (hf : f ≤ 60) : cl Z 116 [.ref 87, .int (nI s)] I R L = some (some (.int (nI 0)), I, R, L) := by
  have n9 := fin_9 (lo := 0) (x := nI 9) (by decide)
  rw [show (nI 0).toInt64 = lN 0 by decide, show (nI 9).toInt64 = lN 9 by decide] at n9
  rw [n116]
  simp only [e116_0, e116_1, e116_4, e116_6, e116_9, e116_10, e116_13, e116_14, e116_17, e116_20, e116_21, e116_24, e116_25, e116_28, e116_29, e116_31, e116_32, e116_35, e116_37, e116_38, e116_39, e116_40, e116_41, e116_44, e116_47, e116_50, e116_51, e116_52, e116_55, e116_58, e116_59, e116_60, e116_63, e116_65, e116_68, e116_69, e116_72, e116_75, e116_76, e116_79, e116_82, e116_83, e116_84, e116_85, e116_86, e116_89, e116_90, e116_91, e116_94, e116_95, bI_s, bL_s, bV_s, rv_s1, nl_i, nl_a, nl_n, w8_0, w8_i, w8_a, w8_l, ct_i, ct_a, b01_0, b01_1, b01_b, kd_87, h26, f9_n hf, if_false, s_in, n9, Bool.toNat_false, if_true, wI_id h26]
theorem m_mayLie (hF : Fx R) (hM : MR I co) (hW : WP co) {i : Nat} (hi : i < co 0 3) : cl Z 115 [.ref 87, .int (nI i)] I R L = some (some (.int (nI (mls co i))), I, R, L) := by
  have hw := hW.wf
  have h6 := hw.t6
  obtain ⟨⟨-, -, -, m14, -⟩, -, -, m97, -, -, -, m101⟩ := hM
  have hb7 := (hW.2.2.2.2.2.2.1 i hi).2.2.2.2.2
  rw [n115]
  simp only [e115_0, e115_1, e115_2, e115_3, e115_5, e115_6, e115_9, e115_12, e115_13, e115_16, e115_17, e115_18, e115_20, e115_23, e115_24, e115_27, e115_30, e115_32, e115_33, e115_35, e115_38, e115_40, e115_41, e115_44, e115_45, e115_48, e115_50, e115_51, e115_53, e115_56, e115_57, e115_59, e115_60, e115_63, e115_64, e115_67, e115_68, e115_69, e115_70, e115_73, e115_74, e115_75, e115_78, e115_79, e115_80, e115_81, e115_84, e115_85, e115_86, e115_87, e115_90, e115_93, e115_94, bI_s, bL_s, bV_s, rv_s1, nl_i, nl_a, nl_n, w8_0, w8_i, w8_a, w8_l, ct_i, ct_a, b01_0, b01_1, b01_b]
  by_cases h0 : co 7 i = 0
  · have key := loop_all (P := fun j => ∀ y, ex Z 0 0 115 4 [some (.ref 87), some (.int (nI i)), some (.int (nI (mk (mlf co i) j))), some (.int (nI j)), y] [] I R L = some (some (.int (nI (mls co i))), I, R, L)) (co 0 3) (fun j hj ih y => ?_) (fun y => ?_) 0 (Nat.zero_le _)
    · exact key none
    · have ht := top_lt hw hj
      have a1 := (hW.2.2.2.2.2.2.1 i hi).1
      have a2 := (hW.2.2.2.2.2.2.1 j hj).1
      have a3 := hW.2.2.2.1.2
      have ex56 : ex Z 0 0 115 56 [some (.ref 87), some (.int (nI i)), some (.int (nI (mk (mlf co i) j))), some (.int (nI j)), some (.int (nI (top co j)))] [] I R L = some (some (.int (nI (mls co i))), I, R, L) := by
        have ih2 := ih (some (.int (nI (top co j))))
        have m1 : mk (mlf co i) (j + 1) = mk (mlf co i) j ||| (if mlf co i j = true then 2 ^ j else 0) := rfl
        have m2 : mlf co i j = (decide (co 3 i = co 3 j) && decide (top co j ≠ i)) := by
          unfold mlf
          congr 1
          exact decide_eq_decide.mpr ⟨fun w => w.2.2.1, fun w => ⟨hi, hj, w, h0⟩⟩
        rw [m1, m2] at ih2
        simp only [e115_0, e115_1, e115_2, e115_3, e115_5, e115_6, e115_9, e115_12, e115_13, e115_16, e115_17, e115_18, e115_20, e115_23, e115_24, e115_27, e115_30, e115_32, e115_33, e115_35, e115_38, e115_40, e115_41, e115_44, e115_45, e115_48, e115_50, e115_51, e115_53, e115_56, e115_57, e115_59, e115_60, e115_63, e115_64, e115_67, e115_68, e115_69, e115_70, e115_73, e115_74, e115_75, e115_78, e115_79, e115_80, e115_81, e115_84, e115_85, e115_86, e115_87, e115_90, e115_93, e115_94, bI_s, bL_s, bV_s, rv_s1, nl_i, nl_a, nl_n, w8_0, w8_i, w8_a, w8_l, ct_i, ct_a, b01_0, b01_1, b01_b, hF.m4, hF.m5, hF.m6, hF.m7, hF.m8, hF.m9, hF.m10, hF.m16, hF.m17, hF.m18, hF.m19, hF.m20, hF.m21, hF.m22, hF.m23, hF.m29, hF.m30, hF.m35, hF.m37, hF.m38, hF.m40, hF.m41, hF.m43, hF.m44, kd_87, al_88, al_89, al_90, al_91, al_92, al_93, al_94, al_95, al_96, al_97, al_98, al_99, al_100, al_101, al_102, al_103, al_104, al_105, al_106, al_108, al_111, zl_107, zl_109, zl_110, Nat.reduceLT, nI_eq (show top co j < 2 ^ 31 by omega) (show i < 2 ^ 31 by omega), ab_ixN (show i < 6 by omega) (show 6 < 2 ^ 31 by decide), ab_ixN (show j < 6 by omega) (show 6 < 2 ^ 31 by decide), nI_clamp (show i < 2 ^ 31 by omega), nI_clamp (show j < 2 ^ 31 by omega), m97 i hi, m97 j hj, nI_eq (show co 3 i < 2 ^ 31 by omega) (show co 3 j < 2 ^ 31 by omega), nI_1shl (show j < 31 by omega), nx_or', nI_add]
        rw [← ih2]
        by_cases c1 : top co j = i <;> by_cases c2 : co 3 i = co 3 j <;> simp [c1, c2]
      have ex26 : ∀ k, k ≤ 6 → ex Z 0 0 115 26 [some (.ref 87), some (.int (nI i)), some (.int (nI (mk (mlf co i) j))), some (.int (nI j)), some (.int (nI (topf co k j)))] [] I R L = some (some (.int (nI (mls co i))), I, R, L) := by
        have fz : ∀ k, k ≤ 6 → co 7 (topf co k j) = 0 → ex Z 0 0 115 26 [some (.ref 87), some (.int (nI i)), some (.int (nI (mk (mlf co i) j))), some (.int (nI j)), some (.int (nI (topf co k j)))] [] I R L = some (some (.int (nI (mls co i))), I, R, L) := by
          intro k hk h7
          have hp := topf_lt hw hj k
          have e := topf_6 h7 hk
          rw [e115_26]
          simp only [e115_0, e115_1, e115_2, e115_3, e115_5, e115_6, e115_9, e115_12, e115_13, e115_16, e115_17, e115_18, e115_20, e115_23, e115_24, e115_27, e115_30, e115_32, e115_33, e115_35, e115_38, e115_40, e115_41, e115_44, e115_45, e115_48, e115_50, e115_51, e115_53, e115_57, e115_59, e115_60, e115_63, e115_64, e115_67, e115_68, e115_69, e115_70, e115_73, e115_74, e115_75, e115_78, e115_79, e115_80, e115_81, e115_84, e115_85, e115_86, e115_87, e115_90, e115_93, e115_94, bI_s, bL_s, bV_s, rv_s1, nl_i, nl_a, nl_n, w8_0, w8_i, w8_a, w8_l, ct_i, ct_a, b01_0, b01_1, b01_b, hF.m4, hF.m5, hF.m6, hF.m7, hF.m8, hF.m9, hF.m10, hF.m16, hF.m17, hF.m18, hF.m19, hF.m20, hF.m21, hF.m22, hF.m23, hF.m29, hF.m30, hF.m35, hF.m37, hF.m38, hF.m40, hF.m41, hF.m43, hF.m44, kd_87, al_88, al_89, al_90, al_91, al_92, al_93, al_94, al_95, al_96, al_97, al_98, al_99, al_100, al_101, al_102, al_103, al_104, al_105, al_106, al_108, al_111, zl_107, zl_109, zl_110, Nat.reduceLT, ab_ixN (show topf co k j < 6 by omega) (show 6 < 2 ^ 31 by decide), nI_clamp (show topf co k j < 2 ^ 31 by omega), m101 _ hp, h7, nN, if_true]
          rw [e]
          exact ex56
        refine loop_ex (F := fun k => ex Z 0 0 115 26 [some (.ref 87), some (.int (nI i)), some (.int (nI (mk (mlf co i) j))), some (.int (nI j)), some (.int (nI (topf co k j)))] [] I R L) (G := fun _ => some (some (.int (nI (mls co i))), I, R, L)) 6 (fun k hk ihk => ?_) ?_
        · by_cases h7 : co 7 (topf co k j) = 0
          · exact fz k (by omega) h7
          · have hp := topf_lt hw hj k
            have h8 := (hw.2.2.2.2.2.2 _ hp).2.2.2.2.2.1
            have e : topf co (k + 1) j = co 7 (topf co k j) - 1 := by rw [topf, up, if_neg h7]
            have hne : ¬ topf co k j = i := fun w => h7 (by rw [w]; exact h0)
            simp only [e] at ihk
            rw [e115_26]
            simp only [e115_0, e115_1, e115_2, e115_3, e115_5, e115_6, e115_9, e115_12, e115_13, e115_16, e115_17, e115_18, e115_20, e115_23, e115_24, e115_27, e115_30, e115_32, e115_33, e115_35, e115_38, e115_40, e115_41, e115_44, e115_45, e115_48, e115_50, e115_51, e115_53, e115_57, e115_59, e115_60, e115_63, e115_64, e115_67, e115_68, e115_69, e115_70, e115_73, e115_74, e115_75, e115_78, e115_79, e115_80, e115_81, e115_84, e115_85, e115_86, e115_87, e115_90, e115_93, e115_94, bI_s, bL_s, bV_s, rv_s1, nl_i, nl_a, nl_n, w8_0, w8_i, w8_a, w8_l, ct_i, ct_a, b01_0, b01_1, b01_b, hF.m4, hF.m5, hF.m6, hF.m7, hF.m8, hF.m9, hF.m10, hF.m16, hF.m17, hF.m18, hF.m19, hF.m20, hF.m21, hF.m22, hF.m23, hF.m29, hF.m30, hF.m35, hF.m37, hF.m38, hF.m40, hF.m41, hF.m43, hF.m44, kd_87, al_88, al_89, al_90, al_91, al_92, al_93, al_94, al_95, al_96, al_97, al_98, al_99, al_100, al_101, al_102, al_103, al_104, al_105, al_106, al_108, al_111, zl_107, zl_109, zl_110, Nat.reduceLT, ab_ixN (show topf co k j < 6 by omega) (show 6 < 2 ^ 31 by decide), nI_clamp (show topf co k j < 2 ^ 31 by omega), m101 _ hp, nN_pos h7, nI_9 (show co 7 (topf co k j) - 1 ≤ 100 by omega), if_false, nI_eq (show topf co k j < 2 ^ 31 by omega) (show i < 2 ^ 31 by omega), hne]
            exact ihk
        · exact fz 6 (by decide) (hw.2.2.2.2.2.2 j hj).2.2.2.2.2.2
      rw [e115_4]
      simp only [e115_0, e115_1, e115_2, e115_3, e115_5, e115_6, e115_9, e115_12, e115_13, e115_16, e115_17, e115_18, e115_20, e115_23, e115_24, e115_27, e115_30, e115_32, e115_33, e115_35, e115_38, e115_40, e115_41, e115_44, e115_45, e115_48, e115_50, e115_51, e115_53, e115_56, e115_57, e115_59, e115_60, e115_63, e115_64, e115_67, e115_68, e115_69, e115_70, e115_73, e115_74, e115_75, e115_78, e115_79, e115_80, e115_81, e115_84, e115_85, e115_86, e115_87, e115_90, e115_93, e115_94, bI_s, bL_s, bV_s, rv_s1, nl_i, nl_a, nl_n, w8_0, w8_i, w8_a, w8_l, ct_i, ct_a, b01_0, b01_1, b01_b, hF.m4, hF.m5, hF.m6, hF.m7, hF.m8, hF.m9, hF.m10, hF.m16, hF.m17, hF.m18, hF.m19, hF.m20, hF.m21, hF.m22, hF.m23, hF.m29, hF.m30, hF.m35, hF.m37, hF.m38, hF.m40, hF.m41, hF.m43, hF.m44, kd_87, al_88, al_89, al_90, al_91, al_92, al_93, al_94, al_95, al_96, al_97, al_98, al_99, al_100, al_101, al_102, al_103, al_104, al_105, al_106, al_108, al_111, zl_107, zl_109, zl_110, Nat.reduceLT, m14, nI_leI (show co 0 3 < 2 ^ 31 by omega) (show j < 2 ^ 31 by omega), show ¬ co 0 3 ≤ j by omega, if_false, ab_ixN (show i < 6 by omega) (show 6 < 2 ^ 31 by decide), nI_clamp (show i < 2 ^ 31 by omega), m101 i hi, h0, nN, if_true]
      exact ex26 0 (by decide)
    · rw [e115_4]
      simp only [e115_0, e115_1, e115_2, e115_3, e115_5, e115_6, e115_9, e115_12, e115_13, e115_16, e115_17, e115_18, e115_20, e115_23, e115_24, e115_27, e115_30, e115_32, e115_33, e115_35, e115_38, e115_40, e115_41, e115_44, e115_45, e115_48, e115_50, e115_51, e115_53, e115_56, e115_57, e115_59, e115_60, e115_63, e115_64, e115_67, e115_68, e115_69, e115_70, e115_73, e115_74, e115_75, e115_78, e115_79, e115_80, e115_81, e115_84, e115_85, e115_86, e115_87, e115_90, e115_93, e115_94, bI_s, bL_s, bV_s, rv_s1, nl_i, nl_a, nl_n, w8_0, w8_i, w8_a, w8_l, ct_i, ct_a, b01_0, b01_1, b01_b, kd_87, m14, Int32.le_refl, if_true]
      rfl
  · have e0 : mls co i = 0 := by
      apply Nat.eq_of_testBit_eq
      intro j
      rw [mls_bit, Nat.zero_testBit]
      unfold mlf
      rw [decide_eq_false (fun w => h0 w.2.2.2), Bool.false_and]
    rw [e115_4, e0]
    simp only [e115_0, e115_1, e115_2, e115_3, e115_5, e115_6, e115_9, e115_12, e115_13, e115_16, e115_17, e115_18, e115_20, e115_23, e115_24, e115_27, e115_30, e115_32, e115_33, e115_35, e115_38, e115_40, e115_41, e115_44, e115_45, e115_48, e115_50, e115_51, e115_53, e115_56, e115_57, e115_59, e115_60, e115_63, e115_64, e115_67, e115_68, e115_69, e115_70, e115_73, e115_74, e115_75, e115_78, e115_79, e115_80, e115_81, e115_84, e115_85, e115_86, e115_87, e115_90, e115_93, e115_94, bI_s, bL_s, bV_s, rv_s1, nl_i, nl_a, nl_n, w8_0, w8_i, w8_a, w8_l, ct_i, ct_a, b01_0, b01_1, b01_b, hF.m4, hF.m5, hF.m6, hF.m7, hF.m8, hF.m9, hF.m10, hF.m16, hF.m17, hF.m18, hF.m19, hF.m20, hF.m21, hF.m22, hF.m23, hF.m29, hF.m30, hF.m35, hF.m37, hF.m38, hF.m40, hF.m41, hF.m43, hF.m44, kd_87, al_88, al_89, al_90, al_91, al_92, al_93, al_94, al_95, al_96, al_97, al_98, al_99, al_100, al_101, al_102, al_103, al_104, al_105, al_106, al_108, al_111, zl_107, zl_109, zl_110, Nat.reduceLT, m14, nI_leI (show co 0 3 < 2 ^ 31 by omega) (show 0 < 2 ^ 31 by omega), show ¬ co 0 3 ≤ 0 by omega, if_false, ab_ixN (show i < 6 by omega) (show 6 < 2 ^ 31 by decide), nI_clamp (show i < 2 ^ 31 by omega), m101 i hi, nN_pos h0, nI_9 (show co 7 i - 1 ≤ 100 by omega)]
theorem m_begins (hF : Fx R) (hM : MR I co) (hW : WP co) : cl Z 114 [.ref 87] I R L = some (some (.int (nI (mlb co))), I, R, L) := by
  have h6 := hW.2.1
  have m14 := hM.1.2.2.2.1
  rw [n114]
  simp only [e114_0, e114_1, e114_2, e114_3, e114_5, e114_6, e114_9, e114_12, e114_13, e114_14, e114_15, e114_18, e114_21, e114_22, e114_23, e114_24, e114_27, e114_28, e114_29, e114_30, e114_33, e114_36, e114_37, bI_s, bL_s, bV_s, rv_s1, nl_i, nl_a, nl_n, w8_0, w8_i, w8_a, w8_l, ct_i, ct_a, b01_0, b01_1, b01_b]
  refine loop_up (F := fun j => ex Z 0 0 114 4 [some (.ref 87), some (.int (nI (mk (fun i => decide (mls co i ≠ 0)) j))), some (.int (nI j))] [] I R L) (co 0 3) (fun j hj => ?_) ?_ 0 (Nat.zero_le _)
  · have hl : mls co j < 2 ^ 31 := Nat.lt_of_lt_of_le (mk_lt _ _) (Nat.pow_le_pow_right (by decide) (by omega))
    rw [e114_4]
    simp only [e114_0, e114_1, e114_2, e114_3, e114_5, e114_6, e114_9, e114_12, e114_13, e114_14, e114_15, e114_18, e114_21, e114_22, e114_23, e114_24, e114_27, e114_28, e114_29, e114_30, e114_33, e114_36, e114_37, bI_s, bL_s, bV_s, rv_s1, nl_i, nl_a, nl_n, w8_0, w8_i, w8_a, w8_l, ct_i, ct_a, b01_0, b01_1, b01_b, kd_87, m14, nI_leI (show co 0 3 < 2 ^ 31 by omega) (show j < 2 ^ 31 by omega), show ¬ co 0 3 ≤ j by omega, if_false, m_mayLie hF hM hW hj, nI_eq hl (show 0 < 2 ^ 31 by decide), nI_1shl (show j < 31 by omega), nx_or', nI_add, mk]
    by_cases c1 : mls co j = 0 <;> simp [c1]
  · rw [e114_4]
    simp only [e114_0, e114_1, e114_2, e114_3, e114_5, e114_6, e114_9, e114_12, e114_13, e114_14, e114_15, e114_18, e114_21, e114_22, e114_23, e114_24, e114_27, e114_28, e114_29, e114_30, e114_33, e114_36, e114_37, bI_s, bL_s, bV_s, rv_s1, nl_i, nl_a, nl_n, w8_0, w8_i, w8_a, w8_l, ct_i, ct_a, b01_0, b01_1, b01_b, kd_87, m14, Int32.le_refl, if_true]
    rfl
end MREAD
