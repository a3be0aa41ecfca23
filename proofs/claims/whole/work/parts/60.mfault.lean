/-! the reference's fault -/
theorem prt_le {tx : Nat → Nat} {n p : Nat} {co : Co} (hp : p < n) : (prt tx n p co).2.1 ≤ n := by
  unfold prt fin
  repeat' split
  all_goals (try simp only [decide_eq_true_eq] at *)
  all_goals omega
def rdv (r : Bool × Nat × Co) : Int32 := if r.1 = true then iI (-9) else nI r.2.1
theorem MR_nil {I : ab_I} {l m : Nat} (h1 : I 87 11 = nI l) (h2 : I 87 12 = nI m) (h3 : I 87 13 = nI 0) (h4 : I 87 14 = nI 0) (h5 : I 87 15 = nI 0) : MR I (nilC l m) := by
  have e : ∀ k, nilC l m 0 (k + 2) = 0 := fun k => rfl
  refine ⟨⟨h1, h2, h3, h4, h5⟩, fun h hh => ?_, fun h hh => ?_, fun h hh => ?_, fun h hh => ?_, fun h hh => ?_, fun h hh => ?_, fun h hh => ?_⟩
  all_goals
    first
    | (rw [e 0] at hh; omega)
    | (rw [e 1] at hh; omega)
section MFAULT
variable {Z n p : Nat} {co : Co} {tx : Nat → Nat} {I : ab_I} {R : ab_R} {L : ab_L}
theorem m_readL (hF : Fx R) : ∀ f p co I, n - p ≤ f → p ≤ n → MR I co → WP co → TXm I tx n → I 87 26 = iI (-9) → I 87 25 = nI p → ∃ J, ex Z 0 0 111 71 [some (.ref 87)] [] I R L = some (some (.int (rdv (prs tx n f p co))), J, R, L) ∧ OffR I J ∧ ((prs tx n f p co).1 = true → MR J (prs tx n f p co).2.2 ∧ WP (prs tx n f p co).2.2)
  | 0, p, co, I, hf, hp, hM, hW, hT, h26, h25 => by
    have h56 := hT.1.1
    have hpn : p = n := by omega
    subst hpn
    refine ⟨I, ?_, OffR.rf, fun _ => ⟨hM, hW⟩⟩
    rw [e111_71]
    simp only [e111_0, e111_1, e111_2, e111_5, e111_6, e111_8, e111_11, e111_12, e111_13, e111_16, e111_17, e111_18, e111_21, e111_22, e111_23, e111_26, e111_27, e111_30, e111_33, e111_34, e111_37, e111_38, e111_39, e111_41, e111_44, e111_45, e111_46, e111_47, e111_48, e111_51, e111_52, e111_53, e111_54, e111_55, e111_58, e111_61, e111_62, e111_63, e111_64, e111_65, e111_68, e111_72, e111_75, e111_77, e111_80, e111_81, e111_84, e111_85, e111_88, e111_91, e111_92, e111_93, e111_96, e111_97, e111_100, e111_101, e111_104, e111_107, e111_108, e111_111, bI_s, bL_s, bV_s, rv_s1, nl_i, nl_a, nl_n, w8_0, w8_i, w8_a, w8_l, ct_i, ct_a, b01_0, b01_1, b01_b, kd_87, h26, if_true, h25, hT.2.1, Int32.le_refl]
    rfl
  | f + 1, p, co, I, hf, hp, hM, hW, hT, h26, h25 => by
    have h56 := hT.1.1
    rw [e111_71, prs]
    by_cases hpn : p < n
    · obtain ⟨J, e, o, s⟩ := m_readPart (Z := Z) (L := L) hF hM hW hT h26 h25 hpn
      have hle := prt_le (tx := tx) (co := co) hpn
      rw [if_pos hpn]
      simp only [e111_0, e111_1, e111_2, e111_5, e111_6, e111_8, e111_11, e111_12, e111_13, e111_16, e111_17, e111_18, e111_21, e111_22, e111_23, e111_26, e111_27, e111_30, e111_33, e111_34, e111_37, e111_38, e111_39, e111_41, e111_44, e111_45, e111_46, e111_47, e111_48, e111_51, e111_52, e111_53, e111_54, e111_55, e111_58, e111_61, e111_62, e111_63, e111_64, e111_65, e111_68, e111_72, e111_75, e111_77, e111_80, e111_81, e111_84, e111_85, e111_88, e111_91, e111_92, e111_93, e111_96, e111_97, e111_100, e111_101, e111_104, e111_107, e111_108, e111_111, bI_s, bL_s, bV_s, rv_s1, nl_i, nl_a, nl_n, w8_0, w8_i, w8_a, w8_l, ct_i, ct_a, b01_0, b01_1, b01_b, hF.m4, hF.m5, hF.m6, hF.m7, hF.m8, hF.m9, hF.m10, hF.m16, hF.m17, hF.m18, hF.m19, hF.m20, hF.m21, hF.m22, hF.m23, hF.m29, hF.m30, hF.m35, hF.m37, hF.m38, hF.m40, hF.m41, hF.m43, hF.m44, kd_87, al_88, al_89, al_90, al_91, al_92, al_93, al_94, al_95, al_96, al_97, al_98, al_99, al_100, al_101, al_102, al_103, al_104, al_105, al_106, al_108, al_111, zl_107, zl_109, zl_110, Nat.reduceLT, h26, if_true, h25, hT.2.1, nI_leI (show n < 2 ^ 31 by omega) (show p < 2 ^ 31 by omega), show ¬ n ≤ p by omega, if_false, ab_ixN (show p < 56 by omega) (show 56 < 2 ^ 31 by decide), nI_clamp (show p < 2 ^ 31 by omega), hT.2.2 p hpn, e]
      by_cases hok : (prt tx n p co).1 = true
      · rw [if_pos hok] at s ⊢
        obtain ⟨hW2, hlt⟩ := prt_WP hW hok
        obtain ⟨J', e', o', s'⟩ := m_readL hF f _ _ J (by omega) hle s.2.2 hW2 (hT.off o) s.1 s.2.1
        exact ⟨J', e', o.tr o', s'⟩
      · rw [if_neg hok] at s ⊢
        refine ⟨J, ?_, o, fun w => absurd w hok⟩
        rw [e111_71]
        simp only [e111_0, e111_1, e111_2, e111_5, e111_6, e111_8, e111_11, e111_12, e111_13, e111_16, e111_17, e111_18, e111_21, e111_22, e111_23, e111_26, e111_27, e111_30, e111_33, e111_34, e111_37, e111_38, e111_39, e111_41, e111_44, e111_45, e111_46, e111_47, e111_48, e111_51, e111_52, e111_53, e111_54, e111_55, e111_58, e111_61, e111_62, e111_63, e111_64, e111_65, e111_68, e111_72, e111_75, e111_77, e111_80, e111_81, e111_84, e111_85, e111_88, e111_91, e111_92, e111_93, e111_96, e111_97, e111_100, e111_101, e111_104, e111_107, e111_108, e111_111, bI_s, bL_s, bV_s, rv_s1, nl_i, nl_a, nl_n, w8_0, w8_i, w8_a, w8_l, ct_i, ct_a, b01_0, b01_1, b01_b, kd_87, s, f9_n (show (prt tx n p co).2.1 ≤ 60 by omega), if_false]
        unfold rdv
        rw [if_neg hok]
    · have hpn2 : p = n := by omega
      subst hpn2
      refine ⟨I, ?_, OffR.rf, ?_⟩
      · rw [if_neg hpn]
        simp only [e111_0, e111_1, e111_2, e111_5, e111_6, e111_8, e111_11, e111_12, e111_13, e111_16, e111_17, e111_18, e111_21, e111_22, e111_23, e111_26, e111_27, e111_30, e111_33, e111_34, e111_37, e111_38, e111_39, e111_41, e111_44, e111_45, e111_46, e111_47, e111_48, e111_51, e111_52, e111_53, e111_54, e111_55, e111_58, e111_61, e111_62, e111_63, e111_64, e111_65, e111_68, e111_72, e111_75, e111_77, e111_80, e111_81, e111_84, e111_85, e111_88, e111_91, e111_92, e111_93, e111_96, e111_97, e111_100, e111_101, e111_104, e111_107, e111_108, e111_111, bI_s, bL_s, bV_s, rv_s1, nl_i, nl_a, nl_n, w8_0, w8_i, w8_a, w8_l, ct_i, ct_a, b01_0, b01_1, b01_b, kd_87, h26, if_true, h25, hT.2.1, Int32.le_refl]
        rfl
      · rw [if_neg hpn]
        exact fun _ => ⟨hM, hW⟩
theorem m_readText (hF : Fx R) (hT : TXm I tx n) : ∃ J, cl Z 111 [.ref 87] I R L = some (some (.int (rdv (rdt tx n))), J, R, L) ∧ OffR I J ∧ ((rdt tx n).1 = true → MR J (rdt tx n).2.2 ∧ WP (rdt tx n).2.2) := by
  have h56 := hT.1.1
  have h24 := hT.2.1
  have w : ∀ (I : ab_I) k v, (11 ≤ k ∧ k ≤ 15) ∨ k = 25 ∨ k = 26 → OffR I (wI I 87 k v) := fun I k v h => OffR.w (Or.inr ⟨rfl, h⟩)
  have o5 : OffR I (wI (wI (wI (wI (wI I 87 25 (nI 0)) 87 26 (iI (-9))) 87 13 (nI 0)) 87 14 (nI 0)) 87 15 (nI 0)) := (w _ _ _ (by omega)).tr ((w _ _ _ (by omega)).tr ((w _ _ _ (by omega)).tr ((w _ _ _ (by omega)).tr (w _ _ _ (by omega)))))
  rw [n111]
  unfold rdt
  by_cases h0 : 0 < n ∧ tx 0 = 87
  · rw [if_pos h0]
    have t0 : I 102 0 = nI 87 := by rw [hT.2.2 0 h0.1, h0.2]
    have o6 := o5.tr (w _ 25 (nI 1) (by omega))
    obtain ⟨J2, v1, e2, f2, r2⟩ := m_fig (Z := Z) (L := L) (lo := 0) (hi := 4) (x := nI 3) (p := 1) hF (hT.off o6) (by simp only [wI_app, Nat.reduceEqDiff, if_true, if_false]) (wI_self _ _ _ _) (by omega) (by decide) (by decide)
    have o7 := (o6.tr f2.r).tr (w J2 11 v1 (by omega))
    have z : ∀ k, k = 13 ∨ k = 14 ∨ k = 15 → J2 87 k = nI 0 := fun k hk => by
      rw [f2.2 k (by omega) (by omega)]
      rcases hk with rfl | rfl | rfl <;> simp only [wI_app, Nat.reduceEqDiff, if_true, if_false]
    rcases r2 with ⟨hf, rfl, j26, j25⟩ | ⟨hf, rfl, j26⟩
    · rw [if_pos hf]
      have hq := of_decide_eq_true hf
      obtain ⟨J4, v2, e4, f4, r4⟩ := m_fig (Z := Z) (L := L) (lo := 1) (hi := 6) (x := nI 5) (p := 1 + 1) hF (hT.off o7) (by rw [wI_k (by decide), j26]) (by rw [wI_k (by decide), j25]) (by omega) (by decide) (by decide)
      have o8 := (o7.tr f4.r).tr (w J4 12 v2 (by omega))
      have s71 : ex Z 0 0 111 0 [some (.ref 87)] [] I R L = ex Z 0 0 111 71 [some (.ref 87)] [] (wI J4 87 12 v2) R L := by
        simp only [e111_0, e111_1, e111_2, e111_5, e111_6, e111_8, e111_11, e111_12, e111_13, e111_16, e111_17, e111_18, e111_21, e111_22, e111_23, e111_26, e111_27, e111_30, e111_33, e111_34, e111_37, e111_38, e111_39, e111_41, e111_44, e111_45, e111_46, e111_47, e111_48, e111_51, e111_52, e111_53, e111_54, e111_55, e111_58, e111_61, e111_62, e111_63, e111_64, e111_65, e111_68, e111_72, e111_75, e111_77, e111_80, e111_81, e111_84, e111_85, e111_88, e111_91, e111_92, e111_93, e111_96, e111_97, e111_100, e111_101, e111_104, e111_107, e111_108, e111_111, bI_s, bL_s, bV_s, rv_s1, nl_i, nl_a, nl_n, w8_0, w8_i, w8_a, w8_l, ct_i, ct_a, b01_0, b01_1, b01_b, hF.m4, hF.m5, hF.m6, hF.m7, hF.m8, hF.m9, hF.m10, hF.m16, hF.m17, hF.m18, hF.m19, hF.m20, hF.m21, hF.m22, hF.m23, hF.m29, hF.m30, hF.m35, hF.m37, hF.m38, hF.m40, hF.m41, hF.m43, hF.m44, kd_87, al_88, al_89, al_90, al_91, al_92, al_93, al_94, al_95, al_96, al_97, al_98, al_99, al_100, al_101, al_102, al_103, al_104, al_105, al_106, al_108, al_111, zl_107, zl_109, zl_110, Nat.reduceLT, wI_app, Nat.reduceEqDiff, if_true, if_false, h24, nI_eq (show n < 2 ^ 31 by omega) (show 0 < 2 ^ 31 by decide), show ¬ n = 0 by omega, ab_ixN (show 0 < 56 by omega) (show 56 < 2 ^ 31 by decide), nI_clamp (show 0 < 2 ^ 31 by omega), t0, e2, e4]
      rw [s71]
      rcases r4 with ⟨hf4, rfl, k26, k25⟩ | ⟨hf4, rfl, k26⟩
      · rw [if_pos (show fin tx n 2 1 6 = true from hf4)]
        have hq4 := of_decide_eq_true hf4
        have y : ∀ k, k = 13 ∨ k = 14 ∨ k = 15 → J4 87 k = nI 0 := fun k hk => by
          rw [f4.2 k (by omega) (by omega), wI_k (by omega), z k hk]
        obtain ⟨J, e, o, s⟩ := m_readL (Z := Z) (tx := tx) (n := n) (L := L) hF 57 3 (nilC (tx 1 - 48) (tx 2 - 48)) (wI J4 87 12 (nI (tx (1 + 1) - 48))) (by omega) (by omega) (MR_nil (by rw [wI_k (by decide), f4.2 11 (by decide) (by decide), wI_self]) (wI_self _ _ _ _) (by rw [wI_k (by decide), y 13 (by omega)]) (by rw [wI_k (by decide), y 14 (by omega)]) (by rw [wI_k (by decide), y 15 (by omega)])) (nilC_WP (by omega) (by have : tx (1 + 1) = tx 2 := rfl; omega)) (hT.off o8) (by rw [wI_k (by decide), k26]) (by rw [wI_k (by decide), k25])
        exact ⟨J, e, o8.tr o, s⟩
      · rw [if_neg (show ¬ fin tx n 2 1 6 = true from fun w => Bool.false_ne_true (hf4.symm.trans w))]
        refine ⟨_, ?_, o8, fun w => (Bool.false_ne_true w).elim⟩
        rw [e111_71]
        simp only [e111_0, e111_1, e111_2, e111_5, e111_6, e111_8, e111_11, e111_12, e111_13, e111_16, e111_17, e111_18, e111_21, e111_22, e111_23, e111_26, e111_27, e111_30, e111_33, e111_34, e111_37, e111_38, e111_39, e111_41, e111_44, e111_45, e111_46, e111_47, e111_48, e111_51, e111_52, e111_53, e111_54, e111_55, e111_58, e111_61, e111_62, e111_63, e111_64, e111_65, e111_68, e111_72, e111_75, e111_77, e111_80, e111_81, e111_84, e111_85, e111_88, e111_91, e111_92, e111_93, e111_96, e111_97, e111_100, e111_101, e111_104, e111_107, e111_108, e111_111, bI_s, bL_s, bV_s, rv_s1, nl_i, nl_a, nl_n, w8_0, w8_i, w8_a, w8_l, ct_i, ct_a, b01_0, b01_1, b01_b, kd_87, wI_app, Nat.reduceEqDiff, if_true, if_false, k26, f9_n (show 1 + 1 ≤ 60 by decide)]
        rfl
    · rw [if_neg (show ¬ fin tx n 1 0 4 = true from fun w => Bool.false_ne_true (hf.symm.trans w))]
      have e4 := fun x => m_figF (Z := Z) (R := R) (L := L) (I := wI J2 87 11 (nI 0)) (f := 1) (lo := 1) (x := x) (by rw [wI_k (by decide), j26]) (by decide) (by decide)
      refine ⟨wI (wI J2 87 11 (nI 0)) 87 12 (nI 1), ?_, o7.tr (w _ _ _ (by omega)), fun w => (Bool.false_ne_true w).elim⟩
      have s71 : ex Z 0 0 111 0 [some (.ref 87)] [] I R L = ex Z 0 0 111 71 [some (.ref 87)] [] (wI (wI J2 87 11 (nI 0)) 87 12 (nI 1)) R L := by
        simp only [e111_0, e111_1, e111_2, e111_5, e111_6, e111_8, e111_11, e111_12, e111_13, e111_16, e111_17, e111_18, e111_21, e111_22, e111_23, e111_26, e111_27, e111_30, e111_33, e111_34, e111_37, e111_38, e111_39, e111_41, e111_44, e111_45, e111_46, e111_47, e111_48, e111_51, e111_52, e111_53, e111_54, e111_55, e111_58, e111_61, e111_62, e111_63, e111_64, e111_65, e111_68, e111_72, e111_75, e111_77, e111_80, e111_81, e111_84, e111_85, e111_88, e111_91, e111_92, e111_93, e111_96, e111_97, e111_100, e111_101, e111_104, e111_107, e111_108, e111_111, bI_s, bL_s, bV_s, rv_s1, nl_i, nl_a, nl_n, w8_0, w8_i, w8_a, w8_l, ct_i, ct_a, b01_0, b01_1, b01_b, hF.m4, hF.m5, hF.m6, hF.m7, hF.m8, hF.m9, hF.m10, hF.m16, hF.m17, hF.m18, hF.m19, hF.m20, hF.m21, hF.m22, hF.m23, hF.m29, hF.m30, hF.m35, hF.m37, hF.m38, hF.m40, hF.m41, hF.m43, hF.m44, kd_87, al_88, al_89, al_90, al_91, al_92, al_93, al_94, al_95, al_96, al_97, al_98, al_99, al_100, al_101, al_102, al_103, al_104, al_105, al_106, al_108, al_111, zl_107, zl_109, zl_110, Nat.reduceLT, wI_app, Nat.reduceEqDiff, if_true, if_false, h24, nI_eq (show n < 2 ^ 31 by omega) (show 0 < 2 ^ 31 by decide), show ¬ n = 0 by omega, ab_ixN (show 0 < 56 by omega) (show 56 < 2 ^ 31 by decide), nI_clamp (show 0 < 2 ^ 31 by omega), t0, e2, e4]
      rw [s71, e111_71]
      simp only [e111_0, e111_1, e111_2, e111_5, e111_6, e111_8, e111_11, e111_12, e111_13, e111_16, e111_17, e111_18, e111_21, e111_22, e111_23, e111_26, e111_27, e111_30, e111_33, e111_34, e111_37, e111_38, e111_39, e111_41, e111_44, e111_45, e111_46, e111_47, e111_48, e111_51, e111_52, e111_53, e111_54, e111_55, e111_58, e111_61, e111_62, e111_63, e111_64, e111_65, e111_68, e111_72, e111_75, e111_77, e111_80, e111_81, e111_84, e111_85, e111_88, e111_91, e111_92, e111_93, e111_96, e111_97, e111_100, e111_101, e111_104, e111_107, e111_108, e111_111, bI_s, bL_s, bV_s, rv_s1, nl_i, nl_a, nl_n, w8_0, w8_i, w8_a, w8_l, ct_i, ct_a, b01_0, b01_1, b01_b, kd_87, wI_app, Nat.reduceEqDiff, if_true, if_false, j26, f9_n (show 1 ≤ 60 by decide)]
      rfl
  · rw [if_neg h0]
    refine ⟨_, ?_, o5, fun w => (Bool.false_ne_true w).elim⟩
    by_cases hn : n = 0
    · simp only [e111_0, e111_1, e111_2, e111_5, e111_6, e111_8, e111_11, e111_12, e111_13, e111_16, e111_17, e111_18, e111_21, e111_22, e111_23, e111_26, e111_27, e111_30, e111_33, e111_34, e111_37, e111_38, e111_39, e111_41, e111_44, e111_45, e111_46, e111_47, e111_48, e111_51, e111_52, e111_53, e111_54, e111_55, e111_58, e111_61, e111_62, e111_63, e111_64, e111_65, e111_68, e111_72, e111_75, e111_77, e111_80, e111_81, e111_84, e111_85, e111_88, e111_91, e111_92, e111_93, e111_96, e111_97, e111_100, e111_101, e111_104, e111_107, e111_108, e111_111, bI_s, bL_s, bV_s, rv_s1, nl_i, nl_a, nl_n, w8_0, w8_i, w8_a, w8_l, ct_i, ct_a, b01_0, b01_1, b01_b, hF.m4, hF.m5, hF.m6, hF.m7, hF.m8, hF.m9, hF.m10, hF.m16, hF.m17, hF.m18, hF.m19, hF.m20, hF.m21, hF.m22, hF.m23, hF.m29, hF.m30, hF.m35, hF.m37, hF.m38, hF.m40, hF.m41, hF.m43, hF.m44, kd_87, al_88, al_89, al_90, al_91, al_92, al_93, al_94, al_95, al_96, al_97, al_98, al_99, al_100, al_101, al_102, al_103, al_104, al_105, al_106, al_108, al_111, zl_107, zl_109, zl_110, Nat.reduceLT, wI_app, Nat.reduceEqDiff, if_true, if_false, h24, hn]
      rfl
    · have t0 := hT.2.2 0 (by omega)
      have hb := hT.1.2 0 (by omega)
      have hne : ¬ tx 0 = 87 := fun w => h0 ⟨by omega, w⟩
      simp only [e111_0, e111_1, e111_2, e111_5, e111_6, e111_8, e111_11, e111_12, e111_13, e111_16, e111_17, e111_18, e111_21, e111_22, e111_23, e111_26, e111_27, e111_30, e111_33, e111_34, e111_37, e111_38, e111_39, e111_41, e111_44, e111_45, e111_46, e111_47, e111_48, e111_51, e111_52, e111_53, e111_54, e111_55, e111_58, e111_61, e111_62, e111_63, e111_64, e111_65, e111_68, e111_72, e111_75, e111_77, e111_80, e111_81, e111_84, e111_85, e111_88, e111_91, e111_92, e111_93, e111_96, e111_97, e111_100, e111_101, e111_104, e111_107, e111_108, e111_111, bI_s, bL_s, bV_s, rv_s1, nl_i, nl_a, nl_n, w8_0, w8_i, w8_a, w8_l, ct_i, ct_a, b01_0, b01_1, b01_b, hF.m4, hF.m5, hF.m6, hF.m7, hF.m8, hF.m9, hF.m10, hF.m16, hF.m17, hF.m18, hF.m19, hF.m20, hF.m21, hF.m22, hF.m23, hF.m29, hF.m30, hF.m35, hF.m37, hF.m38, hF.m40, hF.m41, hF.m43, hF.m44, kd_87, al_88, al_89, al_90, al_91, al_92, al_93, al_94, al_95, al_96, al_97, al_98, al_99, al_100, al_101, al_102, al_103, al_104, al_105, al_106, al_108, al_111, zl_107, zl_109, zl_110, Nat.reduceLT, wI_app, Nat.reduceEqDiff, if_true, if_false, h24, nI_eq (show n < 2 ^ 31 by omega) (show 0 < 2 ^ 31 by decide), hn, ab_ixN (show 0 < 56 by omega) (show 56 < 2 ^ 31 by decide), nI_clamp (show 0 < 2 ^ 31 by omega), t0, nI_eq (show tx 0 < 2 ^ 31 by omega) (show 87 < 2 ^ 31 by decide), hne]
      rfl
theorem MM.rd {g : Gs} {sd : Int64} {J : ab_I} (h : MM g sd I R L) (o : OffR I J) : MM g sd J R L := by
  have e : ∀ x, x ≠ 87 ∧ ¬ (95 ≤ x ∧ x ≤ 101) → J x = I x := fun x w => o.1 x w.1 w.2
  have k : ∀ x, ¬ (11 ≤ x ∧ x ≤ 15) ∧ x ≠ 25 ∧ x ≠ 26 → J 87 x = I 87 x := fun x w => o.2 x w.1 w.2.1 w.2.2
  refine ⟨h.1, ⟨?_, ?_⟩, ?_, ?_, ?_, ?_, ?_, ?_, ?_, ?_⟩
  · unfold MC
    rw [k 0 (by decide), k 1 (by decide), k 2 (by decide), k 3 (by decide), e 88 (by decide), e 89 (by decide), e 90 (by decide), e 91 (by decide), e 92 (by decide), e 93 (by decide)]
    exact h.C
  · rw [e 94 (by decide)]
    exact h.S
  · rw [k 24 (by decide), e 102 (by decide)]
    exact h.2.2.1
  · rw [k 28 (by decide), k 27 (by decide), e 110 (by decide)]
    exact h.2.2.2.1
  · rw [e 103 (by decide)]
    exact h.2.2.2.2.1
  · rw [e 111 (by decide)]
    exact h.2.2.2.2.2.1
  · rw [k 36 (by decide), k 39 (by decide)]
    exact h.2.2.2.2.2.2.1
  · rw [e 106 (by decide), e 107 (by decide)]
    exact h.2.2.2.2.2.2.2.1
  · rw [e 108 (by decide), e 109 (by decide)]
    exact h.2.2.2.2.2.2.2.2.1
  · exact h.sed
theorem MM.tx9 {g : Gs} {sd : Int64} (hp : PG g) (h : MM g sd I R L) : TXm I (g 2 0) (g 2 1 0) := ⟨⟨hp.tn, fun _ hi => hp.tx hi⟩, h.tn, fun _ hi => h.tx hi⟩
theorem m_fault {g : Gs} {sd : Int64} (hp : PG g) : MK Z 110 [] (.int (rdv (rdt (g 2 0) (g 2 1 0)))) g g sd sd := fun I R L h => by
  obtain ⟨J, e, o, -⟩ := m_readText (Z := Z) (L := L) h.F (h.tx9 hp)
  refine ⟨J, L, ?_, h.rd o, fun x hx => o.1 x (by omega) (by omega), rfl⟩
  rw [n110]
  simp only [e110_0, e110_1, e110_4, bI_s, bL_s, bV_s, rv_s1, nl_i, nl_a, nl_n, w8_0, w8_i, w8_a, w8_l, ct_i, ct_a, b01_0, b01_1, b01_b, kd_87, e]
end MFAULT
