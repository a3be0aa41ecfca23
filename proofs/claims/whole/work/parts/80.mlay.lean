/-! the reference's keeping: its rows -/
def otn (co : Co) (K : Nat) : Nat → Nat
  | 0 => 0
  | n + 1 => otn co K n ||| (if K.testBit n = true then 2 ^ top co n else 0)
theorem otn_bit {co : Co} {K τ : Nat} : ∀ n, (otn co K n).testBit τ = true ↔ ∃ t, t < n ∧ K.testBit t = true ∧ top co t = τ
  | 0 => by simp [otn]
  | n + 1 => by
    rw [otn, Nat.testBit_or, ite_bit, Bool.or_eq_true, otn_bit n, Bool.and_eq_true, decide_eq_true_iff]
    constructor
    · rintro (⟨t, a, b⟩ | ⟨a, b⟩)
      · exact ⟨t, by omega, b⟩
      · exact ⟨n, by omega, a, b⟩
    · rintro ⟨t, a, b, c⟩
      by_cases e : t = n
      · subst e
        exact Or.inr ⟨b, c⟩
      · exact Or.inl ⟨t, by omega, b, c⟩
theorem otn_lt {co : Co} (hw : WF co) {K : Nat} : ∀ n, n ≤ co 0 3 → otn co K n < 2 ^ 6
  | 0, _ => by simp [otn]
  | n + 1, h => by
    have ih := otn_lt hw (K := K) n (by omega)
    have ht := top_lt hw (show n < co 0 3 by omega)
    have h6 := hw.t6
    rw [otn]
    refine Nat.or_lt_two_pow ih ?_
    split
    · exact Nat.pow_lt_pow_right (by decide) (by omega)
    · exact Nat.two_pow_pos _
/-- both kinds of best, as far as n -/
def vbf (cnt : Bool) (f : Nat → Nat) (n : Nat) : Nat := if cnt = true then mx f n else mn f n
theorem vbf_0 {cnt : Bool} {f : Nat → Nat} : vbf cnt f 0 = 0 := by
  unfold vbf
  split <;> rfl
theorem vbf_s {cnt : Bool} {f : Nat → Nat} {n : Nat} : vbf cnt f (n + 1) = if decide (f n ≠ 0 ∧ (vbf cnt f n = 0 ∨ (if cnt = true then vbf cnt f n < f n else f n < vbf cnt f n))) = true then f n else vbf cnt f n := by
  simp only [decide_eq_true_eq]
  cases cnt
  · simp only [vbf, Bool.false_eq_true, if_false]
    rw [mn]
  · simp only [vbf, if_true]
    rw [mx]
    split
    · omega
    · rename_i h
      by_cases a : f n = 0
      · omega
      · by_cases b : mx f n = 0
        · exact absurd ⟨a, Or.inl b⟩ h
        · by_cases c : mx f n < f n
          · exact absurd ⟨a, Or.inr c⟩ h
          · omega
theorem ite_le2 {b : Bool} {a c B : Nat} (h1 : a ≤ B) (h2 : c ≤ B) : (if b = true then a else c) ≤ B := by
  cases b
  · exact h2
  · exact h1
theorem vbf_le {cnt : Bool} {f : Nat → Nat} {B : Nat} (h : ∀ x, f x ≤ B) : ∀ n, vbf cnt f n ≤ B
  | 0 => by
    rw [vbf_0]
    exact Nat.zero_le _
  | n + 1 => by
    rw [vbf_s]
    exact ite_le2 (h n) (vbf_le h n)
theorem Bm_v {cnt : Bool} {co s : Co} {wm : Nat → Bool} {d p : Nat} : Bm cnt co s wm (d + 1) p = vbf cnt (chm cnt co s wm (Bm cnt co s wm d) (co 0 3 - 1 - d) p) 16 := rfl
def OffB (I J : ab_I) : Prop := ∀ x, x ≠ 104 → J x = I x
theorem OffB.tr {I J K : ab_I} (h1 : OffB I J) (h2 : OffB J K) : OffB I K := fun x a => (h2 x a).trans (h1 x a)
theorem OffB.w {I : ab_I} {k : Nat} {v : Int32} : OffB I (wI I 104 k v) := fun p a => by
  funext j
  rw [wI_o a]
section MLAY
variable {Z who W : Nat} {co sh : Co} {cnt anew : Bool} {I : ab_I} {R : ab_R} {L : ab_L}
theorem m_outermostOf (hF : Fx R) (hC : MC I co) (hw : WF co) {K : Nat} (hK : K < 2 ^ 31) : cl Z 150 [.ref 87, .int (nI K)] I R L = some (some (.int (nI (otn co K (co 0 3)))), I, R, L) := by
  have h6 := hw.t6
  rw [n150]
  simp only [e150_0, e150_1, e150_2, e150_3, e150_5, e150_6, e150_9, e150_12, e150_13, e150_14, e150_15, e150_18, e150_21, e150_22, e150_23, e150_24, e150_27, e150_28, e150_31, e150_32, e150_33, e150_34, e150_37, e150_40, e150_41, bI_s, bL_s, bV_s, rv_s1, nl_i, nl_a, nl_n, w8_0, w8_i, w8_a, w8_l, ct_i, ct_a, b01_0, b01_1, b01_b]
  refine loop_up (F := fun i => ex Z 0 0 150 4 [some (.ref 87), some (.int (nI K)), some (.int (nI (otn co K i))), some (.int (nI i))] [] I R L) (co 0 3) (fun i hi => ?_) ?_ 0 (Nat.zero_le _)
  · have ht := top_lt hw hi
    rw [e150_4]
    simp only [e150_0, e150_1, e150_2, e150_3, e150_5, e150_6, e150_9, e150_12, e150_13, e150_14, e150_15, e150_18, e150_21, e150_22, e150_23, e150_24, e150_27, e150_28, e150_31, e150_32, e150_33, e150_34, e150_37, e150_40, e150_41, bI_s, bL_s, bV_s, rv_s1, nl_i, nl_a, nl_n, w8_0, w8_i, w8_a, w8_l, ct_i, ct_a, b01_0, b01_1, b01_b, kd_87, hC.th, nI_leI (show co 0 3 < 2 ^ 31 by omega) (show i < 2 ^ 31 by omega), show ¬ co 0 3 ≤ i by omega, if_false, s_has hK (show i < 31 by omega), nI_b, m_outermost hF hC hw hi, nI_1shl (show top co i < 31 by omega), nx_or', nI_add, otn]
    cases K.testBit i <;> simp
  · rw [e150_4]
    simp only [e150_0, e150_1, e150_2, e150_3, e150_5, e150_6, e150_9, e150_12, e150_13, e150_14, e150_15, e150_18, e150_21, e150_22, e150_23, e150_24, e150_27, e150_28, e150_31, e150_32, e150_33, e150_34, e150_37, e150_40, e150_41, bI_s, bL_s, bV_s, rv_s1, nl_i, nl_a, nl_n, w8_0, w8_i, w8_a, w8_l, ct_i, ct_a, b01_0, b01_1, b01_b, kd_87, hC.th, Int32.le_refl, if_true]
theorem m_layBest (hF : Fx R) (hM : KM I co sh cnt W who anew) (hw : WF co) (hv : WS co sh) (hn : WN co sh) (hwho : who < 16) (hW : W < 2 ^ 31) : ∃ J, cl Z 151 [.ref 87] I R L = some (none, J, R, L) ∧ OffB I J ∧ ∀ e, e ≤ co 0 3 → ∀ q, q < 625 → wiP co (s0f sh anew) who q → J 104 (625 * (co 0 3 - e) + q) = nB (Bm cnt co (s0f sh anew) (wbt W) e q) := by
  have h6 := hw.t6
  have hvs := s0_WS (anew := anew) hv
  have hpl : pu co (s0f sh anew) who (co 0 2) < 625 := pu_625 hw who
  have el := m_leftNow (Z := Z) (L := L) hF hM hw hv hn hwho
  generalize hmost : pu co (s0f sh anew) who (co 0 2) = most at el hpl
  have hBb : ∀ d q, Bm cnt co (s0f sh anew) (wbt W) d q ≤ 1 + 60 * d := fun d q => Bm_b hw d q
  have inner : ∀ d, d < co 0 3 → ∀ p, p < 625 → wiP co (s0f sh anew) who p → ∀ J, OffB I J → (∀ q, q < 625 → wiP co (s0f sh anew) who q → J 104 (625 * (co 0 3 - d) + q) = nB (Bm cnt co (s0f sh anew) (wbt W) d q)) → ∀ x, x ≤ 16 → ∀ y, ∃ y', ex Z 0 0 151 62 [some (.ref 87), some (.int (nI most)), some (.int (nI (co 0 3 - 1 - d))), some (.int (nI p)), some (.int (nB (vbf cnt (chm cnt co (s0f sh anew) (wbt W) (Bm cnt co (s0f sh anew) (wbt W) d) (co 0 3 - 1 - d) p) x))), some (.int (nI x)), y] [] J R L = ex Z 0 0 151 113 [some (.ref 87), some (.int (nI most)), some (.int (nI (co 0 3 - 1 - d))), some (.int (nI p)), some (.int (nB (Bm cnt co (s0f sh anew) (wbt W) (d + 1) p))), some (.int (nI 16)), y'] [] J R L := by
    intro d hd p hp hwi J oJ hJ
    have hMJ := hM.off oJ
    have hwt : wif p most 4 = true := wif_iff.mpr (by rw [← hmost]; exact hwi)
    refine loop_all 16 (fun x hx ih y => ?_) (fun y => ?_)
    · have ec := m_choice (Z := Z) (L := L) (t := co 0 3 - 1 - d) (rest := Bm cnt co (s0f sh anew) (wbt W) d) hF hMJ hw hv hwho hW (by omega) hp hx hwi (fun q => by have := hBb d q; omega) (fun q hq hqi => by rw [show co 0 3 - 1 - d + 1 = co 0 3 - d by omega]; exact hJ q hq hqi)
      have hcb := fun x => chm_b (cnt := cnt) (co := co) (s := s0f sh anew) hw (wm := wbt W) (rest := Bm cnt co (s0f sh anew) (wbt W) d) (t := co 0 3 - 1 - d) (p := p) (x := x) (fun q => hBb d q)
      have hcx := hcb x
      have hvx := vbf_le (cnt := cnt) (f := chm cnt co (s0f sh anew) (wbt W) (Bm cnt co (s0f sh anew) (wbt W) d) (co 0 3 - 1 - d) p) hcb x
      have eb := m_isBetter (Z := Z) (R := R) (L := L) hMJ (c := chm cnt co (s0f sh anew) (wbt W) (Bm cnt co (s0f sh anew) (wbt W) d) (co 0 3 - 1 - d) p x) (v := vbf cnt (chm cnt co (s0f sh anew) (wbt W) (Bm cnt co (s0f sh anew) (wbt W) d) (co 0 3 - 1 - d) p) x) (by omega) (by omega)
      obtain ⟨y', e⟩ := ih (some (.int (nB (chm cnt co (s0f sh anew) (wbt W) (Bm cnt co (s0f sh anew) (wbt W) d) (co 0 3 - 1 - d) p x))))
      refine ⟨y', ?_⟩
      rw [vbf_s] at e
      rw [← e, e151_62]
      simp only [e151_0, e151_1, e151_4, e151_5, e151_6, e151_8, e151_11, e151_14, e151_15, e151_18, e151_21, e151_22, e151_25, e151_26, e151_27, e151_28, e151_29, e151_30, e151_33, e151_36, e151_37, e151_40, e151_41, e151_42, e151_44, e151_47, e151_48, e151_50, e151_53, e151_56, e151_57, e151_59, e151_60, e151_64, e151_66, e151_69, e151_70, e151_71, e151_74, e151_77, e151_78, e151_79, e151_80, e151_82, e151_85, e151_87, e151_88, e151_90, e151_92, e151_95, e151_98, e151_100, e151_103, e151_105, e151_107, e151_110, e151_114, e151_117, e151_120, e151_121, e151_122, e151_123, e151_124, e151_126, e151_127, e151_130, e151_133, e151_136, e151_139, bI_s, bL_s, bV_s, rv_s1, nl_i, nl_a, nl_n, w8_0, w8_i, w8_a, w8_l, ct_i, ct_a, b01_0, b01_1, b01_b, kd_87, nI_leI (show 16 < 2 ^ 31 by decide) (show x < 2 ^ 31 by omega), show ¬ 16 ≤ x by omega, if_false, m_isWithin (show p < 2 ^ 31 by omega) (show most < 2 ^ 31 by omega), hwt, Bool.toNat_true, nI10, ec, eb, nI_b, nI_add]
      cases decide (chm cnt co (s0f sh anew) (wbt W) (Bm cnt co (s0f sh anew) (wbt W) d) (co 0 3 - 1 - d) p x ≠ 0 ∧ (vbf cnt (chm cnt co (s0f sh anew) (wbt W) (Bm cnt co (s0f sh anew) (wbt W) d) (co 0 3 - 1 - d) p) x = 0 ∨ (if cnt = true then vbf cnt (chm cnt co (s0f sh anew) (wbt W) (Bm cnt co (s0f sh anew) (wbt W) d) (co 0 3 - 1 - d) p) x < chm cnt co (s0f sh anew) (wbt W) (Bm cnt co (s0f sh anew) (wbt W) d) (co 0 3 - 1 - d) p x else chm cnt co (s0f sh anew) (wbt W) (Bm cnt co (s0f sh anew) (wbt W) d) (co 0 3 - 1 - d) p x < vbf cnt (chm cnt co (s0f sh anew) (wbt W) (Bm cnt co (s0f sh anew) (wbt W) d) (co 0 3 - 1 - d) p) x))) <;> simp
    · refine ⟨y, ?_⟩
      rw [e151_62, Bm_v]
      simp only [e151_0, e151_1, e151_4, e151_5, e151_6, e151_8, e151_11, e151_14, e151_15, e151_18, e151_21, e151_22, e151_25, e151_26, e151_27, e151_28, e151_29, e151_30, e151_33, e151_36, e151_37, e151_40, e151_41, e151_42, e151_44, e151_47, e151_48, e151_50, e151_53, e151_56, e151_57, e151_59, e151_60, e151_64, e151_66, e151_69, e151_70, e151_71, e151_74, e151_77, e151_78, e151_79, e151_80, e151_82, e151_85, e151_87, e151_88, e151_90, e151_92, e151_95, e151_98, e151_100, e151_103, e151_105, e151_107, e151_110, e151_114, e151_117, e151_120, e151_121, e151_122, e151_123, e151_124, e151_126, e151_127, e151_130, e151_133, e151_136, e151_139, bI_s, bL_s, bV_s, rv_s1, nl_i, nl_a, nl_n, w8_0, w8_i, w8_a, w8_l, ct_i, ct_a, b01_0, b01_1, b01_b, Int32.le_refl, if_true]
  have middle : ∀ d, d < co 0 3 → ∀ p, p ≤ 625 → ∀ J y z w, OffB I J → (∀ e, e ≤ d → ∀ q, q < 625 → wiP co (s0f sh anew) who q → J 104 (625 * (co 0 3 - e) + q) = nB (Bm cnt co (s0f sh anew) (wbt W) e q)) → (∀ q, q < p → wiP co (s0f sh anew) who q → J 104 (625 * (co 0 3 - 1 - d) + q) = nB (Bm cnt co (s0f sh anew) (wbt W) (d + 1) q)) → ∃ J' y' z' w', ex Z 0 0 151 49 [some (.ref 87), some (.int (nI most)), some (.int (nI (co 0 3 - 1 - d))), some (.int (nI p)), y, z, w] [] J R L = ex Z 0 0 151 133 [some (.ref 87), some (.int (nI most)), some (.int (nI (co 0 3 - 1 - d))), some (.int (nI 625)), y', z', w'] [] J' R L ∧ OffB I J' ∧ ∀ e, e ≤ d + 1 → ∀ q, q < 625 → wiP co (s0f sh anew) who q → J' 104 (625 * (co 0 3 - e) + q) = nB (Bm cnt co (s0f sh anew) (wbt W) e q) := by
    intro d hd
    refine loop_all 625 (fun p hp ih J y z w oJ h1 h2 => ?_) (fun J y z w oJ h1 h2 => ?_)
    · have eix : ab_ix (nI (625 * (co 0 3 - 1 - d) + p)) 4375 = true := ab_ixN (by omega) (by decide)
      have step : ∀ v a b, (wiP co (s0f sh anew) who p → v = nB (Bm cnt co (s0f sh anew) (wbt W) (d + 1) p)) → ∃ J' y' z' w', ex Z 0 0 151 113 [some (.ref 87), some (.int (nI most)), some (.int (nI (co 0 3 - 1 - d))), some (.int (nI p)), some (.int v), a, b] [] J R L = ex Z 0 0 151 133 [some (.ref 87), some (.int (nI most)), some (.int (nI (co 0 3 - 1 - d))), some (.int (nI 625)), y', z', w'] [] J' R L ∧ OffB I J' ∧ ∀ e, e ≤ d + 1 → ∀ q, q < 625 → wiP co (s0f sh anew) who q → J' 104 (625 * (co 0 3 - e) + q) = nB (Bm cnt co (s0f sh anew) (wbt W) e q) := by
        intro v a b hv2
        obtain ⟨J', y', z', w', e, r⟩ := ih (wI J 104 (625 * (co 0 3 - 1 - d) + p) v) (some (.int v)) a b (oJ.tr OffB.w) (fun e he q hq hqi => by
          rw [wI_k (by omega)]
          exact h1 e he q hq hqi) (fun q hq hqi => by
          by_cases hqp : q = p
          · subst hqp
            rw [wI_self, hv2 hqi]
          · rw [wI_k (by omega)]
            exact h2 q (by omega) hqi)
        refine ⟨J', y', z', w', ?_, r⟩
        simp only [e151_0, e151_1, e151_4, e151_5, e151_6, e151_8, e151_11, e151_14, e151_15, e151_18, e151_21, e151_22, e151_25, e151_26, e151_27, e151_28, e151_29, e151_30, e151_33, e151_36, e151_37, e151_40, e151_41, e151_42, e151_44, e151_47, e151_48, e151_50, e151_53, e151_56, e151_57, e151_59, e151_60, e151_64, e151_66, e151_69, e151_70, e151_71, e151_74, e151_77, e151_78, e151_79, e151_80, e151_82, e151_85, e151_87, e151_88, e151_90, e151_92, e151_95, e151_98, e151_100, e151_103, e151_105, e151_107, e151_110, e151_113, e151_114, e151_117, e151_120, e151_121, e151_122, e151_123, e151_124, e151_126, e151_127, e151_130, e151_136, e151_139, bI_s, bL_s, bV_s, rv_s1, nl_i, nl_a, nl_n, w8_0, w8_i, w8_a, w8_l, ct_i, ct_a, b01_0, b01_1, b01_b, hF.m4, hF.m5, hF.m6, hF.m7, hF.m8, hF.m9, hF.m10, hF.m16, hF.m17, hF.m18, hF.m19, hF.m20, hF.m21, hF.m22, hF.m23, hF.m29, hF.m30, hF.m35, hF.m37, hF.m38, hF.m40, hF.m41, hF.m43, hF.m44, kd_87, al_88, al_89, al_90, al_91, al_92, al_93, al_94, al_95, al_96, al_97, al_98, al_99, al_100, al_101, al_102, al_103, al_104, al_105, al_106, al_108, al_111, zl_107, zl_109, zl_110, Nat.reduceLT, pk_mul, nI_add, eix, nI_clamp (show 625 * (co 0 3 - 1 - d) + p < 2 ^ 31 by omega)]
        exact e
      have e49 : ex Z 0 0 151 49 [some (.ref 87), some (.int (nI most)), some (.int (nI (co 0 3 - 1 - d))), some (.int (nI p)), y, z, w] [] J R L = ex Z 0 0 151 62 [some (.ref 87), some (.int (nI most)), some (.int (nI (co 0 3 - 1 - d))), some (.int (nI p)), some (.int (iI (-1))), some (.int (nI 0)), w] [] J R L := by
        rw [e151_49]
        simp only [e151_0, e151_1, e151_4, e151_5, e151_6, e151_8, e151_11, e151_14, e151_15, e151_18, e151_21, e151_22, e151_25, e151_26, e151_27, e151_28, e151_29, e151_30, e151_33, e151_36, e151_37, e151_40, e151_41, e151_42, e151_44, e151_47, e151_48, e151_50, e151_53, e151_56, e151_57, e151_59, e151_60, e151_64, e151_66, e151_69, e151_70, e151_71, e151_74, e151_77, e151_78, e151_79, e151_80, e151_82, e151_85, e151_87, e151_88, e151_90, e151_92, e151_95, e151_98, e151_100, e151_103, e151_105, e151_107, e151_110, e151_114, e151_117, e151_120, e151_121, e151_122, e151_123, e151_124, e151_126, e151_127, e151_130, e151_136, e151_139, bI_s, bL_s, bV_s, rv_s1, nl_i, nl_a, nl_n, w8_0, w8_i, w8_a, w8_l, ct_i, ct_a, b01_0, b01_1, b01_b, nI_leI (show 625 < 2 ^ 31 by decide) (show p < 2 ^ 31 by omega), show ¬ 625 ≤ p by omega, if_false]
      rw [e49]
      by_cases hwi : wiP co (s0f sh anew) who p
      · obtain ⟨y', e⟩ := inner d hd p hp hwi J oJ (fun q hq hqi => h1 d (Nat.le_refl _) q hq hqi) 0 (Nat.zero_le _) w
        obtain ⟨J', y2, z2, w2, e2, r⟩ := step (nB (Bm cnt co (s0f sh anew) (wbt W) (d + 1) p)) (some (.int (nI 16))) y' (fun _ => rfl)
        rw [vbf_0] at e
        exact ⟨J', y2, z2, w2, e.trans e2, r⟩
      · obtain ⟨J', y2, z2, w2, e2, r⟩ := step (iI (-1)) (some (.int (nI 0))) w (fun h => absurd h hwi)
        have hwf : wif p most 4 = false := by
          cases h : wif p most 4
          · rfl
          · exact absurd (by have := wif_iff.mp h; rw [← hmost] at this; exact this) hwi
        refine ⟨J', y2, z2, w2, Eq.trans ?_ e2, r⟩
        rw [e151_62]
        simp only [e151_0, e151_1, e151_4, e151_5, e151_6, e151_8, e151_11, e151_14, e151_15, e151_18, e151_21, e151_22, e151_25, e151_26, e151_27, e151_28, e151_29, e151_30, e151_33, e151_36, e151_37, e151_40, e151_41, e151_42, e151_44, e151_47, e151_48, e151_50, e151_53, e151_56, e151_57, e151_59, e151_60, e151_64, e151_66, e151_69, e151_70, e151_71, e151_74, e151_77, e151_78, e151_79, e151_80, e151_82, e151_85, e151_87, e151_88, e151_90, e151_92, e151_95, e151_98, e151_100, e151_103, e151_105, e151_107, e151_110, e151_114, e151_117, e151_120, e151_121, e151_122, e151_123, e151_124, e151_126, e151_127, e151_130, e151_136, e151_139, bI_s, bL_s, bV_s, rv_s1, nl_i, nl_a, nl_n, w8_0, w8_i, w8_a, w8_l, ct_i, ct_a, b01_0, b01_1, b01_b, nI_leI (show 16 < 2 ^ 31 by decide) (show 0 < 2 ^ 31 by decide), show ¬ 16 ≤ 0 by decide, if_false, m_isWithin (show p < 2 ^ 31 by omega) (show most < 2 ^ 31 by omega), hwf, Bool.toNat_false, if_true]
    · refine ⟨J, y, z, w, ?_, oJ, fun e he q hq hqi => ?_⟩
      · rw [e151_49]
        simp only [e151_0, e151_1, e151_4, e151_5, e151_6, e151_8, e151_11, e151_14, e151_15, e151_18, e151_21, e151_22, e151_25, e151_26, e151_27, e151_28, e151_29, e151_30, e151_33, e151_36, e151_37, e151_40, e151_41, e151_42, e151_44, e151_47, e151_48, e151_50, e151_53, e151_56, e151_57, e151_59, e151_60, e151_64, e151_66, e151_69, e151_70, e151_71, e151_74, e151_77, e151_78, e151_79, e151_80, e151_82, e151_85, e151_87, e151_88, e151_90, e151_92, e151_95, e151_98, e151_100, e151_103, e151_105, e151_107, e151_110, e151_113, e151_114, e151_117, e151_120, e151_121, e151_122, e151_123, e151_124, e151_126, e151_127, e151_130, e151_136, e151_139, bI_s, bL_s, bV_s, rv_s1, nl_i, nl_a, nl_n, w8_0, w8_i, w8_a, w8_l, ct_i, ct_a, b01_0, b01_1, b01_b, Int32.le_refl, if_true]
      · by_cases h : e ≤ d
        · exact h1 e h q hq hqi
        · have := h2 q hq hqi
          rw [show e = d + 1 by omega, show co 0 3 - (d + 1) = co 0 3 - 1 - d by omega]
          exact this
  have outer := loop_all (P := fun d => ∀ J y z w v, OffB I J → (∀ e, e ≤ d → ∀ q, q < 625 → wiP co (s0f sh anew) who q → J 104 (625 * (co 0 3 - e) + q) = nB (Bm cnt co (s0f sh anew) (wbt W) e q)) → ∃ J', ex Z 0 0 151 43 [some (.ref 87), some (.int (nI most)), some (.int (iI ((co 0 3 : Int) - 1 - d))), y, z, w, v] [] J R L = some (none, J', R, L) ∧ OffB I J' ∧ ∀ e, e ≤ co 0 3 → ∀ q, q < 625 → wiP co (s0f sh anew) who q → J' 104 (625 * (co 0 3 - e) + q) = nB (Bm cnt co (s0f sh anew) (wbt W) e q)) (co 0 3) (fun d hd ih J y z w v oJ hJ => ?_) (fun J y z w v oJ hJ => ?_) 0 (Nat.zero_le _)
  · have first := loop_all (P := fun i => ∀ J, OffB I J → (∀ q, q < i → J 104 (625 * co 0 3 + q) = nI 0) → ∃ J', ex Z 0 0 151 7 [some (.ref 87), some (.int (nI most)), some (.int (nI i)), none, none, none, none] [] J R L = some (none, J', R, L) ∧ OffB I J' ∧ ∀ e, e ≤ co 0 3 → ∀ q, q < 625 → wiP co (s0f sh anew) who q → J' 104 (625 * (co 0 3 - e) + q) = nB (Bm cnt co (s0f sh anew) (wbt W) e q)) 625 (fun i hi ih J oJ hJ => ?_) (fun J oJ hJ => ?_) 0 (Nat.zero_le _)
    · obtain ⟨J', e, r⟩ := first I (fun _ _ => rfl) (fun q hq => by omega)
      refine ⟨J', ?_, r⟩
      rw [n151]
      simp only [e151_0, e151_1, e151_4, e151_5, e151_6, e151_8, e151_11, e151_14, e151_15, e151_18, e151_21, e151_22, e151_25, e151_26, e151_27, e151_28, e151_29, e151_30, e151_33, e151_36, e151_37, e151_40, e151_41, e151_42, e151_44, e151_47, e151_48, e151_50, e151_53, e151_56, e151_57, e151_59, e151_60, e151_64, e151_66, e151_69, e151_70, e151_71, e151_74, e151_77, e151_78, e151_79, e151_80, e151_82, e151_85, e151_87, e151_88, e151_90, e151_92, e151_95, e151_98, e151_100, e151_103, e151_105, e151_107, e151_110, e151_113, e151_114, e151_117, e151_120, e151_121, e151_122, e151_123, e151_124, e151_126, e151_127, e151_130, e151_133, e151_136, e151_139, bI_s, bL_s, bV_s, rv_s1, nl_i, nl_a, nl_n, w8_0, w8_i, w8_a, w8_l, ct_i, ct_a, b01_0, b01_1, b01_b, kd_87, el]
      exact e
    · have hMJ := hM.off oJ
      obtain ⟨J', e, r⟩ := ih (wI J 104 (625 * co 0 3 + i) (nI 0)) (oJ.tr OffB.w) (fun q hq => by
        by_cases h : q = i
        · subst h
          rw [wI_self]
        · rw [wI_k (by omega)]
          exact hJ q (by omega))
      refine ⟨J', ?_, r⟩
      rw [e151_7]
      simp only [e151_0, e151_1, e151_4, e151_5, e151_6, e151_8, e151_11, e151_14, e151_15, e151_18, e151_21, e151_22, e151_25, e151_26, e151_27, e151_28, e151_29, e151_30, e151_33, e151_36, e151_37, e151_40, e151_41, e151_42, e151_44, e151_47, e151_48, e151_50, e151_53, e151_56, e151_57, e151_59, e151_60, e151_64, e151_66, e151_69, e151_70, e151_71, e151_74, e151_77, e151_78, e151_79, e151_80, e151_82, e151_85, e151_87, e151_88, e151_90, e151_92, e151_95, e151_98, e151_100, e151_103, e151_105, e151_107, e151_110, e151_113, e151_114, e151_117, e151_120, e151_121, e151_122, e151_123, e151_124, e151_126, e151_127, e151_130, e151_133, e151_136, e151_139, bI_s, bL_s, bV_s, rv_s1, nl_i, nl_a, nl_n, w8_0, w8_i, w8_a, w8_l, ct_i, ct_a, b01_0, b01_1, b01_b, hF.m4, hF.m5, hF.m6, hF.m7, hF.m8, hF.m9, hF.m10, hF.m16, hF.m17, hF.m18, hF.m19, hF.m20, hF.m21, hF.m22, hF.m23, hF.m29, hF.m30, hF.m35, hF.m37, hF.m38, hF.m40, hF.m41, hF.m43, hF.m44, kd_87, al_88, al_89, al_90, al_91, al_92, al_93, al_94, al_95, al_96, al_97, al_98, al_99, al_100, al_101, al_102, al_103, al_104, al_105, al_106, al_108, al_111, zl_107, zl_109, zl_110, Nat.reduceLT, nI_leI (show 625 < 2 ^ 31 by decide) (show i < 2 ^ 31 by omega), show ¬ 625 ≤ i by omega, if_false, hMJ.1.1.th, pk_mul, nI_add, ab_ixN (show 625 * co 0 3 + i < 4375 by omega) (show 4375 < 2 ^ 31 by decide), nI_clamp (show 625 * co 0 3 + i < 2 ^ 31 by omega)]
      exact e
    · have hMJ := hM.off oJ
      obtain ⟨J', e, r⟩ := outer J none none none none oJ (fun e he q hq _ => by
        rw [show e = 0 by omega, Nat.sub_zero, hJ q hq]
        rfl)
      have e5 : nI (co 0 3) - nI 1 = iI ((co 0 3 : Int) - 1 - (0 : Nat)) := by
        rw [nI_iI, nI_iI, iI_sub]
        congr 1
        omega
      refine ⟨J', ?_, r⟩
      rw [e151_7]
      simp only [e151_0, e151_1, e151_4, e151_5, e151_6, e151_8, e151_11, e151_14, e151_15, e151_18, e151_21, e151_22, e151_25, e151_26, e151_27, e151_28, e151_29, e151_30, e151_33, e151_36, e151_37, e151_40, e151_41, e151_42, e151_44, e151_47, e151_48, e151_50, e151_53, e151_56, e151_57, e151_59, e151_60, e151_64, e151_66, e151_69, e151_70, e151_71, e151_74, e151_77, e151_78, e151_79, e151_80, e151_82, e151_85, e151_87, e151_88, e151_90, e151_92, e151_95, e151_98, e151_100, e151_103, e151_105, e151_107, e151_110, e151_113, e151_114, e151_117, e151_120, e151_121, e151_122, e151_123, e151_124, e151_126, e151_127, e151_130, e151_133, e151_136, e151_139, bI_s, bL_s, bV_s, rv_s1, nl_i, nl_a, nl_n, w8_0, w8_i, w8_a, w8_l, ct_i, ct_a, b01_0, b01_1, b01_b, kd_87, Int32.le_refl, if_true, hMJ.1.1.th, e5]
      exact e
  · have ed : iI ((co 0 3 : Int) - 1 - d) = nI (co 0 3 - 1 - d) := by
      rw [nI_iI]
      congr 1
      omega
    have e5 : nI (co 0 3 - 1 - d) + iI (-1) = iI ((co 0 3 : Int) - 1 - (d + 1 : Nat)) := by
      rw [nI_iI, iI_add]
      congr 1
      omega
    obtain ⟨J1, y1, z1, w1, e1, o1, t1⟩ := middle d hd 0 (Nat.zero_le _) J z w v oJ hJ (fun q hq => by omega)
    obtain ⟨J', e, r⟩ := ih J1 (some (.int (nI 625))) y1 z1 w1 o1 t1
    refine ⟨J', ?_, r⟩
    rw [e151_43]
    simp only [e151_0, e151_1, e151_4, e151_5, e151_6, e151_8, e151_11, e151_14, e151_15, e151_18, e151_21, e151_22, e151_25, e151_26, e151_27, e151_28, e151_29, e151_30, e151_33, e151_36, e151_37, e151_40, e151_41, e151_42, e151_44, e151_47, e151_48, e151_50, e151_53, e151_56, e151_57, e151_59, e151_60, e151_64, e151_66, e151_69, e151_70, e151_71, e151_74, e151_77, e151_78, e151_79, e151_80, e151_82, e151_85, e151_87, e151_88, e151_90, e151_92, e151_95, e151_98, e151_100, e151_103, e151_105, e151_107, e151_110, e151_113, e151_114, e151_117, e151_120, e151_121, e151_122, e151_123, e151_124, e151_126, e151_127, e151_130, e151_136, e151_139, bI_s, bL_s, bV_s, rv_s1, nl_i, nl_a, nl_n, w8_0, w8_i, w8_a, w8_l, ct_i, ct_a, b01_0, b01_1, b01_b, ed, nI_ltI (show co 0 3 - 1 - d < 2 ^ 31 by omega) (show 0 < 2 ^ 31 by decide), Nat.not_lt_zero, if_false]
    rw [e1]
    simp only [e151_0, e151_1, e151_4, e151_5, e151_6, e151_8, e151_11, e151_14, e151_15, e151_18, e151_21, e151_22, e151_25, e151_26, e151_27, e151_28, e151_29, e151_30, e151_33, e151_36, e151_37, e151_40, e151_41, e151_42, e151_44, e151_47, e151_48, e151_50, e151_53, e151_56, e151_57, e151_59, e151_60, e151_64, e151_66, e151_69, e151_70, e151_71, e151_74, e151_77, e151_78, e151_79, e151_80, e151_82, e151_85, e151_87, e151_88, e151_90, e151_92, e151_95, e151_98, e151_100, e151_103, e151_105, e151_107, e151_110, e151_113, e151_114, e151_117, e151_120, e151_121, e151_122, e151_123, e151_124, e151_126, e151_127, e151_130, e151_133, e151_136, e151_139, bI_s, bL_s, bV_s, rv_s1, nl_i, nl_a, nl_n, w8_0, w8_i, w8_a, w8_l, ct_i, ct_a, b01_0, b01_1, b01_b, e5]
    exact e
  · refine ⟨J, ?_, oJ, hJ⟩
    have hneg : iI ((co 0 3 : Int) - 1 - (co 0 3 : Nat)) < nI 0 := by
      rw [lt0_iff, iI_toInt (by omega) (by omega)]
      omega
    rw [e151_43]
    simp only [e151_0, e151_1, e151_4, e151_5, e151_6, e151_8, e151_11, e151_14, e151_15, e151_18, e151_21, e151_22, e151_25, e151_26, e151_27, e151_28, e151_29, e151_30, e151_33, e151_36, e151_37, e151_40, e151_41, e151_42, e151_44, e151_47, e151_48, e151_50, e151_53, e151_56, e151_57, e151_59, e151_60, e151_64, e151_66, e151_69, e151_70, e151_71, e151_74, e151_77, e151_78, e151_79, e151_80, e151_82, e151_85, e151_87, e151_88, e151_90, e151_92, e151_95, e151_98, e151_100, e151_103, e151_105, e151_107, e151_110, e151_113, e151_114, e151_117, e151_120, e151_121, e151_122, e151_123, e151_124, e151_126, e151_127, e151_130, e151_133, e151_136, e151_139, bI_s, bL_s, bV_s, rv_s1, nl_i, nl_a, nl_n, w8_0, w8_i, w8_a, w8_l, ct_i, ct_a, b01_0, b01_1, b01_b, hneg, if_true]
end MLAY
