/-! the other calls of a shore -/
theorem cpI_o {I : ab_I} {a sp b dp n p j : Nat} (h : p ≠ b) : cpI I a sp b dp n p j = I p j := by simp [cpI, h]
theorem cpI_in {I : ab_I} {a b n j : Nat} (h : j < n) : cpI I a 0 b 0 n b j = I a j := by simp [cpI, va_cpy, h]
theorem cl_0 : (nI 0).toNatClampNeg = 0 := by decide
theorem cl_4 : (nI 4).toNatClampNeg = 4 := by decide
theorem cl_6 : (nI 6).toNatClampNeg = 6 := by decide
def zrI (I : ab_I) (o : Nat) : Nat → ab_I
  | 0 => I
  | n + 1 => wI (zrI I o n) o n (nI 0)
theorem zrI_o {I : ab_I} {o p : Nat} (h : p ≠ o) : ∀ n, zrI I o n p = I p
  | 0 => rfl
  | n + 1 => by
    funext j
    rw [zrI, wI_o h, zrI_o h n]
theorem zrI_at {I : ab_I} {o j : Nat} : ∀ n, j < n → zrI I o n o j = nI 0
  | n + 1, h => by
    rw [zrI]
    by_cases hj : j = n
    · subst hj
      rw [wI_self]
    · rw [wI_k hj, zrI_at n (by omega)]
def shU (sh : Co) : Co := fun a b => if a = 1 then 0 else sh a b
theorem shU_WS {co sh : Co} (hv : WS co sh) : WS co (shU sh) := ⟨fun t ht => hv.1 t ht, fun h _ => by simp [shU], hv.2.2.1, hv.2.2.2⟩
def shB (co : Co) : Co := fun a b => if a = 0 then co 3 b else if a = 2 ∧ b = 1 then co 0 4 else 0
theorem shB_WS {co : Co} (hw : WF co) : WS co (shB co) := ⟨fun t ht => (hw.2.2.2.2.2.2 t ht).1, fun h _ => by simp [shB], by simp [shB], by simp [shB]; exact hw.2.2.2.2.1⟩
def cntS (sh : Co) : Nat := pc (sh 1 0) 6 + pc (sh 1 1) 6 + pc (sh 1 2) 6 + pc (sh 1 3) 6
section SHORE2
variable {Z c s s2 t h : Nat} {co sh : Co} {I : ab_I} {R : ab_R} {L : ab_L}
theorem s_unsay0 (hF : Fx R) (hs : IsS s) : cl Z 54 [.ref s] I R L = some (none, zrI I (s + 2) 4, R, L) := by
  rw [n54]
  simp only [e54_0, e54_1, e54_3, e54_4, e54_7, e54_8, e54_11, e54_12, e54_13, e54_14, e54_17, e54_20, bI_s, bL_s, bV_s, rv_s1, nl_i, nl_a, nl_n, w8_0, w8_i, w8_a, w8_l, ct_i, ct_a, b01_0, b01_1, b01_b]
  refine loop_up (F := fun i => ex Z 0 0 54 2 [some (.ref s), some (.int (nI i))] [] (zrI I (s + 2) i) R L) 4 (fun i hi => ?_) ?_ 0 (Nat.zero_le _)
  · rw [e54_2]
    simp only [e54_0, e54_1, e54_3, e54_4, e54_7, e54_8, e54_11, e54_12, e54_13, e54_14, e54_17, e54_20, bI_s, bL_s, bV_s, rv_s1, nl_i, nl_a, nl_n, w8_0, w8_i, w8_a, w8_l, ct_i, ct_a, b01_0, b01_1, b01_b, kdS hs, hF.s0 hs, hF.s1 hs, alS1 hs, alS2 hs, ltS1 hs, ltS2 hs, nI_leI (show 4 < 2 ^ 31 by omega) (show i < 2 ^ 31 by omega), show ¬ 4 ≤ i by omega, if_false, ab_ixN (show i < 4 by omega) (by decide), nI_clamp (show i < 2 ^ 31 by omega), nI_add, zrI]
  · rw [e54_2]
    simp only [e54_0, e54_1, e54_3, e54_4, e54_7, e54_8, e54_11, e54_12, e54_13, e54_14, e54_17, e54_20, bI_s, bL_s, bV_s, rv_s1, nl_i, nl_a, nl_n, w8_0, w8_i, w8_a, w8_l, ct_i, ct_a, b01_0, b01_1, b01_b, Int32.le_refl, if_true]
theorem s_unsay (hF : Fx R) (hs : IsS s) (hS : XS I s co sh) : ∃ I', cl Z 54 [.ref s] I R L = some (none, I', R, L) ∧ OffS I I' s ∧ XS I' s co (shU sh) := by
  refine ⟨_, s_unsay0 hF hs, fun o a b cc => zrI_o cc 4, fun t ht => ?_, fun h hh => ?_, ?_, ?_, ?_⟩
  · rw [zrI_o (by omega), hS.pl ht]
    rfl
  · rw [zrI_at 4 hh]
    rfl
  · rw [zrI_o (by omega), hS.st]
    rfl
  · rw [zrI_o (by omega), hS.ow]
    rfl
  · rw [zrI_o (by omega), hS.bl]
    rfl
theorem s_copy (hF : Fx R) (hs : IsS s) (hs2 : IsS s2) (hne : s2 ≠ s) (h6 : co 0 3 ≤ 6) (hS : XS I s2 co sh) : ∃ I', cl Z 55 [.ref s, .ref s2] I R L = some (none, I', R, L) ∧ OffS I I' s ∧ XS I' s co sh := by
  have d00 := dSS hs2 hs hne (show 0 ≤ 2 by decide) (show 0 ≤ 2 by decide)
  have d01 := dSS hs2 hs hne (show 0 ≤ 2 by decide) (show 1 ≤ 2 by decide)
  have d02 := dSS hs2 hs hne (show 0 ≤ 2 by decide) (show 2 ≤ 2 by decide)
  have d10 := dSS hs2 hs hne (show 1 ≤ 2 by decide) (show 0 ≤ 2 by decide)
  have d11 := dSS hs2 hs hne (show 1 ≤ 2 by decide) (show 1 ≤ 2 by decide)
  have d12 := dSS hs2 hs hne (show 1 ≤ 2 by decide) (show 2 ≤ 2 by decide)
  have d20 := dSS hs2 hs hne (show 2 ≤ 2 by decide) (show 0 ≤ 2 by decide)
  have d21 := dSS hs2 hs hne (show 2 ≤ 2 by decide) (show 1 ≤ 2 by decide)
  have d22 := dSS hs2 hs hne (show 2 ≤ 2 by decide) (show 2 ≤ 2 by decide)
  simp only [Nat.add_zero] at d00 d01 d02 d10 d20
  have hlt : s2 + 1 < 112 ∧ s + 1 < 112 := ⟨ltS hs2 1 (by decide), ltS hs 1 (by decide)⟩
  have hlt2 : s2 + 2 < 112 ∧ s + 2 < 112 := ⟨ltS hs2 2 (by decide), ltS hs 2 (by decide)⟩
  have z6 : ¬ nI 6 < 0 := by decide
  have z4 : ¬ nI 4 < 0 := by decide
  have z0 : ¬ nI 0 < 0 := by decide
  refine ⟨wI (wI (wI (cpI (cpI I (s2 + 1) 0 (s + 1) 0 6) (s2 + 2) 0 (s + 2) 0 4) s 2 (I s2 2)) s 3 (I s2 3)) s 4 (I s2 4), ?_, ?_, ?_⟩
  · rw [n55]
    simp only [e55_0, e55_1, e55_4, e55_5, e55_6, e55_9, e55_10, e55_12, e55_15, e55_16, e55_19, e55_20, e55_21, e55_24, e55_25, e55_26, e55_29, e55_30, e55_31, e55_34, e55_37, e55_38, e55_39, e55_42, e55_45, e55_46, e55_47, e55_50, e55_53, bI_s, bL_s, bV_s, rv_s1, nl_i, nl_a, nl_n, w8_0, w8_i, w8_a, w8_l, ct_i, ct_a, b01_0, b01_1, b01_b, kdS hs, hF.s0 hs, hF.s1 hs, alS1 hs, alS2 hs, ltS1 hs, ltS2 hs, kdS hs2, hF.s0 hs2, hF.s1 hs2, alS1 hs2, alS2 hs2, hlt, hlt2, z6, z4, z0, cl_0, cl_4, cl_6, Nat.zero_add, Nat.le_refl, not_false_eq_true, and_self, show 0 < 6 by decide, show 0 < 4 by decide, wI_o d00, cpI_o d01, cpI_o d02]
  · intro o a b cc
    funext j
    simp only [wI_o a, cpI_o b, cpI_o cc]
  · refine ⟨fun t ht => ?_, fun h hh => ?_, ?_, ?_, ?_⟩
    · rw [wI_o (by omega), wI_o (by omega), wI_o (by omega), cpI_o (by omega), cpI_in (by omega), hS.pl ht]
    · rw [wI_o (by omega), wI_o (by omega), wI_o (by omega), cpI_in (by omega), cpI_o (by omega), hS.sd hh]
    · simp only [wI_k (show 2 ≠ 4 by decide), wI_k (show 2 ≠ 3 by decide), wI_self, hS.st]
    · simp only [wI_k (show 3 ≠ 4 by decide), wI_self, hS.ow]
    · simp only [wI_self, hS.bl]
theorem s_begin (hF : Fx R) (hc : IsC c) (hs : IsS s) (hC : XC I c co) (h6 : co 0 3 ≤ 6) : ∃ I', cl Z 53 [.ref s, .ref c] I R L = some (none, I', R, L) ∧ OffS I I' s ∧ XS I' s co (shB co) := by
  have hlt : c + 3 < 112 ∧ s + 1 < 112 := ⟨ltC hc 3 (by decide), ltS hs 1 (by decide)⟩
  have z6 : ¬ nI 6 < 0 := by decide
  have z0 : ¬ nI 0 < 0 := by decide
  have dc1 := dCS hc hs (show 0 ≤ 7 by decide) (show 1 ≤ 2 by decide)
  have dc2 := dCS hc hs (show 0 ≤ 7 by decide) (show 2 ≤ 2 by decide)
  have dc0 := dCS hc hs (show 0 ≤ 7 by decide) (show 0 ≤ 2 by decide)
  simp only [Nat.add_zero] at dc0 dc1 dc2
  refine ⟨wI (wI (wI (zrI (cpI I (c + 3) 0 (s + 1) 0 6) (s + 2) 4) s 2 (nI 0)) s 3 (I c 11)) s 4 (nI 0), ?_, ?_, ?_⟩
  · rw [n53]
    simp only [e53_0, e53_1, e53_4, e53_5, e53_6, e53_9, e53_10, e53_12, e53_15, e53_16, e53_19, e53_20, e53_21, e53_24, e53_25, e53_26, e53_29, e53_32, e53_33, e53_34, e53_37, bI_s, bL_s, bV_s, rv_s1, nl_i, nl_a, nl_n, w8_0, w8_i, w8_a, w8_l, ct_i, ct_a, b01_0, b01_1, b01_b, kdS hs, hF.s0 hs, hF.s1 hs, alS1 hs, alS2 hs, ltS1 hs, ltS2 hs, kdC hc, hF.c0 hc, hF.c1 hc, hF.c2 hc, hF.c3 hc, hF.c4 hc, hF.c5 hc, hF.c6 hc, alC1 hc, ltC1 hc, alC2 hc, ltC2 hc, alC3 hc, ltC3 hc, alC4 hc, ltC4 hc, alC5 hc, ltC5 hc, alC6 hc, ltC6 hc, alC7 hc, ltC7 hc, hlt, z6, z0, cl_0, cl_6, Nat.zero_add, Nat.le_refl, not_false_eq_true, and_self, show 0 < 6 by decide, s_unsay0 hF hs, wI_o dc0, zrI_o dc2, cpI_o dc1]
  · intro o a b cc
    funext j
    simp only [wI_o a, cpI_o b, zrI_o cc]
  · refine ⟨fun t ht => ?_, fun h hh => ?_, ?_, ?_, ?_⟩
    · rw [wI_o (by omega), wI_o (by omega), wI_o (by omega), zrI_o (by omega), cpI_in (by omega), hC.a3 ht]
      rfl
    · rw [wI_o (by omega), wI_o (by omega), wI_o (by omega), zrI_at 4 hh]
      rfl
    · rw [wI_k (by decide), wI_k (by decide), wI_self]
      rfl
    · rw [wI_k (by decide), wI_self, hC.db]
      rfl
    · rw [wI_self]
      rfl
theorem s_saidCount (hF : Fx R) (hs : IsS s) (hS : XS I s co sh) (hv : WS co sh) : cl Z 56 [.ref s] I R L = some (some (.int (nI (cntS sh))), I, R, L) := by
  have b0 := hv.2.1 0 (by decide)
  have b1 := hv.2.1 1 (by decide)
  have b2 := hv.2.1 2 (by decide)
  have b3 := hv.2.1 3 (by decide)
  have key : ∀ i, i < 4 → ∀ a, ex Z 0 0 56 4 [some (.ref s), some (.int (nI a)), some (.int (nI i))] [] I R L = ex Z 0 0 56 4 [some (.ref s), some (.int (nI (a + pc (sh 1 i) 6))), some (.int (nI (i + 1)))] [] I R L := by
    intro i hi a
    have b := hv.2.1 i hi
    rw [e56_4]
    simp only [e56_0, e56_1, e56_2, e56_3, e56_5, e56_6, e56_9, e56_10, e56_11, e56_14, e56_15, e56_16, e56_19, e56_20, e56_21, e56_24, e56_27, e56_28, bI_s, bL_s, bV_s, rv_s1, nl_i, nl_a, nl_n, w8_0, w8_i, w8_a, w8_l, ct_i, ct_a, b01_0, b01_1, b01_b, kdS hs, hF.s0 hs, hF.s1 hs, alS1 hs, alS2 hs, ltS1 hs, ltS2 hs, nI_leI (show 4 < 2 ^ 31 by omega) (show i < 2 ^ 31 by omega), show ¬ 4 ≤ i by omega, if_false, ab_ixN (show i < 4 by omega) (by decide), nI_clamp (show i < 2 ^ 31 by omega), hS.sd hi, s_ones b, nI_add]
  rw [n56]
  simp only [e56_0, e56_1, e56_2, e56_3, e56_5, e56_6, e56_9, e56_10, e56_11, e56_14, e56_15, e56_16, e56_19, e56_20, e56_21, e56_24, e56_27, e56_28, bI_s, bL_s, bV_s, rv_s1, nl_i, nl_a, nl_n, w8_0, w8_i, w8_a, w8_l, ct_i, ct_a, b01_0, b01_1, b01_b]
  rw [key 0 (by decide), key 1 (by decide), key 2 (by decide), key 3 (by decide), e56_4]
  simp only [e56_0, e56_1, e56_2, e56_3, e56_5, e56_6, e56_9, e56_10, e56_11, e56_14, e56_15, e56_16, e56_19, e56_20, e56_21, e56_24, e56_27, e56_28, bI_s, bL_s, bV_s, rv_s1, nl_i, nl_a, nl_n, w8_0, w8_i, w8_a, w8_l, ct_i, ct_a, b01_0, b01_1, b01_b, Int32.le_refl, if_true, Nat.zero_add, Nat.reduceAdd]
  rfl
end SHORE2
