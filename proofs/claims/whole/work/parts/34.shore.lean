/-! a shore changes -/
theorem dCS {c s k j : Nat} (hc : IsC c) (hs : IsS s) (hk : k ≤ 7) (hj : j ≤ 2) : c + k ≠ s + j := by
  unfold IsC at hc
  unfold IsS at hs
  omega
theorem dSS {s s2 k j : Nat} (hs : IsS s) (hs2 : IsS s2) (hne : s ≠ s2) (hk : k ≤ 2) (hj : j ≤ 2) : s + k ≠ s2 + j := by
  unfold IsS at hs hs2
  omega
theorem XC.off {I I' : ab_I} {c : Nat} {co : Co} (h : XC I c co) (ho : ∀ k, k ≤ 7 → I' (c + k) = I (c + k)) : XC I' c co := by
  have h0 := ho 0 (by decide)
  rw [Nat.add_zero] at h0
  unfold XC
  rw [h0, ho 1 (by decide), ho 2 (by decide), ho 3 (by decide), ho 4 (by decide), ho 5 (by decide), ho 6 (by decide), ho 7 (by decide)]
  exact h
theorem XS.off {I I' : ab_I} {s : Nat} {co sh : Co} (h : XS I s co sh) (ho : ∀ k, k ≤ 2 → I' (s + k) = I (s + k)) : XS I' s co sh := by
  have h0 := ho 0 (by decide)
  rw [Nat.add_zero] at h0
  unfold XS
  rw [h0, ho 1 (by decide), ho 2 (by decide)]
  exact h
/-- outside a shore all is as it was -/
def OffS (I I' : ab_I) (s : Nat) : Prop := ∀ o, o ≠ s → o ≠ s + 1 → o ≠ s + 2 → I' o = I o
theorem XC.offS {I I' : ab_I} {c s : Nat} {co : Co} (h : XC I c co) (hc : IsC c) (hs : IsS s) (ho : OffS I I' s) : XC I' c co :=
  h.off fun k hk => ho _ (by have := dCS hc hs hk (show 0 ≤ 2 by decide); simpa using this) (dCS hc hs hk (by decide)) (dCS hc hs hk (by decide))
theorem XS.offS {I I' : ab_I} {s s2 : Nat} {co sh : Co} (h : XS I s2 co sh) (hs : IsS s) (hs2 : IsS s2) (hne : s2 ≠ s) (ho : OffS I I' s) : XS I' s2 co sh :=
  h.off fun k hk => ho _ (by have := dSS hs2 hs hne hk (show 0 ≤ 2 by decide); simpa using this) (dSS hs2 hs hne hk (by decide)) (dSS hs2 hs hne hk (by decide))
theorem OffS.tr {I I1 I2 : ab_I} {s : Nat} (h1 : OffS I I1 s) (h2 : OffS I1 I2 s) : OffS I I2 s := fun o a b c => (h2 o a b c).trans (h1 o a b c)
theorem stayf_cg {co sh sh' : Co} (h1 : ∀ h, sh' 1 h = sh 1 h) (h2 : ∀ k, sh' 2 k = sh 2 k) (t : Nat) : stayf co sh' t = stayf co sh t := by
  unfold stayf cntf saidf
  rw [h2, h2]
  simp only [h1]
theorem plbf_cg {co sh sh' : Co} (h1 : ∀ h, sh' 1 h = sh 1 h) (h2 : ∀ k, sh' 2 k = sh 2 k) {t : Nat} (h0 : sh' 0 t = sh 0 t) (n : Nat) : plbf co sh' t n = plbf co sh t n := by
  unfold plbf
  rw [stayf_cg h1 h2, h0]
/-- places up to i are f's -/
def shp (sh : Co) (f : Nat → Nat) (i : Nat) : Co := fun a b => if a = 0 ∧ b < i then f b else sh a b
def shd (co sh : Co) : Co := fun a b => if a = 0 then plbf co sh b 1 else if a = 2 ∧ b = 2 then sh 2 2 + 1 else sh a b
def drI (I : ab_I) (s : Nat) (f : Nat → Nat) : Nat → ab_I
  | 0 => I
  | n + 1 => wI (drI I s f n) (s + 1) n (nI (f n))
theorem drI_off {I : ab_I} {s : Nat} {f : Nat → Nat} {o : Nat} (ho : o ≠ s + 1) : ∀ n, drI I s f n o = I o
  | 0 => rfl
  | n + 1 => by
    funext j
    rw [drI, wI_o ho, drI_off ho n]
theorem drI_at {I : ab_I} {s : Nat} {f : Nat → Nat} (j : Nat) : ∀ n, drI I s f n (s + 1) j = if j < n then nI (f j) else I (s + 1) j
  | 0 => by simp [drI]
  | n + 1 => by
    rw [drI]
    by_cases h : j = n
    · subst h
      rw [wI_self, if_pos (by omega)]
    · rw [wI_k h, drI_at j n]
      by_cases h2 : j < n
      · rw [if_pos h2, if_pos (by omega)]
      · rw [if_neg h2, if_neg (by omega)]
section SHORE
variable {Z c s t h : Nat} {co sh : Co} {I : ab_I} {R : ab_R} {L : ab_L}
theorem s_drift (hF : Fx R) (hc : IsC c) (hs : IsS s) (hC : XC I c co) (hS : XS I s co sh) (hw : WF co) (hv : WS co sh) : ∃ I', cl Z 17 [.ref c, .ref s] I R L = some (some (.int (nI (mk (fun t => decide (plbf co sh t 1 ≠ sh 0 t)) (co 0 3)))), I', R, L) ∧ OffS I I' s ∧ XS I' s co (shd co sh) := by
  have h6 := hw.t6
  have a3 := hw.2.2.2.1.2
  refine ⟨wI (drI I s (fun t => plbf co sh t 1) (co 0 3)) s 4 (nI (sh 2 2 + 1)), ?_, ?_, ?_⟩
  · rw [n17]
    simp only [e17_0, e17_1, e17_2, e17_3, e17_5, e17_6, e17_9, e17_12, e17_13, e17_14, e17_15, e17_16, e17_19, e17_21, e17_22, e17_24, e17_25, e17_28, e17_29, e17_30, e17_33, e17_34, e17_35, e17_36, e17_39, e17_40, e17_41, e17_42, e17_43, e17_46, e17_47, e17_49, e17_50, e17_53, e17_56, e17_57, e17_58, e17_61, e17_62, e17_63, e17_66, e17_67, bI_s, bL_s, bV_s, rv_s1, nl_i, nl_a, nl_n, w8_0, w8_i, w8_a, w8_l, ct_i, ct_a, b01_0, b01_1, b01_b]
    have key := loop_up (F := fun i => ex Z 0 0 17 4 [some (.ref c), some (.ref s), some (.int (nI (mk (fun t => decide (plbf co sh t 1 ≠ sh 0 t)) i))), some (.int (nI i)), if i = 0 then none else some (.int (nI (plbf co sh (i - 1) 1)))] [] (drI I s (fun t => plbf co sh t 1) i) R L) (r := some (some (.int (nI (mk (fun t => decide (plbf co sh t 1 ≠ sh 0 t)) (co 0 3)))), wI (drI I s (fun t => plbf co sh t 1) (co 0 3)) s 4 (nI (sh 2 2 + 1)), R, L)) (co 0 3) (fun i hi => ?_) ?_ 0 (Nat.zero_le _)
    · exact key
    · have hCi : XC (drI I s (fun t => plbf co sh t 1) i) c co := hC.off fun k hk => drI_off (dCS hc hs hk (by decide)) i
      have hSi : XS (drI I s (fun t => plbf co sh t 1) i) s co (shp sh (fun t => plbf co sh t 1) i) := by
        refine ⟨fun t ht => ?_, fun h hh => ?_, ?_, ?_, ?_⟩
        · rw [drI_at, shp]
          by_cases hti : t < i
          · simp [hti]
          · simp [hti, hS.pl ht]
        · rw [drI_off (by omega), hS.sd hh]
          simp [shp]
        · rw [drI_off (by omega), hS.st]
          simp [shp]
        · rw [drI_off (by omega), hS.ow]
          simp [shp]
        · rw [drI_off (by omega), hS.bl]
          simp [shp]
      have hvi : WS co (shp sh (fun t => plbf co sh t 1) i) := by
        refine ⟨fun t ht => ?_, fun h hh => ?_, ?_, ?_⟩
        · rw [shp]
          split
          · exact plbf_le hv ht 1
          · exact hv.1 t ht
        · exact hv.2.1 h hh
        · exact hv.2.2.1
        · exact hv.2.2.2
      have e1 : plbf co (shp sh (fun t => plbf co sh t 1) i) i 1 = plbf co sh i 1 := plbf_cg (fun _ => by simp [shp]) (fun _ => by simp [shp]) (by simp [shp]) 1
      have a5 := plbf_le hv hi 1
      have a6 := hv.1 i hi
      have hpl : drI I s (fun t => plbf co sh t 1) i (s + 1) i = nI (sh 0 i) := by rw [drI_at, if_neg (by omega), hS.pl hi]
      rw [e17_4]
      simp only [e17_0, e17_1, e17_2, e17_3, e17_5, e17_6, e17_9, e17_12, e17_13, e17_14, e17_15, e17_16, e17_19, e17_21, e17_22, e17_24, e17_25, e17_28, e17_29, e17_30, e17_33, e17_34, e17_35, e17_36, e17_39, e17_40, e17_41, e17_42, e17_43, e17_46, e17_47, e17_49, e17_50, e17_53, e17_56, e17_57, e17_58, e17_61, e17_62, e17_63, e17_66, e17_67, bI_s, bL_s, bV_s, rv_s1, nl_i, nl_a, nl_n, w8_0, w8_i, w8_a, w8_l, ct_i, ct_a, b01_0, b01_1, b01_b, kdC hc, hF.c0 hc, hF.c1 hc, hF.c2 hc, hF.c3 hc, hF.c4 hc, hF.c5 hc, hF.c6 hc, alC1 hc, ltC1 hc, alC2 hc, ltC2 hc, alC3 hc, ltC3 hc, alC4 hc, ltC4 hc, alC5 hc, ltC5 hc, alC6 hc, ltC6 hc, alC7 hc, ltC7 hc, kdS hs, hF.s0 hs, hF.s1 hs, alS1 hs, alS2 hs, ltS1 hs, ltS2 hs, hCi.th, nI_leI (show co 0 3 < 2 ^ 31 by omega) (show i < 2 ^ 31 by omega), show ¬ co 0 3 ≤ i by omega, if_false, s_placeBehind hF hc hs hCi hSi hw hvi hi (show 1 < 100 by decide), e1, ab_ixN (show i < 6 by omega) (by decide), nI_clamp (show i < 2 ^ 31 by omega), hpl, nI_eq (show plbf co sh i 1 < 2 ^ 31 by omega) (show sh 0 i < 2 ^ 31 by omega), nI_add, mk, nI_1shl (show i < 31 by omega), nx_or', drI, show (i + 1 = 0) = False by simp, Nat.add_sub_cancel]
      by_cases hb : plbf co sh i 1 = sh 0 i <;> simp [hb]
    · have hb4 : drI I s (fun t => plbf co sh t 1) (co 0 3) s 4 = nI (sh 2 2) := by rw [drI_off (by omega), hS.bl]
      have hth : drI I s (fun t => plbf co sh t 1) (co 0 3) c 8 = nI (co 0 3) := by
        rw [drI_off (by have := dCS (k := 0) hc hs (by decide) (show 1 ≤ 2 by decide); simpa using this), hC.th]
      rw [e17_4]
      simp only [e17_0, e17_1, e17_2, e17_3, e17_5, e17_6, e17_9, e17_12, e17_13, e17_14, e17_15, e17_16, e17_19, e17_21, e17_22, e17_24, e17_25, e17_28, e17_29, e17_30, e17_33, e17_34, e17_35, e17_36, e17_39, e17_40, e17_41, e17_42, e17_43, e17_46, e17_47, e17_49, e17_50, e17_53, e17_56, e17_57, e17_58, e17_61, e17_62, e17_63, e17_66, e17_67, bI_s, bL_s, bV_s, rv_s1, nl_i, nl_a, nl_n, w8_0, w8_i, w8_a, w8_l, ct_i, ct_a, b01_0, b01_1, b01_b, kdC hc, hF.c0 hc, hF.c1 hc, hF.c2 hc, hF.c3 hc, hF.c4 hc, hF.c5 hc, hF.c6 hc, alC1 hc, ltC1 hc, alC2 hc, ltC2 hc, alC3 hc, ltC3 hc, alC4 hc, ltC4 hc, alC5 hc, ltC5 hc, alC6 hc, ltC6 hc, alC7 hc, ltC7 hc, kdS hs, hF.s0 hs, hF.s1 hs, alS1 hs, alS2 hs, ltS1 hs, ltS2 hs, hth, Int32.le_refl, if_true, hb4, nI_add]
  · intro o a b cc
    funext j
    rw [wI_o a, drI_off b]
  · refine ⟨fun t ht => ?_, fun h hh => ?_, ?_, ?_, ?_⟩
    · rw [wI_o (by omega), drI_at, if_pos ht]
      rfl
    · rw [wI_o (by omega), drI_off (by omega), hS.sd hh]
      rfl
    · rw [wI_k (by decide), drI_off (by omega), hS.st]
      rfl
    · rw [wI_k (by decide), drI_off (by omega), hS.ow]
      rfl
    · rw [wI_self]
      rfl
theorem shd_WS (hv : WS co sh) : WS co (shd co sh) := by
  refine ⟨fun t ht => plbf_le hv ht 1, fun h hh => ?_, ?_, ?_⟩
  · exact hv.2.1 h hh
  · exact hv.2.2.1
  · exact hv.2.2.2
end SHORE
