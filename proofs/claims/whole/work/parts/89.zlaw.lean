/-! the law, from its entry -/
theorem c192_0 : cd 192 0 = some (.new 7, 3) := by decide +kernel
theorem c192_3 : cd 192 3 = some (.dup, 1) := by decide +kernel
theorem c192_4 : cd 192 4 = some (.invokespecial 9, 3) := by decide +kernel
theorem c192_7 : cd 192 7 = some (.astore_n 1, 1) := by decide +kernel
theorem c192_8 : cd 192 8 = some (.new 10, 3) := by decide +kernel
theorem c192_11 : cd 192 11 = some (.dup, 1) := by decide +kernel
theorem c192_12 : cd 192 12 = some (.invokespecial 12, 3) := by decide +kernel
theorem c192_15 : cd 192 15 = some (.astore_n 2, 1) := by decide +kernel
theorem c192_16 : cd 192 16 = some (.iconst 0, 1) := by decide +kernel
theorem c192_17 : cd 192 17 = some (.istore_n 3, 1) := by decide +kernel
def g0 : Gs
  | 0 => nilC 0 1
  | _ + 1 => fun _ _ => 0
def I0 (xs pr fc : Nat → Int32) : ab_I := fun o => if o = 1000 then xs else if o = 1001 then pr else if o = 1002 then fc else fun _ => 0
theorem inR_0 {p j : Nat} (h : inR p 0 j) : False := Nat.not_lt_zero _ h
theorem tb_0 {k : Nat} (h : (0 : Nat).testBit k = true) : False := by
  rw [Nat.zero_testBit] at h
  cases h
theorem PG_0 : PG g0 := by
  refine ⟨⟨by decide, by decide, by decide, by decide, by decide, fun h hh => (Nat.not_lt_zero h hh).elim, fun h hh => (Nat.not_lt_zero h hh).elim⟩, ⟨fun h hh => (Nat.not_lt_zero h hh).elim, fun _ _ => Nat.zero_lt_succ _, by decide, by decide⟩, ⟨fun h hh => (Nat.not_lt_zero h hh).elim, fun _ _ _ => rfl⟩, ⟨by decide, fun h hh => (Nat.not_lt_zero h hh).elim⟩, ⟨by decide, by decide, by decide⟩, ⟨by decide, by decide⟩, fun h hh => (Nat.not_lt_zero h hh).elim, fun h hh => (Nat.not_lt_zero h hh).elim, fun j hj h => (inR_0 h).elim, fun j hj h => (tb_0 h).elim⟩
theorem Inv_0 {Z : Nat} {xs : Nat → Int32} {I : ab_I} {R : ab_R} {L : ab_L} (hz : ∀ o j, o < 1000 → o ≠ 28 → ¬ ((o = 3 ∧ j = 10) ∨ (o = 11 ∧ j = 10) ∨ (o = 87 ∧ j = 1)) → I o j = nI 0) (h3 : I 3 10 = nI 1) (h87 : I 87 1 = nI 1) (hb : ∀ p, p < 625 → I 28 p = nI (brf p)) (hp : ∀ k, k < 16 → I 1001 k = nI (prc k)) (hf : ∀ k, k < 5 → I 1002 k = nI (fct k)) (hx : I 1000 = xs) (hL : L = fun _ _ => 0) (hF : Fx R) (hR3 : R 0 3 = 4) (hR4 : R 0 4 = 12) : Inv Z xs I R L := by
  have z : ∀ o j, o < 1000 → o ≠ 28 → o ≠ 3 → o ≠ 11 → o ≠ 87 → I o j = nI 0 := fun o j h1 h2 a b d => hz o j h1 h2 (by omega)
  refine ⟨g0, 0, 3, PG_0, ⟨⟨Or.inl rfl, hR3, hR4, hF⟩, ⟨XC_nil (hz 3 7 (by decide) (by decide) (by decide)) (hz 3 8 (by decide) (by decide) (by decide)) (hz 3 9 (by decide) (by decide) (by decide)) h3 (hz 3 11 (by decide) (by decide) (by decide)), ⟨fun h hh => (Nat.not_lt_zero h hh).elim, fun h _ => z 21 h (by decide) (by decide) (by decide) (by decide) (by decide), z 19 2 (by decide) (by decide) (by decide) (by decide) (by decide), z 19 3 (by decide) (by decide) (by decide) (by decide) (by decide), z 19 4 (by decide) (by decide) (by decide) (by decide) (by decide)⟩⟩, ⟨z 0 1 (by decide) (by decide) (by decide) (by decide) (by decide), fun h hh => (Nat.not_lt_zero h hh).elim⟩, ⟨z 0 8 (by decide) (by decide) (by decide) (by decide) (by decide), z 0 9 (by decide) (by decide) (by decide) (by decide) (by decide), z 0 11 (by decide) (by decide) (by decide) (by decide) (by decide)⟩, fun j hj h => (inR_0 h).elim, fun j hj h => (tb_0 h).elim, ⟨z 0 14 (by decide) (by decide) (by decide) (by decide) (by decide), z 0 16 (by decide) (by decide) (by decide) (by decide) (by decide)⟩, fun h hh => (Nat.not_lt_zero h hh).elim, fun h hh => (Nat.not_lt_zero h hh).elim, ⟨hb, hp, hf⟩, by rw [hL]⟩, ⟨hF, ⟨⟨hz 87 0 (by decide) (by decide) (by decide), h87, hz 87 2 (by decide) (by decide) (by decide), hz 87 3 (by decide) (by decide) (by decide), fun h hh => (Nat.not_lt_zero h hh).elim, fun h hh => (Nat.not_lt_zero h hh).elim, fun h hh => (Nat.not_lt_zero h hh).elim, fun h hh => (Nat.not_lt_zero h hh).elim, fun h hh => (Nat.not_lt_zero h hh).elim, fun h hh => (Nat.not_lt_zero h hh).elim⟩, ⟨fun h hh => (Nat.not_lt_zero h hh).elim, fun h _ => z 94 _ (by decide) (by decide) (by decide) (by decide) (by decide), z 94 _ (by decide) (by decide) (by decide) (by decide) (by decide), z 94 _ (by decide) (by decide) (by decide) (by decide) (by decide), z 94 _ (by decide) (by decide) (by decide) (by decide) (by decide)⟩⟩, ⟨hz 87 24 (by decide) (by decide) (by decide), fun h hh => (Nat.not_lt_zero h hh).elim⟩, ⟨hz 87 28 (by decide) (by decide) (by decide), hz 87 27 (by decide) (by decide) (by decide), fun k _ => ?_⟩, fun j hj h => (inR_0 h).elim, fun j hj h => (tb_0 h).elim, ⟨hz 87 36 (by decide) (by decide) (by decide), hz 87 39 (by decide) (by decide) (by decide)⟩, fun h hh => (Nat.not_lt_zero h hh).elim, fun h hh => (Nat.not_lt_zero h hh).elim, by rw [hL]⟩, hx⟩
  show I 110 k = nI ((0 : Nat).testBit k).toNat
  rw [Nat.zero_testBit]
  exact z 110 k (by decide) (by decide) (by decide) (by decide) (by decide)
theorem RM_o {R : ab_R} {c k : Nat} (h : c ≠ 87) : RM R c k = R c k := by
  simp only [RM, wR, if_neg h]
theorem Fx_0 {R : ab_R} (h : FX0 R) : Fx (RM R) := by
  obtain ⟨a3, a11, as, ar, x0, x2, x3, x4, x5, x6, x7, x10, x12, x13, x15, k0, k1, k2, s0, s1, p0, p1, q0, q1⟩ := h
  refine ⟨fun c hc k hk => ?_, fun s hs => ?_, fun i hi => ?_, ?_⟩
  · rw [RM_o (by rcases hc with rfl | rfl <;> decide)]
    rcases hc with rfl | rfl
    · exact a3 k hk
    · exact a11 k hk
  · rw [RM_o (by unfold IsS at hs; omega), RM_o (by unfold IsS at hs; omega)]
    rcases hs with rfl | rfl | hs
    · exact ⟨p0, p1⟩
    · exact ⟨q0, q1⟩
    · have e : s = 33 + 3 * ((s - 33) / 3) := by omega
      rw [e]
      exact as _ (by omega)
  · rw [RM_o (by decide)]
    exact ar i hi
  · refine ⟨(RM_o (by decide)).trans x0, (RM_o (by decide)).trans x2, (RM_o (by decide)).trans x5, (RM_o (by decide)).trans x6, (RM_o (by decide)).trans x7, (RM_o (by decide)).trans x10, (RM_o (by decide)).trans x12, (RM_o (by decide)).trans x13, (RM_o (by decide)).trans x15, (RM_o (by decide)).trans k0, (RM_o (by decide)).trans k1, (RM_o (by decide)).trans k2, ?_⟩
    simp [RM, wR, s0, s1]
theorem Rn_loop {Z : Nat} (hZ : Z < 2 ^ 31) {xs : Nat → Int32} {I : ab_I} {R : ab_R} {L : ab_L} (hi : Inv Z xs I R L) : Rn Z 192 18 [some (.ref 1000), some (.ref 0), some (.ref 87), some (.int (nI 0))] [] 112 6626 112 I R L (fun v n' _ _ _ => v = some (.int (nI 1)) ∧ n' = 112) := fun _ => by
  obtain ⟨I', R', L', e⟩ := law_loop hZ (Z + 1) 0 I R L (by omega) (Nat.zero_le _) hi
  obtain ⟨f, hf⟩ := ex_iff.mp e
  have h := ax_ab Z f _ _ _ _ _ _ _ _ _ _ _ _ _ hf
  rw [← Cs_GG, ← Cs_GG] at h
  exact ⟨f, _, 112, I', R', L', h, (fun q => by cases q), rfl, rfl⟩
theorem Rn_law {Z : Nat} (hZ : Z < 2 ^ 31) {xs pr fc : Nat → Int32} (hp : ∀ k, k < 16 → pr k = nI (prc k)) (hf : ∀ k, k < 5 → fc k = nI (fct k)) : Rn Z 192 0 [some (.ref 1000), none, none, none] [] 0 0 0 (I0 xs pr fc) (fun _ _ => 0) (fun _ _ => 0) (fun v n' _ _ _ => v = some (.int (nI 1)) ∧ n' = 112) := by
  refine Rn.new (pc' := 3) (C := 4) (n1 := 1) (s' := 18) c192_0 (by decide +kernel) (sh_at (by decide) (by decide +kernel)) (by decide) (by decide +kernel) rfl rfl rfl ?_
  refine Rn.dup (pc' := 4) c192_3 rfl rfl ?_
  refine Rn.ctor (pc' := 7) (T := 57) (kd := 2) (k' := 87) (s' := 1778) c192_4 (by decide +kernel) (by decide) (by decide +kernel) (by decide) (by decide +kernel) rfl (k57) (by decide +kernel) (by decide +kernel) rfl ?_
  refine (fun v n' I' R' L' h => ?_)
  obtain ⟨rfl, rfl, hI1, hI2, hF, rfl⟩ := h
  refine ⟨rfl, ?_⟩
  refine Rn.astore (pc' := 8) c192_7 ⟨by decide, by rfl⟩ rfl rfl ?_
  refine Rn.new (pc' := 11) (C := 5) (n1 := 88) (s' := 1823) c192_8 (by decide +kernel) (sh_at (by decide) (by decide +kernel)) (by decide) (by decide +kernel) rfl rfl rfl ?_
  refine Rn.dup (pc' := 12) c192_11 rfl rfl ?_
  refine Rn.ctor (pc' := 15) (T := 106) (kd := 2) (k' := 112) (s' := 6626) c192_12 (by decide +kernel) (by decide) (by decide +kernel) (by decide) (by decide +kernel) rfl (k106) (by decide +kernel) (by decide +kernel) rfl ?_
  refine (fun v n' I' R' L' h => ?_)
  obtain ⟨rfl, rfl, rfl, rfl, rfl⟩ := h
  refine ⟨rfl, ?_⟩
  refine Rn.astore (pc' := 16) c192_15 ⟨by decide, by rfl⟩ rfl rfl ?_
  refine Rn.iconst (pc' := 17) (v := nI 0) c192_16 (by decide +kernel) rfl ?_
  refine Rn.istore (pc' := 18) c192_17 ⟨by decide, by rfl⟩ rfl rfl ?_
  refine Rn_loop hZ (xs := xs) (Inv_0 (fun o j h1 h2 h4 => ?_) ?_ ?_ ?_ ?_ ?_ ?_ rfl (Fx_0 hF) ?_ ?_)
  · by_cases h87 : o = 87
    · subst h87
      rw [wI_k (by omega), hI1 87 (by decide), wI_o (by decide), wI_o (by decide)]
      rfl
    · rw [wI_o h87, hI1 o h2]
      have e : I0 xs pr fc o j = nI 0 := by
        unfold I0
        rw [if_neg (by omega), if_neg (by omega), if_neg (by omega)]
        rfl
      by_cases h11 : o = 11
      · subst h11
        rw [wI_k (by omega), wI_o (by decide)]
        exact e
      · rw [wI_o h11]
        by_cases h3 : o = 3
        · subst h3
          rw [wI_k (by omega)]
          exact e
        · rw [wI_o h3]
          exact e
  · rw [wI_o (by decide), hI1 3 (by decide), wI_o (by decide), wI_self]
  · exact wI_self _ _ _ _
  · intro p hp
    rw [wI_o (by decide)]
    exact hI2 p hp
  · intro k hk
    rw [wI_o (by decide), hI1 1001 (by decide), wI_o (by decide), wI_o (by decide)]
    exact hp k hk
  · intro k hk
    rw [wI_o (by decide), hI1 1002 (by decide), wI_o (by decide), wI_o (by decide)]
    exact hf k hk
  · rw [wI_row (by decide), hI1 1000 (by decide), wI_row (by decide), wI_row (by decide)]
    rfl
  · rw [RM_o (by decide)]
    exact hF.2.2.2.2.2.2.1
  · rw [RM_o (by decide)]
    exact hF.2.2.2.2.2.2.2.1
theorem law_all {Z : Nat} (hZ : Z < 2 ^ 31) {xs pr fc : Nat → Int32} (hp : ∀ k, k < 16 → pr k = nI (prc k)) (hf : ∀ k, k < 5 → fc k = nI (fct k)) : ∃ f I' R' L', ab_run f 192 0 [some (.ref 1000), none, none, none] [] 0 0 (Cs Z 0 (I0 xs pr fc) (fun _ _ => 0) (fun _ _ => 0)) = some (some (.int (nI 1)), Cs Z 112 I' R' L') := by
  obtain ⟨f, v, n', I', R', L', e, -, rfl, rfl⟩   := Rn_law (xs := xs) (pr := pr) (fc := fc) hZ hp hf (fun p _ h => by
    refine ⟨?_, rfl, rfl⟩
    unfold I0
    rw [if_neg (by omega), if_neg (by omega), if_neg (by omega)])
  exact ⟨f, I', R', L', e⟩
