/-! what a text tells, part by part -/
def vis (v : Nat → Nat) : Nat → Nat
  | 0 => 0
  | n + 1 => vis v n ||| 2 ^ (v n)
theorem vis_bit {v : Nat → Nat} {x : Nat} : ∀ n, (vis v n).testBit x = true → ∃ a, a < n ∧ v a = x
  | 0, h => by simp [vis] at h
  | n + 1, h => by
    rw [vis, Nat.testBit_or, Nat.testBit_two_pow, Bool.or_eq_true] at h
    rcases h with h | h
    · obtain ⟨a, h1, h2⟩ := vis_bit n h
      exact ⟨a, by omega, h2⟩
    · exact ⟨n, by omega, of_decide_eq_true h⟩
theorem vis_pc {v : Nat → Nat} : ∀ n, (∀ a, a < n → v a < 6) → (∀ a b, a < b → b < n → v a ≠ v b) → vis v n < 64 ∧ pc (vis v n) 6 = n
  | 0, _, _ => ⟨by simp [vis], pc_0 6⟩
  | n + 1, h1, h2 => by
    obtain ⟨a, b⟩ := vis_pc n (fun a ha => h1 a (by omega)) (fun a b ha hb => h2 a b ha (by omega))
    have hb : (vis v n).testBit (v n) = false := by
      cases hc : (vis v n).testBit (v n)
      · rfl
      · obtain ⟨c, h3, h4⟩ := vis_bit n hc
        exact absurd h4 (h2 c n h3 (by omega))
    rw [vis]
    exact ⟨or_64 a (h1 n (by omega)), by rw [or_pc _ a _ (h1 n (by omega)) hb, b]⟩
theorem topf_add {co : Co} {a t : Nat} : ∀ m, topf co (a + m) t = topf co m (topf co a t)
  | 0 => rfl
  | m + 1 => by rw [← Nat.add_assoc, topf, topf_add m, topf]
theorem topf_lt2 {co : Co} (hb : ∀ p, p < co 0 3 → co 7 p ≤ co 0 3) {t : Nat} (ht : t < co 0 3) : ∀ i, topf co i t < co 0 3
  | 0 => ht
  | i + 1 => by
    have ih := topf_lt2 hb ht i
    have := hb _ ih
    rw [topf, up]
    split <;> omega
/-- every chain ends -/
def Ed (co : Co) : Prop := ∀ t, t < co 0 3 → ∃ k, co 7 (topf co k t) = 0
theorem ch5 {co : Co} (h6 : co 0 3 ≤ 6) (hb : ∀ p, p < co 0 3 → co 7 p ≤ co 0 3) {t : Nat} (ht : t < co 0 3) (he : ∃ k, co 7 (topf co k t) = 0) : ∃ k, k ≤ 5 ∧ co 7 (topf co k t) = 0 ∧ ∀ j, j < k → co 7 (topf co j t) ≠ 0 := by
  obtain ⟨k, h1, h2⟩ := pk_least (fun k => co 7 (topf co k t) = 0) he
  refine ⟨k, ?_, h1, h2⟩
  apply Nat.le_of_not_lt
  intro hk
  have hd : ∀ a b, a < b → b < 7 → topf co a t ≠ topf co b t := by
    intro a b hab hb7 e
    have e2 : topf co (a + (k - b)) t = topf co k t := by
      have e3 := topf_add (co := co) (a := a) (t := t) (k - b)
      have e4 := topf_add (co := co) (a := b) (t := t) (k - b)
      rw [e3, e, ← e4, show b + (k - b) = k by omega]
    exact h2 (a + (k - b)) (by omega) (by rw [e2]; exact h1)
  have := (vis_pc (v := fun a => topf co a t) 7 (fun a _ => by have := topf_lt2 hb ht a; omega) hd).2
  have := pc_le (vis (fun a => topf co a t) 7) 6
  omega
def setI (co : Co) (i j : Nat) : Co := fun a k => if a = 7 ∧ k = i then j + 1 else co a k
theorem topf_cg {co : Co} {i j t : Nat} : ∀ n, (∀ a, a < n → topf co a t ≠ i) → topf (setI co i j) n t = topf co n t
  | 0, _ => rfl
  | n + 1, h => by
    have h1 : ¬ (7 = 7 ∧ topf co n t = i) := fun w => h n (by omega) w.2
    rw [topf, topf, topf_cg n (fun a ha => h a (by omega)), up, up]
    unfold setI
    rw [if_neg h1]
theorem setI_Ed {co : Co} (h6 : co 0 3 ≤ 6) (hb : ∀ p, p < co 0 3 → co 7 p ≤ co 0 3) (he : Ed co) {i j : Nat} (hj : j < co 0 3) (hi : co 7 i = 0) (hn : top co j ≠ i) : Ed (setI co i j) := by
  have n7 : ∀ x, x ≠ i → setI co i j 7 x = co 7 x := fun x hx => if_neg (fun w => hx w.2)
  have kj : ∃ k, setI co i j 7 (topf (setI co i j) k j) = 0 := by
    obtain ⟨k, hk, h1, h2⟩ := ch5 h6 hb hj (he j hj)
    have e := topf_6 h1 (show k ≤ 6 by omega)
    refine ⟨k, ?_⟩
    rw [topf_cg k (fun a ha w => h2 a ha (by rw [w]; exact hi)), n7 _ (by rw [e]; exact hn)]
    exact h1
  intro t ht
  have ht' : t < co 0 3 := ht
  obtain ⟨k, hk, h1, h2⟩ := ch5 h6 hb ht' (he t ht')
  have e1 := topf_cg (i := i) (j := j) (co := co) (t := t) k (fun a ha w => h2 a ha (by rw [w]; exact hi))
  by_cases hq : topf co k t = i
  · obtain ⟨m, hm⟩ := kj
    refine ⟨k + 1 + m, ?_⟩
    have e2 : topf (setI co i j) (k + 1) t = j := by
      rw [topf, e1, hq, up]
      unfold setI
      simp
    rw [topf_add, e2]
    exact hm
  · exact ⟨k, by rw [e1, n7 _ hq]; exact h1⟩
/-- a coast as far as it is told -/
def WP (co : Co) : Prop := co 0 2 ≤ 4 ∧ co 0 3 ≤ 6 ∧ co 0 0 ≤ 3 ∧ (1 ≤ co 0 1 ∧ co 0 1 ≤ 5) ∧ co 0 4 < 2 ^ co 0 2 ∧ (∀ h, h < co 0 2 → co 1 h ≤ co 0 1 ∧ co 2 h ≤ 4) ∧
  (∀ t, t < co 0 3 → co 3 t ≤ co 0 1 ∧ 1 ≤ co 4 t ∧ co 4 t ≤ 3 ∧ co 5 t ≤ 9 ∧ co 6 t ≤ co 0 2 ∧ co 7 t ≤ co 0 3) ∧ Ed co
theorem WP.b {co : Co} (h : WP co) : ∀ p, p < co 0 3 → co 7 p ≤ co 0 3 := fun p hp => (h.2.2.2.2.2.2.1 p hp).2.2.2.2.2
theorem WP.wf {co : Co} (h : WP co) : WF co := by
  refine ⟨h.1, h.2.1, h.2.2.1, h.2.2.2.1, Nat.lt_of_lt_of_le h.2.2.2.2.1 (Nat.pow_le_pow_right (n := 2) (by decide) h.1), h.2.2.2.2.2.1, fun t ht => ?_⟩
  obtain ⟨a1, a2, a3, a4, a5, a6⟩ := h.2.2.2.2.2.2.1 t ht
  refine ⟨a1, a2, a3, a4, a5, a6, ?_⟩
  obtain ⟨k, hk, h1, _⟩ := ch5 h.2.1 h.b ht (h.2.2.2.2.2.2.2 t ht)
  have e := topf_6 h1 (show k ≤ 6 by omega)
  show co 7 (top co t) = 0
  rw [← e]
  exact h1
def addH (co : Co) (p b : Nat) : Co := fun a k => if a = 0 ∧ k = 2 then co 0 2 + 1 else if a = 1 ∧ k = co 0 2 then p else if a = 2 ∧ k = co 0 2 then b else co a k
def addT (co : Co) (p m v o : Nat) : Co := fun a k => if a = 0 ∧ k = 3 then co 0 3 + 1 else if k = co 0 3 then (if a = 3 then p else if a = 4 then m else if a = 5 then v else if a = 6 then o else if a = 7 then 0 else co a k) else co a k
def addD (co : Co) (i : Nat) : Co := fun a k => if a = 0 ∧ k = 4 then co 0 4 ||| 2 ^ i else co a k
def nilC (l m : Nat) : Co := fun a k => if a = 0 ∧ k = 0 then l else if a = 0 ∧ k = 1 then m else 0
theorem topf_eq {co co' : Co} {t : Nat} (hb : ∀ p, p < co 0 3 → co 7 p ≤ co 0 3) (ht : t < co 0 3) (h : ∀ p, p < co 0 3 → co' 7 p = co 7 p) : ∀ k, topf co' k t = topf co k t
  | 0 => rfl
  | k + 1 => by
    have ih := topf_eq hb ht h k
    rw [topf, topf, ih, up, up, h _ (topf_lt2 hb ht k)]
theorem nilC_WP {l m : Nat} (hl : l ≤ 3) (hm : 1 ≤ m ∧ m ≤ 5) : WP (nilC l m) := by
  have e : ∀ k, nilC l m 0 (k + 2) = 0 := fun k => rfl
  refine ⟨by rw [e 0]; omega, by rw [e 1]; omega, hl, hm, by rw [e 2]; exact Nat.two_pow_pos _, fun h hh => ?_, fun t ht => ?_, fun t ht => ?_⟩
  · rw [e 0] at hh
    omega
  · rw [e 1] at ht
    omega
  · rw [e 1] at ht
    omega
theorem addH_WP {co : Co} {p b : Nat} (h : WP co) (h4 : co 0 2 < 4) (hp : p ≤ co 0 1) (hb : b ≤ 4) : WP (addH co p b) := by
  have e2 : addH co p b 0 2 = co 0 2 + 1 := rfl
  have e0 : ∀ k, k ≠ 2 → addH co p b 0 k = co 0 k := fun k hk => by simp [addH, hk]
  have e3 : ∀ a k, 3 ≤ a → addH co p b a k = co a k := fun a k ha => by simp [addH, show a ≠ 0 by omega, show a ≠ 1 by omega, show a ≠ 2 by omega]
  refine ⟨by rw [e2]; omega, by rw [e0 3 (by decide)]; exact h.2.1, by rw [e0 0 (by decide)]; exact h.2.2.1, by rw [e0 1 (by decide)]; exact h.2.2.2.1, ?_, fun k hk => ?_, fun t ht => ?_, fun t ht => ?_⟩
  · rw [e0 4 (by decide), e2, Nat.pow_succ]
    have := h.2.2.2.2.1
    omega
  · rw [e2] at hk
    rw [e0 1 (by decide)]
    by_cases hq : k = co 0 2
    · subst hq
      simp [addH, hp, hb]
    · simp only [addH, hq]
      simpa using h.2.2.2.2.2.1 k (by omega)
  · rw [e0 3 (by decide)] at ht
    rw [e3 3 _ (by decide), e3 4 _ (by decide), e3 5 _ (by decide), e3 6 _ (by decide), e3 7 _ (by decide), e0 1 (by decide), e0 3 (by decide), e2]
    have := h.2.2.2.2.2.2.1 t ht
    omega
  · rw [e0 3 (by decide)] at ht
    obtain ⟨k, hk⟩ := h.2.2.2.2.2.2.2 t ht
    refine ⟨k, ?_⟩
    rw [topf_eq h.b ht (fun p _ => e3 7 p (by decide)), e3 _ _ (by decide)]
    exact hk
theorem addD_WP {co : Co} {i : Nat} (h : WP co) (hi : i < co 0 2) : WP (addD co i) := by
  have e0 : ∀ k, k ≠ 4 → addD co i 0 k = co 0 k := fun k hk => by simp [addD, hk]
  have e3 : ∀ a k, 1 ≤ a → addD co i a k = co a k := fun a k ha => by simp [addD, show a ≠ 0 by omega]
  refine ⟨by rw [e0 2 (by decide)]; exact h.1, by rw [e0 3 (by decide)]; exact h.2.1, by rw [e0 0 (by decide)]; exact h.2.2.1, by rw [e0 1 (by decide)]; exact h.2.2.2.1, ?_, fun k hk => ?_, fun t ht => ?_, fun t ht => ?_⟩
  · rw [e0 2 (by decide)]
    exact Nat.or_lt_two_pow h.2.2.2.2.1 (Nat.pow_lt_pow_right (by decide) hi)
  · rw [e0 2 (by decide)] at hk
    rw [e3 1 _ (by decide), e3 2 _ (by decide), e0 1 (by decide)]
    exact h.2.2.2.2.2.1 k hk
  · rw [e0 3 (by decide)] at ht
    rw [e3 3 _ (by decide), e3 4 _ (by decide), e3 5 _ (by decide), e3 6 _ (by decide), e3 7 _ (by decide), e0 1 (by decide), e0 3 (by decide), e0 2 (by decide)]
    exact h.2.2.2.2.2.2.1 t ht
  · rw [e0 3 (by decide)] at ht
    obtain ⟨k, hk⟩ := h.2.2.2.2.2.2.2 t ht
    refine ⟨k, ?_⟩
    rw [topf_eq h.b ht (fun p _ => e3 7 p (by decide)), e3 _ _ (by decide)]
    exact hk
theorem addT_WP {co : Co} {p m v o : Nat} (h : WP co) (h6 : co 0 3 < 6) (hp : p ≤ co 0 1) (hm : 1 ≤ m ∧ m ≤ 3) (hv : v ≤ 9) (ho : o ≤ co 0 2) : WP (addT co p m v o) := by
  have e3 : addT co p m v o 0 3 = co 0 3 + 1 := rfl
  have e0 : ∀ k, k ≠ 3 → addT co p m v o 0 k = co 0 k := fun k hk => by simp [addT, hk]
  have e1 : ∀ a k, a = 1 ∨ a = 2 → addT co p m v o a k = co a k := fun a k ha => by
    rcases ha with rfl | rfl <;> simp [addT]
  have et : ∀ a k, a ≠ 0 → k ≠ co 0 3 → addT co p m v o a k = co a k := fun a k ha hk => by simp [addT, ha, hk]
  refine ⟨by rw [e0 2 (by decide)]; exact h.1, by rw [e3]; omega, by rw [e0 0 (by decide)]; exact h.2.2.1, by rw [e0 1 (by decide)]; exact h.2.2.2.1, ?_, fun k hk => ?_, fun t ht => ?_, fun t ht => ?_⟩
  · rw [e0 4 (by decide), e0 2 (by decide)]
    exact h.2.2.2.2.1
  · rw [e0 2 (by decide)] at hk
    rw [e1 _ _ (Or.inl rfl), e1 _ _ (Or.inr rfl), e0 1 (by decide)]
    exact h.2.2.2.2.2.1 k hk
  · rw [e3] at ht
    rw [e0 1 (by decide), e0 2 (by decide), e3]
    by_cases hq : t = co 0 3
    · subst hq
      simp [addT, hp, hm, hv, ho]
    · rw [et _ _ (by decide) hq, et _ _ (by decide) hq, et _ _ (by decide) hq, et _ _ (by decide) hq, et _ _ (by decide) hq]
      have := h.2.2.2.2.2.2.1 t (by omega)
      omega
  · rw [e3] at ht
    by_cases hq : t = co 0 3
    · refine ⟨0, ?_⟩
      subst hq
      simp [topf, addT]
    · obtain ⟨k, hk⟩ := h.2.2.2.2.2.2.2 t (by omega)
      refine ⟨k, ?_⟩
      have hl := topf_lt2 h.b (show t < co 0 3 by omega) k
      rw [topf_eq h.b (by omega) (fun p hp => et 7 p (by decide) (by omega)), et _ _ (by decide) (by omega)]
      exact hk
theorem setI_WP {co : Co} {i j : Nat} (h : WP co) (hj : j < co 0 3) (hi : co 7 i = 0) (hn : top co j ≠ i) : WP (setI co i j) := by
  have e0 : ∀ a k, a ≠ 7 → setI co i j a k = co a k := fun a k ha => by simp [setI, ha]
  refine ⟨by rw [e0 _ _ (by decide)]; exact h.1, by rw [e0 _ _ (by decide)]; exact h.2.1, by rw [e0 _ _ (by decide)]; exact h.2.2.1, by rw [e0 _ _ (by decide)]; exact h.2.2.2.1, ?_, fun k hk => ?_, fun t ht => ?_, setI_Ed h.2.1 h.b h.2.2.2.2.2.2.2 hj hi hn⟩
  · rw [e0 _ _ (by decide), e0 _ _ (by decide)]
    exact h.2.2.2.2.1
  · rw [e0 _ _ (by decide)] at hk
    rw [e0 _ _ (by decide), e0 _ _ (by decide), e0 _ _ (by decide)]
    exact h.2.2.2.2.2.1 k hk
  · rw [e0 _ _ (by decide)] at ht
    have := h.2.2.2.2.2.2.1 t ht
    rw [e0 _ _ (by decide), e0 _ _ (by decide), e0 _ _ (by decide), e0 _ _ (by decide), e0 _ _ (by decide), e0 _ _ (by decide), e0 0 3 (by decide)]
    refine ⟨this.1, this.2.1, this.2.2.1, this.2.2.2.1, this.2.2.2.2.1, ?_⟩
    unfold setI
    split
    · omega
    · exact this.2.2.2.2.2
/-- may i be told to lie in j -/
def mlf (co : Co) (i j : Nat) : Bool := decide (i < co 0 3 ∧ j < co 0 3 ∧ co 3 i = co 3 j ∧ co 7 i = 0) && decide (top co j ≠ i)
def mls (co : Co) (i : Nat) : Nat := mk (mlf co i) (co 0 3)
def mlb (co : Co) : Nat := mk (fun i => decide (mls co i ≠ 0)) (co 0 3)
/-- is the letter at p a figure from lo on, below hi -/
def fin (tx : Nat → Nat) (n p lo hi : Nat) : Bool := decide (p < n ∧ 48 + lo ≤ tx p ∧ tx p < 48 + hi)
/-- the part that begins at p: is it whole; where it ends, or its fault; the coast then -/
def prt (tx : Nat → Nat) (n p : Nat) (co : Co) : Bool × Nat × Co :=
  if tx p = 72 ∧ co 0 2 < 4 then
    (if fin tx n (p + 1) 0 (co 0 1 + 1) = true then (if fin tx n (p + 2) 0 5 = true then (true, p + 3, addH co (tx (p + 1) - 48) (tx (p + 2) - 48)) else (false, p + 2, co)) else (false, p + 1, co))
  else if tx p = 84 ∧ co 0 3 < 6 then
    (if fin tx n (p + 1) 0 (co 0 1 + 1) = true then (if fin tx n (p + 2) 1 4 = true then (if fin tx n (p + 3) 0 10 = true then
      (if p + 4 < n ∧ tx (p + 4) = 45 then (true, p + 5, addT co (tx (p + 1) - 48) (tx (p + 2) - 48) (tx (p + 3) - 48) 0) else
       if fin tx n (p + 4) 0 (co 0 2) = true then (true, p + 5, addT co (tx (p + 1) - 48) (tx (p + 2) - 48) (tx (p + 3) - 48) (tx (p + 4) - 48 + 1)) else (false, p + 4, co))
      else (false, p + 3, co)) else (false, p + 2, co)) else (false, p + 1, co))
  else if tx p = 73 ∧ mlb co ≠ 0 then
    (if fin tx n (p + 1) 0 10 = true ∧ (mlb co).testBit (tx (p + 1) - 48) = true then
      (if fin tx n (p + 2) 0 10 = true ∧ (mls co (tx (p + 1) - 48)).testBit (tx (p + 2) - 48) = true then (true, p + 3, setI co (tx (p + 1) - 48) (tx (p + 2) - 48)) else (false, p + 2, co))
      else (false, p + 1, co))
  else if tx p = 68 ∧ co 0 4 ≠ 2 ^ co 0 2 - 1 then
    (if fin tx n (p + 1) 0 10 = true ∧ (tx (p + 1) - 48 < co 0 2 ∧ (co 0 4).testBit (tx (p + 1) - 48) = false) then (true, p + 2, addD co (tx (p + 1) - 48)) else (false, p + 1, co))
  else (false, p, co)
/-- the parts from p on -/
def prs (tx : Nat → Nat) (n : Nat) : Nat → Nat → Co → Bool × Nat × Co
  | 0, p, co => (true, p, co)
  | f + 1, p, co => if p < n then (if (prt tx n p co).1 = true then prs tx n f (prt tx n p co).2.1 (prt tx n p co).2.2 else prt tx n p co) else (true, p, co)
def rdt (tx : Nat → Nat) (n : Nat) : Bool × Nat × Co :=
  if 0 < n ∧ tx 0 = 87 then (if fin tx n 1 0 4 = true then (if fin tx n 2 1 6 = true then prs tx n 57 3 (nilC (tx 1 - 48) (tx 2 - 48)) else (false, 2, nilC 0 1)) else (false, 1, nilC 0 1)) else (false, 0, nilC 0 1)
theorem mls_bit {co : Co} {i j : Nat} : (mls co i).testBit j = mlf co i j := by
  unfold mls
  rw [mk_bit]
  cases h : mlf co i j
  · rw [Bool.and_false]
  · have := (of_decide_eq_true ((Bool.and_eq_true _ _).mp h).1).2.1
    rw [decide_eq_true this, Bool.and_true]
theorem prt_WP {tx : Nat → Nat} {n p : Nat} {co : Co} (h : WP co) (hk : (prt tx n p co).1 = true) : WP (prt tx n p co).2.2 ∧ p < (prt tx n p co).2.1 := by
  unfold prt at hk ⊢
  split
  · rename_i c0
    rw [if_pos c0] at hk
    split
    · rename_i c1
      rw [if_pos c1] at hk
      split
      · rename_i c2
        unfold fin at c1 c2
        have c1 := of_decide_eq_true c1
        have c2 := of_decide_eq_true c2
        exact ⟨addH_WP h c0.2 (by omega) (by omega), by show p < p + 3; omega⟩
      · rename_i c2
        rw [if_neg c2] at hk
        exact (Bool.false_ne_true hk).elim
    · rename_i c1
      rw [if_neg c1] at hk
      exact (Bool.false_ne_true hk).elim
  · rename_i c0
    rw [if_neg c0] at hk
    split
    · rename_i d0
      rw [if_pos d0] at hk
      split
      · rename_i c1
        rw [if_pos c1] at hk
        split
        · rename_i c2
          rw [if_pos c2] at hk
          split
          · rename_i c3
            rw [if_pos c3] at hk
            have k1 := of_decide_eq_true c1
            have k2 := of_decide_eq_true c2
            have k3 := of_decide_eq_true c3
            split
            · exact ⟨addT_WP h d0.2 (by omega) (by omega) (by omega) (by omega), by show p < p + 5; omega⟩
            · rename_i c4
              rw [if_neg c4] at hk
              split
              · rename_i c5
                have k5 := of_decide_eq_true c5
                exact ⟨addT_WP h d0.2 (by omega) (by omega) (by omega) (by omega), by show p < p + 5; omega⟩
              · rename_i c5
                rw [if_neg c5] at hk
                exact (Bool.false_ne_true hk).elim
          · rename_i c3
            rw [if_neg c3] at hk
            exact (Bool.false_ne_true hk).elim
        · rename_i c2
          rw [if_neg c2] at hk
          exact (Bool.false_ne_true hk).elim
      · rename_i c1
        rw [if_neg c1] at hk
        exact (Bool.false_ne_true hk).elim
    · rename_i d0
      rw [if_neg d0] at hk
      split
      · rename_i e0
        rw [if_pos e0] at hk
        split
        · rename_i c1
          rw [if_pos c1] at hk
          split
          · rename_i c2
            have k2 := c2.2
            rw [mls_bit] at k2
            have k3 := (Bool.and_eq_true _ _).mp k2
            have k4 := of_decide_eq_true k3.1
            exact ⟨setI_WP h k4.2.1 k4.2.2.2 (of_decide_eq_true k3.2), by show p < p + 3; omega⟩
          · rename_i c2
            rw [if_neg c2] at hk
            exact (Bool.false_ne_true hk).elim
        · rename_i c1
          rw [if_neg c1] at hk
          exact (Bool.false_ne_true hk).elim
      · rename_i e0
        rw [if_neg e0] at hk
        split
        · rename_i f0
          rw [if_pos f0] at hk
          split
          · rename_i c1
            exact ⟨addD_WP h c1.2.1, by show p < p + 2; omega⟩
          · rename_i c1
            rw [if_neg c1] at hk
            exact (Bool.false_ne_true hk).elim
        · rename_i f0
          rw [if_neg f0] at hk
          exact (Bool.false_ne_true hk).elim
