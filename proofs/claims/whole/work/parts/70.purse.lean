/-! purses: what houses can keep -/
def dig (p h : Nat) : Nat := p / 5 ^ h % 5
def fit (p x : Nat) : Bool := decide (x ^^^ (x &&& brf p) = 0)
theorem brf_bit (p : Nat) {h : Nat} (hh : h < 4) : (brf p).testBit h = decide (dig p h ≠ 0) := by
  have k : ∀ a b c d : Bool, ∀ h, h < 4 → ((if a = true then 0 else 1) ||| (if b = true then 0 else 2) ||| (if c = true then 0 else 4) ||| (if d = true then 0 else 8) : Nat).testBit h = !(if h = 0 then a else if h = 1 then b else if h = 2 then c else d) := by decide
  have e := k (decide (p % 5 = 0)) (decide (p / 5 % 5 = 0)) (decide (p / 25 % 5 = 0)) (decide (p / 125 % 5 = 0)) h hh
  simp only [decide_eq_true_eq] at e
  unfold brf
  rw [e]
  unfold dig
  rcases (show h = 0 ∨ h = 1 ∨ h = 2 ∨ h = 3 by omega) with rfl | rfl | rfl | rfl <;> simp
theorem fit_iff {p x : Nat} (hx : x < 16) : fit p x = true ↔ ∀ h, h < 4 → x.testBit h = true → dig p h ≠ 0 := by
  unfold fit
  rw [decide_eq_true_iff]
  constructor
  · intro w h hh hb
    have := sub_bit w h hb
    rw [brf_bit p hh] at this
    exact of_decide_eq_true this
  · intro w
    apply Nat.eq_of_testBit_eq
    intro j
    rw [andn_bit, Nat.zero_testBit]
    by_cases hj : j < 4
    · cases hb : x.testBit j
      · rfl
      · rw [brf_bit p hj, decide_eq_true (w j hj hb)]
        rfl
    · rw [Nat.testBit_lt_two_pow (Nat.lt_of_lt_of_le hx (Nat.pow_le_pow_right (n := 2) (by decide) (show 4 ≤ j by omega)))]
      rfl
theorem dig_sub {p x : Nat} (hx : x < 16) (hf : fit p x = true) {h : Nat} (hh : h < 4) : dig (p - prc x) h = dig p h - (x.testBit h).toNat := by
  have f := (fit_iff hx).mp hf
  have f0 := f 0 (by decide)
  have f1 := f 1 (by decide)
  have f2 := f 2 (by decide)
  have f3 := f 3 (by decide)
  unfold dig at *
  unfold prc
  simp only [Nat.pow_zero, Nat.pow_one, Nat.reducePow, Nat.div_one] at f0 f1 f2 f3
  cases b0 : x.testBit 0 <;> cases b1 : x.testBit 1 <;> cases b2 : x.testBit 2 <;> cases b3 : x.testBit 3 <;> simp only [b0, b1, b2, b3, forall_const, Bool.false_eq_true, false_implies, Bool.toNat_true, Bool.toNat_false] at f0 f1 f2 f3 ⊢ <;> rcases (show h = 0 ∨ h = 1 ∨ h = 2 ∨ h = 3 by omega) with rfl | rfl | rfl | rfl <;> simp only [b0, b1, b2, b3, Nat.pow_zero, Nat.pow_one, Nat.reducePow, Nat.div_one, Bool.toNat_true, Bool.toNat_false] <;> omega
theorem prc_le {p x : Nat} (hx : x < 16) (hf : fit p x = true) : prc x ≤ p := by
  have f := (fit_iff hx).mp hf
  have f0 := f 0 (by decide)
  have f1 := f 1 (by decide)
  have f2 := f 2 (by decide)
  have f3 := f 3 (by decide)
  unfold dig at *
  unfold prc
  simp only [Nat.pow_zero, Nat.pow_one, Nat.reducePow, Nat.div_one] at f0 f1 f2 f3
  cases b0 : x.testBit 0 <;> cases b1 : x.testBit 1 <;> cases b2 : x.testBit 2 <;> cases b3 : x.testBit 3 <;> simp only [b0, b1, b2, b3, forall_const, Bool.false_eq_true, false_implies, Bool.toNat_true, Bool.toNat_false] at f0 f1 f2 f3 ⊢ <;> omega
theorem fit_comm {p x y : Nat} (hx : x < 16) (hy : y < 16) (h1 : fit p x = true) (h2 : fit (p - prc x) y = true) : fit p y = true ∧ fit (p - prc y) x = true := by
  have f2 := (fit_iff hy).mp h2
  have f1 := (fit_iff hx).mp h1
  have hp : fit p y = true := (fit_iff hy).mpr fun h hh hb => by
    have := f2 h hh hb
    rw [dig_sub hx h1 hh] at this
    omega
  refine ⟨hp, (fit_iff hx).mpr fun h hh hb => ?_⟩
  have a := f1 h hh hb
  rw [dig_sub hy hp hh]
  cases hc : y.testBit h
  · simpa using a
  · have b := f2 h hh hc
    rw [dig_sub hx h1 hh, hb] at b
    exact b
theorem fit_0 (p : Nat) : fit p 0 = true := (fit_iff (by decide)).mpr fun h _ hb => by
  rw [Nat.zero_testBit] at hb
  exact (Bool.false_ne_true hb).elim
theorem prc_add : ∀ s, s < 16 → ∀ w, w < 16 → w &&& s = w → prc s = prc w + prc (s ^^^ (s &&& w)) := by decide +kernel
theorem and_sub {w s : Nat} (h : w &&& s = w) (j : Nat) (hj : w.testBit j = true) : s.testBit j = true := by
  rw [← h, Nat.testBit_and, Bool.and_eq_true] at hj
  exact hj.2
theorem fit_sub {p s w : Nat} (hs : s < 16) (hw : w < 16) (h : w &&& s = w) (hf : fit p s = true) : fit p w = true ∧ fit (p - prc w) (s ^^^ (s &&& w)) = true ∧ p - prc s = p - prc w - prc (s ^^^ (s &&& w)) := by
  have f := (fit_iff hs).mp hf
  have hp : fit p w = true := (fit_iff hw).mpr fun k hk hb => f k hk (and_sub h k hb)
  have hd : s ^^^ (s &&& w) < 16 := andn_lt (n := 4) hs
  refine ⟨hp, (fit_iff hd).mpr fun k hk hb => ?_, ?_⟩
  · rw [andn_bit, Bool.and_eq_true, Bool.not_eq_true'] at hb
    rw [dig_sub hw hp hk, hb.2]
    exact f k hk hb.1
  · rw [prc_add s hs w hw h, Nat.sub_add_eq]
/-- the first that fits; 0: none -/
def ff (Q : Nat → Bool) : Nat → Nat
  | 0 => 0
  | n + 1 => if ff Q n = 0 then (if Q n = true then n + 1 else 0) else ff Q n
theorem ff_some {Q : Nat → Bool} {k : Nat} : ∀ n, ff Q n = k + 1 → k < n ∧ Q k = true ∧ ∀ j, j < k → Q j = false
  | 0, h => by cases h
  | n + 1, h => by
    rw [ff] at h
    split at h
    · rename_i h0
      split at h
      · rename_i hq
        have hk : n = k := by omega
        subst hk
        refine ⟨Nat.lt_succ_self _, hq, fun j hj => ?_⟩
        clear h hq
        induction n with
        | zero => omega
        | succ m ih =>
          rw [ff] at h0
          split at h0
          · rename_i h1
            split at h0
            · cases h0
            · rename_i hq
              by_cases e : j = m
              · rw [e]
                simpa using hq
              · exact ih h1 (by omega)
          · rename_i h1
            exact absurd h0 h1
      · cases h
    · obtain ⟨a, b, c⟩ := ff_some n h
      exact ⟨by omega, b, c⟩
theorem ff_none {Q : Nat → Bool} : ∀ n, ff Q n = 0 → ∀ j, j < n → Q j = false
  | 0, _, j, hj => by omega
  | n + 1, h, j, hj => by
    rw [ff] at h
    split at h
    · rename_i h0
      split at h
      · cases h
      · rename_i hq
        by_cases e : j = n
        · rw [e]
          simpa using hq
        · exact ff_none n h0 j (by omega)
    · rename_i h0
      exact absurd h h0
theorem ff_ne {Q : Nat → Bool} {n j : Nat} (hj : j < n) (h : Q j = true) : ff Q n ≠ 0 := fun w => by
  have := ff_none n w j hj
  rw [h] at this
  exact Bool.false_ne_true this.symm
theorem ff_congr {P Q : Nat → Bool} : ∀ n, (∀ j, j < n → P j = Q j) → ff P n = ff Q n
  | 0, _ => rfl
  | n + 1, h => by rw [ff, ff, ff_congr n (fun j hj => h j (by omega)), h n (by omega)]
theorem ff_hi {Q : Nat → Bool} {N : Nat} (h : ∀ j, N ≤ j → Q j = false) : ∀ d, ff Q (N + d) = ff Q N
  | 0 => rfl
  | d + 1 => by
    rw [← Nat.add_assoc, ff, ff_hi h d, h _ (by omega)]
    split
    · rename_i w
      simp [w]
    · rfl
/-- the most, the least of sixteen -/
def mx (f : Nat → Nat) : Nat → Nat
  | 0 => 0
  | n + 1 => max (mx f n) (f n)
def mn (f : Nat → Nat) : Nat → Nat
  | 0 => 0
  | n + 1 => if f n ≠ 0 ∧ (mn f n = 0 ∨ f n < mn f n) then f n else mn f n
theorem mx_le {f : Nat → Nat} {V : Nat} : ∀ n, (∀ s, s < n → f s ≤ V) → mx f n ≤ V
  | 0, _ => Nat.zero_le _
  | n + 1, h => by
    rw [mx]
    have := mx_le n (fun s hs => h s (by omega))
    have := h n (by omega)
    omega
theorem mx_ge {f : Nat → Nat} {s : Nat} : ∀ n, s < n → f s ≤ mx f n
  | n + 1, h => by
    rw [mx]
    by_cases e : s = n
    · subst e
      omega
    · have := mx_ge (f := f) (s := s) n (by omega)
      omega
theorem mx_eq {f : Nat → Nat} {V n s : Nat} (h : ∀ s, s < n → f s ≤ V) (hs : s < n) (hV : f s = V) : mx f n = V := Nat.le_antisymm (mx_le n h) (by rw [← hV]; exact mx_ge n hs)
theorem mn_0 {f : Nat → Nat} : ∀ n, (∀ s, s < n → f s = 0) → mn f n = 0
  | 0, _ => rfl
  | n + 1, h => by rw [mn, if_neg (fun w => w.1 (h n (by omega)))]; exact mn_0 n (fun s hs => h s (by omega))
theorem mn_in {f : Nat → Nat} : ∀ n, mn f n ≠ 0 → ∃ s, s < n ∧ f s = mn f n
  | 0, h => absurd rfl h
  | n + 1, h => by
    rw [mn] at h ⊢
    split
    · exact ⟨n, by omega, rfl⟩
    · rename_i w
      rw [if_neg w] at h
      obtain ⟨s, a, b⟩ := mn_in n h
      exact ⟨s, by omega, b⟩
theorem mn_le {f : Nat → Nat} {s : Nat} : ∀ n, s < n → f s ≠ 0 → mn f n ≠ 0 ∧ mn f n ≤ f s
  | n + 1, h, h0 => by
    rw [mn]
    by_cases e : s = n
    · subst e
      split
      · exact ⟨h0, Nat.le_refl _⟩
      · rename_i w
        refine ⟨fun z => w ⟨h0, Or.inl z⟩, ?_⟩
        apply Nat.le_of_not_lt
        intro z
        exact w ⟨h0, Or.inr z⟩
    · obtain ⟨a, b⟩ := mn_le (f := f) (s := s) n (by omega) h0
      split
      · rename_i w
        exact ⟨w.1, by rcases w.2 with z | z; exact absurd z a; omega⟩
      · exact ⟨a, b⟩
theorem mn_eq {f : Nat → Nat} {V n s : Nat} (h : ∀ s, s < n → f s ≠ 0 → V ≤ f s) (hs : s < n) (hV : f s = V) (h0 : V ≠ 0) : mn f n = V := by
  obtain ⟨a, b⟩ := mn_le (f := f) n hs (by rw [hV]; exact h0)
  obtain ⟨s2, c, d⟩ := mn_in (f := f) n a
  have := h s2 c (by rw [d]; exact a)
  rw [d] at this
  rw [hV] at b
  omega
/-- who keeps a thing -/
def hl (law o x : Nat) : Bool := lawf law (pc x 6) (decide (o ≠ 0) && x.testBit (o - 1))
def lkl (law c : Nat) : Nat := if law = 3 then 2 - pc c 6 else 1
def lowb (s : Nat) : Nat := s ^^^ (s &&& (s - 1))
def wch (law o c s : Nat) : Nat := if law = 2 then 2 ^ (o - 1) else if law = 1 then s else if law = 3 ∧ pc c 6 = 0 then lowb s ||| lowb (s ^^^ lowb s) else lowb s
def wck (law o c s : Nat) : Bool := !(decide (c &&& s = 0)) || (!hl law o (c ||| s) || (hl law o c || (decide (wch law o c s < 16) && (decide (wch law o c s &&& s = wch law o c s) && (decide (pc (wch law o c s) 6 = lkl law c) && hl law o (c ||| wch law o c s))))))
theorem wck_ok : ∀ law, law < 4 → ∀ o, o < 5 → ∀ c, c < 16 → ∀ s, s < 16 → wck law o c s = true := by decide +kernel
theorem wch_ok {law o c s : Nat} (h1 : law < 4) (h2 : o < 5) (h3 : c < 16) (h4 : s < 16) (h5 : c &&& s = 0) (h6 : hl law o (c ||| s) = true) (h7 : hl law o c = false) : wch law o c s < 16 ∧ wch law o c s &&& s = wch law o c s ∧ pc (wch law o c s) 6 = lkl law c ∧ hl law o (c ||| wch law o c s) = true := by
  have h := wck_ok law h1 o h2 c h3 s h4
  unfold wck at h
  rw [decide_eq_true h5, h6, h7] at h
  simp only [Bool.not_true, Bool.false_or, Bool.and_eq_true, decide_eq_true_iff] at h
  exact h
theorem lkl_pos : ∀ law, law < 4 → ∀ o, o < 5 → ∀ c, c < 16 → hl law o c = false → 1 ≤ lkl law c ∧ lkl law c ≤ 2 := by decide +kernel
theorem pc_sub : ∀ s, s < 16 → ∀ w, w < 16 → w &&& s = w → pc w 6 ≤ pc s 6 ∧ (pc w 6 = pc s 6 → w = s) := by decide +kernel
theorem pc_pos : ∀ s, s < 16 → 1 ≤ pc s 6 → s ≠ 0 := by decide +kernel
