/-! what a thing wants, by the shore -/
def mayf (co s : Co) (t : Nat) : Nat := mk (fun h => nearf co s h t && !(s 1 h).testBit t) (co 0 2)
def frf (co s : Co) (t : Nat) : Nat := mayf co s t ^^^ (mayf co s t &&& s 2 1)
def lkf (co s : Co) (t : Nat) : Nat := if co 0 0 = 3 then 2 - pc (cntf co s t) 6 else 1
def wyf (co s : Co) (t x : Nat) : Bool := decide (x ^^^ (x &&& frf co s t) = 0) && (decide (pc x 6 = lkf co s t) && heldf co t (cntf co s t ||| x))
def isf (co s : Co) (t x : Nat) : Bool := (s 2 0).testBit t || heldf co t ((saidf co s t ||| x) ^^^ ((saidf co s t ||| x) &&& s 2 1))
def tpf (co : Co) (t : Nat) : Bool := decide (co 7 t = 0)
theorem top_tp {co : Co} {t : Nat} (h : tpf co t = true) : top co t = t := by
  have h := of_decide_eq_true h
  exact (topf_6 (co := co) (t := t) (i := 0) h (Nat.zero_le _)).symm
theorem may_16 {co s : Co} (hw : WF co) {t x : Nat} (h : x &&& mayf co s t = x) : x < 16 := by
  have h1 : x ≤ mayf co s t := by
    rw [← h]
    exact Nat.and_le_right
  have h2 : mayf co s t < 2 ^ co 0 2 := mk_lt _ _
  have h3 : 2 ^ co 0 2 ≤ 16 := Nat.pow_le_pow_right (n := 2) (by decide) hw.h4
  omega
theorem may_said {co s : Co} {t j : Nat} (h : (mayf co s t).testBit j = true) : (saidf co s t).testBit j = false := by
  unfold mayf at h
  rw [mk_bit, Bool.and_eq_true, Bool.and_eq_true, Bool.not_eq_true'] at h
  unfold saidf
  rw [mk_bit, h.2.2, Bool.and_false]
theorem and_of {a b : Nat} (h : ∀ j, a.testBit j = true → b.testBit j = true) : a &&& b = a := by
  apply Nat.eq_of_testBit_eq
  intro j
  rw [Nat.testBit_and]
  cases ha : a.testBit j
  · rfl
  · rw [h j ha]
    rfl
theorem isf_eq {co s : Co} {t x : Nat} : (saidf co s t ||| x) ^^^ ((saidf co s t ||| x) &&& s 2 1) = cntf co s t ||| (x ^^^ (x &&& s 2 1)) := by
  apply Nat.eq_of_testBit_eq
  intro j
  unfold cntf
  rw [andn_bit, Nat.testBit_or, Nat.testBit_or, andn_bit, andn_bit]
  cases (saidf co s t).testBit j <;> cases x.testBit j <;> cases (s 2 1).testBit j <;> rfl
theorem wy_ex {co s : Co} (hw : WF co) {t : Nat} (ht : t < co 0 3) (hn : heldf co t (cntf co s t) = false) (hst : (s 2 0).testBit t = false) {x : Nat} (hx : x &&& mayf co s t = x) (his : isf co s t x = true) : ∃ w, w &&& x = w ∧ wyf co s t w = true ∧ w < 16 ∧ pc w 6 = lkf co s t := by
  have h16 := may_16 hw hx
  have hc := cntf_16 hw s t
  have hs : x ^^^ (x &&& s 2 1) < 16 := andn_lt (n := 4) h16
  have hl := hw.2.2.1
  have ho := (hw.2.2.2.2.2.2 t ht).2.2.2.2.1
  have h4 := hw.h4
  unfold isf at his
  rw [hst, Bool.false_or, isf_eq] at his
  have hd : cntf co s t &&& (x ^^^ (x &&& s 2 1)) = 0 := by
    apply Nat.eq_of_testBit_eq
    intro j
    rw [Nat.testBit_and, andn_bit, Nat.zero_testBit]
    cases hb : x.testBit j
    · rw [Bool.false_and, Bool.and_false]
    · have := may_said (and_sub hx j hb)
      unfold cntf
      rw [andn_bit, this]
      rfl
  obtain ⟨w1, w2, w3, w4⟩ := wch_ok (law := co 0 0) (o := co 6 t) (c := cntf co s t) (s := x ^^^ (x &&& s 2 1)) (by omega) (by omega) hc hs hd his hn
  generalize wch (co 0 0) (co 6 t) (cntf co s t) (x ^^^ (x &&& s 2 1)) = w at w1 w2 w3 w4
  have hsub : ∀ j, w.testBit j = true → x.testBit j = true ∧ (s 2 1).testBit j = false := fun j hj => by
    have := and_sub w2 j hj
    rw [andn_bit, Bool.and_eq_true, Bool.not_eq_true'] at this
    exact this
  refine ⟨w, and_of fun j hj => (hsub j hj).1, ?_, w1, w3⟩
  unfold wyf
  rw [decide_eq_true (show pc w 6 = lkf co s t from w3), show heldf co t (cntf co s t ||| w) = true from w4, Bool.and_true, Bool.and_true]
  apply decide_eq_true
  apply Nat.eq_of_testBit_eq
  intro j
  rw [andn_bit, Nat.zero_testBit]
  cases hb : w.testBit j
  · rfl
  · obtain ⟨a, b⟩ := hsub j hb
    unfold frf
    rw [andn_bit, and_sub hx j a, b]
    rfl
theorem wy_is {co s : Co} (hw : WF co) {t x : Nat} (h : wyf co s t x = true) : x &&& mayf co s t = x ∧ isf co s t x = true ∧ x < 16 ∧ pc x 6 = lkf co s t := by
  unfold wyf at h
  rw [Bool.and_eq_true, Bool.and_eq_true] at h
  have h1 := of_decide_eq_true h.1
  have hb : ∀ j, x.testBit j = true → (mayf co s t).testBit j = true ∧ (s 2 1).testBit j = false := fun j hj => by
    have := sub_bit h1 j hj
    unfold frf at this
    rw [andn_bit, Bool.and_eq_true, Bool.not_eq_true'] at this
    exact this
  have hm : x &&& mayf co s t = x := and_of fun j hj => (hb j hj).1
  have he : x ^^^ (x &&& s 2 1) = x := by
    apply Nat.eq_of_testBit_eq
    intro j
    rw [andn_bit]
    cases hj : x.testBit j
    · rfl
    · rw [(hb j hj).2]
      rfl
  refine ⟨hm, ?_, may_16 hw hm, of_decide_eq_true h.2.1⟩
  unfold isf
  rw [isf_eq, he, h.2.2, Bool.or_true]
theorem isf_0 {co s : Co} {t : Nat} (ht : tpf co t = true) : isf co s t 0 = stayf co s t := by
  unfold isf stayf
  rw [isf_eq, top_tp ht, Nat.zero_and, Nat.xor_zero, Nat.or_zero]
/-- what is in a thing, worth -/
def wwn (co : Co) (τ : Nat) : Nat → Nat
  | 0 => 0
  | n + 1 => wwn co τ n + (if top co n = τ then co 5 n else 0)
def wwf (co : Co) (τ : Nat) : Nat := wwn co τ (co 0 3)
/-- the reference's choice, one more than it tells -/
def chm (cnt : Bool) (co s : Co) (wm : Nat → Bool) (rest : Nat → Nat) (t p x : Nat) : Nat :=
  if x &&& mayf co s t = x ∧ fit p x = true then (if rest (p - prc x) = 0 ∨ (cnt = false ∧ wm t = true ∧ (tpf co t && isf co s t x) = false) then 0 else if cnt = true then rest (p - prc x) + (if (tpf co t && isf co s t x) = true then wwf co t else 0) else rest (p - prc x) + pc x 6) else 0
def Bm (cnt : Bool) (co s : Co) (wm : Nat → Bool) : Nat → Nat → Nat
  | 0, _ => 1
  | d + 1, p => if cnt = true then mx (chm cnt co s wm (Bm cnt co s wm d) (co 0 3 - 1 - d) p) 16 else mn (chm cnt co s wm (Bm cnt co s wm d) (co 0 3 - 1 - d) p) 16
def wyw (co s : Co) (wn : Nat → Bool) (t x : Nat) : Bool := if wn t = true then wyf co s t x else decide (x = 0)
/-- the things from the last d on can be kept by a purse -/
def fe (co s : Co) (wn : Nat → Bool) : Nat → Nat → Bool
  | 0, _ => true
  | d + 1, p => decide (ff (fun x => wyw co s wn (co 0 3 - 1 - d) x && (fit p x && fe co s wn d (p - prc x))) 16 ≠ 0)
def Dl (co s : Co) (wn : Nat → Bool) : Nat → Nat
  | 0 => 0
  | d + 1 => Dl co s wn d + (if wn (co 0 3 - 1 - d) = true then lkf co s (co 0 3 - 1 - d) else 0)
theorem wyw_16 {co s : Co} (hw : WF co) {wn : Nat → Bool} {t x : Nat} (h : wyw co s wn t x = true) : x < 16 := by
  unfold wyw at h
  split at h
  · exact (wy_is hw h).2.2.1
  · have := of_decide_eq_true h
    omega
theorem fe_ex {co s : Co} (hw : WF co) {wn : Nat → Bool} {d p : Nat} : fe co s wn (d + 1) p = true ↔ ∃ x, wyw co s wn (co 0 3 - 1 - d) x = true ∧ fit p x = true ∧ fe co s wn d (p - prc x) = true := by
  rw [fe, decide_eq_true_iff]
  constructor
  · intro h
    obtain ⟨k, hk⟩ := Nat.exists_eq_succ_of_ne_zero h
    obtain ⟨a, b, -⟩ := ff_some 16 hk
    rw [Bool.and_eq_true, Bool.and_eq_true] at b
    exact ⟨k, b.1, b.2.1, b.2.2⟩
  · rintro ⟨x, a, b, c⟩
    exact ff_ne (wyw_16 hw a) (by rw [a, b, c]; rfl)
theorem fe_mono {co s : Co} (hw : WF co) {wn : Nat → Bool} {x : Nat} (hx : x < 16) : ∀ d p, fit p x = true → fe co s wn d (p - prc x) = true → fe co s wn d p = true := by
  intro d
  induction d with
  | zero =>
    intro p h1 h2
    rw [fe]
  | succ d ih =>
    intro p h1 h2
    obtain ⟨y, a, b, c⟩ := (fe_ex hw).mp h2
    have hy := wyw_16 hw a
    obtain ⟨f1, f2⟩ := fit_comm hx hy h1 b
    refine (fe_ex hw).mpr ⟨y, a, f1, ih _ f2 ?_⟩
    rw [Nat.sub_right_comm]
    exact c
theorem chm_ne {co s : Co} {wm : Nat → Bool} {rest : Nat → Nat} {t p x : Nat} (h : chm false co s wm rest t p x ≠ 0) : x &&& mayf co s t = x ∧ fit p x = true ∧ rest (p - prc x) ≠ 0 ∧ (wm t = true → (tpf co t && isf co s t x) = true) ∧ chm false co s wm rest t p x = rest (p - prc x) + pc x 6 := by
  unfold chm at h ⊢
  split at h
  · rename_i h1
    split at h
    · exact absurd rfl h
    · rename_i h2
      refine ⟨h1.1, h1.2, fun w => h2 (Or.inl w), fun w => ?_, ?_⟩
      · cases hb : (tpf co t && isf co s t x)
        · exact absurd (Or.inr ⟨rfl, w, hb⟩) h2
        · rfl
      · rw [if_pos h1, if_neg h2, if_neg (by decide)]
  · exact absurd rfl h
theorem chm_at {co s : Co} {wm : Nat → Bool} {rest : Nat → Nat} {t p x : Nat} (h1 : x &&& mayf co s t = x) (h2 : fit p x = true) (h3 : rest (p - prc x) ≠ 0) (h4 : wm t = true → (tpf co t && isf co s t x) = true) : chm false co s wm rest t p x = rest (p - prc x) + pc x 6 := by
  unfold chm
  rw [if_pos ⟨h1, h2⟩, if_neg, if_neg (by decide)]
  rintro (w | ⟨-, w, z⟩)
  · exact h3 w
  · rw [h4 w] at z
    exact Bool.false_ne_true z.symm
section BEST
variable {co s : Co} {wm wn : Nat → Bool}
theorem wn_st {t : Nat} (hwm : ∀ t, wm t = true → tpf co t = true) (hwn : ∀ t, wn t = (wm t && !stayf co s t)) (h : wn t = true) : wm t = true ∧ tpf co t = true ∧ (s 2 0).testBit t = false ∧ heldf co t (cntf co s t) = false := by
  rw [hwn, Bool.and_eq_true, Bool.not_eq_true'] at h
  have ht := hwm t h.1
  have hs := h.2
  unfold stayf at hs
  rw [top_tp ht] at hs
  refine ⟨h.1, ht, ?_⟩
  cases h1 : (s 2 0).testBit t <;> cases h2 : heldf co t (cntf co s t) <;> simp [h1, h2] at hs ⊢
theorem Bm_f (hw : WF co) (hwm : ∀ t, wm t = true → tpf co t = true) (hwn : ∀ t, wn t = (wm t && !stayf co s t)) : ∀ d, d ≤ co 0 3 → ∀ p, Bm false co s wm d p = if fe co s wn d p = true then Dl co s wn d + 1 else 0
  | 0, _, p => rfl
  | d + 1, hd, p => by
    have ih := Bm_f hw hwm hwn d (by omega)
    have ht : co 0 3 - 1 - d < co 0 3 := by omega
    rw [Bm, if_neg (by decide), Dl]
    generalize hT : co 0 3 - 1 - d = t at ht
    have hex := fe_ex (s := s) (wn := wn) (d := d) (p := p) hw
    rw [hT] at hex
    cases hq : wn t with
    | true =>
      obtain ⟨h1, h2, h3, h4⟩ := wn_st hwm hwn hq
      rw [if_pos rfl]
      have low : ∀ x, chm false co s wm (Bm false co s wm d) t p x ≠ 0 → ∃ w, w &&& x = w ∧ wyf co s t w = true ∧ w < 16 ∧ pc w 6 = lkf co s t ∧ x < 16 ∧ fit p x = true ∧ fe co s wn d (p - prc x) = true ∧ chm false co s wm (Bm false co s wm d) t p x = Dl co s wn d + 1 + pc x 6 := by
        intro x hx
        obtain ⟨a, b, c, e, f⟩ := chm_ne hx
        have hi := e h1
        rw [Bool.and_eq_true] at hi
        obtain ⟨w, w1, w2, w3, w4⟩ := wy_ex hw ht h4 h3 a hi.2
        have hfe : fe co s wn d (p - prc x) = true := by
          rw [ih] at c
          split at c
          · assumption
          · exact absurd rfl c
        refine ⟨w, w1, w2, w3, w4, may_16 hw a, b, hfe, ?_⟩
        rw [f, ih, if_pos hfe]
      by_cases hfe : fe co s wn (d + 1) p = true
      · rw [if_pos hfe]
        obtain ⟨k, a, b, c⟩ := hex.mp hfe
        have hk16 := wyw_16 hw a
        unfold wyw at a
        rw [if_pos hq] at a
        obtain ⟨k1, k2, k3, k4⟩ := wy_is hw a
        refine mn_eq (s := k) (fun x hx h0 => ?_) hk16 ?_ (by omega)
        · obtain ⟨w, w1, w2, w3, w4, w5, w6, w7, w8⟩ := low x h0
          have := (pc_sub x w5 w w3 w1).1
          omega
        · rw [chm_at k1 b (by rw [ih, if_pos c]; omega) (fun _ => by rw [h2, k2]; rfl), ih, if_pos c, k4]
          omega
      · rw [if_neg hfe]
        refine mn_0 16 fun x hx => ?_
        apply Classical.byContradiction
        intro h0
        obtain ⟨w, w1, w2, w3, w4, w5, w6, w7, w8⟩ := low x h0
        obtain ⟨f1, f2, f3⟩ := fit_sub w5 w3 w1 w6
        refine hfe (hex.mpr ⟨w, ?_, f1, fe_mono hw (andn_lt (n := 4) w5) d _ f2 (by rw [← f3]; exact w7)⟩)
        unfold wyw
        rw [if_pos hq]
        exact w2
    | false =>
      rw [if_neg (show ¬ false = true by decide), Nat.add_zero]
      have e0 : fe co s wn (d + 1) p = fe co s wn d p := by
        have key : fe co s wn (d + 1) p = true ↔ fe co s wn d p = true := by
          rw [hex]
          constructor
          · rintro ⟨x, a, b, c⟩
            exact fe_mono hw (wyw_16 hw a) d p b c
          · intro h
            refine ⟨0, ?_, fit_0 p, h⟩
            unfold wyw
            rw [hq, if_neg (by decide)]
            rfl
        cases h1 : fe co s wn (d + 1) p <;> cases h2 : fe co s wn d p
        · rfl
        · rw [h1, h2] at key
          exact absurd (key.mpr rfl) (by decide)
        · rw [h1, h2] at key
          exact absurd (key.mp rfl) (by decide)
        · rfl
      rw [e0]
      by_cases hfe : fe co s wn d p = true
      · rw [if_pos hfe]
        refine mn_eq (s := 0) (fun x hx h0 => ?_) (by decide) ?_ (by omega)
        · obtain ⟨a, b, c, e, f⟩ := chm_ne h0
          rw [ih] at c f
          split at c
          · rename_i w
            rw [f, if_pos w]
            omega
          · exact absurd rfl c
        · rw [chm_at (Nat.zero_and _) (fit_0 p) (by show Bm false co s wm d p ≠ 0; rw [ih, if_pos hfe]; omega) (fun w => ?_), pc_0]
          · show Bm false co s wm d p + 0 = _
            rw [ih, if_pos hfe]
          · have ht2 := hwm t w
            rw [hwn, w, Bool.true_and, Bool.not_eq_false'] at hq
            rw [ht2, isf_0 ht2, hq]
            rfl
      · rw [if_neg hfe]
        refine mn_0 16 fun x hx => ?_
        apply Classical.byContradiction
        intro h0
        obtain ⟨a, b, c, e, f⟩ := chm_ne h0
        rw [ih] at c
        split at c
        · rename_i w
          exact hfe (fe_mono hw hx d p b w)
        · exact absurd rfl c
/-- the first choice that is the best one -/
theorem by_f (hw : WF co) (hwm : ∀ t, wm t = true → tpf co t = true) (hwn : ∀ t, wn t = (wm t && !stayf co s t)) {d p k : Nat} (hd : d + 1 ≤ co 0 3) (hk : ff (fun x => wyw co s wn (co 0 3 - 1 - d) x && (fit p x && fe co s wn d (p - prc x))) 16 = k + 1) : k < 16 ∧ fit p k = true ∧ fe co s wn d (p - prc k) = true ∧ chm false co s wm (Bm false co s wm d) (co 0 3 - 1 - d) p k = Bm false co s wm (d + 1) p ∧ ∀ j, j < k → chm false co s wm (Bm false co s wm d) (co 0 3 - 1 - d) p j ≠ Bm false co s wm (d + 1) p := by
  have ih := Bm_f hw hwm hwn d (by omega)
  have ht : co 0 3 - 1 - d < co 0 3 := by omega
  obtain ⟨a, b, c⟩ := ff_some 16 hk
  rw [Bool.and_eq_true, Bool.and_eq_true] at b
  obtain ⟨b1, b2, b3⟩ := b
  have hfe : fe co s wn (d + 1) p = true := (fe_ex hw).mpr ⟨k, b1, b2, b3⟩
  have eB := Bm_f hw hwm hwn (d + 1) hd p
  rw [if_pos hfe, Dl] at eB
  refine ⟨a, b2, b3, ?_⟩
  rw [eB]
  generalize hT : co 0 3 - 1 - d = t at *
  cases hq : wn t with
  | true =>
    obtain ⟨h1, h2, h3, h4⟩ := wn_st hwm hwn hq
    unfold wyw at b1
    rw [if_pos hq] at b1
    obtain ⟨k1, k2, k3, k4⟩ := wy_is hw b1
    rw [if_pos rfl]
    refine ⟨?_, fun j hj he => ?_⟩
    · rw [chm_at k1 b2 (by rw [ih, if_pos b3]; omega) (fun _ => by rw [h2, k2]; rfl), ih, if_pos b3, k4]
      omega
    · obtain ⟨j1, j2, j3, j4, j5⟩ := chm_ne (co := co) (s := s) (wm := wm) (rest := Bm false co s wm d) (t := t) (p := p) (x := j) (by rw [he]; omega)
      have hi := j4 h1
      rw [Bool.and_eq_true] at hi
      obtain ⟨w, w1, w2, w3, w4⟩ := wy_ex hw ht h4 h3 j1 hi.2
      have hfj : fe co s wn d (p - prc j) = true := by
        rw [ih] at j3
        split at j3
        · assumption
        · exact absurd rfl j3
      rw [j5, ih, if_pos hfj] at he
      have hw2 := (pc_sub j (by omega) w w3 w1).2 (by omega)
      subst hw2
      have := c w hj
      unfold wyw at this
      rw [if_pos hq, w2, j2, hfj] at this
      exact Bool.false_ne_true this.symm
  | false =>
    unfold wyw at b1
    rw [hq, if_neg (by decide)] at b1
    have hk0 := of_decide_eq_true b1
    subst hk0
    rw [if_neg (by decide), Nat.add_zero]
    refine ⟨?_, fun j hj => absurd hj (Nat.not_lt_zero _)⟩
    rw [chm_at (Nat.zero_and _) b2 (by rw [ih, if_pos b3]; omega) (fun w => ?_), ih, if_pos b3, pc_0]
    have ht2 := hwm t w
    rw [hwn, w, Bool.true_and, Bool.not_eq_false'] at hq
    rw [ht2, isf_0 ht2, hq]
    rfl
end BEST
