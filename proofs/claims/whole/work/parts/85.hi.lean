/-! what a run leaves alone; what it answers -/
theorem wI_row {I : ab_I} {o k p : Nat} {v : Int32} (h : p ≠ o) : wI I o k v p = I p := by
  funext j
  exact wI_o h
theorem ab_puti_hi {M C f o q : Nat} {g g' : ab_G} {v : Value} (h : ab_puti M C f g o v = some g') (hq : q ≠ o) : g'.2.2.1 q = g.2.2.1 q := by
  unfold ab_puti at h
  split at h
  · split at h <;> cases h
    exact wI_row hq
  · split at h <;> cases h
    rfl
  · split at h <;> cases h
    rfl
  · cases h
theorem ab_ins_hi {M pc len : Nat} {ins : Instr} {ls : List (Option Value)} {st : List Value} {k n : Nat} {g : ab_G} {x : ab_N} (h : ab_ins M pc len ins ls st k n g = some (.inr (.inl x))) (h1 : x.2.2.2.2.2.1 = g.1) {q : Nat} (hq : g.1 ≤ q) : x.2.2.2.2.2.2.2.1 q = g.2.2.1 q := by
  cases ins with
  | newarray ty =>
    cases ty with
    | int =>
      simp only [ab_ins, ab_newa] at h
      split at h
      · split at h
        · exact (ab_mk_ne (ab_psh_g h) h1).elim
        · cases h
      · cases h
    | boolean =>
      simp only [ab_ins, ab_newa] at h
      split at h
      · split at h
        · exact (ab_mk_ne (ab_psh_g h) h1).elim
        · cases h
      · cases h
    | _ => exact (ab_bad h).elim
  | anewarray idx =>
    simp only [ab_ins, ab_newa] at h
    split at h
    · split at h
      · split at h
        · exact (ab_mk_ne (ab_psh_g h) h1).elim
        · cases h
      · cases h
    · cases h
  | new idx =>
    simp only [ab_ins, ab_new] at h
    split at h
    · split at h
      · exact (ab_mk_ne (ab_psh_g h) h1).elim
      · cases h
    · cases h
  | putfield idx =>
    simp only [ab_ins, ab_putf] at h
    split at h
    · split at h
      · split at h
        · rename_i hc
          split at h
          · rename_i hg
            rw [ab_psh_g h]
            exact ab_puti_hi hg (Nat.ne_of_gt (Nat.lt_of_lt_of_le hc.1 hq))
          · cases h
        · cases h
      · cases h
    · cases h
  | iastore =>
    simp only [ab_ins, ab_ast] at h
    split at h
    · split at h
      · rename_i hc
        rw [ab_psh_g h]
        exact wI_row (Nat.ne_of_gt (Nat.lt_of_lt_of_le hc.1 hq))
      · cases h
    · cases h
  | bastore =>
    simp only [ab_ins, ab_ast] at h
    split at h
    · split at h
      · rename_i hc
        rw [ab_psh_g h]
        exact wI_row (Nat.ne_of_gt (Nat.lt_of_lt_of_le hc.1 hq))
      · cases h
    · cases h
  | goto off => rw [ab_br_g h]
  | ifCond cc off =>
    simp only [ab_ins] at h
    split at h
    · rw [ab_br_g h]
    · cases h
  | if_icmp cc off =>
    simp only [ab_ins] at h
    split at h
    · rw [ab_br_g h]
    · cases h
  | tableswitch d lo hi offs =>
    simp only [ab_ins, ab_ok] at h
    split at h
    · split at h <;> cases h
      rfl
    · cases h
  | lookupswitch d ps =>
    simp only [ab_ins, ab_ok] at h
    split at h
    · split at h <;> cases h
      rfl
    · cases h
  | iconst z => rw [ab_psh_g h]
  | bipush z => rw [ab_psh_g h]
  | sipush z => rw [ab_psh_g h]
  | lconst z => rw [ab_psh_g h]
  | invokevirtual idx =>
    simp only [ab_ins, ab_virt, ab_callo] at h
    split at h
    · split at h
      · split at h
        · split at h <;> cases h
        · cases h
      · cases h
    · cases h
  | ireturn =>
    simp only [ab_ins, ab_reti] at h
    split at h
    · split at h <;> cases h
    · cases h
  | lreturn =>
    simp only [ab_ins, ab_retl] at h
    split at h
    · split at h <;> cases h
    · cases h
  | return_ =>
    simp only [ab_ins, ab_retv] at h
    split at h
    · split at h <;> cases h
    · cases h
  | invokestatic idx =>
    simp only [ab_ins, ab_stc, ab_call] at h
    repeat' (split at h)
    all_goals
      first
      | (cases h; done)
      | (rw [ab_psh_g h]; done)
      | (rename_i hc
         rw [ab_psh_g h]
         funext j
         exact cpI_o (Nat.ne_of_gt (Nat.lt_of_lt_of_le hc.2.2.1 hq)))
  | invokespecial idx =>
    simp only [ab_ins, ab_spc, ab_callo] at h
    repeat' (split at h)
    all_goals first | (cases h; done) | (rw [ab_psh_g h]; done)
  | _ =>
    first
    | exact (ab_bad h).elim
    | (simp only [ab_ins, ab_ldi, ab_ldl, ab_lda, ab_sti, ab_sta, ab_stl, ab_ii, ab_ll, ab_li, ab_getf, ab_ald, ab_aast, ab_alen] at h
       repeat' (split at h)
       all_goals first | (cases h; done) | (rw [ab_psh_g h]; done))
theorem ab_step_hi {M pc : Nat} {ls : List (Option Value)} {st : List Value} {k n : Nat} {g : ab_G} {x : ab_N} (h : ab_step M pc ls st k n g = some (.inr (.inl x))) (h1 : x.2.2.2.2.2.1 = g.1) {q : Nat} (hq : g.1 ≤ q) : x.2.2.2.2.2.2.2.1 q = g.2.2.1 q := by
  unfold ab_step at h
  split at h
  · exact ab_ins_hi (ab_sel_x h) h1 hq
  · cases h
theorem ax_hi (Z : Nat) : ∀ (f k n M pc : Nat) (ls : List (Option Value)) (st : List Value) (I : ab_I) (R : ab_R) (L : ab_L) (v : Option Value) (I' : ab_I) (R' : ab_R) (L' : ab_L), ax_run Z f k n M pc ls st I R L = some (v, I', R', L') → (∀ q, 112 ≤ q → I' q = I q) ∧ (mR M = some .int → ∃ x, v = some (.int x)) ∧ (mR M = some .long → ∃ x, v = some (.long x)) := by
  intro f
  induction f with
  | zero =>
    intro k n M pc ls st I R L v I' R' L' h
    cases h
  | succ f ih =>
    intro k n M pc ls st I R L v I' R' L' h
    unfold ax_run at h
    split at h
    · cases h
    · rename_i r hs
      obtain ⟨rv, rg⟩ := r
      obtain ⟨e, h2, h3, h4⟩ := ab_ret_inv hs
      cases h
      refine ⟨fun _ _ => rfl, fun hm => ?_, fun hm => ?_⟩
      · rcases h4 with ⟨y, a, -⟩ | ⟨y, a, -, -, b⟩ | ⟨a, -, -, b⟩
        · exact ⟨y, a⟩
        · rw [hm] at b
          cases b
        · rw [hm] at b
          cases b
      · rcases h4 with ⟨y, a, -, -, b⟩ | ⟨y, a, -⟩ | ⟨a, -, -, b⟩
        · rw [hm] at b
          rcases b with b | ⟨b, -⟩ <;> cases b
        · exact ⟨y, a⟩
        · rw [hm] at b
          cases b
    · rename_i x hs
      split at h
      · rename_i hx
        obtain ⟨a, b⟩ := ih _ _ _ _ _ _ _ _ _ _ _ _ _ h
        exact ⟨fun q hq => (a q hq).trans (ab_step_hi hs hx hq), b⟩
      · cases h
    · rename_i T av rest hs
      split at h
      · split at h
        · cases h
        · rename_i v1 I1 R1 L1 h1
          split at h
          · cases h
          · obtain ⟨a1, -⟩ := ih _ _ _ _ _ _ _ _ _ _ _ _ _ h1
            obtain ⟨a2, b2⟩ := ih _ _ _ _ _ _ _ _ _ _ _ _ _ h
            exact ⟨fun q hq => (a2 q hq).trans (a1 q hq), b2⟩
      · cases h
theorem cl_hi {Z M : Nat} {av : List Value} {I I' : ab_I} {R R' : ab_R} {L L' : ab_L} {v : Option Value} (h : cl Z M av I R L = some (v, I', R', L')) : (∀ q, 112 ≤ q → I' q = I q) ∧ (mR M = some .int → ∃ x, v = some (.int x)) ∧ (mR M = some .long → ∃ x, v = some (.long x)) := by
  obtain ⟨f, hf⟩ := ex_iff.mp h
  exact ax_hi Z f _ _ _ _ _ _ _ _ _ _ _ _ _ hf
/-- a call of each, in the law's eyes -/
def Inv (Z : Nat) (xs : Nat → Int32) (I : ab_I) (R : ab_R) (L : ab_L) : Prop := ∃ g sd c, PG g ∧ XX g sd c I R L ∧ MM g sd I R L ∧ I 1000 = xs
theorem Both.lawI {Z MX MM' : Nat} {av : List Value} (h : Both Z MX MM' av) (hX : mR MX = some .int) (hM : mR MM' = some .int) {xs : Nat → Int32} {I : ab_I} {R : ab_R} {L : ab_L} (hi : Inv Z xs I R L) : ∃ v I1 R1 L1 I2 L2, cl Z MX (.ref 0 :: av) I R L = some (some (.int v), I1, R1, L1) ∧ I1 1000 = xs ∧ cl Z MM' (.ref 87 :: av) I1 R1 L1 = some (some (.int v), I2, R1, L2) ∧ Inv Z xs I2 R1 L2 := by
  obtain ⟨g, sd, c, hp, hx, hm, h0⟩ := hi
  obtain ⟨v, g', sd', c', I1, R1, L1, I2, L2, e1, e2, p', x', m'⟩ := h.run hp hx hm
  obtain ⟨a1, b1, -⟩ := cl_hi e1
  obtain ⟨a2, -⟩ := cl_hi e2
  obtain ⟨y, hy⟩ := b1 hX
  cases hy
  exact ⟨y, I1, R1, L1, I2, L2, e1, (a1 1000 (by decide)).trans h0, e2, g', sd', c', p', x', m', (a2 1000 (by decide)).trans ((a1 1000 (by decide)).trans h0)⟩
theorem Both.lawL {Z MX MM' : Nat} {av : List Value} (h : Both Z MX MM' av) (hX : mR MX = some .long) {xs : Nat → Int32} {I : ab_I} {R : ab_R} {L : ab_L} (hi : Inv Z xs I R L) : ∃ v I1 R1 L1 I2 L2, cl Z MX (.ref 0 :: av) I R L = some (some (.long v), I1, R1, L1) ∧ I1 1000 = xs ∧ cl Z MM' (.ref 87 :: av) I1 R1 L1 = some (some (.long v), I2, R1, L2) ∧ Inv Z xs I2 R1 L2 := by
  obtain ⟨g, sd, c, hp, hx, hm, h0⟩ := hi
  obtain ⟨v, g', sd', c', I1, R1, L1, I2, L2, e1, e2, p', x', m'⟩ := h.run hp hx hm
  obtain ⟨a1, -, b1⟩ := cl_hi e1
  obtain ⟨a2, -⟩ := cl_hi e2
  obtain ⟨y, hy⟩ := b1 hX
  cases hy
  exact ⟨y, I1, R1, L1, I2, L2, e1, (a1 1000 (by decide)).trans h0, e2, g', sd', c', p', x', m', (a2 1000 (by decide)).trans ((a1 1000 (by decide)).trans h0)⟩
