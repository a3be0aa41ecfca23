/-! the machine with all its objects made: a run as a function of the ints, references, longs -/
def ab_shl : List (Nat × Nat) :=
  [(4, 0), (10, 56), (2, 0), (0, 0), (10, 4), (10, 4), (10, 6), (10, 6), (10, 6), (10, 6), (10, 6), (0, 0), (10, 4), (10, 4), (10, 6), (10, 6), (10, 6), (10, 6), (10, 6),
   (3, 0), (10, 6), (10, 4), (3, 0), (10, 6), (10, 4), (12, 16), (12, 2), (1, 0), (10, 625), (10, 625), (10, 16), (10, 6), (10, 6),
   (3, 0), (10, 6), (10, 4), (3, 0), (10, 6), (10, 4), (3, 0), (10, 6), (10, 4), (3, 0), (10, 6), (10, 4), (3, 0), (10, 6), (10, 4), (3, 0), (10, 6), (10, 4),
   (3, 0), (10, 6), (10, 4), (3, 0), (10, 6), (10, 4), (3, 0), (10, 6), (10, 4), (3, 0), (10, 6), (10, 4), (3, 0), (10, 6), (10, 4), (3, 0), (10, 6), (10, 4),
   (3, 0), (10, 6), (10, 4), (3, 0), (10, 6), (10, 4), (3, 0), (10, 6), (10, 4), (3, 0), (10, 6), (10, 4), (3, 0), (10, 6), (10, 4), (3, 0), (10, 6), (10, 4),
   (5, 0), (10, 4), (10, 4), (10, 6), (10, 6), (10, 6), (10, 6), (10, 26), (10, 4), (10, 4), (10, 6), (10, 6), (10, 6), (10, 6), (10, 6), (10, 56), (10, 208), (10, 4375), (10, 16), (10, 6), (11, 6), (10, 6), (11, 6), (11, 2), (10, 26)]
theorem ab_shl_len : ab_shl.length = 112 := by decide +kernel
def SH (Z o : Nat) : Nat × Nat := if o = 1000 then (10, Z) else if o = 1001 then (10, 16) else if o = 1002 then (10, 5) else ab_shl.getD o (99, 0)
def GG (Z : Nat) (I : ab_I) (R : ab_R) (L : ab_L) : ab_G := (112, SH Z, I, R, L)
abbrev ab_Rm : Type := Option (Option Value × ab_I × ab_R × ab_L)
def ax_run (Z : Nat) : Nat → Nat → Nat → Nat → Nat → List (Option Value) → List Value → ab_I → ab_R → ab_L → ab_Rm
  | 0, _, _, _, _, _, _, _, _, _ => none
  | f + 1, k, n, M, pc, ls, st, I, R, L => match ab_step M pc ls st k n (GG Z I R L) with
    | none => none
    | some (.inl r) => some (r.1, I, R, L)
    | some (.inr (.inl x)) => if x.2.2.2.2.2.1 = 112 then ax_run Z f x.2.2.2.1 x.2.2.2.2.1 M x.1 x.2.1 x.2.2.1 x.2.2.2.2.2.2.2.1 x.2.2.2.2.2.2.2.2.1 x.2.2.2.2.2.2.2.2.2 else none
    | some (.inr (.inr (T, args, rest))) => if (ab_exp args).length ≤ mL T then
        (match ax_run Z f 0 0 T 0 (ab_pad (mL T) (ab_exp args)) [] I R L with
        | none => none
        | some (v, I', R', L') => match ab_rk T v with
          | none => none
          | some p => ax_run Z f (k + mC T) (n + mS T) M (pc + 3) ls (p ++ rest) I' R' L') else none
theorem ab_psh_g {len e pc : Nat} {ls : List (Option Value)} {st : List Value} {k n : Nat} {g : ab_G} {x : ab_N} (h : ab_psh len e pc ls st k n g = some (.inr (.inl x))) : x.2.2.2.2.2 = g := by
  obtain ⟨-, rfl⟩ := ab_psh_inv h
  rfl
theorem ab_br_g {len pc : Nat} {off : Int} {b : Bool} {ls : List (Option Value)} {st : List Value} {k n : Nat} {g : ab_G} {x : ab_N} (h : ab_br len pc off b ls st k n g = some (.inr (.inl x))) : x.2.2.2.2.2 = g := by
  obtain ⟨-, t, -, rfl⟩ := ab_br_inv h
  rfl
theorem ab_puti_sh {M C f o : Nat} {g g' : ab_G} {v : Value} (h : ab_puti M C f g o v = some g') : g'.2.1 = g.2.1 := by
  unfold ab_puti at h
  split at h
  · split at h <;> cases h
    rfl
  · split at h <;> cases h
    rfl
  · split at h <;> cases h
    rfl
  · cases h
theorem ab_mk_ne {g g' : ab_G} {a b : Nat} (h : g' = ab_mk g a b) (h1 : g'.1 = g.1) : False := by
  rw [h] at h1
  simp [ab_mk] at h1
theorem ab_ins_sh {M pc len : Nat} {ins : Instr} {ls : List (Option Value)} {st : List Value} {k n : Nat} {g : ab_G} {x : ab_N} (h : ab_ins M pc len ins ls st k n g = some (.inr (.inl x))) (h1 : x.2.2.2.2.2.1 = g.1) : x.2.2.2.2.2.2.1 = g.2.1 := by
  cases ins with
  | newarray ty =>
    cases ty with
    | int =>
      simp only [ab_ins, ab_newa] at h
      split at h
      · split at h
        · exact (ab_mk_ne (ab_psh_g h) h1).elim
        · cases h
      · cases h
    | boolean =>
      simp only [ab_ins, ab_newa] at h
      split at h
      · split at h
        · exact (ab_mk_ne (ab_psh_g h) h1).elim
        · cases h
      · cases h
    | _ => exact (ab_bad h).elim
  | anewarray idx =>
    simp only [ab_ins, ab_newa] at h
    split at h
    · split at h
      · split at h
        · exact (ab_mk_ne (ab_psh_g h) h1).elim
        · cases h
      · cases h
    · cases h
  | new idx =>
    simp only [ab_ins, ab_new] at h
    split at h
    · split at h
      · exact (ab_mk_ne (ab_psh_g h) h1).elim
      · cases h
    · cases h
  | putfield idx =>
    simp only [ab_ins, ab_putf] at h
    split at h
    · split at h
      · split at h
        · split at h
          · rename_i hg
            rw [ab_psh_g h]
            exact ab_puti_sh hg
          · cases h
        · cases h
      · cases h
    · cases h
  | goto off => rw [ab_br_g h]
  | ifCond cc off =>
    simp only [ab_ins] at h
    split at h
    · rw [ab_br_g h]
    · cases h
  | if_icmp cc off =>
    simp only [ab_ins] at h
    split at h
    · rw [ab_br_g h]
    · cases h
  | tableswitch d lo hi offs =>
    simp only [ab_ins, ab_ok] at h
    split at h
    · split at h <;> cases h
      rfl
    · cases h
  | lookupswitch d ps =>
    simp only [ab_ins, ab_ok] at h
    split at h
    · split at h <;> cases h
      rfl
    · cases h
  | iconst z => rw [ab_psh_g h]
  | bipush z => rw [ab_psh_g h]
  | sipush z => rw [ab_psh_g h]
  | lconst z => rw [ab_psh_g h]
  | invokevirtual idx =>
    simp only [ab_ins, ab_virt, ab_callo] at h
    split at h
    · split at h
      · split at h
        · split at h <;> cases h
        · cases h
      · cases h
    · cases h
  | ireturn =>
    simp only [ab_ins, ab_reti] at h
    split at h
    · split at h <;> cases h
    · cases h
  | lreturn =>
    simp only [ab_ins, ab_retl] at h
    split at h
    · split at h <;> cases h
    · cases h
  | return_ =>
    simp only [ab_ins, ab_retv] at h
    split at h
    · split at h <;> cases h
    · cases h
  | invokestatic idx =>
    simp only [ab_ins, ab_stc, ab_call] at h
    repeat' (split at h)
    all_goals first | (cases h; done) | (rw [ab_psh_g h]; done)
  | invokespecial idx =>
    simp only [ab_ins, ab_spc, ab_callo] at h
    repeat' (split at h)
    all_goals first | (cases h; done) | (rw [ab_psh_g h]; done)
  | _ =>
    first
    | exact (ab_bad h).elim
    | (simp only [ab_ins, ab_ldi, ab_ldl, ab_lda, ab_sti, ab_sta, ab_stl, ab_ii, ab_ll, ab_li, ab_getf, ab_ald, ab_ast, ab_aast, ab_alen] at h
       repeat' (split at h)
       all_goals first | (cases h; done) | (rw [ab_psh_g h]; done))
theorem ab_step_sh {M pc : Nat} {ls : List (Option Value)} {st : List Value} {k n : Nat} {g : ab_G} {x : ab_N} (h : ab_step M pc ls st k n g = some (.inr (.inl x))) (h1 : x.2.2.2.2.2.1 = g.1) : x.2.2.2.2.2.2.1 = g.2.1 := by
  unfold ab_step at h
  split at h
  · exact ab_ins_sh (ab_sel_x h) h1
  · cases h
theorem ax_ab (Z : Nat) : ∀ (f k n M pc : Nat) (ls : List (Option Value)) (st : List Value) (I : ab_I) (R : ab_R) (L : ab_L) (v : Option Value) (I' : ab_I) (R' : ab_R) (L' : ab_L), ax_run Z f k n M pc ls st I R L = some (v, I', R', L') → ab_run f M pc ls st k n (GG Z I R L) = some (v, GG Z I' R' L') := by
  intro f
  induction f with
  | zero =>
    intro k n M pc ls st I R L v I' R' L' h
    cases h
  | succ f ih =>
    intro k n M pc ls st I R L v I' R' L' h
    unfold ax_run at h
    unfold ab_run
    split at h
    · cases h
    · rename_i r hs
      try rw [hs]
      obtain ⟨rv, rg⟩ := r
      obtain ⟨e, -⟩ := ab_ret_inv hs
      cases h
      simp only [e]
    · rename_i x hs
      try rw [hs]
      split at h
      · rename_i hx
        have hsh := ab_step_sh hs hx
        have := ih _ _ _ _ _ _ _ _ _ _ _ _ _ h
        obtain ⟨a, b, c, d, e, g1, g2, g3, g4, g5⟩ := x
        simp only at hx hsh this ⊢
        subst hx
        rw [hsh]
        exact this
      · cases h
    · rename_i T av rest hs
      try rw [hs]
      try simp only
      split at h
      · rename_i hlen
        rw [if_pos hlen]
        split at h
        · cases h
        · rename_i v1 I1 R1 L1 h1
          rw [ih _ _ _ _ _ _ _ _ _ _ _ _ _ h1]
          simp only
          split at h
          · cases h
          · rename_i p hp
            try rw [hp]
            exact ih _ _ _ _ _ _ _ _ _ _ _ _ _ h
      · cases h
theorem ax_up (Z : Nat) : ∀ (f k n M pc : Nat) (ls : List (Option Value)) (st : List Value) (I : ab_I) (R : ab_R) (L : ab_L) (r : Option Value × ab_I × ab_R × ab_L), ax_run Z f k n M pc ls st I R L = some r → ax_run Z (f + 1) k n M pc ls st I R L = some r := by
  intro f
  induction f with
  | zero =>
    intro k n M pc ls st I R L r h
    cases h
  | succ f ih =>
    intro k n M pc ls st I R L r h
    unfold ax_run at h ⊢
    split at h
    · cases h
    · rename_i hs
      try rw [hs]
      exact h
    · rename_i x hs
      try rw [hs]
      split at h
      · rename_i hx
        simp only [hx, if_true]
        exact ih _ _ _ _ _ _ _ _ _ _ h
      · cases h
    · rename_i T av rest hs
      try rw [hs]
      try simp only
      split at h
      · rename_i hlen
        rw [if_pos hlen]
        split at h
        · cases h
        · rename_i v1 I1 R1 L1 h1
          rw [ih _ _ _ _ _ _ _ _ _ _ h1]
          simp only
          split at h
          · cases h
          · rename_i p hp
            try rw [hp]
            exact ih _ _ _ _ _ _ _ _ _ _ h
      · cases h
theorem ax_le {Z f g k n M pc : Nat} {ls : List (Option Value)} {st : List Value} {I : ab_I} {R : ab_R} {L : ab_L} {r : Option Value × ab_I × ab_R × ab_L} (h : ax_run Z f k n M pc ls st I R L = some r) (hg : f ≤ g) : ax_run Z g k n M pc ls st I R L = some r := by
  obtain ⟨d, rfl⟩ := Nat.exists_eq_add_of_le hg
  clear hg
  induction d with
  | zero => exact h
  | succ d ih => exact ax_up Z _ _ _ _ _ _ _ _ _ _ _ ih
/-- the run, of however many steps -/
noncomputable def ex (Z k n M pc : Nat) (ls : List (Option Value)) (st : List Value) (I : ab_I) (R : ab_R) (L : ab_L) : ab_Rm := by
  classical
  exact if h : ∃ r, ∃ f, ax_run Z f k n M pc ls st I R L = some r then some h.choose else none
theorem ex_iff {Z k n M pc : Nat} {ls : List (Option Value)} {st : List Value} {I : ab_I} {R : ab_R} {L : ab_L} {r : Option Value × ab_I × ab_R × ab_L} : ex Z k n M pc ls st I R L = some r ↔ ∃ f, ax_run Z f k n M pc ls st I R L = some r := by
  unfold ex
  constructor
  · intro h
    split at h
    · rename_i hx
      cases h
      exact hx.choose_spec
    · cases h
  · rintro ⟨f, hf⟩
    have hx : ∃ r, ∃ f, ax_run Z f k n M pc ls st I R L = some r := ⟨r, f, hf⟩
    rw [dif_pos hx]
    obtain ⟨f2, hf2⟩ := hx.choose_spec
    have h1 := ax_le hf (Nat.le_max_left f f2)
    have h2 := ax_le hf2 (Nat.le_max_right f f2)
    exact h2.symm.trans h1
theorem ex_eq {Z k n M pc k' n' M' pc' : Nat} {ls ls' : List (Option Value)} {st st' : List Value} {I I' : ab_I} {R R' : ab_R} {L L' : ab_L} (h : ∀ r, (∃ f, ax_run Z f k n M pc ls st I R L = some r) ↔ ∃ f, ax_run Z f k' n' M' pc' ls' st' I' R' L' = some r) : ex Z k n M pc ls st I R L = ex Z k' n' M' pc' ls' st' I' R' L' := by
  have key : ∀ r, ex Z k n M pc ls st I R L = some r ↔ ex Z k' n' M' pc' ls' st' I' R' L' = some r := fun r => by rw [ex_iff, ex_iff]; exact h r
  cases h1 : ex Z k n M pc ls st I R L with
  | some r => exact ((key r).mp h1).symm
  | none =>
    cases h2 : ex Z k' n' M' pc' ls' st' I' R' L' with
    | none => rfl
    | some r => rw [(key r).mpr h2] at h1; cases h1
theorem ex_step {Z k n M pc k' n' pc' : Nat} {ls ls' : List (Option Value)} {st st' : List Value} {I I' : ab_I} {R R' : ab_R} {L L' : ab_L} (h : ab_step M pc ls st k n (GG Z I R L) = some (.inr (.inl (pc', ls', st', k', n', GG Z I' R' L')))) : ex Z k n M pc ls st I R L = ex Z k' n' M pc' ls' st' I' R' L' := by
  refine ex_eq fun r => ⟨fun ⟨f, hf⟩ => ?_, fun ⟨f, hf⟩ => ⟨f + 1, ?_⟩⟩
  · cases f with
    | zero => cases hf
    | succ f =>
      unfold ax_run at hf
      rw [h] at hf
      exact ⟨f, hf⟩
  · unfold ax_run
    rw [h]
    exact hf
theorem ex_ret {Z k n M pc : Nat} {ls : List (Option Value)} {st : List Value} {I : ab_I} {R : ab_R} {L : ab_L} {v : Option Value} {g : ab_G} (h : ab_step M pc ls st k n (GG Z I R L) = some (.inl (v, g))) : ex Z k n M pc ls st I R L = some (v, I, R, L) := by
  refine ex_iff.mpr ⟨1, ?_⟩
  unfold ax_run
  rw [h]
def bnd (T : Nat) (r : ab_Rm) (f : List Value → ab_I → ab_R → ab_L → ab_Rm) : ab_Rm := match r with
  | none => none
  | some (v, I, R, L) => match ab_rk T v with
    | none => none
    | some p => f p I R L
theorem ex_call {Z k n M pc T : Nat} {ls : List (Option Value)} {st av rest : List Value} {I : ab_I} {R : ab_R} {L : ab_L} (h : ab_step M pc ls st k n (GG Z I R L) = some (.inr (.inr (T, av, rest)))) (hl : (ab_exp av).length ≤ mL T) :
    ex Z k n M pc ls st I R L = bnd T (ex Z 0 0 T 0 (ab_pad (mL T) (ab_exp av)) [] I R L) (fun p I' R' L' => ex Z (k + mC T) (n + mS T) M (pc + 3) ls (p ++ rest) I' R' L') := by
  cases h1 : ex Z 0 0 T 0 (ab_pad (mL T) (ab_exp av)) [] I R L with
  | none =>
    cases h2 : ex Z k n M pc ls st I R L with
    | none => rfl
    | some r =>
      obtain ⟨f, hf⟩ := ex_iff.mp h2
      cases f with
      | zero => cases hf
      | succ f =>
        unfold ax_run at hf
        rw [h] at hf
        simp only [hl, if_true] at hf
        split at hf
        · cases hf
        · rename_i v I1 R1 L1 h3
          rw [ex_iff.mpr ⟨f, h3⟩] at h1
          cases h1
  | some r =>
    obtain ⟨v, I1, R1, L1⟩ := r
    obtain ⟨f1, hf1⟩ := ex_iff.mp h1
    simp only [bnd]
    cases hp : ab_rk T v with
    | none =>
      cases h2 : ex Z k n M pc ls st I R L with
      | none => rfl
      | some r =>
        obtain ⟨f, hf⟩ := ex_iff.mp h2
        cases f with
        | zero => cases hf
        | succ f =>
          unfold ax_run at hf
          rw [h] at hf
          simp only [hl, if_true] at hf
          split at hf
          · cases hf
          · rename_i v2 I2 R2 L2 h3
            have e : (v2, I2, R2, L2) = (v, I1, R1, L1) := Option.some.inj ((ax_le h3 (Nat.le_max_left f f1)).symm.trans (ax_le hf1 (Nat.le_max_right f f1)))
            cases e
            rw [hp] at hf
            cases hf
    | some p =>
      refine ex_eq fun r => ⟨fun ⟨f, hf⟩ => ?_, fun ⟨f, hf⟩ => ⟨max f f1 + 1, ?_⟩⟩
      · cases f with
        | zero => cases hf
        | succ f =>
          unfold ax_run at hf
          rw [h] at hf
          simp only [hl, if_true] at hf
          split at hf
          · cases hf
          · rename_i v2 I2 R2 L2 h3
            have e : (v2, I2, R2, L2) = (v, I1, R1, L1) := Option.some.inj ((ax_le h3 (Nat.le_max_left f f1)).symm.trans (ax_le hf1 (Nat.le_max_right f f1)))
            cases e
            rw [hp] at hf
            exact ⟨f, hf⟩
      · unfold ax_run
        rw [h]
        simp only [hl, if_true]
        rw [ax_le hf1 (Nat.le_max_right f f1)]
        simp only [hp]
        exact ax_le hf (Nat.le_max_left f f1)
