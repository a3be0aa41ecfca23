/-! an instruction, an equation -/
def iI (z : Int) : Int32 := Int32.ofInt z
def iL (z : Int) : Int64 := Int64.ofInt z
def kd (r : Nat) : Nat := if r < 112 then (ab_shl.getD r (99, 0)).1 else 99
def al (Z r : Nat) : Nat := if r < 112 then (if (ab_shl.getD r (99, 0)).1 = 10 then (ab_shl.getD r (99, 0)).2 else 0) else if r = 1000 then Z else if r = 1001 then 16 else if r = 1002 then 5 else 0
def zl (r : Nat) : Nat := if r < 112 then (if (ab_shl.getD r (99, 0)).1 = 11 then (ab_shl.getD r (99, 0)).2 else 0) else 0
def ql (r : Nat) : Nat := if r < 112 then (if (ab_shl.getD r (99, 0)).1 = 12 then (ab_shl.getD r (99, 0)).2 else 0) else 0
def nl : Option Value → Bool
  | some v => v.category == 1
  | none => true
def bI (r : ab_Rm) (f : Int32 → ab_I → ab_R → ab_L → ab_Rm) : ab_Rm := match r with
  | some (some (.int x), I, R, L) => f x I R L
  | _ => none
def bL (r : ab_Rm) (f : Int64 → ab_I → ab_R → ab_L → ab_Rm) : ab_Rm := match r with
  | some (some (.long x), I, R, L) => f x I R L
  | _ => none
def bV (r : ab_Rm) (f : ab_I → ab_R → ab_L → ab_Rm) : ab_Rm := match r with
  | some (none, I, R, L) => f I R L
  | _ => none
noncomputable def cl (Z T : Nat) (av : List Value) (I : ab_I) (R : ab_R) (L : ab_L) : ab_Rm := ex Z 0 0 T 0 (ab_pad (mL T) (ab_exp av)) [] I R L
theorem bI_some (x : Int32) (I : ab_I) (R : ab_R) (L : ab_L) (f : Int32 → ab_I → ab_R → ab_L → ab_Rm) : bI (some (some (.int x), I, R, L)) f = f x I R L := rfl
theorem bL_some (x : Int64) (I : ab_I) (R : ab_R) (L : ab_L) (f : Int64 → ab_I → ab_R → ab_L → ab_Rm) : bL (some (some (.long x), I, R, L)) f = f x I R L := rfl
theorem bV_some (I : ab_I) (R : ab_R) (L : ab_L) (f : ab_I → ab_R → ab_L → ab_Rm) : bV (some (none, I, R, L)) f = f I R L := rfl
theorem kd_SH {Z o C : Nat} (h : kd o = C) (hC : C < 6) : o < 112 ∧ (SH Z o).1 = C := by
  unfold kd at h
  split at h
  · rename_i ho
    refine ⟨ho, ?_⟩
    rw [SH, if_neg (by omega), if_neg (by omega), if_neg (by omega)]
    exact h
  · omega
theorem al_SH {Z o : Nat} {j : Int32} (h : ab_ix j (al Z o) = true) : (o < 112 ∨ (1000 ≤ o ∧ o < 1003)) ∧ (SH Z o).1 = 10 ∧ ab_ix j (SH Z o).2 = true := by
  have h0 : ∀ j : Int32, ab_ix j 0 = true → False := fun j hj => by simp [ab_ix] at hj
  unfold al at h
  split at h
  · rename_i ho
    split at h
    · rename_i h1
      refine ⟨Or.inl ho, ?_⟩
      rw [SH, if_neg (by omega), if_neg (by omega), if_neg (by omega)]
      exact ⟨h1, h⟩
    · exact (h0 j h).elim
  · rename_i ho
    split at h
    · rename_i h1
      subst h1
      exact ⟨Or.inr ⟨by omega, by omega⟩, by simp [SH], by simpa [SH] using h⟩
    · split at h
      · rename_i h1
        subst h1
        exact ⟨Or.inr ⟨by omega, by omega⟩, by simp [SH], by simpa [SH] using h⟩
      · split at h
        · rename_i h1
          subst h1
          exact ⟨Or.inr ⟨by omega, by omega⟩, by simp [SH], by simpa [SH] using h⟩
        · exact (h0 j h).elim
theorem zl_SH {Z o : Nat} {j : Int32} (h : ab_ix j (zl o) = true) : o < 112 ∧ (SH Z o).1 = 11 ∧ ab_ix j (SH Z o).2 = true := by
  have h0 : ∀ j : Int32, ab_ix j 0 = true → False := fun j hj => by simp [ab_ix] at hj
  unfold zl at h
  split at h
  · rename_i ho
    split at h
    · rename_i h1
      refine ⟨ho, ?_⟩
      rw [SH, if_neg (by omega), if_neg (by omega), if_neg (by omega)]
      exact ⟨h1, h⟩
    · exact (h0 j h).elim
  · exact (h0 j h).elim
theorem ql_SH {Z o : Nat} {j : Int32} (h : ab_ix j (ql o) = true) : o < 112 ∧ (SH Z o).1 = 12 ∧ ab_ix j (SH Z o).2 = true := by
  have h0 : ∀ j : Int32, ab_ix j 0 = true → False := fun j hj => by simp [ab_ix] at hj
  unfold ql at h
  split at h
  · rename_i ho
    split at h
    · rename_i h1
      refine ⟨ho, ?_⟩
      rw [SH, if_neg (by omega), if_neg (by omega), if_neg (by omega)]
      exact ⟨h1, h⟩
    · exact (h0 j h).elim
  · exact (h0 j h).elim
theorem ab_fr_nl {ls : List (Option Value)} {i : Nat} {x : Option Value} (h : ls[i]? = some x) (hx : nl x = true) : ab_fr ls (i + 1) = true := by
  simp only [ab_fr, h]
  cases x with
  | none => rfl
  | some v => exact hx
theorem ab_fr_0 (ls : List (Option Value)) : ab_fr ls 0 = true := rfl
section OPS
variable {Z k n M pc : Nat} {ls : List (Option Value)} {st : List Value} {I : ab_I} {R : ab_R} {L : ab_L}
theorem xo_ins {ins : Instr} {len : Nat} {x : ab_N} (hc : cd M pc = some (ins, len)) (h : ab_ins M pc len ins ls st k n (GG Z I R L) = some (.inr (.inl x))) : ab_step M pc ls st k n (GG Z I R L) = some (.inr (.inl x)) := by
  unfold ab_step
  rw [hc]
  simp only [h, ab_sel]
theorem xo_psh {ins : Instr} {len pc' : Nat} {ls' : List (Option Value)} {st' : List Value} {I' : ab_I} {R' : ab_R} {L' : ab_L} (hc : cd M pc = some (ins, len)) (h : ab_ins M pc len ins ls st k n (GG Z I R L) = ab_psh len len pc ls' st' k n (GG Z I' R' L')) (hp : pc + len = pc') : ex Z k n M pc ls st I R L = ex Z k n M pc' ls' st' I' R' L' := by
  subst hp
  exact ex_step (xo_ins hc (by rw [h]; simp [ab_psh, ab_ok]))
theorem xo_const {z : Int} {pc' : Nat} {v : Int32} (hc : cd M pc = some (.iconst z, 1)) (hp : pc + 1 = pc') (hv : Int32.ofInt z = v) : ex Z k n M pc ls st I R L = ex Z k n M pc' ls (.int v :: st) I R L := by
  subst hv
  exact xo_psh hc rfl hp
theorem xo_bipush {z : Int} {pc' : Nat} {v : Int32} (hc : cd M pc = some (.bipush z, 2)) (hp : pc + 2 = pc') (hv : (Int8.ofInt z).toInt32 = v) : ex Z k n M pc ls st I R L = ex Z k n M pc' ls (.int v :: st) I R L := by
  subst hv
  exact xo_psh hc rfl hp
theorem xo_sipush {z : Int} {pc' : Nat} {v : Int32} (hc : cd M pc = some (.sipush z, 3)) (hp : pc + 3 = pc') (hv : (Int16.ofInt z).toInt32 = v) : ex Z k n M pc ls st I R L = ex Z k n M pc' ls (.int v :: st) I R L := by
  subst hv
  exact xo_psh hc rfl hp
theorem xo_lconst {z : Fin 2} {pc' : Nat} {v : Int64} (hc : cd M pc = some (.lconst z, 1)) (hp : pc + 1 = pc') (hv : Int64.ofNat (z : Nat) = v) : ex Z k n M pc ls st I R L = ex Z k n M pc' ls (.long v :: st) I R L := by
  subst hv
  exact xo_psh hc rfl hp
theorem xo_ldcw {idx pc' : Nat} {v w : Int32} (hc : cd M pc = some (.ldc_w idx, 3)) (hf : ab_find ab_lits (mO M) idx = some w) (hp : pc + 3 = pc') (hv : w = v) : ex Z k n M pc ls st I R L = ex Z k n M pc' ls (.int v :: st) I R L := by
  subst hv
  exact xo_psh hc (by simp only [ab_ins, hf]) hp
theorem xo_ldc2 {idx pc' : Nat} {v w : Int64} (hc : cd M pc = some (.ldc2_w idx, 3)) (hf : ab_find ab_litl (mO M) idx = some w) (hp : pc + 3 = pc') (hv : w = v) : ex Z k n M pc ls st I R L = ex Z k n M pc' ls (.long v :: st) I R L := by
  subst hv
  exact xo_psh hc (by simp only [ab_ins, hf]) hp
theorem xo_load {ins : Instr} {len pc' i : Nat} {v : Value} (hc : cd M pc = some (ins, len)) (hi : (ins = .iload i ∧ len = 2 ∧ ∃ x, v = .int x) ∨ (ins = .lload i ∧ len = 2 ∧ ∃ x, v = .long x) ∨ (ins = .aload i ∧ len = 2 ∧ ∃ x, v = .ref x)) (hl : ls[i]? = some (some v)) (hp : pc + len = pc') : ex Z k n M pc ls st I R L = ex Z k n M pc' ls (v :: st) I R L := by
  refine xo_psh hc ?_ hp
  rcases hi with ⟨rfl, rfl, x, rfl⟩ | ⟨rfl, rfl, x, rfl⟩ | ⟨rfl, rfl, x, rfl⟩
  · simp only [ab_ins, ab_ldi, hl]
  · simp only [ab_ins, ab_ldl, hl]
  · simp only [ab_ins, ab_lda, hl]
theorem xo_loadn {ins : Instr} {len pc' : Nat} {i : Fin 4} {v : Value} (hc : cd M pc = some (ins, len)) (hi : (ins = .iload_n i ∧ len = 1 ∧ ∃ x, v = .int x) ∨ (ins = .lload_n i ∧ len = 1 ∧ ∃ x, v = .long x) ∨ (ins = .aload_n i ∧ len = 1 ∧ ∃ x, v = .ref x)) (hl : ls[(i : Nat)]? = some (some v)) (hp : pc + len = pc') : ex Z k n M pc ls st I R L = ex Z k n M pc' ls (v :: st) I R L := by
  refine xo_psh hc ?_ hp
  rcases hi with ⟨rfl, rfl, x, rfl⟩ | ⟨rfl, rfl, x, rfl⟩ | ⟨rfl, rfl, x, rfl⟩
  · simp only [ab_ins, ab_ldi, hl]
  · simp only [ab_ins, ab_ldl, hl]
  · simp only [ab_ins, ab_lda, hl]
theorem xo_store {ins : Instr} {len pc' i : Nat} {v : Value} {ls' : List (Option Value)} (hc : cd M pc = some (ins, len)) (hi : (ins = .istore i ∧ len = 2 ∧ ∃ x, v = .int x) ∨ (ins = .astore i ∧ len = 2 ∧ ∃ x, v = .ref x)) (hf : ab_fr ls i = true) (hl : i < ls.length) (he : ls.set i (some v) = ls') (hp : pc + len = pc') : ex Z k n M pc ls (v :: st) I R L = ex Z k n M pc' ls' st I R L := by
  subst he
  refine xo_psh hc ?_ hp
  rcases hi with ⟨rfl, rfl, x, rfl⟩ | ⟨rfl, rfl, x, rfl⟩
  · simp only [ab_ins, ab_sti, hl, hf, and_self, if_true]
  · simp only [ab_ins, ab_sta, hl, hf, and_self, if_true]
theorem xo_storen {ins : Instr} {len pc' : Nat} {i : Fin 4} {v : Value} {ls' : List (Option Value)} (hc : cd M pc = some (ins, len)) (hi : (ins = .istore_n i ∧ len = 1 ∧ ∃ x, v = .int x) ∨ (ins = .astore_n i ∧ len = 1 ∧ ∃ x, v = .ref x)) (hf : ab_fr ls (i : Nat) = true) (hl : (i : Nat) < ls.length) (he : ls.set (i : Nat) (some v) = ls') (hp : pc + len = pc') : ex Z k n M pc ls (v :: st) I R L = ex Z k n M pc' ls' st I R L := by
  subst he
  refine xo_psh hc ?_ hp
  rcases hi with ⟨rfl, rfl, x, rfl⟩ | ⟨rfl, rfl, x, rfl⟩
  · simp only [ab_ins, ab_sti, hl, hf, and_self, if_true]
  · simp only [ab_ins, ab_sta, hl, hf, and_self, if_true]
theorem xo_lstore {pc' i : Nat} {x : Int64} {ls' : List (Option Value)} (hc : cd M pc = some (.lstore i, 2)) (hf : ab_fr ls i = true) (hl : i + 1 < ls.length) (he : (ls.set i (some (.long x))).set (i + 1) none = ls') (hp : pc + 2 = pc') : ex Z k n M pc ls (.long x :: st) I R L = ex Z k n M pc' ls' st I R L := by
  subst he
  exact xo_psh hc (by simp only [ab_ins, ab_stl, hl, hf, and_self, if_true]) hp
theorem xo_lstoren {pc' : Nat} {i : Fin 4} {x : Int64} {ls' : List (Option Value)} (hc : cd M pc = some (.lstore_n i, 1)) (hf : ab_fr ls (i : Nat) = true) (hl : (i : Nat) + 1 < ls.length) (he : (ls.set (i : Nat) (some (.long x))).set ((i : Nat) + 1) none = ls') (hp : pc + 1 = pc') : ex Z k n M pc ls (.long x :: st) I R L = ex Z k n M pc' ls' st I R L := by
  subst he
  exact xo_psh hc (by simp only [ab_ins, ab_stl, hl, hf, and_self, if_true]) hp
theorem xo_iinc {pc' i : Nat} {z : Int} {x v : Int32} {ls' : List (Option Value)} (hc : cd M pc = some (.iinc i z, 3)) (hg : ls[i]? = some (some (.int x))) (hf : ab_fr ls i = true) (hl : i < ls.length) (he : ls.set i (some (.int (x + v))) = ls') (hv : Int32.ofInt z = v) (hp : pc + 3 = pc') : ex Z k n M pc ls st I R L = ex Z k n M pc' ls' st I R L := by
  subst he
  subst hv
  exact xo_psh hc (by simp only [ab_ins, hg, hl, hf, and_self, if_true]) hp
theorem xo_ii {ins : Instr} {op : Int32 → Int32 → Int32} {pc' : Nat} {x y : Int32} (hc : cd M pc = some (ins, 1)) (hi : ∀ (ls : List (Option Value)) (st : List Value) (g : ab_G), ab_ins M pc 1 ins ls st k n g = ab_ii op 1 pc ls st k n g) (hp : pc + 1 = pc') : ex Z k n M pc ls (.int y :: .int x :: st) I R L = ex Z k n M pc' ls (.int (op x y) :: st) I R L := xo_psh hc (by rw [hi]; rfl) hp
theorem xo_ll {ins : Instr} {op : Int64 → Int64 → Int64} {pc' : Nat} {x y : Int64} (hc : cd M pc = some (ins, 1)) (hi : ∀ (ls : List (Option Value)) (st : List Value) (g : ab_G), ab_ins M pc 1 ins ls st k n g = ab_ll op 1 pc ls st k n g) (hp : pc + 1 = pc') : ex Z k n M pc ls (.long y :: .long x :: st) I R L = ex Z k n M pc' ls (.long (op x y) :: st) I R L := xo_psh hc (by rw [hi]; rfl) hp
theorem xo_li {ins : Instr} {op : Int64 → Int32 → Int64} {pc' : Nat} {x : Int64} {y : Int32} (hc : cd M pc = some (ins, 1)) (hi : ∀ (ls : List (Option Value)) (st : List Value) (g : ab_G), ab_ins M pc 1 ins ls st k n g = ab_li op 1 pc ls st k n g) (hp : pc + 1 = pc') : ex Z k n M pc ls (.int y :: .long x :: st) I R L = ex Z k n M pc' ls (.long (op x y) :: st) I R L := xo_psh hc (by rw [hi]; rfl) hp
theorem xo_idiv {pc' : Nat} {x y : Int32} (hc : cd M pc = some (.idiv, 1)) (hp : pc + 1 = pc') (hy : ¬ y = 0) : ex Z k n M pc ls (.int y :: .int x :: st) I R L = ex Z k n M pc' ls (.int (x / y) :: st) I R L := xo_psh hc (by simp only [ab_ins, hy, if_false]) hp
theorem xo_irem {pc' : Nat} {x y : Int32} (hc : cd M pc = some (.irem, 1)) (hp : pc + 1 = pc') (hy : ¬ y = 0) : ex Z k n M pc ls (.int y :: .int x :: st) I R L = ex Z k n M pc' ls (.int (x - x / y * y) :: st) I R L := xo_psh hc (by simp only [ab_ins, hy, if_false]) hp
theorem xo_ldiv {pc' : Nat} {x y : Int64} (hc : cd M pc = some (.ldiv, 1)) (hp : pc + 1 = pc') (hy : ¬ y = 0) : ex Z k n M pc ls (.long y :: .long x :: st) I R L = ex Z k n M pc' ls (.long (x / y) :: st) I R L := xo_psh hc (by simp only [ab_ins, hy, if_false]) hp
theorem xo_lrem {pc' : Nat} {x y : Int64} (hc : cd M pc = some (.lrem, 1)) (hp : pc + 1 = pc') (hy : ¬ y = 0) : ex Z k n M pc ls (.long y :: .long x :: st) I R L = ex Z k n M pc' ls (.long (x - x / y * y) :: st) I R L := xo_psh hc (by simp only [ab_ins, hy, if_false]) hp
theorem xo_lcmp {pc' : Nat} {x y : Int64} (hc : cd M pc = some (.lcmp, 1)) (hp : pc + 1 = pc') : ex Z k n M pc ls (.long y :: .long x :: st) I R L = ex Z k n M pc' ls (.int (lg_cmp x y) :: st) I R L := xo_psh hc rfl hp
theorem xo_ineg {pc' : Nat} {x : Int32} (hc : cd M pc = some (.ineg, 1)) (hp : pc + 1 = pc') : ex Z k n M pc ls (.int x :: st) I R L = ex Z k n M pc' ls (.int (-x) :: st) I R L := xo_psh hc rfl hp
theorem xo_i2l {pc' : Nat} {x : Int32} (hc : cd M pc = some (.i2l, 1)) (hp : pc + 1 = pc') : ex Z k n M pc ls (.int x :: st) I R L = ex Z k n M pc' ls (.long x.toInt64 :: st) I R L := xo_psh hc rfl hp
theorem xo_l2i {pc' : Nat} {x : Int64} (hc : cd M pc = some (.l2i, 1)) (hp : pc + 1 = pc') : ex Z k n M pc ls (.long x :: st) I R L = ex Z k n M pc' ls (.int x.toInt32 :: st) I R L := xo_psh hc rfl hp
theorem xo_dup {pc' : Nat} {v : Value} (hc : cd M pc = some (.dup, 1)) (hp : pc + 1 = pc') (hv : v.category = 1) : ex Z k n M pc ls (v :: st) I R L = ex Z k n M pc' ls (v :: v :: st) I R L := xo_psh hc (by simp only [ab_ins, hv, if_true]) hp
theorem xo_dup2 {pc' : Nat} {v w : Value} (hc : cd M pc = some (.dup2, 1)) (hp : pc + 1 = pc') (hv : v.category = 1) (hw : w.category = 1) : ex Z k n M pc ls (v :: w :: st) I R L = ex Z k n M pc' ls (v :: w :: v :: w :: st) I R L := xo_psh hc (by simp only [ab_ins, hv, hw, and_self, if_true]) hp
theorem xo_pop {pc' : Nat} {v : Value} (hc : cd M pc = some (.pop, 1)) (hp : pc + 1 = pc') (hv : v.category = 1) : ex Z k n M pc ls (v :: st) I R L = ex Z k n M pc' ls st I R L := xo_psh hc (by simp only [ab_ins, hv, if_true]) hp
theorem xo_br {ins : Instr} {off : Int} {b : Bool} {t : Nat} {st0 : List Value} (hc : cd M pc = some (ins, 3)) (hi : ab_ins M pc 3 ins ls st0 k n (GG Z I R L) = ab_br 3 pc off b ls st k n (GG Z I R L)) (ht : (pc : Int) + off = (t : Int)) : ex Z k n M pc ls st0 I R L = if b = true then ex Z k n M t ls st I R L else ex Z k n M (pc + 3) ls st I R L := by
  have h : ex Z k n M pc ls st0 I R L = ex Z k n M (if b = true then t else pc + 3) ls st I R L := by
    refine ex_step (xo_ins hc ?_)
    rw [hi]
    unfold ab_br
    rw [if_pos ⟨rfl, by omega⟩, show ((pc : Int) + off).toNat = t by omega]
    rfl
  rw [h]
  cases b <;> rfl
theorem xo_goto {off : Int} {t : Nat} (hc : cd M pc = some (.goto off, 3)) (ht : (pc : Int) + off = (t : Int)) : ex Z k n M pc ls st I R L = ex Z k n M t ls st I R L := by
  rw [xo_br (b := true) (st := st) hc rfl ht]
  rfl
theorem xo_if {cc : ClassFile.Cond} {off : Int} {t pc' : Nat} {x : Int32} {P : Prop} (hc : cd M pc = some (.ifCond cc off, 3)) (ht : (pc : Int) + off = (t : Int)) (hp : pc + 3 = pc') (hd : Decidable P) (hP : ab_c1 cc x = decide P) : ex Z k n M pc ls (.int x :: st) I R L = if P then ex Z k n M t ls st I R L else ex Z k n M pc' ls st I R L := by
  subst hp
  rw [xo_br (b := ab_c1 cc x) (st := st) hc rfl ht, hP]
  by_cases h : P <;> simp [h]
theorem xo_icmp {cc : ClassFile.Cond} {off : Int} {t pc' : Nat} {x y : Int32} {P : Prop} (hc : cd M pc = some (.if_icmp cc off, 3)) (ht : (pc : Int) + off = (t : Int)) (hp : pc + 3 = pc') (hd : Decidable P) (hP : ab_c2 cc x y = decide P) : ex Z k n M pc ls (.int y :: .int x :: st) I R L = if P then ex Z k n M t ls st I R L else ex Z k n M pc' ls st I R L := by
  subst hp
  rw [xo_br (b := ab_c2 cc x y) (st := st) hc rfl ht, hP]
  by_cases h : P <;> simp [h]
theorem xo_getI {idx C f o pc' : Nat} (hc : cd M pc = some (.getfield idx, 3)) (hf : ab_find ab_fld (mO M) idx = some (C, f)) (hk : (C < 6 ∧ f < ab_nf C) ∧ ab_fk C f ≠ 1 ∧ ab_fk C f ≠ 2) (hp : pc + 3 = pc') (ho : kd o = C) : ex Z k n M pc ls (.ref o :: st) I R L = ex Z k n M pc' ls (.int (I o f) :: st) I R L := by
  obtain ⟨h1, h2⟩ := kd_SH (Z := Z) ho hk.1.1
  refine xo_psh hc ?_ hp
  simp only [ab_ins, ab_getf, hf, GG, h1, h2, hk.1.2, and_self, if_true, hk.2.1, hk.2.2, if_false]
theorem xo_getR {idx C f o pc' : Nat} (hc : cd M pc = some (.getfield idx, 3)) (hf : ab_find ab_fld (mO M) idx = some (C, f)) (hk : (C < 6 ∧ f < ab_nf C) ∧ ab_fk C f = 1) (hp : pc + 3 = pc') (ho : kd o = C) : ex Z k n M pc ls (.ref o :: st) I R L = ex Z k n M pc' ls (rv (R o f) :: st) I R L := by
  obtain ⟨h1, h2⟩ := kd_SH (Z := Z) ho hk.1.1
  refine xo_psh hc ?_ hp
  simp only [ab_ins, ab_getf, hf, GG, h1, h2, hk.1.2, and_self, if_true, hk.2]
theorem xo_getL {idx C f o pc' : Nat} (hc : cd M pc = some (.getfield idx, 3)) (hf : ab_find ab_fld (mO M) idx = some (C, f)) (hk : (C < 6 ∧ f < ab_nf C) ∧ ab_fk C f ≠ 1 ∧ ab_fk C f = 2) (hp : pc + 3 = pc') (ho : kd o = C) : ex Z k n M pc ls (.ref o :: st) I R L = ex Z k n M pc' ls (.long (L o f) :: st) I R L := by
  obtain ⟨h1, h2⟩ := kd_SH (Z := Z) ho hk.1.1
  refine xo_psh hc ?_ hp
  have e1 : ¬ ab_fk C f = 1 := hk.2.1
  have e2 : ab_fk C f = 2 := hk.2.2
  simp only [ab_ins, ab_getf, hf, GG, h1, h2, hk.1.2, and_self, if_true]
  rw [if_neg e1, if_pos e2]
theorem xo_putI {idx C f o pc' : Nat} {x : Int32} (hc : cd M pc = some (.putfield idx, 3)) (hf : ab_find ab_fld (mO M) idx = some (C, f)) (hk : (C < 6 ∧ f < ab_nf C) ∧ ab_ff C f = false ∧ ab_fk C f = 0) (hp : pc + 3 = pc') (ho : kd o = C) : ex Z k n M pc ls (.int x :: .ref o :: st) I R L = ex Z k n M pc' ls st (wI I o f x) R L := by
  obtain ⟨h1, h2⟩ := kd_SH (Z := Z) ho hk.1.1
  refine xo_psh hc ?_ hp
  simp only [ab_ins, ab_putf, hf, GG, h1, h2, hk.1.2, hk.2.1, hk.2.2, ab_puti, true_or, and_self, if_true]
theorem xo_putZ {idx C f o pc' : Nat} {x : Int32} (hc : cd M pc = some (.putfield idx, 3)) (hf : ab_find ab_fld (mO M) idx = some (C, f)) (hk : (C < 6 ∧ f < ab_nf C) ∧ ab_ff C f = false ∧ ab_fk C f = 3) (hp : pc + 3 = pc') (ho : kd o = C) (hx : x = 0 ∨ x = 1) : ex Z k n M pc ls (.int x :: .ref o :: st) I R L = ex Z k n M pc' ls st (wI I o f x) R L := by
  obtain ⟨h1, h2⟩ := kd_SH (Z := Z) ho hk.1.1
  refine xo_psh hc ?_ hp
  simp only [ab_ins, ab_putf, hf, GG, h1, h2, hk.1.2, hk.2.1, hk.2.2, ab_puti, true_or, or_true, hx, and_self, if_true]
theorem xo_putR {idx C f o a pc' : Nat} (hc : cd M pc = some (.putfield idx, 3)) (hf : ab_find ab_fld (mO M) idx = some (C, f)) (hk : (C < 6 ∧ f < ab_nf C) ∧ ab_ff C f = false ∧ ab_fk C f = 1) (hp : pc + 3 = pc') (ho : kd o = C) : ex Z k n M pc ls (.ref a :: .ref o :: st) I R L = ex Z k n M pc' ls st I (wR R o f (a + 1)) L := by
  obtain ⟨h1, h2⟩ := kd_SH (Z := Z) ho hk.1.1
  refine xo_psh hc ?_ hp
  simp only [ab_ins, ab_putf, hf, GG, h1, h2, hk.1.2, hk.2.1, hk.2.2, ab_puti, true_or, and_self, if_true]
theorem xo_putL {idx C f o pc' : Nat} {x : Int64} (hc : cd M pc = some (.putfield idx, 3)) (hf : ab_find ab_fld (mO M) idx = some (C, f)) (hk : (C < 6 ∧ f < ab_nf C) ∧ ab_ff C f = false ∧ ab_fk C f = 2) (hp : pc + 3 = pc') (ho : kd o = C) : ex Z k n M pc ls (.long x :: .ref o :: st) I R L = ex Z k n M pc' ls st I R (wL L o f x) := by
  obtain ⟨h1, h2⟩ := kd_SH (Z := Z) ho hk.1.1
  refine xo_psh hc ?_ hp
  simp only [ab_ins, ab_putf, hf, GG, h1, h2, hk.1.2, hk.2.1, hk.2.2, ab_puti, true_or, and_self, if_true]
theorem xo_gets {idx o pc' : Nat} (hc : cd M pc = some (.getstatic idx, 3)) (hf : ab_find ab_stat (mO M) idx = some o) (hp : pc + 3 = pc') : ex Z k n M pc ls st I R L = ex Z k n M pc' ls (.ref o :: st) I R L := xo_psh hc (by simp only [ab_ins, hf]) hp
theorem xo_iald {o pc' : Nat} {j : Int32} (hc : cd M pc = some (.iaload, 1)) (hp : pc + 1 = pc') (hj : ab_ix j (al Z o) = true) : ex Z k n M pc ls (.int j :: .ref o :: st) I R L = ex Z k n M pc' ls (.int (I o j.toNatClampNeg) :: st) I R L := by
  obtain ⟨h1, h2, h3⟩ := al_SH hj
  refine xo_psh hc ?_ hp
  have h4 : (o < 112 ∨ (1000 ≤ o ∧ o < 1003 ∧ 10 = 10)) ∧ (SH Z o).1 = 10 ∧ ab_ix j (SH Z o).2 = true := ⟨by omega, h2, h3⟩
  exact (if_pos h4).trans rfl
theorem xo_zald {o pc' : Nat} {j : Int32} (hc : cd M pc = some (.baload, 1)) (hp : pc + 1 = pc') (hj : ab_ix j (zl o) = true) : ex Z k n M pc ls (.int j :: .ref o :: st) I R L = ex Z k n M pc' ls (.int (I o j.toNatClampNeg) :: st) I R L := by
  obtain ⟨h1, h2, h3⟩ := zl_SH (Z := Z) hj
  refine xo_psh hc ?_ hp
  have h4 : (o < 112 ∨ (1000 ≤ o ∧ o < 1003 ∧ 11 = 10)) ∧ (SH Z o).1 = 11 ∧ ab_ix j (SH Z o).2 = true := ⟨Or.inl h1, h2, h3⟩
  exact (if_pos h4).trans rfl
theorem xo_aald {o pc' : Nat} {j : Int32} (hc : cd M pc = some (.aaload, 1)) (hp : pc + 1 = pc') (hj : ab_ix j (ql o) = true) : ex Z k n M pc ls (.int j :: .ref o :: st) I R L = ex Z k n M pc' ls (rv (R o j.toNatClampNeg) :: st) I R L := by
  obtain ⟨h1, h2, h3⟩ := ql_SH (Z := Z) hj
  refine xo_psh hc ?_ hp
  have h4 : (o < 112 ∨ (1000 ≤ o ∧ o < 1003 ∧ 12 = 10)) ∧ (SH Z o).1 = 12 ∧ ab_ix j (SH Z o).2 = true := ⟨Or.inl h1, h2, h3⟩
  exact (if_pos h4).trans rfl
theorem xo_iast {o pc' : Nat} {j x : Int32} (hc : cd M pc = some (.iastore, 1)) (hp : pc + 1 = pc') (hj : ab_ix j (al Z o) = true) (ho : o < 112) : ex Z k n M pc ls (.int x :: .int j :: .ref o :: st) I R L = ex Z k n M pc' ls st (wI I o j.toNatClampNeg x) R L := by
  obtain ⟨h1, h2, h3⟩ := al_SH hj
  refine xo_psh hc ?_ hp
  simp only [ab_ins, ab_ast, GG]
  rw [if_pos ⟨ho, h2, h3, Or.inl trivial⟩]
theorem xo_zast {o pc' : Nat} {j x : Int32} (hc : cd M pc = some (.bastore, 1)) (hp : pc + 1 = pc') (hj : ab_ix j (zl o) = true) (hx : x = 0 ∨ x = 1) : ex Z k n M pc ls (.int x :: .int j :: .ref o :: st) I R L = ex Z k n M pc' ls st (wI I o j.toNatClampNeg x) R L := by
  obtain ⟨h1, h2, h3⟩ := zl_SH (Z := Z) hj
  refine xo_psh hc ?_ hp
  simp only [ab_ins, ab_ast, GG]
  rw [if_pos ⟨h1, h2, h3, Or.inr ⟨trivial, hx⟩⟩]
theorem xo_alen {o pc' : Nat} (hc : cd M pc = some (.arraylength, 1)) (hp : pc + 1 = pc') (ho : o = 1 ∨ o = 1000) : ex Z k n M pc ls (.ref o :: st) I R L = ex Z k n M pc' ls (.int (nI (al Z o)) :: st) I R L := by
  refine xo_psh hc ?_ hp
  rcases ho with rfl | rfl
  · rfl
  · rfl
theorem xo_acopy {idx q a b pc' : Nat} {z sp dp : Int32} (hc : cd M pc = some (.invokestatic idx, 3)) (hf : ab_find ab_site (mO M) idx = some (7, q)) (hM : 1 ≤ mF M ∧ 40 ≤ mW M) (hp : pc + 3 = pc') (hw : ab_wt st ≤ 8) (hs : ¬ sp < 0 ∧ ¬ dp < 0 ∧ ¬ z < 0) (ha : a < 112 ∧ b < 112) (h1 : 0 < al Z a ∧ sp.toNatClampNeg + z.toNatClampNeg ≤ al Z a) (h2 : 0 < al Z b ∧ dp.toNatClampNeg + z.toNatClampNeg ≤ al Z b) :
    ex Z k n M pc ls (.int z :: .int dp :: .ref b :: .int sp :: .ref a :: st) I R L = ex Z k n M pc' ls st (cpI I a sp.toNatClampNeg b dp.toNatClampNeg z.toNatClampNeg) R L := by
  have key : ∀ o, o < 112 → 0 < al Z o → (SH Z o).1 = 10 ∧ (SH Z o).2 = al Z o := fun o ho h => by
    unfold al at h ⊢
    rw [if_pos ho] at h ⊢
    split at h
    · rename_i h10
      rw [if_pos h10, SH, if_neg (by omega), if_neg (by omega), if_neg (by omega)]
      exact ⟨h10, rfl⟩
    · omega
  obtain ⟨a1, a2⟩ := key a ha.1 h1.1
  obtain ⟨b1, b2⟩ := key b ha.2 h2.1
  refine xo_psh hc ?_ hp
  simp only [ab_ins, ab_stc, hf, GG]
  have h4 : a < 112 ∧ (SH Z a).1 = 10 ∧ b < 112 ∧ (SH Z b).1 = 10 ∧ ¬ sp < 0 ∧ ¬ dp < 0 ∧ ¬ z < 0 ∧ sp.toNatClampNeg + z.toNatClampNeg ≤ (SH Z a).2 ∧ dp.toNatClampNeg + z.toNatClampNeg ≤ (SH Z b).2 ∧ 1 ≤ mF M ∧ 40 ≤ mW M ∧ ab_wt st ≤ 8 := ⟨ha.1, a1, ha.2, b1, hs.1, hs.2.1, hs.2.2, by rw [a2]; exact h1.2, by rw [b2]; exact h2.2, hM.1, hM.2, hw⟩
  exact if_pos h4
theorem xo_max {idx q pc' : Nat} {x y : Int32} (hc : cd M pc = some (.invokestatic idx, 3)) (hf : ab_find ab_site (mO M) idx = some (8, q)) (hM : 1 ≤ mF M ∧ 40 ≤ mW M ∧ k ≤ mC M ∧ n ≤ mS M) (hp : pc + 3 = pc') (hw : ab_wt st ≤ 8) : ex Z k n M pc ls (.int y :: .int x :: st) I R L = ex Z k n M pc' ls (.int (if x < y then y else x) :: st) I R L := by
  refine xo_psh hc ?_ hp
  simp only [ab_ins, ab_stc, hf]
  rw [if_pos ⟨hM.1, hM.2.1, hw, hM.2.2.1, hM.2.2.2⟩]
theorem xo_min {idx q pc' : Nat} {x y : Int32} (hc : cd M pc = some (.invokestatic idx, 3)) (hf : ab_find ab_site (mO M) idx = some (9, q)) (hM : 1 ≤ mF M ∧ 40 ≤ mW M ∧ k ≤ mC M ∧ n ≤ mS M) (hp : pc + 3 = pc') (hw : ab_wt st ≤ 8) : ex Z k n M pc ls (.int y :: .int x :: st) I R L = ex Z k n M pc' ls (.int (if y < x then y else x) :: st) I R L := by
  refine xo_psh hc ?_ hp
  simp only [ab_ins, ab_stc, hf]
  rw [if_pos ⟨hM.1, hM.2.1, hw, hM.2.2.1, hM.2.2.2⟩]
theorem xo_abs {idx q pc' : Nat} {x : Int32} (hc : cd M pc = some (.invokestatic idx, 3)) (hf : ab_find ab_site (mO M) idx = some (10, q)) (hM : 1 ≤ mF M ∧ 40 ≤ mW M ∧ k ≤ mC M ∧ n ≤ mS M) (hp : pc + 3 = pc') (hw : ab_wt st ≤ 8) : ex Z k n M pc ls (.int x :: st) I R L = ex Z k n M pc' ls (.int (if 0 ≤ x then x else 0 - x) :: st) I R L := by
  refine xo_psh hc ?_ hp
  simp only [ab_ins, ab_stc, hf]
  rw [if_pos ⟨hM.1, hM.2.1, hw, hM.2.2.1, hM.2.2.2⟩]
theorem xo_rst {ins : Instr} {len : Nat} {v : Option Value} {g : ab_G} (hc : cd M pc = some (ins, len)) (hk : ab_kd ins = 1) (h : ab_ins M pc len ins ls st k n (GG Z I R L) = some (.inl (v, g))) : ex Z k n M pc ls st I R L = some (v, I, R, L) := by
  refine ex_ret (g := g) ?_
  unfold ab_step
  rw [hc]
  simp only [h, ab_sel, hk, if_true]
theorem xo_iret {x : Int32} (hc : cd M pc = some (.ireturn, 1)) (hM : k = mC M ∧ n ≤ mS M ∧ mR M = some .int) : ex Z k n M pc ls [.int x] I R L = some (some (.int x), I, R, L) := by
  refine xo_rst (g := GG Z I R L) hc rfl ?_
  simp only [ab_ins, ab_reti]
  rw [if_pos ⟨trivial, hM.1, hM.2.1, Or.inl hM.2.2⟩]
theorem xo_zret {x : Int32} (hc : cd M pc = some (.ireturn, 1)) (hM : k = mC M ∧ n ≤ mS M ∧ mR M = some .boolean) (hx : x = 0 ∨ x = 1) : ex Z k n M pc ls [.int x] I R L = some (some (.int x), I, R, L) := by
  refine xo_rst (g := GG Z I R L) hc rfl ?_
  simp only [ab_ins, ab_reti]
  rw [if_pos ⟨trivial, hM.1, hM.2.1, Or.inr ⟨hM.2.2, hx⟩⟩]
theorem xo_lret {x : Int64} (hc : cd M pc = some (.lreturn, 1)) (hM : k = mC M ∧ n ≤ mS M ∧ mR M = some .long) : ex Z k n M pc ls [.long x] I R L = some (some (.long x), I, R, L) := by
  refine xo_rst (g := GG Z I R L) hc rfl ?_
  simp only [ab_ins, ab_retl]
  rw [if_pos ⟨trivial, hM⟩]
theorem xo_vret (hc : cd M pc = some (.return_, 1)) (hM : k = mC M ∧ n ≤ mS M ∧ mR M = none) : ex Z k n M pc ls [] I R L = some (none, I, R, L) := by
  refine xo_rst (g := GG Z I R L) hc rfl ?_
  simp only [ab_ins, ab_retv]
  rw [if_pos ⟨trivial, hM⟩]
theorem bnd_I {T : Nat} {r : ab_Rm} {f : List Value → ab_I → ab_R → ab_L → ab_Rm} (hT : mR T = some .int ∨ mR T = some .boolean) : bnd T r f = bI r (fun x I R L => f [.int x] I R L) := by
  cases r with
  | none => rfl
  | some q =>
    obtain ⟨v, I, R, L⟩ := q
    rcases hT with hT | hT <;> cases v with
    | none => simp [bnd, bI, ab_rk, hT]
    | some w => cases w <;> simp [bnd, bI, ab_rk, hT]
theorem bnd_L {T : Nat} {r : ab_Rm} {f : List Value → ab_I → ab_R → ab_L → ab_Rm} (hT : mR T = some .long) : bnd T r f = bL r (fun x I R L => f [.long x] I R L) := by
  cases r with
  | none => rfl
  | some q =>
    obtain ⟨v, I, R, L⟩ := q
    cases v with
    | none => simp [bnd, bL, ab_rk, hT]
    | some w => cases w <;> simp [bnd, bL, ab_rk, hT]
theorem bnd_V {T : Nat} {r : ab_Rm} {f : List Value → ab_I → ab_R → ab_L → ab_Rm} (hT : mR T = none) : bnd T r f = bV r (fun I R L => f [] I R L) := by
  cases r with
  | none => rfl
  | some q =>
    obtain ⟨v, I, R, L⟩ := q
    cases v with
    | none => simp [bnd, bV, ab_rk, hT]
    | some w => cases w <;> simp [bnd, bV, ab_rk, hT]
theorem xo_calS {idx kk T N Lm pc' : Nat} {st0 av : List Value} (hc : cd M pc = some (.invokestatic idx, 3)) (hf : ab_find ab_site (mO M) idx = some (kk, T)) (hkk : kk = 1 ∨ kk = 4) (hM : mN T = N ∧ mL T = Lm ∧ mF T + 1 ≤ mF M ∧ 19 + mL T + mW T ≤ mW M ∧ k ≤ mC M ∧ n ≤ mS M ∧ mC T = 0 ∧ mS T = 0) (hs : (ab_exp av).length ≤ Lm ∧ (st0.take N).reverse = av ∧ st0.drop N = st ∧ av.length = N) (hp : pc + 3 = pc') (hw : ab_wt st ≤ 8) :
    ex Z k n M pc ls st0 I R L = bnd T (cl Z T av I R L) (fun p I' R' L' => ex Z k n M pc' ls (p ++ st) I' R' L') := by
  subst hp
  obtain ⟨m1, m2, m3, m4, m5, m6, m7, m8⟩ := hM
  obtain ⟨s1, s2, s3, s4⟩ := hs
  subst m1
  have h := ex_call (Z := Z) (k := k) (n := n) (M := M) (pc := pc) (T := T) (ls := ls) (st := st0) (av := av) (rest := st) (I := I) (R := R) (L := L) ?_ (by rw [m2]; exact s1)
  · rw [h, m7, m8]
    rfl
  · unfold ab_step
    rw [hc]
    have h2 : ab_ins M pc 3 (.invokestatic idx) ls st0 k n (GG Z I R L) = some (.inr (.inr (T, av, st))) := by
      rcases hkk with rfl | rfl <;>
      (simp only [ab_ins, ab_stc, hf, s2, s3, ab_call]
       rw [if_pos ⟨trivial, s4, hw, m3, m4, by rw [m7]; exact m5, by rw [m8]; exact m6⟩])
    simp only [h2, ab_sel, ab_kd, if_true]
theorem xo_calV {idx T N Lm C o pc' : Nat} {st0 av : List Value} (hc : cd M pc = some (.invokevirtual idx, 3)) (hf : ab_find ab_site (mO M) idx = some (0, T)) (hM : mN T = N ∧ mL T = Lm ∧ mO T = C ∧ C < 6 ∧ mF T + 1 ≤ mF M ∧ 19 + mL T + mW T ≤ mW M ∧ k ≤ mC M ∧ n ≤ mS M ∧ mC T = 0 ∧ mS T = 0) (hs : (ab_exp (.ref o :: av)).length ≤ Lm ∧ (st0.take N).reverse = av ∧ st0.drop N = .ref o :: st ∧ av.length = N) (hp : pc + 3 = pc') (ho : kd o = C) (hw : ab_wt st ≤ 8) :
    ex Z k n M pc ls st0 I R L = bnd T (cl Z T (.ref o :: av) I R L) (fun p I' R' L' => ex Z k n M pc' ls (p ++ st) I' R' L') := by
  subst hp
  obtain ⟨m1, m2, m3, m3', m4, m5, m6, m7, m8, m9⟩ := hM
  obtain ⟨s1, s2, s3, s4⟩ := hs
  subst m1
  subst m3
  obtain ⟨h8, h9⟩ := kd_SH (Z := Z) ho m3'
  have h := ex_call (Z := Z) (k := k) (n := n) (M := M) (pc := pc) (T := T) (ls := ls) (st := st0) (av := .ref o :: av) (rest := st) (I := I) (R := R) (L := L) ?_ (by rw [m2]; exact s1)
  · rw [h, m8, m9]
    rfl
  · unfold ab_step
    rw [hc]
    have h2 : ab_ins M pc 3 (.invokevirtual idx) ls st0 k n (GG Z I R L) = some (.inr (.inr (T, .ref o :: av, st))) := by
      simp only [ab_ins, ab_virt, hf, s2, s3, GG, h8, h9, m3', and_self, if_true, ab_callo]
      rw [if_pos ⟨trivial, s4, hw, m4, m5, by rw [m8]; exact m6, by rw [m9]; exact m7⟩]
    simp only [h2, ab_sel, ab_kd, if_true]
theorem cl_in {T Lm : Nat} {av : List Value} {ls : List (Option Value)} (hm : mL T = Lm) (hl : ab_pad Lm (ab_exp av) = ls) : cl Z T av I R L = ex Z 0 0 T 0 ls [] I R L := by
  subst hm
  subst hl
  rfl
end OPS
