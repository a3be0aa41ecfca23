/-! THE ABSTRACT MACHINE IS SOUND: what it runs, the machine runs -/
theorem ab_find_mem {α : Type} : ∀ (l : List (Nat × Nat × α)) (i j : Nat) (x : α), ab_find l i j = some x → (i, j, x) ∈ l
  | [], _, _, _, h => by cases h
  | (a, b, y) :: l, i, j, x, h => by
    unfold ab_find at h
    split at h
    · rename_i hh
      obtain ⟨rfl, rfl⟩ := hh
      cases h
      exact List.mem_cons_self
    · exact List.mem_cons_of_mem _ (ab_find_mem l i j x h)
def so_ad (base b pP pF o : Nat) : Nat := if o < 1000 then base + o else if o = 1000 then b else if o = 1001 then pP else pF
def so_v (ad : Nat → Nat) : Value → Value
  | .ref a => .ref (ad a)
  | v => v
def so_r (ad : Nat → Nat) : Nat → Option Nat
  | 0 => none
  | a + 1 => some (ad a)
theorem so_v_rv (ad : Nat → Nat) (n : Nat) : so_v ad (rv n) = va_rf (so_r ad n) := by cases n <;> rfl
theorem so_v_cat (ad : Nat → Nat) (v : Value) : (so_v ad v).category = v.category := by cases v <;> rfl
def so_fv (ad : Nat → Nat) (g : ab_G) (C o f : Nat) : Value := if ab_fk C f = 1 then va_rf (so_r ad (g.2.2.2.1 o f)) else if ab_fk C f = 2 then .long (g.2.2.2.2 o f) else .int (g.2.2.1 o f)
def so_E (ad : Nat → Nat) (ca : Nat → ClassId) (g : ab_G) (o : Nat) : va_E :=
  if (g.2.1 o).1 = 10 then .inl (ca 0, (g.2.1 o).2, .inl (g.2.2.1 o))
  else if (g.2.1 o).1 = 11 then .inl (ca 1, (g.2.1 o).2, .inl (g.2.2.1 o))
  else if (g.2.1 o).1 = 12 then .inl (ca 2, (g.2.1 o).2, .inr (.inr (.inr (.inr (fun j => so_r ad (g.2.2.2.1 o j))))))
  else .inr ((g.2.1 o).1, (List.range (ab_nf (g.2.1 o).1)).map (so_fv ad g (g.2.1 o).1 o))
def so_W (ad : Nat → Nat) (ca : Nat → ClassId) (g : ab_G) : va_W := (List.range g.1).map (fun o => (ad o, so_E ad ca g o))
def so_tys (ca : Nat → ClassId) : List (ClassId × FieldType) := [(ca 0, .int), (ca 1, .boolean), (ca 2, .object "SaidMine$Shore")]
theorem so_W_at {ad : Nat → Nat} {ca : Nat → ClassId} {g : ab_G} {o : Nat} (h : o < g.1) : (so_W ad ca g)[o]? = some (ad o, so_E ad ca g o) := by
  simp [so_W, h]
theorem so_W_inv {ad : Nat → Nat} {ca : Nat → ClassId} {g : ab_G} {o : Nat} {q : Nat × va_E} (h : (so_W ad ca g)[o]? = some q) : o < g.1 ∧ q = (ad o, so_E ad ca g o) := by
  have hl : o < g.1 := by
    have := (List.getElem?_eq_some_iff.mp h).1
    simpa [so_W] using this
  rw [so_W_at hl] at h
  exact ⟨hl, (Option.some.inj h).symm⟩
/-- one object changes -/
theorem so_W_set {ad : Nat → Nat} {ca : Nat → ClassId} {g g' : ab_G} {o : Nat} {e : va_E} (hn : g'.1 = g.1) (he : so_E ad ca g' o = e) (ho : ∀ p, p ≠ o → so_E ad ca g' p = so_E ad ca g p) : (so_W ad ca g).set o (ad o, e) = so_W ad ca g' := by
  apply List.ext_getElem?
  intro i
  by_cases hi : i < g.1
  · rw [so_W_at (g := g') (by rw [hn]; exact hi)]
    by_cases hio : i = o
    · subst hio
      rw [List.getElem?_set_self (by simpa [so_W] using hi), he]
    · rw [List.getElem?_set_ne (Ne.symm hio), so_W_at hi, ho i hio]
  · have h1 : ((so_W ad ca g).set o (ad o, e))[i]? = none := by
      rw [List.getElem?_eq_none_iff]; simpa [so_W] using hi
    have h2 : (so_W ad ca g')[i]? = none := by
      rw [List.getElem?_eq_none_iff]; simpa [so_W, hn] using hi
    rw [h1, h2]
theorem so_W_push {ad : Nat → Nat} {ca : Nat → ClassId} {g g' : ab_G} {e : va_E} (hn : g'.1 = g.1 + 1) (he : so_E ad ca g' g.1 = e) (ho : ∀ p, p < g.1 → so_E ad ca g' p = so_E ad ca g p) : so_W ad ca g' = so_W ad ca g ++ [(ad g.1, e)] := by
  unfold so_W
  rw [hn, List.range_succ, List.map_append, List.map_cons, List.map_nil, he]
  congr 1
  exact List.map_congr_left fun p hp => by rw [ho p (List.mem_range.mp hp)]
def so_lv (ad : Nat → Nat) : Nat → List (Option Value) → List (Nat × Value)
  | _, [] => []
  | i, none :: l => so_lv ad (i + 1) l
  | i, some v :: l => (i, so_v ad v) :: so_lv ad (i + 1) l
theorem so_lv_mem (ad : Nat → Nat) : ∀ (ls : List (Option Value)) (i : Nat) (q : Nat × Value), q ∈ so_lv ad i ls ↔ ∃ (j : Nat) (v : Value), ls[j]? = some (some v) ∧ q = (i + j, so_v ad v)
  | [], i, q => by simp [so_lv]
  | none :: l, i, q => by
    rw [so_lv, so_lv_mem ad l (i + 1) q]
    constructor
    · rintro ⟨j, v, h1, h2⟩
      exact ⟨j + 1, v, by simpa using h1, by rw [h2, Nat.add_assoc, Nat.add_comm 1 j]⟩
    · rintro ⟨j, v, h1, h2⟩
      cases j with
      | zero => simp at h1
      | succ j => exact ⟨j, v, by simpa using h1, by rw [h2, Nat.add_assoc, Nat.add_comm 1 j]⟩
  | some w :: l, i, q => by
    rw [so_lv, List.mem_cons, so_lv_mem ad l (i + 1) q]
    constructor
    · rintro (h | ⟨j, v, h1, h2⟩)
      · exact ⟨0, w, by simp, by simpa using h⟩
      · exact ⟨j + 1, v, by simpa using h1, by rw [h2, Nat.add_assoc, Nat.add_comm 1 j]⟩
    · rintro ⟨j, v, h1, h2⟩
      cases j with
      | zero =>
        simp at h1
        subst h1
        exact Or.inl (by simpa using h2)
      | succ j => exact Or.inr ⟨j, v, by simpa using h1, by rw [h2, Nat.add_assoc, Nat.add_comm 1 j]⟩
def so_ls (ad : Nat → Nat) (arr : Array Slot) (ls : List (Option Value)) : Prop := lv_has arr ls.length (so_lv ad 0 ls)
theorem so_ls.get {ad : Nat → Nat} {arr : Array Slot} {ls : List (Option Value)} (h : so_ls ad arr ls) {i : Nat} {v : Value} (hi : ls[i]? = some (some v)) : arr[i]? = some (.val (so_v ad v)) := by
  have := h.2.2 (i, so_v ad v) ((so_lv_mem ad ls 0 _).mpr ⟨i, v, hi, by simp⟩)
  exact this
theorem so_ls.st1 {ad : Nat → Nat} {arr : Array Slot} {ls : List (Option Value)} {i : Nat} {v : Value} {lv' : List (Nat × Value)} (hf : ab_fr ls i = true) (hi : i < ls.length)
    (hl : (i, so_v ad v) :: (so_lv ad 0 ls).filter (fun q => !(q.1 == i) && !(q.1 + 1 == i && q.2.category == 2)) = lv') (h : lv_has arr ls.length lv') : so_ls ad arr (ls.set i (some v)) := by
  refine ⟨by rw [List.length_set]; exact h.1, h.2.1, fun q hq => h.2.2 q ?_⟩
  rw [← hl]
  obtain ⟨j, w, h1, h2⟩ := (so_lv_mem ad _ 0 q).mp hq
  rw [Nat.zero_add] at h2
  by_cases hj : j = i
  · subst hj
    rw [List.getElem?_set_self hi] at h1
    cases h1
    exact List.mem_cons.mpr (Or.inl h2)
  · rw [List.getElem?_set_ne (Ne.symm hj)] at h1
    refine List.mem_cons.mpr (Or.inr (List.mem_filter.mpr ⟨(so_lv_mem ad ls 0 q).mpr ⟨j, w, h1, by rw [h2, Nat.zero_add]⟩, ?_⟩))
    rw [h2]
    simp only [so_v_cat, Bool.and_eq_true, Bool.not_eq_true', beq_eq_false_iff_ne, ne_eq, Bool.and_eq_false_imp, beq_iff_eq]
    refine ⟨hj, fun e => ?_⟩
    subst e
    simp only [ab_fr, h1, beq_iff_eq] at hf
    simp [hf]
theorem so_ls.st2 {ad : Nat → Nat} {arr : Array Slot} {ls : List (Option Value)} {i : Nat} {v : Value} {lv' : List (Nat × Value)} (hf : ab_fr ls i = true) (hi : i + 1 < ls.length)
    (hl : (i, so_v ad v) :: (so_lv ad 0 ls).filter (fun q => !(q.1 == i) && (!(q.1 == i + 1) && !(q.1 + 1 == i && q.2.category == 2))) = lv') (h : lv_has arr ls.length lv') : so_ls ad arr ((ls.set i (some v)).set (i + 1) none) := by
  refine ⟨by rw [List.length_set, List.length_set]; exact h.1, h.2.1, fun q hq => h.2.2 q ?_⟩
  rw [← hl]
  obtain ⟨j, w, h1, h2⟩ := (so_lv_mem ad _ 0 q).mp hq
  rw [Nat.zero_add] at h2
  by_cases hj1 : j = i + 1
  · subst hj1
    rw [List.getElem?_set_self (by rw [List.length_set]; exact hi)] at h1
    cases h1
  rw [List.getElem?_set_ne (Ne.symm hj1)] at h1
  by_cases hj : j = i
  · subst hj
    rw [List.getElem?_set_self (by omega)] at h1
    cases h1
    exact List.mem_cons.mpr (Or.inl h2)
  · rw [List.getElem?_set_ne (Ne.symm hj)] at h1
    refine List.mem_cons.mpr (Or.inr (List.mem_filter.mpr ⟨(so_lv_mem ad ls 0 q).mpr ⟨j, w, h1, by rw [h2, Nat.zero_add]⟩, ?_⟩))
    rw [h2]
    simp only [so_v_cat, Bool.and_eq_true, Bool.not_eq_true', beq_eq_false_iff_ne, ne_eq, Bool.and_eq_false_imp, beq_iff_eq]
    refine ⟨hj, hj1, fun e => ?_⟩
    subst e
    simp only [ab_fr, h1, beq_iff_eq] at hf
    simp [hf]
theorem ab_psh_inv {len e pc : Nat} {ls : List (Option Value)} {st : List Value} {k n : Nat} {g : ab_G} {x : ab_N} (h : ab_psh len e pc ls st k n g = some (.inr (.inl x))) : len = e ∧ x = (pc + e, ls, st, k, n, g) := by
  unfold ab_psh ab_ok at h
  split at h
  · simp at h
    exact ⟨by assumption, h.symm⟩
  · cases h
/-- what a frame knows: the world's numbers, and the state at its start -/
abbrev so_A (base : Nat) : Nat → Prop := fun q => base ≤ q
def so_K (D : va_G) (ca : Nat → ClassId) (ad : Nat → Nat) (base : Nat) (sp : Nat → Nat × (Nat → Int32)) (s : State) : Prop :=
  va_K D vwCl (so_tys ca) s ∧ va_Z "SaidMine$Keeping" "PRICE" "[I" (.ref (ad 1001)) (so_A base) s s.heap ∧ va_Z "SaidMine" "FACTORIAL" "[I" (.ref (ad 1002)) (so_A base) s s.heap ∧
  (∀ o, 1000 ≤ o → o < 1003 → va_T .int (ad o) (sp o).1 (fun j => .int ((sp o).2 j)) (so_A base) s s.heap) ∧ (∀ q ∈ wk_ln, va_Nw (Cond.methodLinkNest (ab_cn q.2.1) q.2.2.1 (mY q.2.2.2.2) "SaidMine") s) ∧ va_AO "SaidMine$Shore" s ∧ base ≤ s.heap.size
def so_H (D : va_G) (ca : Nat → ClassId) (ad : Nat → Nat) (base : Nat) (sp : Nat → Nat × (Nat → Int32)) (g : ab_G) (s : State) (H : Heap) (locs : List Loc) (k : Nat) : Prop :=
  va_P D vwCl (so_W ad ca g) H ∧ s.heap.size + k = base + g.1 ∧ va_S (so_A base) s.heap H locs ∧ g.1 ≤ 1000 ∧ ∀ o, 1000 ≤ o → o < 1003 → g.2.1 o = (10, (sp o).1) ∧ g.2.2.1 o = (sp o).2
def so_adOK (base : Nat) (ad : Nat → Nat) : Prop := ∀ o, o < 1000 → ad o = base + o
theorem so_D {base : Nat} {ad : Nat → Nat} {ca : Nat → ClassId} {g : ab_G} (ha : so_adOK base ad) (hg : g.1 ≤ 1000) : va_D (so_A base) (so_W ad ca g) := by
  refine ⟨fun i j p q hi hj hpq => ?_, fun k q hk => ?_⟩
  · obtain ⟨h1, rfl⟩ := so_W_inv hi
    obtain ⟨h2, rfl⟩ := so_W_inv hj
    have e : ad i = ad j := hpq
    rw [ha i (by omega), ha j (by omega)] at e
    omega
  · obtain ⟨h1, rfl⟩ := so_W_inv hk
    show base ≤ ad k
    rw [ha k (by omega)]
    omega
def so_R (R : Room) (M : Nat) : Prop := mF M ≤ R.frames ∧ mW M ≤ R.locals ∧ mC M ≤ R.cells ∧ mS M ≤ R.slots
