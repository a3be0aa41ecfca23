/-! what stands at the law's entry -/
theorem st_ar {args : Array Value} {s : State} (hts : ∀ w ∈ lw_tbl, w.before args s = true) : ∃ ca : Nat → ClassId, ∀ (k : Nat) (q : ClassId × FieldType), (so_tys ca)[k]? = some q → ArrOfT s q.1 q.2 ∧ va_RA s q.1 q.2 := by
  obtain ⟨cI, kI, oI, i1, i2, i3⟩ := Cond.arrayClass_spec (hts (Cond.arrayClass .int) (List.mem_filter.mp gd_ai).1)
  obtain ⟨cZ, kZ, oZ, z1, z2, z3⟩ := Cond.arrayClass_spec (hts (Cond.arrayClass .boolean) (List.mem_filter.mp gd_az).1)
  obtain ⟨oQ, cQ, kQ, q1, q2, q3, q4, q5⟩ := Cond.arrayOver_spec (hts (Cond.arrayOver (.object "SaidMine$Shore")) (by decide +kernel))
  refine ⟨fun i => if i = 0 then cI else if i = 1 then cZ else cQ, fun k q hk => ?_⟩
  match k, hk with
  | 0, hk =>
    cases hk
    exact ⟨fun n z => ⟨fun k h => (by cases h), kI, i2, oI, i3⟩, i1⟩
  | 1, hk =>
    cases hk
    exact ⟨fun n z => ⟨fun k h => (by cases h), kZ, z2, oZ, z3⟩, z1⟩
  | 2, hk =>
    cases hk
    exact ⟨fun n z => ⟨fun k h => (by cases h), kQ, q3, oQ, q4⟩, kQ, oQ, q3, q4, q1, q5⟩
  | k + 3, hk => cases hk
theorem st_D {args : Array Value} {s : State} (hts : ∀ w ∈ lw_tbl, w.before args s = true) : ∃ D : va_G, ∀ (c : Nat) (q : vw_C), vwCl[c]? = some q → u_Kn s q.1 q.2.1 q.2.2 (D.1 c) (D.2 c) := by
  have hk : ∀ c : Nat, ∃ x : ClassId × (Nat → Nat), c < 6 → u_Kn s (ab_cn c) (ab_T c) (ab_nf c) x.1 x.2 := by
    intro c
    by_cases hc : c < 6
    · have hi : (Cond.instantiable (ab_cn c) (ab_nf c)).before args s = true := hts _ (by
        have : ∃ q ∈ wk_is, q.2 = c := by
          rcases c6 hc with rfl | rfl | rfl | rfl | rfl | rfl <;> decide
        obtain ⟨q, hq, rfl⟩ := this
        exact wk_is_ok q hq)
      obtain ⟨cC, iS, h⟩ := u_known (ws := gd) (fun w hw => hts w (List.mem_filter.mp hw).1) (cl_ws hc) hi
      exact ⟨(cC, iS), fun _ => h⟩
    · exact ⟨(0, fun _ => 0), fun h => (hc h).elim⟩
  obtain ⟨F, hF⟩ := Classical.axiomOfChoice hk
  refine ⟨(fun c => (F c).1, fun c => (F c).2), fun c q hq => ?_⟩
  have hc : c < 6 := (List.getElem?_eq_some_iff.mp hq).1
  rw [cl_at hc] at hq
  cases hq
  exact hF c hc
theorem st_PR : ∀ j, j < 16 → Cond.eq (.elem (.static "SaidMine$Keeping" "PRICE" "[I") (.int (Int32.ofNat j))) (.int (nI (prc j))) ∈ flatC (Jvm.Cond.and given_1 narrow_1) := by decide +kernel
theorem st_FA : ∀ j, j < 5 → Cond.eq (.elem (.static "SaidMine" "FACTORIAL" "[I") (.int (Int32.ofNat j))) (.int (nI (fct j))) ∈ flatC (Jvm.Cond.and given_1 narrow_1) := by decide +kernel
def st_sp (L : Nat) (xs : Nat → Int32) (o : Nat) : Nat × (Nat → Int32) := if o = 1000 then (L, xs) else if o = 1001 then (16, fun k => nI (prc k)) else (5, fun k => nI (fct k))
theorem st_K {args : Array Value} {s : State} {b L : Nat} {xs : Nat → Int32} (hts : ∀ w ∈ lw_tbl, w.before args s = true) (hgv : (Jvm.Cond.and given_1 narrow_1).before args s = true) (hX : va_X b L xs s s.heap) (hb : b < s.heap.size) : ∃ D ca pP pF, so_K D ca (so_ad s.heap.size b pP pF) s.heap.size (st_sp L xs) s := by
  have hs := flat_of_before _ hgv
  have hA : ∀ a : Nat, a < s.heap.size → ¬ so_A s.heap.size a := fun a h h2 => Nat.not_le.mpr h h2
  obtain ⟨pP, eP, tP⟩ := va_Tof (A := so_A s.heap.size) (tm := .static "SaidMine$Keeping" "PRICE" "[I") (ty := .int) (N := 16) (f := fun j => .int (nI (prc j))) (by decide) (hs _ (by decide +kernel)) (va_eqt (z := 16) (hs _ (by decide +kernel))) (fun j hj => va_eqt (hs _ (st_PR j hj))) hA
  obtain ⟨pF, eF, tF⟩ := va_Tof (A := so_A s.heap.size) (tm := .static "SaidMine" "FACTORIAL" "[I") (ty := .int) (N := 5) (f := fun j => .int (nI (fct j))) (by decide) (hs _ (by decide +kernel)) (va_eqt (z := 5) (hs _ (by decide +kernel))) (fun j hj => va_eqt (hs _ (st_FA j hj))) hA
  obtain ⟨D, hD⟩ := st_D hts
  obtain ⟨ca, hca⟩ := st_ar hts
  refine ⟨D, ca, pP, pF, ⟨hD, hca⟩, va_Zof (hts _ (by decide +kernel)) (hts _ (by decide +kernel)) eP hA, va_Zof (hts _ (by decide +kernel)) (hts _ (by decide +kernel)) eF hA, fun o h1 h2 => ?_, fun q hq => va_Nw.of rfl (hts _ (wk_ln_ok q hq)), va_AO.of (hts _ (by decide +kernel)), Nat.le_refl _⟩
  have : o = 1000 ∨ o = 1001 ∨ o = 1002 := by omega
  rcases this with rfl | rfl | rfl
  · obtain ⟨scr, x1, x2, x3, x4, x5⟩ := hX
    exact ⟨scr, x1, x2, x3, Nat.le_of_eq x4.symm, by rw [x4]; rfl, x5, hA b hb⟩
  · exact tP
  · exact tF
