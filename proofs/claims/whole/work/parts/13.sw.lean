/-! switches -/
def swx (F : Nat → ab_Rm) : Nat → List Nat → Nat → Int32 → ab_Rm
  | _, [], d, _ => F d
  | lo, t :: ts, d, x => if x = nI lo then F t else swx F (lo + 1) ts d x
theorem swx_eq (F : Nat → ab_Rm) : ∀ (ts : List Nat) (lo d : Nat) (x : Int32), lo + ts.length < 2 ^ 31 → swx F lo ts d x = F (if x.toInt < lo ∨ (lo : Int) + ts.length ≤ x.toInt then d else ts.getD (x.toInt - lo).toNat d)
  | [], lo, d, x, _ => by
    rw [swx, if_pos]
    simp only [List.length_nil]
    omega
  | t :: ts, lo, d, x, h => by
    rw [List.length_cons] at h
    rw [swx]
    by_cases hx : x = nI lo
    · subst hx
      have e := nI_toInt (n := lo) (by omega)
      rw [if_pos rfl, if_neg (by rw [e, List.length_cons]; omega), e]
      simp
    · have hne : x.toInt ≠ (lo : Int) := fun q => hx (Int32.toInt_inj.mp (by rw [nI_toInt (by omega)]; exact q))
      rw [if_neg hx, swx_eq F ts (lo + 1) d x (by omega)]
      congr 1
      by_cases h1 : x.toInt < lo ∨ (lo : Int) + (t :: ts).length ≤ x.toInt
      · rw [if_pos h1, if_pos (by rw [List.length_cons] at h1; omega)]
      · rw [if_neg h1, if_neg (by rw [List.length_cons] at h1; omega), show (x.toInt - lo).toNat = (x.toInt - ((lo + 1 : Nat) : Int)).toNat + 1 by rw [List.length_cons] at h1; omega]
        rfl
def swl (F : Nat → ab_Rm) : List (Int32 × Nat) → Nat → Int32 → ab_Rm
  | [], d, _ => F d
  | (c, t) :: ts, d, x => if x = c then F t else swl F ts d x
section OPSW
variable {Z k n M pc : Nat} {ls : List (Option Value)} {st : List Value} {I : ab_I} {R : ab_R} {L : ab_L}
theorem xo_tsw {d hi : Int} {offs : Array Int} {len lo dt : Nat} {ts : List Nat} {x : Int32} (hc : cd M pc = some (.tableswitch d lo hi offs, len)) (h : lo + ts.length < 2 ^ 31 ∧ (lo : Int) + ts.length = hi + 1 ∧ (pc : Int) + d = (dt : Int) ∧ ∀ j, j < ts.length → (offs[j]?).map (fun o => (pc : Int) + o) = (ts[j]?).map (fun t => (t : Int))) : ex Z k n M pc ls (.int x :: st) I R L = swx (fun t => ex Z k n M t ls st I R L) lo ts dt x := by
  rw [swx_eq _ _ _ _ _ h.1]
  refine ex_step (xo_ins hc ?_)
  have ht : ab_tab pc d lo hi offs x = some (if x.toInt < lo ∨ (lo : Int) + ts.length ≤ x.toInt then dt else ts.getD (x.toInt - lo).toNat dt) := by
    unfold ab_tab
    by_cases h1 : x.toInt < lo ∨ (lo : Int) + ts.length ≤ x.toInt
    · rw [if_pos h1, if_pos (by omega), if_pos (by omega)]
      congr 1
      omega
    · rw [if_neg h1, if_neg (by omega)]
      have hj : (x.toInt - lo).toNat < ts.length := by omega
      have h3 := h.2.2.2 _ hj
      rw [List.getElem?_eq_getElem hj] at h3
      cases ho : offs[(x.toInt - lo).toNat]? with
      | none => rw [ho] at h3; cases h3
      | some o =>
        rw [ho] at h3
        have h4 : (pc : Int) + o = ((ts[(x.toInt - lo).toNat] : Nat) : Int) := Option.some.inj h3
        simp only
        rw [if_pos (by omega), List.getD_eq_getElem?_getD, List.getElem?_eq_getElem hj]
        simp only [Option.getD_some, Option.some.injEq]
        omega
  simp only [ab_ins, ht, ab_ok]
theorem swl_off (F : Nat → ab_Rm) (pc : Nat) (d : Int) (dt : Nat) (hd : (pc : Int) + d = (dt : Int)) (x : Int32) : ∀ (ts : List (Int32 × Nat)) (ps : List (Int × Int)), ps.map (fun q => (q.1, (pc : Int) + q.2)) = ts.map (fun q => (q.1.toInt, (q.2 : Int))) → ∃ t : Nat, (pc : Int) + Op.lookupswitch.offset ps d x.toInt = (t : Int) ∧ swl F ts dt x = F t
  | [], [], _ => ⟨dt, hd, rfl⟩
  | [], _ :: _, h => by simp at h
  | _ :: _, [], h => by simp at h
  | (c, t) :: ts, (a, o) :: ps, h => by
    simp only [List.map_cons, List.cons.injEq, Prod.mk.injEq] at h
    by_cases hx : x = c
    · subst hx
      refine ⟨t, ?_, by rw [swl, if_pos rfl]⟩
      rw [Op.lookupswitch.offset_cons, if_pos h.1.1]
      exact h.1.2
    · obtain ⟨t2, h1, h2⟩ := swl_off F pc d dt hd x ts ps h.2
      refine ⟨t2, ?_, by rw [swl, if_neg hx]; exact h2⟩
      rw [lv_osw hx h.1.1.symm]
      exact h1
theorem xo_lsw {d : Int} {ps : Array (Int × Int)} {len dt : Nat} {ts : List (Int32 × Nat)} {x : Int32} (hc : cd M pc = some (.lookupswitch d ps, len)) (hs : (ps.toList.zip (ps.toList.drop 1)).all (fun (a, next) => a.1 < next.1) = true) (hd : (pc : Int) + d = (dt : Int)) (h : ps.toList.map (fun q => (q.1, (pc : Int) + q.2)) = ts.map (fun q => (q.1.toInt, (q.2 : Int)))) : ex Z k n M pc ls (.int x :: st) I R L = swl (fun t => ex Z k n M t ls st I R L) ts dt x := by
  obtain ⟨t, h1, h2⟩ := swl_off (fun t => ex Z k n M t ls st I R L) pc d dt hd x ts ps.toList h
  rw [h2]
  refine ex_step (xo_ins hc ?_)
  simp only [ab_ins, ab_lok]
  rw [if_pos ⟨hs, by omega⟩, h1]
  rfl
end OPSW
