/-! calls: what the abstract machine runs, the machine runs -/
def so_rm (T : Nat) : Room := { frames := mF T, cells := mC T, slots := mS T, locals := mW T }
def so_ws (T : Nat) : List Cond := ab_code T :: gd
def so_sp (sp : Nat → Nat × (Nat → Int32)) (g : ab_G) : Prop := ∀ o, 1000 ≤ o → o < 1003 → g.2.1 o = (10, (sp o).1) ∧ g.2.2.1 o = (sp o).2
def so_B (D : va_G) (ca : Nat → ClassId) (ad : Nat → Nat) (base : Nat) (sp : Nat → Nat × (Nat → Int32)) (g : ab_G) (U : State) : Prop :=
  so_K D ca ad base sp U ∧ va_P D vwCl (so_W ad ca g) U.heap ∧ U.heap.size = base + g.1 ∧ g.1 ≤ 1000 ∧ so_sp sp g
def so_Pc (D : va_G) (ca : Nat → ClassId) (ad : Nat → Nat) (base : Nat) (sp : Nat → Nat × (Nat → Int32)) (av : List Value) (g : ab_G) : Array Value → State → Prop := fun v U => v = (av.map (so_v ad)).toArray ∧ so_B D ca ad base sp g U
def so_Qc (D : va_G) (ca : Nat → ClassId) (ad : Nat → Nat) (base : Nat) (sp : Nat → Nat × (Nat → Int32)) (T : Nat) (v : Option Value) (g g' : ab_G) : Array Value → State → Outcome → State → Prop := fun _ st oc t =>
  oc = .returned (v.map (so_v ad)) ∧ va_P D vwCl (so_W ad ca g') t.heap ∧ g'.1 = g.1 + mC T ∧ g'.1 ≤ 1000 ∧ so_sp sp g' ∧ va_F (so_A base) st t
theorem so_K.mv {D : va_G} {ca : Nat → ClassId} {ad : Nat → Nat} {base : Nat} {sp : Nat → Nat × (Nat → Int32)} {s U : State} (hW : s.WarmedH U.vm) (h1 : s.heap.size ≤ U.heap.size) (h2 : ∀ q : Nat, q < s.heap.size → ¬ so_A base q → U.heap[q]? = s.heap[q]?) (h : so_K D ca ad base sp s) : so_K D ca ad base sp U :=
  ⟨va_K.moved hW.alike h.1, (h.2.1.moved hW.alike).kept h2, (h.2.2.1.moved hW.alike).kept h2, fun o o1 o2 => ((h.2.2.2.1 o o1 o2).moved hW.alike).kept h2, fun q hq => va_Nw.warmM hW (h.2.2.2.2.1 q hq), va_AO.moved hW.alike h.2.2.2.2.2.1, Nat.le_trans h.2.2.2.2.2.2 h1⟩
theorem so_K.same {D : va_G} {ca : Nat → ClassId} {ad : Nat → Nat} {base : Nat} {sp : Nat → Nat × (Nat → Int32)} {s U : State} (hv : s.vm = U.vm) (hh : U.heap = s.heap) (h : so_K D ca ad base sp s) : so_K D ca ad base sp U := by
  have hA : s.vm.Alike U.vm := by rw [hv]; exact Vm.Alike.refl _
  have h2 : ∀ q : Nat, q < s.heap.size → ¬ so_A base q → U.heap[q]? = s.heap[q]? := fun q _ _ => by rw [hh]
  exact ⟨va_K.moved hA h.1, (h.2.1.moved hA).kept h2, (h.2.2.1.moved hA).kept h2, fun o o1 o2 => ((h.2.2.2.1 o o1 o2).moved hA).kept h2, fun q hq => va_Nw.same rfl hv (h.2.2.2.2.1 q hq), va_AO.moved hA h.2.2.2.2.2.1, by rw [hh]; exact h.2.2.2.2.2.2⟩
theorem so_blind {D : va_G} {ca : Nat → ClassId} {ad : Nat → Nat} {base : Nat} {sp : Nat → Nat × (Nat → Int32)} {av : List Value} {g : ab_G} : FrameBlind (so_Pc D ca ad base sp av g) := fun a U f mk q => ⟨q.1, so_K.same (s := U) (U := U.calling f mk a) rfl rfl q.2.1, q.2.2⟩
theorem lg_exp (ad : Nat → Nat) : ∀ av : List Value, (lg_sl (av.map (so_v ad))).length = (ab_exp av).length
  | [] => rfl
  | v :: l => by
    have ih := lg_exp ad l
    unfold lg_sl at ih ⊢
    rw [List.map_cons, List.flatMap_cons, List.length_append, ih, ab_exp, so_v_cat]
    split <;> simp <;> omega
theorem so_lv_none (ad : Nat → Nat) : ∀ (r : List (Option Value)) (i : Nat), (∀ x ∈ r, x = none) → so_lv ad i r = []
  | [], _, _ => rfl
  | x :: r, i, h => by
    rw [h x List.mem_cons_self, so_lv]
    exact so_lv_none ad r (i + 1) fun y hy => h y (List.mem_cons_of_mem _ hy)
theorem so_ent_sub (ad : Nat → Nat) : ∀ (av : List Value) (i : Nat) (r : List (Option Value)), (∀ x ∈ r, x = none) → ∀ q ∈ so_lv ad i (ab_exp av ++ r), q ∈ lv_args i (av.map (so_v ad))
  | [], i, r, h, q, hq => by
    rw [ab_exp, List.nil_append, so_lv_none ad r i h] at hq
    cases hq
  | v :: l, i, r, h, q, hq => by
    rw [List.map_cons, lv_args, so_v_cat]
    rw [ab_exp] at hq
    split at hq
    · rename_i hc
      rw [if_pos hc]
      rw [List.cons_append, List.cons_append, so_lv, so_lv] at hq
      rcases List.mem_cons.mp hq with rfl | hq
      · exact List.mem_cons_self
      · exact List.mem_cons_of_mem _ (so_ent_sub ad l (i + 2) r h q hq)
    · rename_i hc
      rw [if_neg hc]
      rw [List.cons_append, so_lv] at hq
      rcases List.mem_cons.mp hq with rfl | hq
      · exact List.mem_cons_self
      · exact List.mem_cons_of_mem _ (so_ent_sub ad l (i + 1) r h q hq)
theorem ab_pad_len {n : Nat} {l : List (Option Value)} (h : l.length ≤ n) : (ab_pad n l).length = n := by
  unfold ab_pad
  rw [List.length_append, List.length_replicate]
  omega
theorem so_ent {ad : Nat → Nat} {arr : Array Slot} {n : Nat} {av : List Value} (hn : (ab_exp av).length ≤ n) (h : lv_has arr n (lv_args 0 (av.map (so_v ad)))) : so_ls ad arr (ab_pad n (ab_exp av)) := by
  refine ⟨by rw [ab_pad_len hn]; exact h.1, h.2.1, fun q hq => h.2.2 q (so_ent_sub ad av 0 _ (fun x hx => (List.mem_replicate.mp hx).2) q hq)⟩
/-- the end of a frame -/
def so_End (p : Program) (l : Launch) (e : Env) (R : Room) (s : State) (m : MethodId) (args : Array Value) (below : List Frame) (meth : Method) (c : Code) (Q : State → Prop) (D : va_G) (ca : Nat → ClassId) (ad : Nat → Nat) (base : Nat) (sp : Nat → Nat × (Nat → Int32)) (M : Nat) (v : Option Value) (g : ab_G) : Prop :=
  ∀ (H : Heap) (locs : List Loc) (arr : Array Slot) (pc n : Nat), so_H D ca ad base sp g s H locs (mC M) → n ≤ mS M →
    (∀ y, v = some (.int y) → decode (mB M) pc = .ok (.ireturn, 1) → (mR M = some .int ∨ (mR M = some .boolean ∧ (y = 0 ∨ y = 1))) → W p l e R s m args below meth c H locs (mC M) n Q (F0 m pc arr [.int y])) ∧
    (∀ y, v = some (.long y) → decode (mB M) pc = .ok (.lreturn, 1) → mR M = some .long → W p l e R s m args below meth c H locs (mC M) n Q (F0 m pc arr [.long y])) ∧
    (v = none → decode (mB M) pc = .ok (.return_, 1) → mR M = none → W p l e R s m args below meth c H locs (mC M) n Q (F0 m pc arr []))
theorem ab_ret_inv {M pc k n : Nat} {ls : List (Option Value)} {st : List Value} {g g' : ab_G} {v : Option Value} (h : ab_step M pc ls st k n g = some (.inl (v, g'))) : g' = g ∧ k = mC M ∧ n ≤ mS M ∧
    ((∃ y, v = some (.int y) ∧ st = [.int y] ∧ decode (mB M) pc = .ok (.ireturn, 1) ∧ (mR M = some .int ∨ (mR M = some .boolean ∧ (y = 0 ∨ y = 1)))) ∨ (∃ y, v = some (.long y) ∧ st = [.long y] ∧ decode (mB M) pc = .ok (.lreturn, 1) ∧ mR M = some .long) ∨ (v = none ∧ st = [] ∧ decode (mB M) pc = .ok (.return_, 1) ∧ mR M = none)) := by
  unfold ab_step at h
  split at h
  · rename_i ins len hcd
    have hd := cd_inv hcd
    have hh := ab_sel_r h
    clear h
    obtain ⟨h, hk⟩ := hh
    cases ins with
    | ireturn =>
      simp only [ab_ins, ab_reti] at h
      split at h
      · split at h
        · rename_i hc
          obtain ⟨rfl, h2, h3, h4⟩ := hc
          cases h
          exact ⟨rfl, h2, h3, Or.inl ⟨_, rfl, rfl, hd, h4⟩⟩
        · cases h
      · cases h
    | lreturn =>
      simp only [ab_ins, ab_retl] at h
      split at h
      · split at h
        · rename_i hc
          obtain ⟨rfl, h2, h3, h4⟩ := hc
          cases h
          exact ⟨rfl, h2, h3, Or.inr (Or.inl ⟨_, rfl, rfl, hd, h4⟩)⟩
        · cases h
      · cases h
    | return_ =>
      simp only [ab_ins, ab_retv] at h
      split at h
      · split at h
        · rename_i hc
          obtain ⟨rfl, h2, h3, h4⟩ := hc
          cases h
          exact ⟨rfl, h2, h3, Or.inr (Or.inr ⟨rfl, rfl, hd, h4⟩)⟩
        · cases h
      · cases h
    | _ => simp [ab_kd] at hk
  · cases h
def so_PR (f : Nat) : Prop := ∀ {p : Program} {l : Launch} {e : Env} {R : Room} {s : State} {m : MethodId} {args : Array Value} {below : List Frame} {meth : Method} {c : Code} {Q : State → Prop} {D : va_G} {ca : Nat → ClassId} {ad : Nat → Nat} {base : Nat} {sp : Nat → Nat × (Nat → Int32)} {M pc k n : Nat} {ls : List (Option Value)} {st : List Value} {g g' : ab_G} {v : Option Value} {H : Heap} {locs : List Loc} {arr : Array Slot},
  ab_run f M pc ls st k n g = some (v, g') → so_F p R s m args meth c D ca ad base sp M → so_H D ca ad base sp g s H locs k → so_ls ad arr ls → ls.length = mL M → so_End p l e R s m args below meth c Q D ca ad base sp M v g' → W p l e R s m args below meth c H locs k n Q (F0 m pc arr (st.map (so_v ad)))
def mt_ok (T : Nat) : Prop := plainName (mY T).cls = true ∧ (mY T).cls = ab_cn (mO T) ∧ (mY T).cls ≠ "java/lang/invoke/MethodHandle" ∧ (mY T).cls ≠ "java/lang/invoke/VarHandle" ∧ (parseMethodDescriptor (mY T).desc).map (fun d => d.parameters.length) = some (mN T) ∧ mO T ∈ wk_ini.map (fun z => z.2)
def mt_okb (T : Nat) : Bool := plainName (mY T).cls && decide ((mY T).cls = ab_cn (mO T)) && decide ((mY T).cls ≠ "java/lang/invoke/MethodHandle") && decide ((mY T).cls ≠ "java/lang/invoke/VarHandle") && decide ((parseMethodDescriptor (mY T).desc).map (fun d => d.parameters.length) = some (mN T)) && decide (mO T ∈ wk_ini.map (fun z => z.2))
theorem mt_all : ∀ q ∈ ab_site, q.2.2.1 < 6 → mt_okb q.2.2.2 = true ∧ q.2.2.2 ∈ wk_co1 ++ wk_co2 := by decide +kernel
theorem mt_of {M idx kd T : Nat} (h : ab_find ab_site (mO M) idx = some (kd, T)) (hk : kd < 6) : mt_ok T ∧ ab_code T ∈ gd := by
  obtain ⟨h1, h2⟩ := mt_all _ (ab_find_mem _ _ _ _ h) hk
  refine ⟨?_, gd_in (List.mem_filter.mp (?_ : ab_code T ∈ lw_tbl.filter k2_isCode)).1 rfl⟩
  · simp only [mt_okb, Bool.and_eq_true, decide_eq_true_eq] at h1
    exact ⟨h1.1.1.1.1.1, h1.1.1.1.1.2, h1.1.1.1.2, h1.1.1.2, h1.1.2, h1.2⟩
  · rw [wk_co_ok]
    rcases List.mem_append.mp h2 with q | q
    · exact List.mem_append_left _ (List.mem_map.mpr ⟨T, q, rfl⟩)
    · exact List.mem_append_right _ (List.mem_cons_of_mem _ (List.mem_map.mpr ⟨T, q, rfl⟩))
theorem mt_ini {T : Nat} (h : mt_ok T) : Cond.initialized (mY T).cls ∈ gd := by
  obtain ⟨q, hq, e⟩ := mem_snd h.2.2.2.2.2
  have w := wk_ini_ok q hq
  rw [e, ← h.2.1] at w
  exact gd_in w rfl
theorem so_met {f T : Nat} {l : Launch} {D : va_G} {ca : Nat → ClassId} {ad : Nat → Nat} {base : Nat} {sp : Nat → Nat × (Nat → Int32)} {av : List Value} {v : Option Value} {g g' : ab_G} (hI : so_PR f) (hT : mt_ok T) (hlen : (ab_exp av).length ≤ mL T) (hr : ab_run f T 0 (ab_pad (mL T) (ab_exp av)) [] 0 0 g = some (v, g')) (ha : so_adOK base ad) :
    Met l (mY T) (so_ws T) (so_rm T) (so_Pc D ca ad base sp av g) (so_Qc D ca ad base sp T v g g') (mC T) (mS T) (so_A base) := by
  refine Met.ofW (cc := mB T) (maxL := mL T) (ret := mR T) hT.1 rfl ?_
  intro p e s m args below meth c s₁ B hml hv
  obtain ⟨rfl, hK, hP, hsz, h1000, hsp⟩ := hv
  have hts := atoms_spec (ws := so_ws T) B.pre
  have hown : s.vm.findClass (mY T).cls = some m.cls := findClass_of_methodNamed B.named
  rw [hT.2.1] at hown
  have hnm : meth.name = (mY T).name := (name_of_methodNamed B.named B.method).1
  have hlocks := B.notSynchronized
  have hret := B.returns
  have F : so_F p (headSpec (so_ws T) (so_rm T)).room s m ((av.map (so_v ad)).toArray) meth c D ca ad base sp T := ⟨B.exec, B.bytes, hml, hown, fun w hw => hts w (List.mem_cons_of_mem _ hw), ⟨Nat.le_refl _, Nat.le_refl _, Nat.le_refl _, Nat.le_refl _⟩, fun hi => by rw [hnm]; exact beq_iff_eq.mp hi, hK, ha⟩
  have hH : so_H D ca ad base sp g s s.heap [] 0 := ⟨hP, hsz, va_S.rf, h1000, hsp⟩
  have hent := lv_entry (av.map (so_v ad)) (n := mL T) (by rw [lg_exp]; exact hlen)
  rw [lg_entry_eq]
  refine hI (st := []) hr F hH (so_ent hlen hent) (ab_pad_len hlen) ?_
  intro H locs arr pc n hH2 hn2
  have hQ : ∀ t : State, t.heap = H → so_Qc D ca ad base sp T v g g' ((av.map (so_v ad)).toArray) s (.returned (v.map (so_v ad))) t := fun t ht => ⟨rfl, by rw [ht]; exact hH2.1, by have := hH2.2.1; omega, hH2.2.2.2.1, hH2.2.2.2.2, hH2.2.2.1.F ht⟩
  refine ⟨fun y hy hd hm => ?_, fun y hy hd hm => ?_, fun hy hd hm => ?_⟩
  · subst hy
    refine W.widen (Nat.le_refl _) hn2 ?_
    rcases hm with hm | ⟨hm, hb⟩
    · exact W.iret B.exec B.bytes (hret.trans hm) (fun t ht _ => hQ t ht) hH2.2.2.1.2.2 hd hlocks
    · exact W.zret (ty := .boolean) B.exec B.bytes (hret.trans hm) (by rcases hb with rfl | rfl <;> rfl) (fun t ht _ => hQ t ht) hH2.2.2.1.2.2 hd hlocks
  · subst hy
    refine W.widen (Nat.le_refl _) hn2 ?_
    exact W.lret B.exec B.bytes (hret.trans hm) (fun t ht _ => hQ t ht) hH2.2.2.1.2.2 hd hlocks
  · subst hy
    refine W.widen (Nat.le_refl _) hn2 ?_
    exact W.vret B.exec B.bytes (hret.trans hm) (fun t ht _ => hQ t ht) hH2.2.2.1.2.2 hd hlocks
theorem ab_rk_inv {T : Nat} {v : Option Value} {ps : List Value} (h : ab_rk T v = some ps) : ps = v.toList := by
  unfold ab_rk at h
  split at h <;> cases h <;> rfl
section CALLS
variable {p : Program} {l : Launch} {e : Env} {R : Room} {s : State} {m : MethodId} {args : Array Value} {below : List Frame} {meth : Method} {c : Code} {Q : State → Prop}
variable {D : va_G} {ca : Nat → ClassId} {ad : Nat → Nat} {base : Nat} {sp : Nat → Nat × (Nat → Int32)} {M T : Nat}
variable {pc len k n idx : Nat} {ls : List (Option Value)} {st rest av : List Value} {g g' : ab_G} {v : Option Value} {H : Heap} {locs : List Loc} {arr : Array Slot}
theorem so_after {st0 : List Value} {a : Array Value} {ps : List Value} (hr : va_Run p l e R s m args below meth c H locs k n (mC T) (mS T) (F0 m pc arr st0) (rest.map (so_v ad)) (so_Qc D ca ad base sp T v g g' a) (so_A base)) (hH : so_H D ca ad base sp g s H locs k) (hv : ab_rk T v = some ps)
    (kk : ∀ (H1 : Heap) (locs1 : List Loc), so_H D ca ad base sp g' s H1 locs1 (k + mC T) → W p l e R s m args below meth c H1 locs1 (k + mC T) (n + mS T) Q (F0 m (pc + 3) arr ((ps ++ rest).map (so_v ad)))) : W p l e R s m args below meth c H locs k n Q (F0 m pc arr st0) := by
  intro T0 hT X
  obtain ⟨w, st₀, t, T', L, h0, X', hL, e1, e2, ⟨hw, hP, hc, h1000, hsp, hz, hkp⟩, st⟩ := hr T0 hT X
  cases hw
  rw [h0] at hz hkp
  have hS := hH.2.2.1
  have hH2 : so_H D ca ad base sp g' s T'.heap (locs ++ L) (k + mC T) := ⟨by rw [e1]; exact hP, by rw [hc]; have := hH.2.1; omega, ⟨Nat.le_trans hS.1 (by rw [e1]; exact hz), fun q h1 h2 => by rw [e1, hkp q (Nat.lt_of_lt_of_le h1 hS.1) h2]; exact hS.2.1 q h1 h2, fun q hq => by
      rcases List.mem_append.mp hq with h | h
      · exact hS.2.2 q h
      · exact hL q h⟩, h1000, hsp⟩
  obtain ⟨t2, a1, b1⟩ := kk T'.heap (locs ++ L) hH2 T' rfl X'
  refine ⟨t2, st t2 ?_, b1⟩
  rw [List.map_append, ab_rk_inv hv] at a1
  cases v <;> exact a1
theorem so_Bat (F : so_F p R s m args meth c D ca ad base sp M) (hH : so_H D ca ad base sp g s H locs k) (hz : H.size = base + g.1) {U : State} (hU : U.heap = H) (hW : s.WarmedH U.vm) : so_B D ca ad base sp g U := by
  obtain ⟨hx, hb, hml, hown, hts, hR, hin, hK, ha⟩ := F
  exact ⟨hK.mv hW (by rw [hU]; exact hH.2.2.1.1) (fun q q1 q2 => by rw [hU]; exact hH.2.2.1.2.1 q q1 q2), by rw [hU]; exact hH.1, by rw [hU]; exact hz, hH.2.2.2.1, hH.2.2.2.2⟩
theorem so_good {ws : List Cond} (hc : ab_code T ∈ gd) (h : ∀ w ∈ ws, w ∈ gd) : GoodIn gd (ws ++ so_ws T) := fun w hw => by
  have : w ∈ gd := by
    rcases List.mem_append.mp hw with q | q
    · exact h w q
    · rcases List.mem_cons.mp q with rfl | q
      · exact hc
      · exact q
  exact ⟨this, good_of_word (List.mem_filter.mp this).2⟩
theorem st_split (st : List Value) (n : Nat) : st = (st.take n).reverse.reverse ++ st.drop n := by rw [List.reverse_reverse, List.take_append_drop]
end CALLS
