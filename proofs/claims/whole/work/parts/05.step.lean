/-! one instruction -/
theorem fld_in : ∀ q ∈ ab_fld, q ∈ wk_fl.map (fun z => z.2) := by decide +kernel
theorem la_in : ∀ C, C < 6 → ∀ k, k < ab_nf C → (C, k) ∈ wk_la.map (fun z => z.2) := by decide +kernel
theorem mem_snd {α : Type} {l : List (Nat × α)} {x : α} (h : x ∈ l.map (fun z => z.2)) : ∃ q ∈ l, q.2 = x := List.mem_map.mp h
theorem fld_lk {M idx C f : Nat} (h : ab_find ab_fld (mO M) idx = some (C, f)) : Cond.fieldLink (ab_cn (mO M)) idx (ab_cn C) (ab_T C f).2.1 (ab_T C f).2.2.1 ∈ gd := by
  obtain ⟨q, hq, e⟩ := mem_snd (fld_in _ (ab_find_mem _ _ _ _ h))
  have := wk_fl_ok q hq
  rw [e] at this
  exact gd_in this rfl
theorem fld_C : ∀ q ∈ ab_fld, q.2.2.1 < 6 := by decide +kernel
theorem c6 {C : Nat} (h : C < 6) : C = 0 ∨ C = 1 ∨ C = 2 ∨ C = 3 ∨ C = 4 ∨ C = 5 := by omega
theorem cl_at {C : Nat} (h : C < 6) : vwCl[C]? = some (ab_cn C, ab_T C, ab_nf C) := by
  rcases c6 h with rfl | rfl | rfl | rfl | rfl | rfl <;> rfl
theorem cl_ws {C : Nat} (h : C < 6) : ∀ w ∈ u_ws (ab_cn C) (ab_T C) (ab_nf C), w ∈ gd := by
  intro w hw
  obtain ⟨k, hk, rfl⟩ := List.mem_map.mp hw
  obtain ⟨q, hq, e⟩ := mem_snd (la_in C h k (List.mem_range.mp hk))
  have := wk_la_ok q hq
  rw [e] at this
  refine gd_in this ?_
  show goodWord (u_lay (ab_cn C) (ab_T C) k) = true
  unfold u_lay
  split <;> rfl
theorem cl_ty {C : Nat} (h : C < 6) : ∀ k, k < ab_nf C → parseFieldDescriptor (ab_T C k).2.2.1 = some (ab_ty C k) := by
  rcases c6 h with rfl | rfl | rfl | rfl | rfl | rfl
  · exact tyX0_ok
  · exact tyX1_ok
  · exact tyX2_ok
  · exact tyX3_ok
  · exact tyX4_ok
  · exact tyX5_ok
theorem cl_nm {C : Nat} (h : C < 6) : ∀ a, a < ab_nf C → ∀ b, b < ab_nf C → a ≠ b → (ab_T C a).2.1 ≠ (ab_T C b).2.1 := by
  rcases c6 h with rfl | rfl | rfl | rfl | rfl | rfl
  · exact nmX0
  · exact nmX1
  · exact nmX2
  · exact nmX3
  · exact nmX4
  · exact nmX5
theorem cl_own : ∀ C, C < 6 → ∀ k, k < ab_nf C → (ab_T C k).1 = ab_cn C := by decide +kernel
theorem cl_ff : ∀ C, C < 6 → ∀ k, k < ab_nf C → (ab_T C k).2.2.2 = ab_ff C k := by decide +kernel
def fk_of : FieldType → Nat
  | .int => 0
  | .boolean => 3
  | .long => 2
  | .object _ => 1
  | .array _ => 1
  | _ => 7
theorem cl_fk : ∀ C, C < 6 → ∀ k, k < ab_nf C → fk_of (ab_ty C k) = ab_fk C k := by decide +kernel
theorem lits_lk : ∀ q ∈ ab_lits, q ∈ wk_li.map (fun z => z.2) := by decide +kernel
theorem litl_lk : ∀ q ∈ ab_litl, q ∈ wk_ll.map (fun z => z.2) := by decide +kernel
theorem news_lk : ∀ q ∈ ab_news, q ∈ wk_ne.map (fun z => z.2) ∧ q.2.2 ∈ wk_is.map (fun z => z.2) ∧ q.2.2 ∈ wk_ini.map (fun z => z.2) := by decide +kernel
theorem so_E10 {ad : Nat → Nat} {ca : Nat → ClassId} {g : ab_G} {o : Nat} (h : (g.2.1 o).1 = 10) : so_E ad ca g o = .inl (ca 0, (g.2.1 o).2, .inl (g.2.2.1 o)) := by rw [so_E, if_pos h]
theorem so_E11 {ad : Nat → Nat} {ca : Nat → ClassId} {g : ab_G} {o : Nat} (h : (g.2.1 o).1 = 11) : so_E ad ca g o = .inl (ca 1, (g.2.1 o).2, .inl (g.2.2.1 o)) := by rw [so_E, if_neg (by rw [h]; decide), if_pos h]
theorem so_E12 {ad : Nat → Nat} {ca : Nat → ClassId} {g : ab_G} {o : Nat} (h : (g.2.1 o).1 = 12) : so_E ad ca g o = .inl (ca 2, (g.2.1 o).2, .inr (.inr (.inr (.inr (fun j => so_r ad (g.2.2.2.1 o j)))))) := by rw [so_E, if_neg (by rw [h]; decide), if_neg (by rw [h]; decide), if_pos h]
theorem so_EC {ad : Nat → Nat} {ca : Nat → ClassId} {g : ab_G} {o C : Nat} (h : (g.2.1 o).1 = C) (hC : C < 6) : so_E ad ca g o = .inr (C, (List.range (ab_nf C)).map (so_fv ad g C o)) := by rw [so_E, h, if_neg (by omega), if_neg (by omega), if_neg (by omega)]
def so_F (p : Program) (R : Room) (s : State) (m : MethodId) (args : Array Value) (meth : Method) (c : Code) (D : va_G) (ca : Nat → ClassId) (ad : Nat → Nat) (base : Nat) (sp : Nat → Nat × (Nat → Int32)) (M : Nat) : Prop :=
  p.tables.exec = Jvm.exec ∧ c.code = mB M ∧ c.maxLocals = mL M ∧ s.vm.findClass (ab_cn (mO M)) = some m.cls ∧ (∀ w ∈ gd, w.before args s = true) ∧ so_R R M ∧ (mI M = true → meth.name = "<init>") ∧ so_K D ca ad base sp s ∧ so_adOK base ad
section STEP
variable {p : Program} {l : Launch} {e : Env} {R : Room} {s : State} {m : MethodId} {args : Array Value} {below : List Frame} {meth : Method} {c : Code} {Q : State → Prop}
variable {D : va_G} {ca : Nat → ClassId} {ad : Nat → Nat} {base : Nat} {sp : Nat → Nat × (Nat → Int32)} {M : Nat}
variable {pc len k n : Nat} {ls : List (Option Value)} {st : List Value} {g : ab_G} {x : ab_N} {H : Heap} {locs : List Loc} {arr : Array Slot}
def so_KK (p : Program) (l : Launch) (e : Env) (R : Room) (s : State) (m : MethodId) (args : Array Value) (below : List Frame) (meth : Method) (c : Code) (Q : State → Prop) (D : va_G) (ca : Nat → ClassId) (ad : Nat → Nat) (base : Nat) (sp : Nat → Nat × (Nat → Int32)) (M : Nat) (x : ab_N) : Prop :=
  ∀ (H : Heap) (locs : List Loc) (arr : Array Slot), so_H D ca ad base sp x.2.2.2.2.2 s H locs x.2.2.2.1 → so_ls ad arr x.2.1 → x.2.1.length = mL M → W p l e R s m args below meth c H locs x.2.2.2.1 x.2.2.2.2.1 Q (F0 m x.1 arr (x.2.2.1.map (so_v ad)))
theorem so_iconst {z : Int} (F : so_F p R s m args meth c D ca ad base sp M) (hH : so_H D ca ad base sp g s H locs k) (hl : so_ls ad arr ls) (hn : ls.length = mL M) (hd : decode (mB M) pc = .ok (.iconst z, len)) (h : ab_ins M pc len (.iconst z) ls st k n g = some (.inr (.inl x))) (kk : so_KK p l e R s m args below meth c Q D ca ad base sp M x) : W p l e R s m args below meth c H locs k n Q (F0 m pc arr (st.map (so_v ad))) := by
  obtain ⟨hx, hb, hml, hown, hts, hR, hin, hK, ha⟩ := F
  obtain ⟨rfl, rfl⟩ := ab_psh_inv h
  exact lv_iconst hx hb hd rfl (kk _ _ _ hH hl hn)
theorem so_bipush {z : Int} (F : so_F p R s m args meth c D ca ad base sp M) (hH : so_H D ca ad base sp g s H locs k) (hl : so_ls ad arr ls) (hn : ls.length = mL M) (hd : decode (mB M) pc = .ok (.bipush z, len)) (h : ab_ins M pc len (.bipush z) ls st k n g = some (.inr (.inl x))) (kk : so_KK p l e R s m args below meth c Q D ca ad base sp M x) : W p l e R s m args below meth c H locs k n Q (F0 m pc arr (st.map (so_v ad))) := by
  obtain ⟨hx, hb, hml, hown, hts, hR, hin, hK, ha⟩ := F
  obtain ⟨rfl, rfl⟩ := ab_psh_inv h
  exact lv_bipush hx hb hd rfl (kk _ _ _ hH hl hn)
theorem so_sipush {z : Int} (F : so_F p R s m args meth c D ca ad base sp M) (hH : so_H D ca ad base sp g s H locs k) (hl : so_ls ad arr ls) (hn : ls.length = mL M) (hd : decode (mB M) pc = .ok (.sipush z, len)) (h : ab_ins M pc len (.sipush z) ls st k n g = some (.inr (.inl x))) (kk : so_KK p l e R s m args below meth c Q D ca ad base sp M x) : W p l e R s m args below meth c H locs k n Q (F0 m pc arr (st.map (so_v ad))) := by
  obtain ⟨hx, hb, hml, hown, hts, hR, hin, hK, ha⟩ := F
  obtain ⟨rfl, rfl⟩ := ab_psh_inv h
  exact lv_sipush hx hb hd rfl (kk _ _ _ hH hl hn)
theorem so_lconst {z : Fin 2} (F : so_F p R s m args meth c D ca ad base sp M) (hH : so_H D ca ad base sp g s H locs k) (hl : so_ls ad arr ls) (hn : ls.length = mL M) (hd : decode (mB M) pc = .ok (.lconst z, len)) (h : ab_ins M pc len (.lconst z) ls st k n g = some (.inr (.inl x))) (kk : so_KK p l e R s m args below meth c Q D ca ad base sp M x) : W p l e R s m args below meth c H locs k n Q (F0 m pc arr (st.map (so_v ad))) := by
  obtain ⟨hx, hb, hml, hown, hts, hR, hin, hK, ha⟩ := F
  obtain ⟨rfl, rfl⟩ := ab_psh_inv h
  exact lv_lconst hx hb hd rfl (kk _ _ _ hH hl hn)
theorem so_ldcw {idx : Nat} (F : so_F p R s m args meth c D ca ad base sp M) (hH : so_H D ca ad base sp g s H locs k) (hl : so_ls ad arr ls) (hn : ls.length = mL M) (hd : decode (mB M) pc = .ok (.ldc_w idx, len)) (h : ab_ins M pc len (.ldc_w idx) ls st k n g = some (.inr (.inl x))) (kk : so_KK p l e R s m args below meth c Q D ca ad base sp M x) : W p l e R s m args below meth c H locs k n Q (F0 m pc arr (st.map (so_v ad))) := by
  obtain ⟨hx, hb, hml, hown, hts, hR, hin, hK, ha⟩ := F
  simp only [ab_ins] at h
  split at h
  · rename_i v hv
    obtain ⟨rfl, rfl⟩ := ab_psh_inv h
    obtain ⟨q, hq, eq⟩ := mem_snd (lits_lk _ (ab_find_mem _ _ _ _ hv))
    have hw := wk_li_ok q hq
    rw [eq] at hw
    exact lv_ldcw hx hb hown (hts _ (gd_in hw rfl)) hd (kk _ _ _ hH hl hn)
  · cases h
theorem so_ldc2 {idx : Nat} (F : so_F p R s m args meth c D ca ad base sp M) (hH : so_H D ca ad base sp g s H locs k) (hl : so_ls ad arr ls) (hn : ls.length = mL M) (hd : decode (mB M) pc = .ok (.ldc2_w idx, len)) (h : ab_ins M pc len (.ldc2_w idx) ls st k n g = some (.inr (.inl x))) (kk : so_KK p l e R s m args below meth c Q D ca ad base sp M x) : W p l e R s m args below meth c H locs k n Q (F0 m pc arr (st.map (so_v ad))) := by
  obtain ⟨hx, hb, hml, hown, hts, hR, hin, hK, ha⟩ := F
  simp only [ab_ins] at h
  split at h
  · rename_i v hv
    obtain ⟨rfl, rfl⟩ := ab_psh_inv h
    obtain ⟨q, hq, eq⟩ := mem_snd (litl_lk _ (ab_find_mem _ _ _ _ hv))
    have hw := wk_ll_ok q hq
    rw [eq] at hw
    exact lv_ldc2 hx hb hown (hts _ (gd_in hw rfl)) hd (kk _ _ _ hH hl hn)
  · cases h
theorem so_iload {i : Nat} (F : so_F p R s m args meth c D ca ad base sp M) (hH : so_H D ca ad base sp g s H locs k) (hl : so_ls ad arr ls) (hn : ls.length = mL M) (hd : decode (mB M) pc = .ok (.iload i, len)) (h : ab_ins M pc len (.iload i) ls st k n g = some (.inr (.inl x))) (kk : so_KK p l e R s m args below meth c Q D ca ad base sp M x) : W p l e R s m args below meth c H locs k n Q (F0 m pc arr (st.map (so_v ad))) := by
  obtain ⟨hx, hb, hml, hown, hts, hR, hin, hK, ha⟩ := F
  simp only [ab_ins, ab_ldi] at h
  split at h
  · rename_i v hv
    obtain ⟨rfl, rfl⟩ := ab_psh_inv h
    exact lv_iload hx hb hd (hl.get hv) (kk _ _ _ hH hl hn)
  · cases h
theorem so_iload_n {i : Fin 4} (F : so_F p R s m args meth c D ca ad base sp M) (hH : so_H D ca ad base sp g s H locs k) (hl : so_ls ad arr ls) (hn : ls.length = mL M) (hd : decode (mB M) pc = .ok (.iload_n i, len)) (h : ab_ins M pc len (.iload_n i) ls st k n g = some (.inr (.inl x))) (kk : so_KK p l e R s m args below meth c Q D ca ad base sp M x) : W p l e R s m args below meth c H locs k n Q (F0 m pc arr (st.map (so_v ad))) := by
  obtain ⟨hx, hb, hml, hown, hts, hR, hin, hK, ha⟩ := F
  simp only [ab_ins, ab_ldi] at h
  split at h
  · rename_i v hv
    obtain ⟨rfl, rfl⟩ := ab_psh_inv h
    exact lv_iload_n hx hb hd rfl (hl.get hv) (kk _ _ _ hH hl hn)
  · cases h
theorem so_lload {i : Nat} (F : so_F p R s m args meth c D ca ad base sp M) (hH : so_H D ca ad base sp g s H locs k) (hl : so_ls ad arr ls) (hn : ls.length = mL M) (hd : decode (mB M) pc = .ok (.lload i, len)) (h : ab_ins M pc len (.lload i) ls st k n g = some (.inr (.inl x))) (kk : so_KK p l e R s m args below meth c Q D ca ad base sp M x) : W p l e R s m args below meth c H locs k n Q (F0 m pc arr (st.map (so_v ad))) := by
  obtain ⟨hx, hb, hml, hown, hts, hR, hin, hK, ha⟩ := F
  simp only [ab_ins, ab_ldl] at h
  split at h
  · rename_i v hv
    obtain ⟨rfl, rfl⟩ := ab_psh_inv h
    exact lv_lload hx hb hd (hl.get hv) (kk _ _ _ hH hl hn)
  · cases h
theorem so_lload_n {i : Fin 4} (F : so_F p R s m args meth c D ca ad base sp M) (hH : so_H D ca ad base sp g s H locs k) (hl : so_ls ad arr ls) (hn : ls.length = mL M) (hd : decode (mB M) pc = .ok (.lload_n i, len)) (h : ab_ins M pc len (.lload_n i) ls st k n g = some (.inr (.inl x))) (kk : so_KK p l e R s m args below meth c Q D ca ad base sp M x) : W p l e R s m args below meth c H locs k n Q (F0 m pc arr (st.map (so_v ad))) := by
  obtain ⟨hx, hb, hml, hown, hts, hR, hin, hK, ha⟩ := F
  simp only [ab_ins, ab_ldl] at h
  split at h
  · rename_i v hv
    obtain ⟨rfl, rfl⟩ := ab_psh_inv h
    exact lv_lload_n hx hb hd rfl (hl.get hv) (kk _ _ _ hH hl hn)
  · cases h
theorem so_aload {i : Nat} (F : so_F p R s m args meth c D ca ad base sp M) (hH : so_H D ca ad base sp g s H locs k) (hl : so_ls ad arr ls) (hn : ls.length = mL M) (hd : decode (mB M) pc = .ok (.aload i, len)) (h : ab_ins M pc len (.aload i) ls st k n g = some (.inr (.inl x))) (kk : so_KK p l e R s m args below meth c Q D ca ad base sp M x) : W p l e R s m args below meth c H locs k n Q (F0 m pc arr (st.map (so_v ad))) := by
  obtain ⟨hx, hb, hml, hown, hts, hR, hin, hK, ha⟩ := F
  simp only [ab_ins, ab_lda] at h
  split at h
  · rename_i v hv
    obtain ⟨rfl, rfl⟩ := ab_psh_inv h
    exact lv_aload hx hb hd (hl.get hv) (kk _ _ _ hH hl hn)
  · cases h
theorem so_aload_n {i : Fin 4} (F : so_F p R s m args meth c D ca ad base sp M) (hH : so_H D ca ad base sp g s H locs k) (hl : so_ls ad arr ls) (hn : ls.length = mL M) (hd : decode (mB M) pc = .ok (.aload_n i, len)) (h : ab_ins M pc len (.aload_n i) ls st k n g = some (.inr (.inl x))) (kk : so_KK p l e R s m args below meth c Q D ca ad base sp M x) : W p l e R s m args below meth c H locs k n Q (F0 m pc arr (st.map (so_v ad))) := by
  obtain ⟨hx, hb, hml, hown, hts, hR, hin, hK, ha⟩ := F
  simp only [ab_ins, ab_lda] at h
  split at h
  · rename_i v hv
    obtain ⟨rfl, rfl⟩ := ab_psh_inv h
    exact lv_aload_n hx hb hd rfl (hl.get hv) (kk _ _ _ hH hl hn)
  · cases h
theorem so_istore {i : Nat} (F : so_F p R s m args meth c D ca ad base sp M) (hH : so_H D ca ad base sp g s H locs k) (hl : so_ls ad arr ls) (hn : ls.length = mL M) (hd : decode (mB M) pc = .ok (.istore i, len)) (h : ab_ins M pc len (.istore i) ls st k n g = some (.inr (.inl x))) (kk : so_KK p l e R s m args below meth c Q D ca ad base sp M x) : W p l e R s m args below meth c H locs k n Q (F0 m pc arr (st.map (so_v ad))) := by
  obtain ⟨hx, hb, hml, hown, hts, hR, hin, hK, ha⟩ := F
  simp only [ab_ins, ab_sti] at h
  split at h
  · split at h
    · rename_i hc
      obtain ⟨rfl, rfl⟩ := ab_psh_inv h
      exact lv_istore hx hb hd  hl hc.1 rfl (fun ls2 hl2 => kk _ _ _ hH (so_ls.st1 hc.2 hc.1 rfl hl2) (by rw [List.length_set]; exact hn))
    · cases h
  · cases h
theorem so_istore_n {i : Fin 4} (F : so_F p R s m args meth c D ca ad base sp M) (hH : so_H D ca ad base sp g s H locs k) (hl : so_ls ad arr ls) (hn : ls.length = mL M) (hd : decode (mB M) pc = .ok (.istore_n i, len)) (h : ab_ins M pc len (.istore_n i) ls st k n g = some (.inr (.inl x))) (kk : so_KK p l e R s m args below meth c Q D ca ad base sp M x) : W p l e R s m args below meth c H locs k n Q (F0 m pc arr (st.map (so_v ad))) := by
  obtain ⟨hx, hb, hml, hown, hts, hR, hin, hK, ha⟩ := F
  simp only [ab_ins, ab_sti] at h
  split at h
  · split at h
    · rename_i hc
      obtain ⟨rfl, rfl⟩ := ab_psh_inv h
      exact lv_istore_n hx hb hd rfl hl hc.1 rfl (fun ls2 hl2 => kk _ _ _ hH (so_ls.st1 hc.2 hc.1 rfl hl2) (by rw [List.length_set]; exact hn))
    · cases h
  · cases h
theorem so_astore {i : Nat} (F : so_F p R s m args meth c D ca ad base sp M) (hH : so_H D ca ad base sp g s H locs k) (hl : so_ls ad arr ls) (hn : ls.length = mL M) (hd : decode (mB M) pc = .ok (.astore i, len)) (h : ab_ins M pc len (.astore i) ls st k n g = some (.inr (.inl x))) (kk : so_KK p l e R s m args below meth c Q D ca ad base sp M x) : W p l e R s m args below meth c H locs k n Q (F0 m pc arr (st.map (so_v ad))) := by
  obtain ⟨hx, hb, hml, hown, hts, hR, hin, hK, ha⟩ := F
  simp only [ab_ins, ab_sta] at h
  split at h
  · split at h
    · rename_i hc
      obtain ⟨rfl, rfl⟩ := ab_psh_inv h
      exact lv_astore hx hb hd  hl hc.1 rfl (fun ls2 hl2 => kk _ _ _ hH (so_ls.st1 hc.2 hc.1 rfl hl2) (by rw [List.length_set]; exact hn))
    · cases h
  · cases h
theorem so_astore_n {i : Fin 4} (F : so_F p R s m args meth c D ca ad base sp M) (hH : so_H D ca ad base sp g s H locs k) (hl : so_ls ad arr ls) (hn : ls.length = mL M) (hd : decode (mB M) pc = .ok (.astore_n i, len)) (h : ab_ins M pc len (.astore_n i) ls st k n g = some (.inr (.inl x))) (kk : so_KK p l e R s m args below meth c Q D ca ad base sp M x) : W p l e R s m args below meth c H locs k n Q (F0 m pc arr (st.map (so_v ad))) := by
  obtain ⟨hx, hb, hml, hown, hts, hR, hin, hK, ha⟩ := F
  simp only [ab_ins, ab_sta] at h
  split at h
  · split at h
    · rename_i hc
      obtain ⟨rfl, rfl⟩ := ab_psh_inv h
      exact lv_astore_n hx hb hd rfl hl hc.1 rfl (fun ls2 hl2 => kk _ _ _ hH (so_ls.st1 hc.2 hc.1 rfl hl2) (by rw [List.length_set]; exact hn))
    · cases h
  · cases h
theorem so_lstore {i : Nat} (F : so_F p R s m args meth c D ca ad base sp M) (hH : so_H D ca ad base sp g s H locs k) (hl : so_ls ad arr ls) (hn : ls.length = mL M) (hd : decode (mB M) pc = .ok (.lstore i, len)) (h : ab_ins M pc len (.lstore i) ls st k n g = some (.inr (.inl x))) (kk : so_KK p l e R s m args below meth c Q D ca ad base sp M x) : W p l e R s m args below meth c H locs k n Q (F0 m pc arr (st.map (so_v ad))) := by
  obtain ⟨hx, hb, hml, hown, hts, hR, hin, hK, ha⟩ := F
  simp only [ab_ins, ab_stl] at h
  split at h
  · split at h
    · rename_i hc
      obtain ⟨rfl, rfl⟩ := ab_psh_inv h
      exact lv_lstore hx hb hd  hl hc.1 rfl (fun ls2 hl2 => kk _ _ _ hH (so_ls.st2 hc.2 hc.1 rfl hl2) (by rw [List.length_set, List.length_set]; exact hn))
    · cases h
  · cases h
theorem so_lstore_n {i : Fin 4} (F : so_F p R s m args meth c D ca ad base sp M) (hH : so_H D ca ad base sp g s H locs k) (hl : so_ls ad arr ls) (hn : ls.length = mL M) (hd : decode (mB M) pc = .ok (.lstore_n i, len)) (h : ab_ins M pc len (.lstore_n i) ls st k n g = some (.inr (.inl x))) (kk : so_KK p l e R s m args below meth c Q D ca ad base sp M x) : W p l e R s m args below meth c H locs k n Q (F0 m pc arr (st.map (so_v ad))) := by
  obtain ⟨hx, hb, hml, hown, hts, hR, hin, hK, ha⟩ := F
  simp only [ab_ins, ab_stl] at h
  split at h
  · split at h
    · rename_i hc
      obtain ⟨rfl, rfl⟩ := ab_psh_inv h
      exact lv_lstore_n hx hb hd rfl hl hc.1 rfl (fun ls2 hl2 => kk _ _ _ hH (so_ls.st2 hc.2 hc.1 rfl hl2) (by rw [List.length_set, List.length_set]; exact hn))
    · cases h
  · cases h
theorem so_iinc {i : Nat} {z : Int} (F : so_F p R s m args meth c D ca ad base sp M) (hH : so_H D ca ad base sp g s H locs k) (hl : so_ls ad arr ls) (hn : ls.length = mL M) (hd : decode (mB M) pc = .ok (.iinc i z, len)) (h : ab_ins M pc len (.iinc i z) ls st k n g = some (.inr (.inl x))) (kk : so_KK p l e R s m args below meth c Q D ca ad base sp M x) : W p l e R s m args below meth c H locs k n Q (F0 m pc arr (st.map (so_v ad))) := by
  obtain ⟨hx, hb, hml, hown, hts, hR, hin, hK, ha⟩ := F
  simp only [ab_ins] at h
  split at h
  · rename_i v hv
    split at h
    · rename_i hc
      obtain ⟨rfl, rfl⟩ := ab_psh_inv h
      obtain ⟨j, hj⟩ := List.getElem?_of_mem ((so_lv_mem ad ls 0 (i, .int v)).mpr ⟨i, .int v, hv, by simp [so_v]⟩)
      exact lv_iinc (v := v + Int32.ofInt z) hx hb hd hl hj rfl hc.1 rfl (fun ls2 hl2 => kk _ _ _ hH (so_ls.st1 (v := .int (v + Int32.ofInt z)) hc.2 hc.1 rfl hl2) (by rw [List.length_set]; exact hn))
    · cases h
  · cases h
theorem so_iadd (F : so_F p R s m args meth c D ca ad base sp M) (hH : so_H D ca ad base sp g s H locs k) (hl : so_ls ad arr ls) (hn : ls.length = mL M) (hd : decode (mB M) pc = .ok (.iadd, len)) (h : ab_ins M pc len (.iadd) ls st k n g = some (.inr (.inl x))) (kk : so_KK p l e R s m args below meth c Q D ca ad base sp M x) : W p l e R s m args below meth c H locs k n Q (F0 m pc arr (st.map (so_v ad))) := by
  obtain ⟨hx, hb, hml, hown, hts, hR, hin, hK, ha⟩ := F
  simp only [ab_ins, ab_ii] at h
  split at h
  · obtain ⟨rfl, rfl⟩ := ab_psh_inv h
    exact lv_iadd hx hb hd (kk _ _ _ hH hl hn)
  · cases h
theorem so_isub (F : so_F p R s m args meth c D ca ad base sp M) (hH : so_H D ca ad base sp g s H locs k) (hl : so_ls ad arr ls) (hn : ls.length = mL M) (hd : decode (mB M) pc = .ok (.isub, len)) (h : ab_ins M pc len (.isub) ls st k n g = some (.inr (.inl x))) (kk : so_KK p l e R s m args below meth c Q D ca ad base sp M x) : W p l e R s m args below meth c H locs k n Q (F0 m pc arr (st.map (so_v ad))) := by
  obtain ⟨hx, hb, hml, hown, hts, hR, hin, hK, ha⟩ := F
  simp only [ab_ins, ab_ii] at h
  split at h
  · obtain ⟨rfl, rfl⟩ := ab_psh_inv h
    exact lv_isub hx hb hd (kk _ _ _ hH hl hn)
  · cases h
theorem so_imul (F : so_F p R s m args meth c D ca ad base sp M) (hH : so_H D ca ad base sp g s H locs k) (hl : so_ls ad arr ls) (hn : ls.length = mL M) (hd : decode (mB M) pc = .ok (.imul, len)) (h : ab_ins M pc len (.imul) ls st k n g = some (.inr (.inl x))) (kk : so_KK p l e R s m args below meth c Q D ca ad base sp M x) : W p l e R s m args below meth c H locs k n Q (F0 m pc arr (st.map (so_v ad))) := by
  obtain ⟨hx, hb, hml, hown, hts, hR, hin, hK, ha⟩ := F
  simp only [ab_ins, ab_ii] at h
  split at h
  · obtain ⟨rfl, rfl⟩ := ab_psh_inv h
    exact lv_imul hx hb hd (kk _ _ _ hH hl hn)
  · cases h
theorem so_iand (F : so_F p R s m args meth c D ca ad base sp M) (hH : so_H D ca ad base sp g s H locs k) (hl : so_ls ad arr ls) (hn : ls.length = mL M) (hd : decode (mB M) pc = .ok (.iand, len)) (h : ab_ins M pc len (.iand) ls st k n g = some (.inr (.inl x))) (kk : so_KK p l e R s m args below meth c Q D ca ad base sp M x) : W p l e R s m args below meth c H locs k n Q (F0 m pc arr (st.map (so_v ad))) := by
  obtain ⟨hx, hb, hml, hown, hts, hR, hin, hK, ha⟩ := F
  simp only [ab_ins, ab_ii] at h
  split at h
  · obtain ⟨rfl, rfl⟩ := ab_psh_inv h
    exact lv_iand hx hb hd (kk _ _ _ hH hl hn)
  · cases h
theorem so_ior (F : so_F p R s m args meth c D ca ad base sp M) (hH : so_H D ca ad base sp g s H locs k) (hl : so_ls ad arr ls) (hn : ls.length = mL M) (hd : decode (mB M) pc = .ok (.ior, len)) (h : ab_ins M pc len (.ior) ls st k n g = some (.inr (.inl x))) (kk : so_KK p l e R s m args below meth c Q D ca ad base sp M x) : W p l e R s m args below meth c H locs k n Q (F0 m pc arr (st.map (so_v ad))) := by
  obtain ⟨hx, hb, hml, hown, hts, hR, hin, hK, ha⟩ := F
  simp only [ab_ins, ab_ii] at h
  split at h
  · obtain ⟨rfl, rfl⟩ := ab_psh_inv h
    exact lv_ior hx hb hd (kk _ _ _ hH hl hn)
  · cases h
theorem so_ixor (F : so_F p R s m args meth c D ca ad base sp M) (hH : so_H D ca ad base sp g s H locs k) (hl : so_ls ad arr ls) (hn : ls.length = mL M) (hd : decode (mB M) pc = .ok (.ixor, len)) (h : ab_ins M pc len (.ixor) ls st k n g = some (.inr (.inl x))) (kk : so_KK p l e R s m args below meth c Q D ca ad base sp M x) : W p l e R s m args below meth c H locs k n Q (F0 m pc arr (st.map (so_v ad))) := by
  obtain ⟨hx, hb, hml, hown, hts, hR, hin, hK, ha⟩ := F
  simp only [ab_ins, ab_ii] at h
  split at h
  · obtain ⟨rfl, rfl⟩ := ab_psh_inv h
    exact lv_ixor hx hb hd (kk _ _ _ hH hl hn)
  · cases h
theorem so_ishl (F : so_F p R s m args meth c D ca ad base sp M) (hH : so_H D ca ad base sp g s H locs k) (hl : so_ls ad arr ls) (hn : ls.length = mL M) (hd : decode (mB M) pc = .ok (.ishl, len)) (h : ab_ins M pc len (.ishl) ls st k n g = some (.inr (.inl x))) (kk : so_KK p l e R s m args below meth c Q D ca ad base sp M x) : W p l e R s m args below meth c H locs k n Q (F0 m pc arr (st.map (so_v ad))) := by
  obtain ⟨hx, hb, hml, hown, hts, hR, hin, hK, ha⟩ := F
  simp only [ab_ins, ab_ii] at h
  split at h
  · obtain ⟨rfl, rfl⟩ := ab_psh_inv h
    exact lv_ishl hx hb hd (kk _ _ _ hH hl hn)
  · cases h
theorem so_ishr (F : so_F p R s m args meth c D ca ad base sp M) (hH : so_H D ca ad base sp g s H locs k) (hl : so_ls ad arr ls) (hn : ls.length = mL M) (hd : decode (mB M) pc = .ok (.ishr, len)) (h : ab_ins M pc len (.ishr) ls st k n g = some (.inr (.inl x))) (kk : so_KK p l e R s m args below meth c Q D ca ad base sp M x) : W p l e R s m args below meth c H locs k n Q (F0 m pc arr (st.map (so_v ad))) := by
  obtain ⟨hx, hb, hml, hown, hts, hR, hin, hK, ha⟩ := F
  simp only [ab_ins, ab_ii] at h
  split at h
  · obtain ⟨rfl, rfl⟩ := ab_psh_inv h
    exact lv_ishr hx hb hd (kk _ _ _ hH hl hn)
  · cases h
theorem so_iushr (F : so_F p R s m args meth c D ca ad base sp M) (hH : so_H D ca ad base sp g s H locs k) (hl : so_ls ad arr ls) (hn : ls.length = mL M) (hd : decode (mB M) pc = .ok (.iushr, len)) (h : ab_ins M pc len (.iushr) ls st k n g = some (.inr (.inl x))) (kk : so_KK p l e R s m args below meth c Q D ca ad base sp M x) : W p l e R s m args below meth c H locs k n Q (F0 m pc arr (st.map (so_v ad))) := by
  obtain ⟨hx, hb, hml, hown, hts, hR, hin, hK, ha⟩ := F
  simp only [ab_ins, ab_ii] at h
  split at h
  · obtain ⟨rfl, rfl⟩ := ab_psh_inv h
    exact lv_iushr hx hb hd rfl (kk _ _ _ hH hl hn)
  · cases h
theorem so_ladd (F : so_F p R s m args meth c D ca ad base sp M) (hH : so_H D ca ad base sp g s H locs k) (hl : so_ls ad arr ls) (hn : ls.length = mL M) (hd : decode (mB M) pc = .ok (.ladd, len)) (h : ab_ins M pc len (.ladd) ls st k n g = some (.inr (.inl x))) (kk : so_KK p l e R s m args below meth c Q D ca ad base sp M x) : W p l e R s m args below meth c H locs k n Q (F0 m pc arr (st.map (so_v ad))) := by
  obtain ⟨hx, hb, hml, hown, hts, hR, hin, hK, ha⟩ := F
  simp only [ab_ins, ab_ll] at h
  split at h
  · obtain ⟨rfl, rfl⟩ := ab_psh_inv h
    exact lv_ladd hx hb hd (kk _ _ _ hH hl hn)
  · cases h
theorem so_lsub (F : so_F p R s m args meth c D ca ad base sp M) (hH : so_H D ca ad base sp g s H locs k) (hl : so_ls ad arr ls) (hn : ls.length = mL M) (hd : decode (mB M) pc = .ok (.lsub, len)) (h : ab_ins M pc len (.lsub) ls st k n g = some (.inr (.inl x))) (kk : so_KK p l e R s m args below meth c Q D ca ad base sp M x) : W p l e R s m args below meth c H locs k n Q (F0 m pc arr (st.map (so_v ad))) := by
  obtain ⟨hx, hb, hml, hown, hts, hR, hin, hK, ha⟩ := F
  simp only [ab_ins, ab_ll] at h
  split at h
  · obtain ⟨rfl, rfl⟩ := ab_psh_inv h
    exact lv_lsub hx hb hd (kk _ _ _ hH hl hn)
  · cases h
theorem so_lmul (F : so_F p R s m args meth c D ca ad base sp M) (hH : so_H D ca ad base sp g s H locs k) (hl : so_ls ad arr ls) (hn : ls.length = mL M) (hd : decode (mB M) pc = .ok (.lmul, len)) (h : ab_ins M pc len (.lmul) ls st k n g = some (.inr (.inl x))) (kk : so_KK p l e R s m args below meth c Q D ca ad base sp M x) : W p l e R s m args below meth c H locs k n Q (F0 m pc arr (st.map (so_v ad))) := by
  obtain ⟨hx, hb, hml, hown, hts, hR, hin, hK, ha⟩ := F
  simp only [ab_ins, ab_ll] at h
  split at h
  · obtain ⟨rfl, rfl⟩ := ab_psh_inv h
    exact lv_lmul hx hb hd (kk _ _ _ hH hl hn)
  · cases h
theorem so_land (F : so_F p R s m args meth c D ca ad base sp M) (hH : so_H D ca ad base sp g s H locs k) (hl : so_ls ad arr ls) (hn : ls.length = mL M) (hd : decode (mB M) pc = .ok (.land, len)) (h : ab_ins M pc len (.land) ls st k n g = some (.inr (.inl x))) (kk : so_KK p l e R s m args below meth c Q D ca ad base sp M x) : W p l e R s m args below meth c H locs k n Q (F0 m pc arr (st.map (so_v ad))) := by
  obtain ⟨hx, hb, hml, hown, hts, hR, hin, hK, ha⟩ := F
  simp only [ab_ins, ab_ll] at h
  split at h
  · obtain ⟨rfl, rfl⟩ := ab_psh_inv h
    exact lv_land hx hb hd (kk _ _ _ hH hl hn)
  · cases h
theorem so_lor (F : so_F p R s m args meth c D ca ad base sp M) (hH : so_H D ca ad base sp g s H locs k) (hl : so_ls ad arr ls) (hn : ls.length = mL M) (hd : decode (mB M) pc = .ok (.lor, len)) (h : ab_ins M pc len (.lor) ls st k n g = some (.inr (.inl x))) (kk : so_KK p l e R s m args below meth c Q D ca ad base sp M x) : W p l e R s m args below meth c H locs k n Q (F0 m pc arr (st.map (so_v ad))) := by
  obtain ⟨hx, hb, hml, hown, hts, hR, hin, hK, ha⟩ := F
  simp only [ab_ins, ab_ll] at h
  split at h
  · obtain ⟨rfl, rfl⟩ := ab_psh_inv h
    exact lv_lor hx hb hd (kk _ _ _ hH hl hn)
  · cases h
theorem so_lushr (F : so_F p R s m args meth c D ca ad base sp M) (hH : so_H D ca ad base sp g s H locs k) (hl : so_ls ad arr ls) (hn : ls.length = mL M) (hd : decode (mB M) pc = .ok (.lushr, len)) (h : ab_ins M pc len (.lushr) ls st k n g = some (.inr (.inl x))) (kk : so_KK p l e R s m args below meth c Q D ca ad base sp M x) : W p l e R s m args below meth c H locs k n Q (F0 m pc arr (st.map (so_v ad))) := by
  obtain ⟨hx, hb, hml, hown, hts, hR, hin, hK, ha⟩ := F
  simp only [ab_ins, ab_li] at h
  split at h
  · obtain ⟨rfl, rfl⟩ := ab_psh_inv h
    exact lv_lushr hx hb hd rfl (kk _ _ _ hH hl hn)
  · cases h
theorem so_lshl (F : so_F p R s m args meth c D ca ad base sp M) (hH : so_H D ca ad base sp g s H locs k) (hl : so_ls ad arr ls) (hn : ls.length = mL M) (hd : decode (mB M) pc = .ok (.lshl, len)) (h : ab_ins M pc len (.lshl) ls st k n g = some (.inr (.inl x))) (kk : so_KK p l e R s m args below meth c Q D ca ad base sp M x) : W p l e R s m args below meth c H locs k n Q (F0 m pc arr (st.map (so_v ad))) := by
  obtain ⟨hx, hb, hml, hown, hts, hR, hin, hK, ha⟩ := F
  simp only [ab_ins, ab_li] at h
  split at h
  · obtain ⟨rfl, rfl⟩ := ab_psh_inv h
    exact lv_lshl hx hb hd rfl (kk _ _ _ hH hl hn)
  · cases h
theorem so_idiv (F : so_F p R s m args meth c D ca ad base sp M) (hH : so_H D ca ad base sp g s H locs k) (hl : so_ls ad arr ls) (hn : ls.length = mL M) (hd : decode (mB M) pc = .ok (.idiv, len)) (h : ab_ins M pc len (.idiv) ls st k n g = some (.inr (.inl x))) (kk : so_KK p l e R s m args below meth c Q D ca ad base sp M x) : W p l e R s m args below meth c H locs k n Q (F0 m pc arr (st.map (so_v ad))) := by
  obtain ⟨hx, hb, hml, hown, hts, hR, hin, hK, ha⟩ := F
  simp only [ab_ins] at h
  split at h
  · split at h
    · cases h
    · rename_i hc
      obtain ⟨rfl, rfl⟩ := ab_psh_inv h
      exact lv_idiv hx hb hd hc (kk _ _ _ hH hl hn)
  · cases h
theorem so_irem (F : so_F p R s m args meth c D ca ad base sp M) (hH : so_H D ca ad base sp g s H locs k) (hl : so_ls ad arr ls) (hn : ls.length = mL M) (hd : decode (mB M) pc = .ok (.irem, len)) (h : ab_ins M pc len (.irem) ls st k n g = some (.inr (.inl x))) (kk : so_KK p l e R s m args below meth c Q D ca ad base sp M x) : W p l e R s m args below meth c H locs k n Q (F0 m pc arr (st.map (so_v ad))) := by
  obtain ⟨hx, hb, hml, hown, hts, hR, hin, hK, ha⟩ := F
  simp only [ab_ins] at h
  split at h
  · split at h
    · cases h
    · rename_i hc
      obtain ⟨rfl, rfl⟩ := ab_psh_inv h
      exact lv_irem hx hb hd hc (kk _ _ _ hH hl hn)
  · cases h
theorem so_ldiv (F : so_F p R s m args meth c D ca ad base sp M) (hH : so_H D ca ad base sp g s H locs k) (hl : so_ls ad arr ls) (hn : ls.length = mL M) (hd : decode (mB M) pc = .ok (.ldiv, len)) (h : ab_ins M pc len (.ldiv) ls st k n g = some (.inr (.inl x))) (kk : so_KK p l e R s m args below meth c Q D ca ad base sp M x) : W p l e R s m args below meth c H locs k n Q (F0 m pc arr (st.map (so_v ad))) := by
  obtain ⟨hx, hb, hml, hown, hts, hR, hin, hK, ha⟩ := F
  simp only [ab_ins] at h
  split at h
  · split at h
    · cases h
    · rename_i hc
      obtain ⟨rfl, rfl⟩ := ab_psh_inv h
      exact lv_ldiv hx hb hd hc (kk _ _ _ hH hl hn)
  · cases h
theorem so_lrem (F : so_F p R s m args meth c D ca ad base sp M) (hH : so_H D ca ad base sp g s H locs k) (hl : so_ls ad arr ls) (hn : ls.length = mL M) (hd : decode (mB M) pc = .ok (.lrem, len)) (h : ab_ins M pc len (.lrem) ls st k n g = some (.inr (.inl x))) (kk : so_KK p l e R s m args below meth c Q D ca ad base sp M x) : W p l e R s m args below meth c H locs k n Q (F0 m pc arr (st.map (so_v ad))) := by
  obtain ⟨hx, hb, hml, hown, hts, hR, hin, hK, ha⟩ := F
  simp only [ab_ins] at h
  split at h
  · split at h
    · cases h
    · rename_i hc
      obtain ⟨rfl, rfl⟩ := ab_psh_inv h
      exact lv_lrem hx hb hd hc (kk _ _ _ hH hl hn)
  · cases h
theorem so_ineg (F : so_F p R s m args meth c D ca ad base sp M) (hH : so_H D ca ad base sp g s H locs k) (hl : so_ls ad arr ls) (hn : ls.length = mL M) (hd : decode (mB M) pc = .ok (.ineg, len)) (h : ab_ins M pc len (.ineg) ls st k n g = some (.inr (.inl x))) (kk : so_KK p l e R s m args below meth c Q D ca ad base sp M x) : W p l e R s m args below meth c H locs k n Q (F0 m pc arr (st.map (so_v ad))) := by
  obtain ⟨hx, hb, hml, hown, hts, hR, hin, hK, ha⟩ := F
  simp only [ab_ins] at h
  split at h
  · obtain ⟨rfl, rfl⟩ := ab_psh_inv h
    exact lv_ineg hx hb hd (kk _ _ _ hH hl hn)
  · cases h
theorem so_lcmp (F : so_F p R s m args meth c D ca ad base sp M) (hH : so_H D ca ad base sp g s H locs k) (hl : so_ls ad arr ls) (hn : ls.length = mL M) (hd : decode (mB M) pc = .ok (.lcmp, len)) (h : ab_ins M pc len (.lcmp) ls st k n g = some (.inr (.inl x))) (kk : so_KK p l e R s m args below meth c Q D ca ad base sp M x) : W p l e R s m args below meth c H locs k n Q (F0 m pc arr (st.map (so_v ad))) := by
  obtain ⟨hx, hb, hml, hown, hts, hR, hin, hK, ha⟩ := F
  simp only [ab_ins] at h
  split at h
  · obtain ⟨rfl, rfl⟩ := ab_psh_inv h
    exact W.lcmp hx hb hd (kk _ _ _ hH hl hn)
  · cases h
theorem so_i2l (F : so_F p R s m args meth c D ca ad base sp M) (hH : so_H D ca ad base sp g s H locs k) (hl : so_ls ad arr ls) (hn : ls.length = mL M) (hd : decode (mB M) pc = .ok (.i2l, len)) (h : ab_ins M pc len (.i2l) ls st k n g = some (.inr (.inl x))) (kk : so_KK p l e R s m args below meth c Q D ca ad base sp M x) : W p l e R s m args below meth c H locs k n Q (F0 m pc arr (st.map (so_v ad))) := by
  obtain ⟨hx, hb, hml, hown, hts, hR, hin, hK, ha⟩ := F
  simp only [ab_ins] at h
  split at h
  · obtain ⟨rfl, rfl⟩ := ab_psh_inv h
    exact lv_i2l hx hb hd rfl (kk _ _ _ hH hl hn)
  · cases h
theorem so_l2i (F : so_F p R s m args meth c D ca ad base sp M) (hH : so_H D ca ad base sp g s H locs k) (hl : so_ls ad arr ls) (hn : ls.length = mL M) (hd : decode (mB M) pc = .ok (.l2i, len)) (h : ab_ins M pc len (.l2i) ls st k n g = some (.inr (.inl x))) (kk : so_KK p l e R s m args below meth c Q D ca ad base sp M x) : W p l e R s m args below meth c H locs k n Q (F0 m pc arr (st.map (so_v ad))) := by
  obtain ⟨hx, hb, hml, hown, hts, hR, hin, hK, ha⟩ := F
  simp only [ab_ins] at h
  split at h
  · obtain ⟨rfl, rfl⟩ := ab_psh_inv h
    exact lv_l2i hx hb hd rfl (kk _ _ _ hH hl hn)
  · cases h
theorem so_dup (F : so_F p R s m args meth c D ca ad base sp M) (hH : so_H D ca ad base sp g s H locs k) (hl : so_ls ad arr ls) (hn : ls.length = mL M) (hd : decode (mB M) pc = .ok (.dup, len)) (h : ab_ins M pc len (.dup) ls st k n g = some (.inr (.inl x))) (kk : so_KK p l e R s m args below meth c Q D ca ad base sp M x) : W p l e R s m args below meth c H locs k n Q (F0 m pc arr (st.map (so_v ad))) := by
  obtain ⟨hx, hb, hml, hown, hts, hR, hin, hK, ha⟩ := F
  simp only [ab_ins] at h
  split at h
  · split at h
    · rename_i hc
      obtain ⟨rfl, rfl⟩ := ab_psh_inv h
      exact lv_dup hx hb hd (by rw [so_v_cat]; exact hc) (kk _ _ _ hH hl hn)
    · cases h
  · cases h
theorem so_pop (F : so_F p R s m args meth c D ca ad base sp M) (hH : so_H D ca ad base sp g s H locs k) (hl : so_ls ad arr ls) (hn : ls.length = mL M) (hd : decode (mB M) pc = .ok (.pop, len)) (h : ab_ins M pc len (.pop) ls st k n g = some (.inr (.inl x))) (kk : so_KK p l e R s m args below meth c Q D ca ad base sp M x) : W p l e R s m args below meth c H locs k n Q (F0 m pc arr (st.map (so_v ad))) := by
  obtain ⟨hx, hb, hml, hown, hts, hR, hin, hK, ha⟩ := F
  simp only [ab_ins] at h
  split at h
  · split at h
    · rename_i hc
      obtain ⟨rfl, rfl⟩ := ab_psh_inv h
      exact lv_pop hx hb hd (by rw [so_v_cat]; exact hc) (kk _ _ _ hH hl hn)
    · cases h
  · cases h
theorem so_dup2 (F : so_F p R s m args meth c D ca ad base sp M) (hH : so_H D ca ad base sp g s H locs k) (hl : so_ls ad arr ls) (hn : ls.length = mL M) (hd : decode (mB M) pc = .ok (.dup2, len)) (h : ab_ins M pc len (.dup2) ls st k n g = some (.inr (.inl x))) (kk : so_KK p l e R s m args below meth c Q D ca ad base sp M x) : W p l e R s m args below meth c H locs k n Q (F0 m pc arr (st.map (so_v ad))) := by
  obtain ⟨hx, hb, hml, hown, hts, hR, hin, hK, ha⟩ := F
  simp only [ab_ins] at h
  split at h
  · split at h
    · rename_i hc
      obtain ⟨rfl, rfl⟩ := ab_psh_inv h
      exact lv_dup2_11 hx hb hd (by rw [so_v_cat]; exact hc.1) (by rw [so_v_cat]; exact hc.2) (kk _ _ _ hH hl hn)
    · cases h
  · cases h
theorem ab_br_inv {len pc : Nat} {off : Int} {b : Bool} {ls : List (Option Value)} {st : List Value} {k n : Nat} {g : ab_G} {x : ab_N} (h : ab_br len pc off b ls st k n g = some (.inr (.inl x))) : len = 3 ∧ ∃ t : Nat, (pc : Int) + off = (t : Int) ∧ x = (if b = true then t else pc + 3, ls, st, k, n, g) := by
  unfold ab_br ab_ok at h
  split at h
  · rename_i hc
    simp at h
    exact ⟨hc.1, ((pc : Int) + off).toNat, by omega, h.symm⟩
  · cases h
theorem so_goto {off : Int} (F : so_F p R s m args meth c D ca ad base sp M) (hH : so_H D ca ad base sp g s H locs k) (hl : so_ls ad arr ls) (hn : ls.length = mL M) (hd : decode (mB M) pc = .ok (.goto off, len)) (h : ab_ins M pc len (.goto off) ls st k n g = some (.inr (.inl x))) (kk : so_KK p l e R s m args below meth c Q D ca ad base sp M x) : W p l e R s m args below meth c H locs k n Q (F0 m pc arr (st.map (so_v ad))) := by
  obtain ⟨hx, hb, hml, hown, hts, hR, hin, hK, ha⟩ := F
  obtain ⟨rfl, t, ht, rfl⟩ := ab_br_inv h
  exact lv_goto hx hb hd ht (kk _ _ _ hH hl hn)
theorem so_if_eq {off : Int} (F : so_F p R s m args meth c D ca ad base sp M) (hH : so_H D ca ad base sp g s H locs k) (hl : so_ls ad arr ls) (hn : ls.length = mL M) (hd : decode (mB M) pc = .ok (.ifCond .eq off, len)) (h : ab_ins M pc len (.ifCond .eq off) ls st k n g = some (.inr (.inl x))) (kk : so_KK p l e R s m args below meth c Q D ca ad base sp M x) : W p l e R s m args below meth c H locs k n Q (F0 m pc arr (st.map (so_v ad))) := by
  obtain ⟨hx, hb, hml, hown, hts, hR, hin, hK, ha⟩ := F
  simp only [ab_ins] at h
  split at h
  · rename_i v1 v2 v3
    obtain ⟨rfl, t, ht, rfl⟩ := ab_br_inv h
    refine lv_if_eq hx hb hd ht (fun hc => ?_) (fun hc => ?_)
    · have := kk _ _ _ hH hl hn
      have h1 : ab_c1 .eq v2 = true := by first | exact decide_eq_true hc | exact decide_eq_true (fun q => hc q)
      dsimp only at this
      rw [h1] at this
      exact this
    · have := kk _ _ _ hH hl hn
      have h1 : ab_c1 .eq v2 = false := by first | exact decide_eq_false hc | exact decide_eq_false (fun q => q hc)
      dsimp only at this
      rw [h1] at this
      exact this
  · cases h
theorem so_icmp_eq {off : Int} (F : so_F p R s m args meth c D ca ad base sp M) (hH : so_H D ca ad base sp g s H locs k) (hl : so_ls ad arr ls) (hn : ls.length = mL M) (hd : decode (mB M) pc = .ok (.if_icmp .eq off, len)) (h : ab_ins M pc len (.if_icmp .eq off) ls st k n g = some (.inr (.inl x))) (kk : so_KK p l e R s m args below meth c Q D ca ad base sp M x) : W p l e R s m args below meth c H locs k n Q (F0 m pc arr (st.map (so_v ad))) := by
  obtain ⟨hx, hb, hml, hown, hts, hR, hin, hK, ha⟩ := F
  simp only [ab_ins] at h
  split at h
  · rename_i v1 v2 v3
    obtain ⟨rfl, t, ht, rfl⟩ := ab_br_inv h
    refine lv_icmp_eq hx hb hd ht (fun hc => ?_) (fun hc => ?_)
    · have := kk _ _ _ hH hl hn
      have h1 : ab_c2 .eq v2 v1 = true := by first | exact decide_eq_true hc | exact decide_eq_true (fun q => hc q)
      dsimp only at this
      rw [h1] at this
      exact this
    · have := kk _ _ _ hH hl hn
      have h1 : ab_c2 .eq v2 v1 = false := by first | exact decide_eq_false hc | exact decide_eq_false (fun q => q hc)
      dsimp only at this
      rw [h1] at this
      exact this
  · cases h
theorem so_if_ne {off : Int} (F : so_F p R s m args meth c D ca ad base sp M) (hH : so_H D ca ad base sp g s H locs k) (hl : so_ls ad arr ls) (hn : ls.length = mL M) (hd : decode (mB M) pc = .ok (.ifCond .ne off, len)) (h : ab_ins M pc len (.ifCond .ne off) ls st k n g = some (.inr (.inl x))) (kk : so_KK p l e R s m args below meth c Q D ca ad base sp M x) : W p l e R s m args below meth c H locs k n Q (F0 m pc arr (st.map (so_v ad))) := by
  obtain ⟨hx, hb, hml, hown, hts, hR, hin, hK, ha⟩ := F
  simp only [ab_ins] at h
  split at h
  · rename_i v1 v2 v3
    obtain ⟨rfl, t, ht, rfl⟩ := ab_br_inv h
    refine lv_if_ne hx hb hd ht (fun hc => ?_) (fun hc => ?_)
    · have := kk _ _ _ hH hl hn
      have h1 : ab_c1 .ne v2 = true := by first | exact decide_eq_true hc | exact decide_eq_true (fun q => hc q)
      dsimp only at this
      rw [h1] at this
      exact this
    · have := kk _ _ _ hH hl hn
      have h1 : ab_c1 .ne v2 = false := by first | exact decide_eq_false hc | exact decide_eq_false (fun q => q hc)
      dsimp only at this
      rw [h1] at this
      exact this
  · cases h
theorem so_icmp_ne {off : Int} (F : so_F p R s m args meth c D ca ad base sp M) (hH : so_H D ca ad base sp g s H locs k) (hl : so_ls ad arr ls) (hn : ls.length = mL M) (hd : decode (mB M) pc = .ok (.if_icmp .ne off, len)) (h : ab_ins M pc len (.if_icmp .ne off) ls st k n g = some (.inr (.inl x))) (kk : so_KK p l e R s m args below meth c Q D ca ad base sp M x) : W p l e R s m args below meth c H locs k n Q (F0 m pc arr (st.map (so_v ad))) := by
  obtain ⟨hx, hb, hml, hown, hts, hR, hin, hK, ha⟩ := F
  simp only [ab_ins] at h
  split at h
  · rename_i v1 v2 v3
    obtain ⟨rfl, t, ht, rfl⟩ := ab_br_inv h
    refine lv_icmp_ne hx hb hd ht (fun hc => ?_) (fun hc => ?_)
    · have := kk _ _ _ hH hl hn
      have h1 : ab_c2 .ne v2 v1 = true := by first | exact decide_eq_true hc | exact decide_eq_true (fun q => hc q)
      dsimp only at this
      rw [h1] at this
      exact this
    · have := kk _ _ _ hH hl hn
      have h1 : ab_c2 .ne v2 v1 = false := by first | exact decide_eq_false hc | exact decide_eq_false (fun q => q hc)
      dsimp only at this
      rw [h1] at this
      exact this
  · cases h
theorem so_if_lt {off : Int} (F : so_F p R s m args meth c D ca ad base sp M) (hH : so_H D ca ad base sp g s H locs k) (hl : so_ls ad arr ls) (hn : ls.length = mL M) (hd : decode (mB M) pc = .ok (.ifCond .lt off, len)) (h : ab_ins M pc len (.ifCond .lt off) ls st k n g = some (.inr (.inl x))) (kk : so_KK p l e R s m args below meth c Q D ca ad base sp M x) : W p l e R s m args below meth c H locs k n Q (F0 m pc arr (st.map (so_v ad))) := by
  obtain ⟨hx, hb, hml, hown, hts, hR, hin, hK, ha⟩ := F
  simp only [ab_ins] at h
  split at h
  · rename_i v1 v2 v3
    obtain ⟨rfl, t, ht, rfl⟩ := ab_br_inv h
    refine lv_if_lt hx hb hd ht (fun hc => ?_) (fun hc => ?_)
    · have := kk _ _ _ hH hl hn
      have h1 : ab_c1 .lt v2 = true := by first | exact decide_eq_true hc | exact decide_eq_true (fun q => hc q)
      dsimp only at this
      rw [h1] at this
      exact this
    · have := kk _ _ _ hH hl hn
      have h1 : ab_c1 .lt v2 = false := by first | exact decide_eq_false hc | exact decide_eq_false (fun q => q hc)
      dsimp only at this
      rw [h1] at this
      exact this
  · cases h
theorem so_icmp_lt {off : Int} (F : so_F p R s m args meth c D ca ad base sp M) (hH : so_H D ca ad base sp g s H locs k) (hl : so_ls ad arr ls) (hn : ls.length = mL M) (hd : decode (mB M) pc = .ok (.if_icmp .lt off, len)) (h : ab_ins M pc len (.if_icmp .lt off) ls st k n g = some (.inr (.inl x))) (kk : so_KK p l e R s m args below meth c Q D ca ad base sp M x) : W p l e R s m args below meth c H locs k n Q (F0 m pc arr (st.map (so_v ad))) := by
  obtain ⟨hx, hb, hml, hown, hts, hR, hin, hK, ha⟩ := F
  simp only [ab_ins] at h
  split at h
  · rename_i v1 v2 v3
    obtain ⟨rfl, t, ht, rfl⟩ := ab_br_inv h
    refine lv_icmp_lt hx hb hd ht (fun hc => ?_) (fun hc => ?_)
    · have := kk _ _ _ hH hl hn
      have h1 : ab_c2 .lt v2 v1 = true := by first | exact decide_eq_true hc | exact decide_eq_true (fun q => hc q)
      dsimp only at this
      rw [h1] at this
      exact this
    · have := kk _ _ _ hH hl hn
      have h1 : ab_c2 .lt v2 v1 = false := by first | exact decide_eq_false hc | exact decide_eq_false (fun q => q hc)
      dsimp only at this
      rw [h1] at this
      exact this
  · cases h
theorem so_if_ge {off : Int} (F : so_F p R s m args meth c D ca ad base sp M) (hH : so_H D ca ad base sp g s H locs k) (hl : so_ls ad arr ls) (hn : ls.length = mL M) (hd : decode (mB M) pc = .ok (.ifCond .ge off, len)) (h : ab_ins M pc len (.ifCond .ge off) ls st k n g = some (.inr (.inl x))) (kk : so_KK p l e R s m args below meth c Q D ca ad base sp M x) : W p l e R s m args below meth c H locs k n Q (F0 m pc arr (st.map (so_v ad))) := by
  obtain ⟨hx, hb, hml, hown, hts, hR, hin, hK, ha⟩ := F
  simp only [ab_ins] at h
  split at h
  · rename_i v1 v2 v3
    obtain ⟨rfl, t, ht, rfl⟩ := ab_br_inv h
    refine lv_if_ge hx hb hd ht (fun hc => ?_) (fun hc => ?_)
    · have := kk _ _ _ hH hl hn
      have h1 : ab_c1 .ge v2 = true := by first | exact decide_eq_true hc | exact decide_eq_true (fun q => hc q)
      dsimp only at this
      rw [h1] at this
      exact this
    · have := kk _ _ _ hH hl hn
      have h1 : ab_c1 .ge v2 = false := by first | exact decide_eq_false hc | exact decide_eq_false (fun q => q hc)
      dsimp only at this
      rw [h1] at this
      exact this
  · cases h
theorem so_icmp_ge {off : Int} (F : so_F p R s m args meth c D ca ad base sp M) (hH : so_H D ca ad base sp g s H locs k) (hl : so_ls ad arr ls) (hn : ls.length = mL M) (hd : decode (mB M) pc = .ok (.if_icmp .ge off, len)) (h : ab_ins M pc len (.if_icmp .ge off) ls st k n g = some (.inr (.inl x))) (kk : so_KK p l e R s m args below meth c Q D ca ad base sp M x) : W p l e R s m args below meth c H locs k n Q (F0 m pc arr (st.map (so_v ad))) := by
  obtain ⟨hx, hb, hml, hown, hts, hR, hin, hK, ha⟩ := F
  simp only [ab_ins] at h
  split at h
  · rename_i v1 v2 v3
    obtain ⟨rfl, t, ht, rfl⟩ := ab_br_inv h
    refine lv_icmp_ge hx hb hd ht (fun hc => ?_) (fun hc => ?_)
    · have := kk _ _ _ hH hl hn
      have h1 : ab_c2 .ge v2 v1 = true := by first | exact decide_eq_true hc | exact decide_eq_true (fun q => hc q)
      dsimp only at this
      rw [h1] at this
      exact this
    · have := kk _ _ _ hH hl hn
      have h1 : ab_c2 .ge v2 v1 = false := by first | exact decide_eq_false hc | exact decide_eq_false (fun q => q hc)
      dsimp only at this
      rw [h1] at this
      exact this
  · cases h
theorem so_if_gt {off : Int} (F : so_F p R s m args meth c D ca ad base sp M) (hH : so_H D ca ad base sp g s H locs k) (hl : so_ls ad arr ls) (hn : ls.length = mL M) (hd : decode (mB M) pc = .ok (.ifCond .gt off, len)) (h : ab_ins M pc len (.ifCond .gt off) ls st k n g = some (.inr (.inl x))) (kk : so_KK p l e R s m args below meth c Q D ca ad base sp M x) : W p l e R s m args below meth c H locs k n Q (F0 m pc arr (st.map (so_v ad))) := by
  obtain ⟨hx, hb, hml, hown, hts, hR, hin, hK, ha⟩ := F
  simp only [ab_ins] at h
  split at h
  · rename_i v1 v2 v3
    obtain ⟨rfl, t, ht, rfl⟩ := ab_br_inv h
    refine lv_if_gt hx hb hd ht (fun hc => ?_) (fun hc => ?_)
    · have := kk _ _ _ hH hl hn
      have h1 : ab_c1 .gt v2 = true := by first | exact decide_eq_true hc | exact decide_eq_true (fun q => hc q)
      dsimp only at this
      rw [h1] at this
      exact this
    · have := kk _ _ _ hH hl hn
      have h1 : ab_c1 .gt v2 = false := by first | exact decide_eq_false hc | exact decide_eq_false (fun q => q hc)
      dsimp only at this
      rw [h1] at this
      exact this
  · cases h
theorem so_icmp_gt {off : Int} (F : so_F p R s m args meth c D ca ad base sp M) (hH : so_H D ca ad base sp g s H locs k) (hl : so_ls ad arr ls) (hn : ls.length = mL M) (hd : decode (mB M) pc = .ok (.if_icmp .gt off, len)) (h : ab_ins M pc len (.if_icmp .gt off) ls st k n g = some (.inr (.inl x))) (kk : so_KK p l e R s m args below meth c Q D ca ad base sp M x) : W p l e R s m args below meth c H locs k n Q (F0 m pc arr (st.map (so_v ad))) := by
  obtain ⟨hx, hb, hml, hown, hts, hR, hin, hK, ha⟩ := F
  simp only [ab_ins] at h
  split at h
  · rename_i v1 v2 v3
    obtain ⟨rfl, t, ht, rfl⟩ := ab_br_inv h
    refine lv_icmp_gt hx hb hd ht (fun hc => ?_) (fun hc => ?_)
    · have := kk _ _ _ hH hl hn
      have h1 : ab_c2 .gt v2 v1 = true := by first | exact decide_eq_true hc | exact decide_eq_true (fun q => hc q)
      dsimp only at this
      rw [h1] at this
      exact this
    · have := kk _ _ _ hH hl hn
      have h1 : ab_c2 .gt v2 v1 = false := by first | exact decide_eq_false hc | exact decide_eq_false (fun q => q hc)
      dsimp only at this
      rw [h1] at this
      exact this
  · cases h
theorem so_if_le {off : Int} (F : so_F p R s m args meth c D ca ad base sp M) (hH : so_H D ca ad base sp g s H locs k) (hl : so_ls ad arr ls) (hn : ls.length = mL M) (hd : decode (mB M) pc = .ok (.ifCond .le off, len)) (h : ab_ins M pc len (.ifCond .le off) ls st k n g = some (.inr (.inl x))) (kk : so_KK p l e R s m args below meth c Q D ca ad base sp M x) : W p l e R s m args below meth c H locs k n Q (F0 m pc arr (st.map (so_v ad))) := by
  obtain ⟨hx, hb, hml, hown, hts, hR, hin, hK, ha⟩ := F
  simp only [ab_ins] at h
  split at h
  · rename_i v1 v2 v3
    obtain ⟨rfl, t, ht, rfl⟩ := ab_br_inv h
    refine lv_if_le hx hb hd ht (fun hc => ?_) (fun hc => ?_)
    · have := kk _ _ _ hH hl hn
      have h1 : ab_c1 .le v2 = true := by first | exact decide_eq_true hc | exact decide_eq_true (fun q => hc q)
      dsimp only at this
      rw [h1] at this
      exact this
    · have := kk _ _ _ hH hl hn
      have h1 : ab_c1 .le v2 = false := by first | exact decide_eq_false hc | exact decide_eq_false (fun q => q hc)
      dsimp only at this
      rw [h1] at this
      exact this
  · cases h
theorem so_icmp_le {off : Int} (F : so_F p R s m args meth c D ca ad base sp M) (hH : so_H D ca ad base sp g s H locs k) (hl : so_ls ad arr ls) (hn : ls.length = mL M) (hd : decode (mB M) pc = .ok (.if_icmp .le off, len)) (h : ab_ins M pc len (.if_icmp .le off) ls st k n g = some (.inr (.inl x))) (kk : so_KK p l e R s m args below meth c Q D ca ad base sp M x) : W p l e R s m args below meth c H locs k n Q (F0 m pc arr (st.map (so_v ad))) := by
  obtain ⟨hx, hb, hml, hown, hts, hR, hin, hK, ha⟩ := F
  simp only [ab_ins] at h
  split at h
  · rename_i v1 v2 v3
    obtain ⟨rfl, t, ht, rfl⟩ := ab_br_inv h
    refine lv_icmp_le hx hb hd ht (fun hc => ?_) (fun hc => ?_)
    · have := kk _ _ _ hH hl hn
      have h1 : ab_c2 .le v2 v1 = true := by first | exact decide_eq_true hc | exact decide_eq_true (fun q => hc q)
      dsimp only at this
      rw [h1] at this
      exact this
    · have := kk _ _ _ hH hl hn
      have h1 : ab_c2 .le v2 v1 = false := by first | exact decide_eq_false hc | exact decide_eq_false (fun q => q hc)
      dsimp only at this
      rw [h1] at this
      exact this
  · cases h
theorem so_tsw {d lo hi : Int} {offs : Array Int} (F : so_F p R s m args meth c D ca ad base sp M) (hH : so_H D ca ad base sp g s H locs k) (hl : so_ls ad arr ls) (hn : ls.length = mL M) (hd : decode (mB M) pc = .ok (.tableswitch d lo hi offs, len)) (h : ab_ins M pc len (.tableswitch d lo hi offs) ls st k n g = some (.inr (.inl x))) (kk : so_KK p l e R s m args below meth c Q D ca ad base sp M x) : W p l e R s m args below meth c H locs k n Q (F0 m pc arr (st.map (so_v ad))) := by
  obtain ⟨hx, hb, hml, hown, hts, hR, hin, hK, ha⟩ := F
  simp only [ab_ins] at h
  split at h
  · split at h
    · rename_i t ht
      simp only [ab_ok, Option.some.injEq, Sum.inr.injEq, Sum.inl.injEq] at h
      subst h
      unfold ab_tab at ht
      split at ht
      · rename_i hc
        split at ht
        · cases ht
          exact lv_tableOut hx hb hd hc (by omega) (kk _ _ _ hH hl hn)
        · cases ht
      · rename_i hc
        split at ht
        · rename_i off ho
          split at ht
          · cases ht
            exact lv_tableIn hx hb hd (fun q => hc (Or.inl q)) (fun q => hc (Or.inr q)) ho (by omega) (kk _ _ _ hH hl hn)
          · cases ht
        · cases ht
    · cases h
  · cases h
theorem so_lsw {d : Int} {ps : Array (Int × Int)} (F : so_F p R s m args meth c D ca ad base sp M) (hH : so_H D ca ad base sp g s H locs k) (hl : so_ls ad arr ls) (hn : ls.length = mL M) (hd : decode (mB M) pc = .ok (.lookupswitch d ps, len)) (h : ab_ins M pc len (.lookupswitch d ps) ls st k n g = some (.inr (.inl x))) (kk : so_KK p l e R s m args below meth c Q D ca ad base sp M x) : W p l e R s m args below meth c H locs k n Q (F0 m pc arr (st.map (so_v ad))) := by
  obtain ⟨hx, hb, hml, hown, hts, hR, hin, hK, ha⟩ := F
  simp only [ab_ins] at h
  split at h
  · split at h
    · rename_i t ht
      simp only [ab_ok, Option.some.injEq, Sum.inr.injEq, Sum.inl.injEq] at h
      subst h
      unfold ab_lok at ht
      split at ht
      · rename_i hc
        cases ht
        exact lv_lookup hx hb hd hc.1 rfl (by omega) (kk _ _ _ hH hl hn)
      · cases ht
    · cases h
  · cases h
end STEP
