/-! the heap -/
set_option maxRecDepth 100000 in
theorem stat_1 : Cond.fieldLink (ab_cn 1) 18 "SaidMine$Keeping" "PRICE" "[I" ∈ gd := gd_in (List.mem_of_getElem? (i := 218) (by decide +kernel)) rfl
set_option maxRecDepth 100000 in
theorem stat_2 : Cond.fieldLink (ab_cn 4) 207 "SaidMine" "FACTORIAL" "[I" ∈ gd := gd_in (List.mem_of_getElem? (i := 639) (by decide +kernel)) rfl
section STEP2
variable {p : Program} {l : Launch} {e : Env} {R : Room} {s : State} {m : MethodId} {args : Array Value} {below : List Frame} {meth : Method} {c : Code} {Q : State → Prop}
variable {D : va_G} {ca : Nat → ClassId} {ad : Nat → Nat} {base : Nat} {sp : Nat → Nat × (Nat → Int32)} {M : Nat}
variable {pc len k n : Nat} {ls : List (Option Value)} {st : List Value} {g : ab_G} {x : ab_N} {H : Heap} {locs : List Loc} {arr : Array Slot}
theorem so_E_cg {ad : Nat → Nat} {ca : Nat → ClassId} {g g' : ab_G} {q : Nat} (h1 : g'.2.1 q = g.2.1 q) (h2 : g'.2.2.1 q = g.2.2.1 q) (h3 : g'.2.2.2.1 q = g.2.2.2.1 q) (h4 : g'.2.2.2.2 q = g.2.2.2.2 q) : so_E ad ca g' q = so_E ad ca g q := by
  have e : ∀ C, so_fv ad g' C q = so_fv ad g C q := fun C => by
    funext f
    simp only [so_fv, h2, h3, h4]
  simp only [so_E, h1, h2, h3, e]
theorem so_v_fv (ad : Nat → Nat) (g : ab_G) (C o f : Nat) : so_v ad (if ab_fk C f = 1 then rv (g.2.2.2.1 o f) else if ab_fk C f = 2 then .long (g.2.2.2.2 o f) else .int (g.2.2.1 o f)) = so_fv ad g C o f := by
  unfold so_fv
  split
  · exact so_v_rv ad _
  · split <;> rfl
theorem so_same {C f : Nat} (hC : C < 6) (hf : f < ab_nf C) : ∀ z, s.fieldFound? (ab_T C f).1 (ab_T C f).2.1 (ab_T C f).2.2.1 = some z → s.fieldFound? (ab_cn C) (ab_T C f).2.1 (ab_T C f).2.2.1 = some z := fun z hz => by
  rw [cl_own C hC f hf] at hz
  exact hz
theorem so_getf {idx : Nat} (F : so_F p R s m args meth c D ca ad base sp M) (hH : so_H D ca ad base sp g s H locs k) (hl : so_ls ad arr ls) (hn : ls.length = mL M) (hd : decode (mB M) pc = .ok (.getfield idx, len)) (h : ab_ins M pc len (.getfield idx) ls st k n g = some (.inr (.inl x))) (kk : so_KK p l e R s m args below meth c Q D ca ad base sp M x) : W p l e R s m args below meth c H locs k n Q (F0 m pc arr (st.map (so_v ad))) := by
  obtain ⟨hx, hb, hml, hown, hts, hR, hin, hK, ha⟩ := F
  simp only [ab_ins, ab_getf] at h
  split at h
  · split at h
    · rename_i o st' _ C f hf
      split at h
      · rename_i hc
        obtain ⟨rfl, rfl⟩ := ab_psh_inv h
        have hC : C < 6 := fld_C _ (ab_find_mem _ _ _ _ hf)
        refine va_get (own := ab_cn (mO M)) (ref := ab_cn C) (T := ab_T C) (v := so_fv ad g C o f) hx hb hts (cl_ws hC) hown hK.1 hH.1 o (by rw [so_W_at hc.1, so_EC hc.2.1 hC]) (cl_at hC) f hc.2.2 (hts _ (fld_lk hf)) (so_same hC hc.2.2) (by simp [hc.2.2]) hd ?_
        rw [← so_v_fv]
        exact kk _ _ _ hH hl hn
      · cases h
    · cases h
  · cases h
theorem so_fv_set (ad : Nat → Nat) {g g' : ab_G} {C o f : Nat} {v : Value} (hf : f < ab_nf C) (hv : so_fv ad g' C o f = v) (ho : ∀ j, j ≠ f → so_fv ad g' C o j = so_fv ad g C o j) : (List.range (ab_nf C)).map (so_fv ad g' C o) = ((List.range (ab_nf C)).map (so_fv ad g C o)).set f v := by
  apply List.ext_getElem?
  intro i
  by_cases hi : i < ab_nf C
  · by_cases hif : i = f
    · subst hif
      rw [List.getElem?_set_self (by simpa using hi)]
      simp [hi, hv]
    · rw [List.getElem?_set_ne (Ne.symm hif)]
      simp [hi, ho i hif]
  · have h1 : ((List.range (ab_nf C)).map (so_fv ad g' C o))[i]? = none := by rw [List.getElem?_eq_none_iff]; simpa using hi
    have h2 : (((List.range (ab_nf C)).map (so_fv ad g C o)).set f v)[i]? = none := by rw [List.getElem?_eq_none_iff]; simpa using hi
    rw [h1, h2]
theorem ab_puti_inv {ad : Nat → Nat} {ca : Nat → ClassId} {C f o : Nat} {g g' : ab_G} {v : Value} (hC : C < 6) (hf : f < ab_nf C) (hk : (g.2.1 o).1 = C) (h : ab_puti M C f g o v = some g') :
    g'.1 = g.1 ∧ g'.2.1 = g.2.1 ∧ (∀ q, q ≠ o → g'.2.2.1 q = g.2.2.1 q) ∧ so_E ad ca g' o = .inr (C, ((List.range (ab_nf C)).map (so_fv ad g C o)).set f (so_v ad v)) ∧ (∀ q, q ≠ o → so_E ad ca g' q = so_E ad ca g q) ∧
    narrow (ab_ty C f) (so_v ad v) = so_v ad v ∧ fits (ab_ty C f) (so_v ad v) = true := by
  have hfk := cl_fk C hC f hf
  have key : ∀ g2 : ab_G, g2.1 = g.1 → g2.2.1 = g.2.1 → so_fv ad g2 C o f = so_v ad v → (∀ j, j ≠ f → so_fv ad g2 C o j = so_fv ad g C o j) → so_E ad ca g2 o = .inr (C, ((List.range (ab_nf C)).map (so_fv ad g C o)).set f (so_v ad v)) := by
    intro g2 h1 h2 h3 h4
    rw [so_EC (by rw [h2]; exact hk) hC, so_fv_set ad hf h3 h4]
  unfold ab_puti at h
  split at h
  · rename_i y
    split at h
    · rename_i hc
      cases h
      have hne1 : ab_fk C f ≠ 1 := by rcases hc with q | q <;> omega
      have hne2 : ab_fk C f ≠ 2 := by rcases hc with q | q <;> omega
      refine ⟨rfl, rfl, fun q hq => ?_, key _ rfl rfl ?_ (fun j hj => ?_), fun q hq => ?_, ?_⟩
      · funext j; simp [wI, hq]
      · simp [so_fv, hne1, hne2, wI, so_v]
      · simp [so_fv, wI, hj]
      · exact so_E_cg rfl (by funext j; simp [wI, hq]) rfl rfl
      · rcases hc with q | q
        · rw [q] at hfk
          cases hty : ab_ty C f <;> rw [hty] at hfk <;> simp [fk_of] at hfk
          exact ⟨rfl, rfl⟩
        · rw [q.1] at hfk
          cases hty : ab_ty C f <;> rw [hty] at hfk <;> simp [fk_of] at hfk
          rcases q.2 with z | z <;> subst z <;> exact ⟨rfl, rfl⟩
    · cases h
  · rename_i y
    split at h
    · rename_i hc
      cases h
      refine ⟨rfl, rfl, fun q hq => rfl, key _ rfl rfl ?_ (fun j hj => ?_), fun q hq => ?_, ?_⟩
      · simp [so_fv, hc, wR, so_v, so_r, va_rf]
      · simp [so_fv, wR, hj]
      · exact so_E_cg rfl rfl (by funext j; simp [wR, hq]) rfl
      · rw [hc] at hfk
        cases hty : ab_ty C f <;> rw [hty] at hfk <;> simp [fk_of] at hfk <;> exact ⟨rfl, rfl⟩
    · cases h
  · rename_i y
    split at h
    · rename_i hc
      cases h
      refine ⟨rfl, rfl, fun q hq => rfl, key _ rfl rfl ?_ (fun j hj => ?_), fun q hq => ?_, ?_⟩
      · simp [so_fv, hc, wL, so_v]
      · simp [so_fv, wL, hj]
      · exact so_E_cg rfl rfl rfl (by funext j; simp [wL, hq])
      · rw [hc] at hfk
        cases hty : ab_ty C f <;> rw [hty] at hfk <;> simp [fk_of] at hfk
        exact ⟨rfl, rfl⟩
    · cases h
  · cases h
theorem so_putf {idx : Nat} (F : so_F p R s m args meth c D ca ad base sp M) (hH : so_H D ca ad base sp g s H locs k) (hl : so_ls ad arr ls) (hn : ls.length = mL M) (hd : decode (mB M) pc = .ok (.putfield idx, len)) (h : ab_ins M pc len (.putfield idx) ls st k n g = some (.inr (.inl x))) (kk : so_KK p l e R s m args below meth c Q D ca ad base sp M x) : W p l e R s m args below meth c H locs k n Q (F0 m pc arr (st.map (so_v ad))) := by
  obtain ⟨hx, hb, hml, hown, hts, hR, hin, hK, ha⟩ := F
  simp only [ab_ins, ab_putf] at h
  split at h
  · split at h
    · rename_i v o st' _ C f hf
      split at h
      · rename_i hc
        split at h
        · rename_i g' hg'
          obtain ⟨rfl, rfl⟩ := ab_psh_inv h
          have hC : C < 6 := fld_C _ (ab_find_mem _ _ _ _ hf)
          obtain ⟨i1, i2, i3, i4, i5, i6, i7⟩ := ab_puti_inv (ad := ad) (ca := ca) hC hc.2.2.1 hc.2.1 hg'
          have hset : (so_W ad ca g).set o (ad o, .inr (C, ((List.range (ab_nf C)).map (so_fv ad g C o)).set f (so_v ad v))) = so_W ad ca g' := so_W_set i1 i4 i5
          have ho3 : (o : Nat) < 1000 := Nat.lt_of_lt_of_le hc.1 hH.2.2.2.1
          have fin : ∀ (H1 : Heap) (locs1 : List Loc), va_P D vwCl ((so_W ad ca g).set o (ad o, .inr (C, ((List.range (ab_nf C)).map (so_fv ad g C o)).set f (so_v ad v)))) H1 → va_D (so_A base) ((so_W ad ca g).set o (ad o, .inr (C, ((List.range (ab_nf C)).map (so_fv ad g C o)).set f (so_v ad v)))) → va_S (so_A base) s.heap H1 locs1 → W p l e R s m args below meth c H1 locs1 k n Q (F0 m (pc + 3) arr (st'.map (so_v ad))) := by
            intro H1 locs1 q1 q2 q3
            rw [hset] at q1
            exact kk _ _ _ ⟨q1, by show _ = base + g'.1; rw [i1]; exact hH.2.1, q3, by show g'.1 ≤ 1000; rw [i1]; exact hH.2.2.2.1, fun z z1 z2 => by
              show g'.2.1 z = _ ∧ g'.2.2.1 z = _
              rw [i2, i3 z (fun q => Nat.not_lt.mpr z1 (q ▸ ho3))]
              exact hH.2.2.2.2 z z1 z2⟩ hl hn
          by_cases hff : ab_ff C f = true
          · obtain ⟨hM1, hM2⟩ : mI M = true ∧ mO M = C := by
              rcases hc.2.2.2 with q | q
              · rw [hff] at q; cases q
              · exact q
            exact va_putF (own := ab_cn (mO M)) (ref := ab_cn C) (T := ab_T C) hx hb hts (cl_ws hC) (ab_ty C) (cl_ty hC) (cl_nm hC) hown hK.1 hH.1 (so_D ha hH.2.2.2.1) hH.2.2.1 o (by rw [so_W_at hc.1, so_EC hc.2.1 hC]) (cl_at hC) f hc.2.2.1 (hts _ (fld_lk hf)) (so_same hC hc.2.2.1) (by rw [cl_ff C hC f hc.2.2.1]; exact hff) (hin hM1) (by rw [cl_own C hC f hc.2.2.1, hM2]) (cl_ty hC f hc.2.2.1) i6 i7 (by simpa using hc.2.2.1) hd fin
          · exact va_put (own := ab_cn (mO M)) (ref := ab_cn C) (T := ab_T C) hx hb hts (cl_ws hC) (ab_ty C) (cl_ty hC) (cl_nm hC) hown hK.1 hH.1 (so_D ha hH.2.2.2.1) hH.2.2.1 o (by rw [so_W_at hc.1, so_EC hc.2.1 hC]) (cl_at hC) f hc.2.2.1 (hts _ (fld_lk hf)) (so_same hC hc.2.2.1) (by rw [cl_ff C hC f hc.2.2.1]; simpa using hff) (cl_ty hC f hc.2.2.1) i6 i7 (by simpa using hc.2.2.1) hd fin
        · cases h
      · cases h
    · cases h
  · cases h
theorem so_S0 (hH : so_H D ca ad base sp g s H locs k) : va_S (so_A base) s.heap H locs := hH.2.2.1
theorem so_gets {idx : Nat} (F : so_F p R s m args meth c D ca ad base sp M) (hH : so_H D ca ad base sp g s H locs k) (hl : so_ls ad arr ls) (hn : ls.length = mL M) (hd : decode (mB M) pc = .ok (.getstatic idx, len)) (h : ab_ins M pc len (.getstatic idx) ls st k n g = some (.inr (.inl x))) (kk : so_KK p l e R s m args below meth c Q D ca ad base sp M x) : W p l e R s m args below meth c H locs k n Q (F0 m pc arr (st.map (so_v ad))) := by
  obtain ⟨hx, hb, hml, hown, hts, hR, hin, hK, ha⟩ := F
  simp only [ab_ins] at h
  split at h
  · rename_i o ho
    obtain ⟨rfl, rfl⟩ := ab_psh_inv h
    have hm := ab_find_mem _ _ _ _ ho
    have hm : (mO M, idx, o) = (1, 18, 1001) ∨ (mO M, idx, o) = (4, 207, 1002) := by simpa [ab_stat] using hm
    rcases hm with q | q
    · simp only [Prod.mk.injEq] at q
      obtain ⟨q1, rfl, rfl⟩ := q
      refine va_gets (C := "SaidMine$Keeping") (n := "PRICE") (d := "[I") (own := ab_cn (mO M)) (ref := "SaidMine$Keeping") hx hb hK.2.1 hH.2.2.1 hown (hts _ ?_) (fun _ q => q) hd (kk _ _ _ hH hl hn)
      rw [q1]
      exact stat_1
    · simp only [Prod.mk.injEq] at q
      obtain ⟨q1, rfl, rfl⟩ := q
      refine va_gets (C := "SaidMine") (n := "FACTORIAL") (d := "[I") (own := ab_cn (mO M)) (ref := "SaidMine") hx hb hK.2.2.1 hH.2.2.1 hown (hts _ ?_) (fun _ q => q) hd (kk _ _ _ hH hl hn)
      rw [q1]
      exact stat_2
  · cases h
theorem so_iaload (F : so_F p R s m args meth c D ca ad base sp M) (hH : so_H D ca ad base sp g s H locs k) (hl : so_ls ad arr ls) (hn : ls.length = mL M) (hd : decode (mB M) pc = .ok (.iaload, len)) (h : ab_ins M pc len (.iaload) ls st k n g = some (.inr (.inl x))) (kk : so_KK p l e R s m args below meth c Q D ca ad base sp M x) : W p l e R s m args below meth c H locs k n Q (F0 m pc arr (st.map (so_v ad))) := by
  obtain ⟨hx, hb, hml, hown, hts, hR, hin, hK, ha⟩ := F
  simp only [ab_ins, ab_ald] at h
  split at h
  · rename_i i o st'
    split at h
    · rename_i hc
      obtain ⟨rfl, rfl⟩ := ab_psh_inv h
      have hi := ab_ix_in hc.2.2
      have kk2 := kk _ _ _ hH hl hn
      rw [if_neg (by decide)] at kk2
      rcases hc.1 with ho | ho
      · exact va_iald hx hb hK.1 hH.1 o 0 (by rw [so_W_at ho, so_E10 hc.2.1]) rfl hi hd kk2
      · have hs := hH.2.2.2.2 o ho.1 ho.2.1
        rw [hs.1] at hi
        simp only [hs.2] at kk2
        exact va_ti hx hb (hK.2.2.2.1 o ho.1 ho.2.1) hH.2.2.1 hi rfl hd kk2
    · cases h
  · cases h
theorem so_baload (F : so_F p R s m args meth c D ca ad base sp M) (hH : so_H D ca ad base sp g s H locs k) (hl : so_ls ad arr ls) (hn : ls.length = mL M) (hd : decode (mB M) pc = .ok (.baload, len)) (h : ab_ins M pc len (.baload) ls st k n g = some (.inr (.inl x))) (kk : so_KK p l e R s m args below meth c Q D ca ad base sp M x) : W p l e R s m args below meth c H locs k n Q (F0 m pc arr (st.map (so_v ad))) := by
  obtain ⟨hx, hb, hml, hown, hts, hR, hin, hK, ha⟩ := F
  simp only [ab_ins, ab_ald] at h
  split at h
  · rename_i i o st'
    split at h
    · rename_i hc
      obtain ⟨rfl, rfl⟩ := ab_psh_inv h
      have hi := ab_ix_in hc.2.2
      have kk2 := kk _ _ _ hH hl hn
      rw [if_neg (by decide)] at kk2
      rcases hc.1 with ho | ho
      · exact va_zald hx hb hK.1 hH.1 o 1 (by rw [so_W_at ho, so_E11 hc.2.1]) rfl hi hd kk2
      · exact absurd ho.2.2 (by decide)
    · cases h
  · cases h
theorem so_aaload (F : so_F p R s m args meth c D ca ad base sp M) (hH : so_H D ca ad base sp g s H locs k) (hl : so_ls ad arr ls) (hn : ls.length = mL M) (hd : decode (mB M) pc = .ok (.aaload, len)) (h : ab_ins M pc len (.aaload) ls st k n g = some (.inr (.inl x))) (kk : so_KK p l e R s m args below meth c Q D ca ad base sp M x) : W p l e R s m args below meth c H locs k n Q (F0 m pc arr (st.map (so_v ad))) := by
  obtain ⟨hx, hb, hml, hown, hts, hR, hin, hK, ha⟩ := F
  simp only [ab_ins, ab_ald] at h
  split at h
  · rename_i i o st'
    split at h
    · rename_i hc
      obtain ⟨rfl, rfl⟩ := ab_psh_inv h
      have hi := ab_ix_in hc.2.2
      have kk2 := kk _ _ _ hH hl hn
      rw [if_pos trivial] at kk2
      rcases hc.1 with ho | ho
      · refine va_aldq (C := "SaidMine$Shore") hx hb hK.1 hH.1 o 2 (by rw [so_W_at ho, so_E12 hc.2.1]) rfl hi hd ?_
        rw [← so_v_rv]
        exact kk2
      · exact absurd ho.2.2 (by decide)
    · cases h
  · cases h
theorem wI_at (I : ab_I) (o j : Nat) (y : Int32) : wI I o j y o = upd (I o) j y := by
  funext t
  simp [wI, upd]
theorem so_wI_oth {o j : Nat} {y : Int32} (q : Nat) (hq : q ≠ o) : so_E ad ca (g.1, g.2.1, wI g.2.2.1 o j y, g.2.2.2.1, g.2.2.2.2) q = so_E ad ca g q := by
  exact so_E_cg rfl (by funext j; simp [wI, hq]) rfl rfl
theorem so_H_wI {o j : Nat} {y : Int32} {H1 : Heap} {locs1 : List Loc} (hH : so_H D ca ad base sp g s H locs k) (ho : o < g.1) (q1 : va_P D vwCl (so_W ad ca (g.1, g.2.1, wI g.2.2.1 o j y, g.2.2.2.1, g.2.2.2.2)) H1) (q3 : va_S (so_A base) s.heap H1 locs1) : so_H D ca ad base sp (g.1, g.2.1, wI g.2.2.1 o j y, g.2.2.2.1, g.2.2.2.2) s H1 locs1 k := by
  refine ⟨q1, hH.2.1, q3, hH.2.2.2.1, fun z z1 z2 => ⟨(hH.2.2.2.2 z z1 z2).1, ?_⟩⟩
  have := hH.2.2.2.1
  rw [← (hH.2.2.2.2 z z1 z2).2]
  funext t
  simp [wI, show z ≠ o by omega]
theorem so_iastore (F : so_F p R s m args meth c D ca ad base sp M) (hH : so_H D ca ad base sp g s H locs k) (hl : so_ls ad arr ls) (hn : ls.length = mL M) (hd : decode (mB M) pc = .ok (.iastore, len)) (h : ab_ins M pc len (.iastore) ls st k n g = some (.inr (.inl x))) (kk : so_KK p l e R s m args below meth c Q D ca ad base sp M x) : W p l e R s m args below meth c H locs k n Q (F0 m pc arr (st.map (so_v ad))) := by
  obtain ⟨hx, hb, hml, hown, hts, hR, hin, hK, ha⟩ := F
  simp only [ab_ins, ab_ast] at h
  split at h
  · rename_i y i o st'
    split at h
    · rename_i hc
      obtain ⟨rfl, rfl⟩ := ab_psh_inv h
      have hi := ab_ix_in hc.2.2.1
      refine va_iast hx hb hK.1 hH.1 (so_D ha hH.2.2.2.1) hH.2.2.1 o 0 (by rw [so_W_at hc.1, so_E10 hc.2.1]) rfl hi hd fun H1 locs1 q1 q2 q3 => ?_
      have he : so_E ad ca (g.1, g.2.1, wI g.2.2.1 o i.toNatClampNeg y, g.2.2.2.1, g.2.2.2.2) o = .inl (ca 0, (g.2.1 o).2, .inl (upd (g.2.2.1 o) i.toNatClampNeg y)) := by
        rw [so_E10 (by exact hc.2.1)]
        simp only [wI_at]
      rw [so_W_set (g := g) (o := o) (ad := ad) (ca := ca) (g' := (g.1, g.2.1, wI g.2.2.1 o i.toNatClampNeg y, g.2.2.2.1, g.2.2.2.2)) rfl he (fun q hq => so_wI_oth q hq)] at q1
      exact kk _ _ _ (so_H_wI hH hc.1 q1 q3) hl hn
    · cases h
  · cases h
theorem so_bastore (F : so_F p R s m args meth c D ca ad base sp M) (hH : so_H D ca ad base sp g s H locs k) (hl : so_ls ad arr ls) (hn : ls.length = mL M) (hd : decode (mB M) pc = .ok (.bastore, len)) (h : ab_ins M pc len (.bastore) ls st k n g = some (.inr (.inl x))) (kk : so_KK p l e R s m args below meth c Q D ca ad base sp M x) : W p l e R s m args below meth c H locs k n Q (F0 m pc arr (st.map (so_v ad))) := by
  obtain ⟨hx, hb, hml, hown, hts, hR, hin, hK, ha⟩ := F
  simp only [ab_ins, ab_ast] at h
  split at h
  · rename_i y i o st'
    split at h
    · rename_i hc
      obtain ⟨rfl, rfl⟩ := ab_psh_inv h
      have hi := ab_ix_in hc.2.2.1
      refine va_zast hx hb hK.1 hH.1 (so_D ha hH.2.2.2.1) hH.2.2.1 o 1 (by rw [so_W_at hc.1, so_E11 hc.2.1]) rfl hi hd fun H1 locs1 q1 q2 q3 => ?_
      have he : so_E ad ca (g.1, g.2.1, wI g.2.2.1 o i.toNatClampNeg y, g.2.2.2.1, g.2.2.2.2) o = .inl (ca 1, (g.2.1 o).2, .inl (upd (g.2.2.1 o) i.toNatClampNeg y)) := by
        rw [so_E11 (by exact hc.2.1)]
        simp only [wI_at]
      have hnb : vp_nar .boolean y = y := by
        rcases hc.2.2.2 with z | z
        · exact absurd z (by decide)
        · rcases z.2 with z | z <;> subst z <;> rfl
      rw [hnb] at q1
      rw [so_W_set (g := g) (o := o) (ad := ad) (ca := ca) (g' := (g.1, g.2.1, wI g.2.2.1 o i.toNatClampNeg y, g.2.2.2.1, g.2.2.2.2)) rfl he (fun q hq => so_wI_oth q hq)] at q1
      exact kk _ _ _ (so_H_wI hH hc.1 q1 q3) hl hn
    · cases h
  · cases h
theorem so_wR_at (ad : Nat → Nat) (Rr : ab_R) (o j v : Nat) : (fun t => so_r ad (wR Rr o j (v + 1) o t)) = va_up (fun t => so_r ad (Rr o t)) j (some (ad v)) := by
  funext t
  by_cases h : t = j
  · simp [wR, va_up, so_r, h]
  · simp [wR, va_up, h]
theorem so_aastore (F : so_F p R s m args meth c D ca ad base sp M) (hH : so_H D ca ad base sp g s H locs k) (hl : so_ls ad arr ls) (hn : ls.length = mL M) (hd : decode (mB M) pc = .ok (.aastore, len)) (h : ab_ins M pc len (.aastore) ls st k n g = some (.inr (.inl x))) (kk : so_KK p l e R s m args below meth c Q D ca ad base sp M x) : W p l e R s m args below meth c H locs k n Q (F0 m pc arr (st.map (so_v ad))) := by
  obtain ⟨hx, hb, hml, hown, hts, hR, hin, hK, ha⟩ := F
  simp only [ab_ins, ab_aast] at h
  split at h
  · rename_i v i o st'
    split at h
    · rename_i hc
      obtain ⟨rfl, rfl⟩ := ab_psh_inv h
      have hi := ab_ix_in hc.2.2.1
      refine va_astq (r := (ab_cn 3, ab_T 3, ab_nf 3)) hx hb hK.1 hH.1 (so_D ha hH.2.2.2.1) hH.2.2.1 o 2 v 3 (by rw [so_W_at hc.1, so_E12 hc.2.1]) rfl (by rw [so_W_at hc.2.2.2.1, so_EC hc.2.2.2.2 (by decide)]) (cl_at (by decide)) hi hd fun H1 locs1 q1 q2 q3 => ?_
      rw [so_W_set (g := g) (o := o) (ad := ad) (ca := ca) (g' := (g.1, g.2.1, g.2.2.1, wR g.2.2.2.1 o i.toNatClampNeg (v + 1), g.2.2.2.2)) rfl (by
        rw [so_E12 (by exact hc.2.1)]
        exact congrArg (fun z : Nat → Option Nat => (Sum.inl (ca 2, (g.2.1 o).2, Sum.inr (Sum.inr (Sum.inr (Sum.inr z)))) : va_E)) (so_wR_at ad g.2.2.2.1 o i.toNatClampNeg v)) (fun q hq => by
        exact so_E_cg rfl rfl (by funext j; simp [wR, hq]) rfl)] at q1
      exact kk _ _ _ ⟨q1, hH.2.1, q3, hH.2.2.2.1, hH.2.2.2.2⟩ hl hn
    · cases h
  · cases h
theorem so_alen (F : so_F p R s m args meth c D ca ad base sp M) (hH : so_H D ca ad base sp g s H locs k) (hl : so_ls ad arr ls) (hn : ls.length = mL M) (hd : decode (mB M) pc = .ok (.arraylength, len)) (h : ab_ins M pc len (.arraylength) ls st k n g = some (.inr (.inl x))) (kk : so_KK p l e R s m args below meth c Q D ca ad base sp M x) : W p l e R s m args below meth c H locs k n Q (F0 m pc arr (st.map (so_v ad))) := by
  obtain ⟨hx, hb, hml, hown, hts, hR, hin, hK, ha⟩ := F
  simp only [ab_ins, ab_alen] at h
  split at h
  · rename_i o st'
    split at h
    · rename_i hc
      obtain ⟨rfl, rfl⟩ := ab_psh_inv h
      have kk2 := kk _ _ _ hH hl hn
      rcases hc.1 with ho | ho
      · exact va_alen (x := (((g.2.1 o).2, .inl (g.2.2.1 o)) : vp_A)) hx hb hK.1 hH.1 o 0 (by rw [so_W_at ho, so_E10 hc.2]) rfl rfl hd kk2
      · have hs := hH.2.2.2.2 o ho.1 ho.2
        simp only [hs.1] at kk2
        exact va_tlen hx hb (hK.2.2.2.1 o ho.1 ho.2) hH.2.2.1 rfl hd kk2
    · cases h
  · cases h
end STEP2
