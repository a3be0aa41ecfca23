/-! making cells; the two native roads -/
set_option maxRecDepth 100000 in
theorem gd_acn : Cond.native arraycopyName ∈ gd := gd_in (List.mem_of_getElem? (i := 393) (by decide +kernel)) rfl
set_option maxRecDepth 100000 in
theorem gd_acs : Cond.static arraycopyName ∈ gd := gd_in (List.mem_of_getElem? (i := 392) (by decide +kernel)) rfl
set_option maxRecDepth 100000 in
theorem gd_aci : (Jvm.Cond.initialized "java/lang/System") ∈ gd := gd_in (List.mem_of_getElem? (i := 76) (by decide +kernel)) rfl
set_option maxRecDepth 100000 in
theorem gd_ai : Cond.arrayClass .int ∈ gd := gd_in (List.mem_of_getElem? (i := 105) (by decide +kernel)) rfl
set_option maxRecDepth 100000 in
theorem gd_az : Cond.arrayClass .boolean ∈ gd := gd_in (List.mem_of_getElem? (i := 884) (by decide +kernel)) rfl
set_option maxRecDepth 100000 in
theorem gd_ms_max : Cond.static Lib.Math.max.name ∈ gd := gd_in (List.mem_of_getElem? (i := 414) (by decide +kernel)) rfl
set_option maxRecDepth 100000 in
theorem gd_mc_max : Cond.code Lib.Math.max.name Lib.Math.max.code 2 (some .int) ∈ gd := gd_in (List.mem_of_getElem? (i := 415) (by decide +kernel)) rfl
theorem site_max : ∀ q ∈ ab_site, q.2.2.1 = 8 → q ∈ wk_lk.map (fun z => z.2) ∧ mY q.2.2.2 = Lib.Math.max.name := by decide +kernel
set_option maxRecDepth 100000 in
theorem gd_ms_min : Cond.static Lib.Math.min.name ∈ gd := gd_in (List.mem_of_getElem? (i := 309) (by decide +kernel)) rfl
set_option maxRecDepth 100000 in
theorem gd_mc_min : Cond.code Lib.Math.min.name Lib.Math.min.code 2 (some .int) ∈ gd := gd_in (List.mem_of_getElem? (i := 310) (by decide +kernel)) rfl
theorem site_min : ∀ q ∈ ab_site, q.2.2.1 = 9 → q ∈ wk_lk.map (fun z => z.2) ∧ mY q.2.2.2 = Lib.Math.min.name := by decide +kernel
set_option maxRecDepth 100000 in
theorem gd_ms_abs : Cond.static Lib.Math.abs.name ∈ gd := gd_in (List.mem_of_getElem? (i := 426) (by decide +kernel)) rfl
set_option maxRecDepth 100000 in
theorem gd_mc_abs : Cond.code Lib.Math.abs.name Lib.Math.abs.code 1 (some .int) ∈ gd := gd_in (List.mem_of_getElem? (i := 427) (by decide +kernel)) rfl
theorem site_abs : ∀ q ∈ ab_site, q.2.2.1 = 10 → q ∈ wk_lk.map (fun z => z.2) ∧ mY q.2.2.2 = Lib.Math.abs.name := by decide +kernel
set_option maxRecDepth 100000 in
theorem gd_mi : (Jvm.Cond.initialized "java/lang/Math") ∈ gd := gd_in (List.mem_of_getElem? (i := 75) (by decide +kernel)) rfl
set_option maxRecDepth 100000 in
theorem gd_oii : Cond.instanceMethod Lib.objectInit ∈ gd := gd_in (List.mem_of_getElem? (i := 84) (by decide +kernel)) rfl
theorem gd_oic : Cond.code Lib.objectInit ⟨#[0xb1]⟩ 1 none ∈ gd := gd_in (List.mem_filter.mp (by rw [wk_co_ok]; exact List.mem_append_right _ List.mem_cons_self : Cond.code Lib.objectInit ⟨#[0xb1]⟩ 1 none ∈ lw_tbl.filter k2_isCode)).1 rfl
theorem nfw : nativeFrameWords "java/lang/System" "arraycopy" 5 = 7 := by decide +kernel
theorem site6 : ∀ q ∈ ab_site, q.2.2.1 = 6 → (q.1, q.2.1) ∈ wk_oi.map (fun z => z.2) := by decide +kernel
theorem site7 : ∀ q ∈ ab_site, q.2.2.1 = 7 → (q.1, q.2.1) ∈ wk_ac.map (fun z => z.2) := by decide +kernel
theorem so_wt (ad : Nat → Nat) : ∀ st : List Value, ((st.map (so_v ad)).map fun v => v.category).sum = ab_wt st
  | [] => rfl
  | v :: st => by
    rw [List.map_cons, List.map_cons, List.sum_cons, so_wt ad st, so_v_cat]
    rfl
theorem cl_fk03 : ∀ C, C < 6 → ∀ j, j < ab_nf C → ab_fk C j ≠ 1 → ab_fk C j ≠ 2 → ab_fk C j = 0 ∨ ab_fk C j = 3 := by decide +kernel
section STEP3
variable {p : Program} {l : Launch} {e : Env} {R : Room} {s : State} {m : MethodId} {args : Array Value} {below : List Frame} {meth : Method} {c : Code} {Q : State → Prop}
variable {D : va_G} {ca : Nat → ClassId} {ad : Nat → Nat} {base : Nat} {sp : Nat → Nat × (Nat → Int32)} {M : Nat}
variable {pc len k n : Nat} {ls : List (Option Value)} {st : List Value} {g : ab_G} {x : ab_N} {H : Heap} {locs : List Loc} {arr : Array Slot}
theorem so_size (ha : so_adOK base ad) (hb : base ≤ s.heap.size) (hH : so_H D ca ad base sp g s H locs k) {T : State} (hT : T.heap = H) (X : Stand p l e R s m args below meth c T locs k n) : H.size = base + g.1 := by
  have h1 : T.heap.size ≤ s.heap.size + k := X.same.2.2.1
  rw [hT] at h1
  have h2 := hH.2.1
  have h3 : s.heap.size ≤ H.size := hH.2.2.1.1
  by_cases h0 : g.1 = 0
  · omega
  · have h4 := (hH.1 (g.1 - 1) _ (so_W_at (ad := ad) (ca := ca) (show g.1 - 1 < g.1 by omega))).lt
    have h5 : ad (g.1 - 1) = base + (g.1 - 1) := ha _ (by have := hH.2.2.2.1; omega)
    have h6 : ad (g.1 - 1) < H.size := h4
    omega
theorem so_sz {gF : JFrame} (ha : so_adOK base ad) (hb : base ≤ s.heap.size) (hH : so_H D ca ad base sp g s H locs k) (f : H.size = base + g.1 → W p l e R s m args below meth c H locs k n Q gF) : W p l e R s m args below meth c H locs k n Q gF := fun T hT X => f (so_size ha hb hH hT X) T hT X
/-- one more cell -/
theorem so_H_push {g' : ab_G} {H1 : Heap} {e0 : va_E} (ha : so_adOK base ad) (hH : so_H D ca ad base sp g s H locs k) (hz : H.size = base + g.1) (hg : g.1 < 1000) (h1 : g'.1 = g.1 + 1) (he : so_E ad ca g' g.1 = e0) (ho : ∀ q, q < g.1 → so_E ad ca g' q = so_E ad ca g q)
    (hsp : ∀ q, 1000 ≤ q → g'.2.1 q = g.2.1 q ∧ g'.2.2.1 q = g.2.2.1 q) (hc : va_at D vwCl (base + g.1, e0) H1) (hz1 : H1.size = base + g.1 + 1) (hk : ∀ q, q < base + g.1 → H1[q]? = H[q]?) : so_H D ca ad base sp g' s H1 locs (k + 1) := by
  have hS := hH.2.2.1
  refine ⟨?_, by rw [h1]; have := hH.2.1; omega, ⟨by have := hS.1; omega, fun q q1 q2 => ?_, hS.2.2⟩, by omega, fun q q1 q2 => ?_⟩
  · rw [so_W_push h1 he ho]
    refine va_P.app (hH.1.kept fun t q hq => hk q.1 ?_) (fun t q hq => ?_)
    · have := (hH.1 t q hq).lt
      omega
    · have ht : t < 1 := (List.getElem?_eq_some_iff.mp hq).1
      rw [show t = 0 by omega] at hq
      cases hq
      rw [ha g.1 hg]
      exact hc
  · rw [hk q (by have := hS.1; omega)]
    exact hS.2.1 q q1 q2
  · rw [(hsp q q1).1, (hsp q q1).2]
    exact hH.2.2.2.2 q q1 q2
theorem so_mk_oth {kd z : Nat} (q : Nat) (hq : q < g.1) : so_E ad ca (ab_mk g kd z) q = so_E ad ca g q := by
  have hne : q ≠ g.1 := by omega
  exact so_E_cg (by simp [ab_mk, hne]) (by funext j; simp [ab_mk, hne]) (by funext j; simp [ab_mk, hne]) (by funext j; simp [ab_mk, hne])
theorem so_mk_sp {kd z : Nat} (hg : g.1 < 1000) (q : Nat) (hq : 1000 ≤ q) : (ab_mk g kd z).2.1 q = g.2.1 q ∧ (ab_mk g kd z).2.2.1 q = g.2.2.1 q := by
  have hne : q ≠ g.1 := by omega
  exact ⟨by simp [ab_mk, hne], by funext j; simp [ab_mk, hne]⟩
theorem so_mk_def {C j : Nat} (hC : C < 6) (hj : j < ab_nf C) : defaultValue (ab_ty C j) = so_fv ad (ab_mk g C 0) C g.1 j := by
  have hfk := cl_fk C hC j hj
  unfold so_fv
  by_cases h1 : ab_fk C j = 1
  · rw [if_pos h1]
    rw [h1] at hfk
    cases hty : ab_ty C j <;> rw [hty] at hfk <;> simp [fk_of] at hfk <;> simp [ab_mk, so_r, va_rf, defaultValue]
  · rw [if_neg h1]
    by_cases h2 : ab_fk C j = 2
    · rw [if_pos h2]
      rw [h2] at hfk
      cases hty : ab_ty C j <;> rw [hty] at hfk <;> simp [fk_of] at hfk
      simp [ab_mk, defaultValue]
    · rw [if_neg h2]
      have h3 : ab_fk C j = 0 ∨ ab_fk C j = 3 := cl_fk03 C hC j hj h1 h2
      rcases h3 with h3 | h3 <;> rw [h3] at hfk <;> cases hty : ab_ty C j <;> rw [hty] at hfk <;> simp [fk_of] at hfk <;> simp [ab_mk, defaultValue]
theorem so_new {idx : Nat} (F : so_F p R s m args meth c D ca ad base sp M) (hH : so_H D ca ad base sp g s H locs k) (hl : so_ls ad arr ls) (hn : ls.length = mL M) (hd : decode (mB M) pc = .ok (.new idx, len)) (h : ab_ins M pc len (.new idx) ls st k n g = some (.inr (.inl x))) (kk : so_KK p l e R s m args below meth c Q D ca ad base sp M x) : W p l e R s m args below meth c H locs k n Q (F0 m pc arr (st.map (so_v ad))) := by
  obtain ⟨hx, hb, hml, hown, hts, hR, hin, hK, ha⟩ := F
  simp only [ab_ins, ab_new] at h
  split at h
  · rename_i C hC0
    split at h
    · rename_i hc
      obtain ⟨rfl, rfl⟩ := ab_psh_inv h
      have hC : C < 6 := hc.2.2.2
      obtain ⟨n1, n2, n3⟩ := news_lk _ (ab_find_mem _ _ _ _ hC0)
      obtain ⟨q1, hq1, e1⟩ := mem_snd n1
      obtain ⟨q2, hq2, e2⟩ := mem_snd n2
      obtain ⟨q3, hq3, e3⟩ := mem_snd n3
      have w1 := wk_ne_ok q1 hq1
      have w2 : Cond.instantiable (ab_cn C) (ab_nf C) ∈ lw_tbl := by
        have w2 := wk_is_ok q2 hq2
        rw [e2] at w2
        exact w2
      have w3 := wk_ini_ok q3 hq3
      rw [e1] at w1
      rw [e3] at w3
      have hKn := hK.1.1 C _ (cl_at hC)
      refine so_sz ha hK.2.2.2.2.2.2 hH fun hz => ?_
      refine W.newcK (own := ab_cn (mO M)) (C := ab_cn C) hx hb hown (hts _ (gd_in w1 rfl)) (hts _ (gd_in w2 rfl)) (hts _ (gd_in w3 rfl)) rfl hd (by have := hR.2.2.1; omega) (by have := hR.2.2.2; omega) hKn.2.1 hz (fun H1 kC hkC c1 z1 o1 => ?_)
      have hHn : so_H D ca ad base sp (ab_mk g C 0) s H1 locs (k + 1) := by
        refine so_H_push (e0 := .inr (C, (List.range (ab_nf C)).map (so_fv ad (ab_mk g C 0) C g.1))) ha hH hz hc.1 rfl (by rw [so_EC (by simp [ab_mk]) hC]) so_mk_oth (so_mk_sp hc.1) ⟨_, cl_at hC, ?_⟩ z1 o1
        exact (u_born (ab_ty C) hts (cl_ws hC) hKn hkC c1 (cl_ty hC)).to (fun j hj => by
          rw [so_mk_def (ad := ad) (g := g) hC hj]
          simp [vp_V, hj])
      have := kk _ _ _ hHn hl hn
      simp only [List.map_cons, so_v, ha g.1 hc.1] at this
      exact this
    · cases h
  · cases h
theorem so_newi (F : so_F p R s m args meth c D ca ad base sp M) (hH : so_H D ca ad base sp g s H locs k) (hl : so_ls ad arr ls) (hn : ls.length = mL M) (hd : decode (mB M) pc = .ok (.newarray .int, len)) (h : ab_ins M pc len (.newarray .int) ls st k n g = some (.inr (.inl x))) (kk : so_KK p l e R s m args below meth c Q D ca ad base sp M x) : W p l e R s m args below meth c H locs k n Q (F0 m pc arr (st.map (so_v ad))) := by
  obtain ⟨hx, hb, hml, hown, hts, hR, hin, hK, ha⟩ := F
  simp only [ab_ins, ab_newa] at h
  split at h
  · rename_i z st'
    split at h
    · rename_i hc
      obtain ⟨rfl, rfl⟩ := ab_psh_inv h
      refine so_sz ha hK.2.2.2.2.2.2 hH fun hz => ?_
      refine va_newaK (atype := .int) hx hb (hts _ gd_ai) rfl hd rfl hc.2.1 rfl (Nat.le_trans (Nat.mul_le_mul_right _ hc.2.2.1) (by decide)) (by have := hR.2.2.1; omega) (by have := hR.2.2.2; omega) hz (fun H1 cA c1 z1 o1 hAr hNm => ?_)
      have hcA : cA = ca 0 := Option.some.inj (hNm.symm.trans (hK.1.2 0 _ rfl).2)
      subst hcA
      have hHn : so_H D ca ad base sp (ab_mk g 10 z.toNatClampNeg) s H1 locs (k + 1) :=
        so_H_push ha hH hz hc.1 rfl (by rw [so_E10 (by simp [ab_mk])]) so_mk_oth (so_mk_sp hc.1) (by
          show H1[base + g.1]? = some (vp_cell _ _)
          rw [c1, vp_cell_i]
          simp [ab_mk, newarray.typeOf, defaultValue]) z1 o1
      have := kk _ _ _ hHn hl hn
      simp only [List.map_cons, so_v, ha g.1 hc.1] at this
      exact this
    · cases h
  · cases h
theorem so_newz (F : so_F p R s m args meth c D ca ad base sp M) (hH : so_H D ca ad base sp g s H locs k) (hl : so_ls ad arr ls) (hn : ls.length = mL M) (hd : decode (mB M) pc = .ok (.newarray .boolean, len)) (h : ab_ins M pc len (.newarray .boolean) ls st k n g = some (.inr (.inl x))) (kk : so_KK p l e R s m args below meth c Q D ca ad base sp M x) : W p l e R s m args below meth c H locs k n Q (F0 m pc arr (st.map (so_v ad))) := by
  obtain ⟨hx, hb, hml, hown, hts, hR, hin, hK, ha⟩ := F
  simp only [ab_ins, ab_newa] at h
  split at h
  · rename_i z st'
    split at h
    · rename_i hc
      obtain ⟨rfl, rfl⟩ := ab_psh_inv h
      refine so_sz ha hK.2.2.2.2.2.2 hH fun hz => ?_
      refine va_newaK (atype := .boolean) hx hb (hts _ gd_az) rfl hd rfl hc.2.1 rfl (Nat.le_trans (Nat.mul_le_mul_right _ hc.2.2.1) (by decide)) (by have := hR.2.2.1; omega) (by have := hR.2.2.2; omega) hz (fun H1 cA c1 z1 o1 hAr hNm => ?_)
      have hcA : cA = ca 1 := Option.some.inj (hNm.symm.trans (hK.1.2 1 _ rfl).2)
      subst hcA
      have hHn : so_H D ca ad base sp (ab_mk g 11 z.toNatClampNeg) s H1 locs (k + 1) :=
        so_H_push ha hH hz hc.1 rfl (by rw [so_E11 (by simp [ab_mk])]) so_mk_oth (so_mk_sp hc.1) (by
          show H1[base + g.1]? = some (vp_cell _ _)
          rw [c1, vp_cell_i]
          simp [ab_mk, newarray.typeOf, defaultValue]) z1 o1
      have := kk _ _ _ hHn hl hn
      simp only [List.map_cons, so_v, ha g.1 hc.1] at this
      exact this
    · cases h
  · cases h
theorem so_newq {idx : Nat} (F : so_F p R s m args meth c D ca ad base sp M) (hH : so_H D ca ad base sp g s H locs k) (hl : so_ls ad arr ls) (hn : ls.length = mL M) (hd : decode (mB M) pc = .ok (.anewarray idx, len)) (h : ab_ins M pc len (.anewarray idx) ls st k n g = some (.inr (.inl x))) (kk : so_KK p l e R s m args below meth c Q D ca ad base sp M x) : W p l e R s m args below meth c H locs k n Q (F0 m pc arr (st.map (so_v ad))) := by
  obtain ⟨hx, hb, hml, hown, hts, hR, hin, hK, ha⟩ := F
  simp only [ab_ins] at h
  split at h
  · rename_i hC0
    simp only [ab_newa] at h
    split at h
    · rename_i z st'
      split at h
      · rename_i hc
        obtain ⟨rfl, rfl⟩ := ab_psh_inv h
        obtain ⟨n1, n2, n3⟩ := news_lk _ (ab_find_mem _ _ _ _ hC0)
        obtain ⟨q1, hq1, e1⟩ := mem_snd n1
        have w1 := wk_ne_ok q1 hq1
        rw [e1] at w1
        refine so_sz ha hK.2.2.2.2.2.2 hH fun hz => ?_
        refine W.anew (own := ab_cn (mO M)) (C := "SaidMine$Shore") hx hb hown (hts _ (gd_in w1 rfl)) (va_AO.use hK.2.2.2.2.2.1) rfl hd rfl hc.2.1 (Nat.le_trans (Nat.mul_le_mul_right _ hc.2.2.1) (by decide)) (by have := hR.2.2.1; omega) (by have := hR.2.2.2; omega) (fun cA kA comp f1 f2 f3 f4 => ?_)
        have hcA : cA = ca 2 := by
          obtain ⟨kB, cmp, b1, b2, b3, b4⟩ := (hK.1.2 2 _ rfl).2
          exact Option.some.inj (f1.symm.trans b4)
        subst hcA
        generalize hH1 : H.push ({ cls := ca 2, slots := Array.replicate z.toNatClampNeg .null, vm := .none } : Cell) = H1
        have z1 : H1.size = base + g.1 + 1 := by rw [← hH1, Array.size_push, hz]
        have c1 : H1[base + g.1]? = some (arrV (ca 2) z.toNatClampNeg (fun _ => .null)) := by rw [← hz, ← hH1, Array.getElem?_push_size, ← arrV_new]
        have o1 : ∀ q : Nat, q < base + g.1 → H1[q]? = H[q]? := fun q hq => by rw [← hH1, Array.getElem?_push, if_neg (by omega)]
        have hHn : so_H D ca ad base sp (ab_mk g 12 z.toNatClampNeg) s H1 locs (k + 1) :=
          so_H_push ha hH hz hc.1 rfl (by rw [so_E12 (by simp [ab_mk])]) so_mk_oth (so_mk_sp hc.1) (by
            show H1[base + g.1]? = some (vp_cell _ _)
            rw [c1, vp_cell_q]
            simp [ab_mk, so_r, va_rf]) z1 o1
        have := kk _ _ _ hHn hl hn
        simp only [List.map_cons, so_v, ha g.1 hc.1, ← hz] at this
        exact this
      · cases h
    · cases h
  · cases h
theorem so_oinit {idx : Nat} (F : so_F p R s m args meth c D ca ad base sp M) (hH : so_H D ca ad base sp g s H locs k) (hl : so_ls ad arr ls) (hn : ls.length = mL M) (hd : decode (mB M) pc = .ok (.invokespecial idx, len)) (h : ab_ins M pc len (.invokespecial idx) ls st k n g = some (.inr (.inl x))) (kk : so_KK p l e R s m args below meth c Q D ca ad base sp M x) : W p l e R s m args below meth c H locs k n Q (F0 m pc arr (st.map (so_v ad))) := by
  obtain ⟨hx, hb, hml, hown, hts, hR, hin, hK, ha⟩ := F
  simp only [ab_ins, ab_spc] at h
  split at h
  · rename_i q0 hs
    split at h
    · rename_i o st'
      split at h
      · rename_i hc
        obtain ⟨rfl, rfl⟩ := ab_psh_inv h
        obtain ⟨q1, hq1, e1⟩ := mem_snd (site6 _ (ab_find_mem _ _ _ _ hs) rfl)
        have w1 := wk_oi_ok q1 hq1
        rw [e1] at w1
        refine W.objInit (own := ab_cn (mO M)) hx hb hown (hts _ (gd_in w1 rfl)) (hts _ gd_oii) (hts _ gd_oic) rfl (by show arr.size = _; rw [hl.1, hml, hn]) rfl hd (by have := hR.1; omega) ?_ (kk _ _ _ hH hl hn)
        have h8 := lv_room (m := m) (pc := pc) (ls := arr) (rest := (.ref (ad o) :: st'.map (so_v ad))) (st := st'.map (so_v ad)) (by rw [so_wt]; exact hc.1)
        have := hR.2.1
        exact Nat.le_trans (Nat.add_le_add_right h8 12) (by omega)
      · cases h
    · cases h
  · split at h
    · split at h
      · unfold ab_callo at h
        split at h <;> cases h
      · cases h
    · cases h
  · split at h
    · split at h
      · unfold ab_callo at h
        split at h <;> cases h
      · cases h
    · cases h
  · cases h
theorem so_cpI_oth {a b i j z : Nat} (q : Nat) (hq : q ≠ b) : so_E ad ca (g.1, g.2.1, cpI g.2.2.1 a i b j z, g.2.2.2.1, g.2.2.2.2) q = so_E ad ca g q :=
  so_E_cg rfl (by funext t; simp [cpI, hq]) rfl rfl
theorem so_acopy {idx : Nat} (F : so_F p R s m args meth c D ca ad base sp M) (hH : so_H D ca ad base sp g s H locs k) (hl : so_ls ad arr ls) (hn : ls.length = mL M) (hd : decode (mB M) pc = .ok (.invokestatic idx, len)) (h : ab_ins M pc len (.invokestatic idx) ls st k n g = some (.inr (.inl x))) (kk : so_KK p l e R s m args below meth c Q D ca ad base sp M x) : W p l e R s m args below meth c H locs k n Q (F0 m pc arr (st.map (so_v ad))) := by
  obtain ⟨hx, hb, hml, hown, hts, hR, hin, hK, ha⟩ := F
  simp only [ab_ins, ab_stc] at h
  split at h
  · unfold ab_call at h
    split at h <;> cases h
  · unfold ab_call at h
    split at h <;> cases h
  · rename_i q0 hs
    split at h
    · rename_i z dp b i a st'
      split at h
      · rename_i hc
        obtain ⟨rfl, rfl⟩ := ab_psh_inv h
        obtain ⟨q1, hq1, e1⟩ := mem_snd (site7 _ (ab_find_mem _ _ _ _ hs) rfl)
        have w1 := wk_ac_ok q1 hq1
        rw [e1] at w1
        refine va_copyi (own := ab_cn (mO M)) hx hb (by rw [hml, ← hn, hl.1]) hown (hts _ (gd_in w1 rfl)) (hts _ gd_acn) (hts _ gd_acs) (hts _ gd_aci) hK.1 hH.1 (so_D ha hH.2.2.2.1) hH.2.2.1 a b 0 0 (by rw [so_W_at hc.1, so_E10 hc.2.1]) (by rw [so_W_at hc.2.2.1, so_E10 hc.2.2.2.1]) rfl rfl rfl hc.2.2.2.2.1 hc.2.2.2.2.2.1 hc.2.2.2.2.2.2.1 hc.2.2.2.2.2.2.2.1 hc.2.2.2.2.2.2.2.2.1 (fun _ _ => rfl) (by have := hR.1; omega) (by rw [so_wt, nfw]; have := hR.2.1; omega) hd fun H1 locs1 q1 q2 q3 => ?_
        rw [so_W_set (g := g) (o := b) (ad := ad) (ca := ca) (g' := (g.1, g.2.1, cpI g.2.2.1 a i.toNatClampNeg b dp.toNatClampNeg z.toNatClampNeg, g.2.2.2.1, g.2.2.2.2)) rfl (by
          rw [so_E10 (by exact hc.2.2.2.1)]
          exact congrArg (fun z : Nat → Int32 => (Sum.inl (ca 0, (g.2.1 b).2, Sum.inl z) : va_E)) (by funext t; simp [cpI])) (fun q hq => so_cpI_oth q hq)] at q1
        refine kk _ _ _ ⟨q1, hH.2.1, q3, hH.2.2.2.1, fun q z1 z2 => ⟨(hH.2.2.2.2 q z1 z2).1, ?_⟩⟩ hl hn
        have hb3 : (b : Nat) < 1000 := Nat.lt_of_lt_of_le hc.2.2.1 hH.2.2.2.1
        rw [← (hH.2.2.2.2 q z1 z2).2]
        funext t
        simp [cpI, show q ≠ b from fun w => Nat.not_lt.mpr z1 (w ▸ hb3)]
      · cases h
    · cases h
  · rename_i T0 hs
    split at h
    · rename_i st1
      split at h
      · rename_i hc
        obtain ⟨rfl, rfl⟩ := ab_psh_inv h
        obtain ⟨m1, m2⟩ := site_max _ (ab_find_mem _ _ _ _ hs) rfl
        obtain ⟨q1, hq1, e1⟩ := mem_snd m1
        have w1 := wk_lk_ok q1 hq1
        rw [e1, m2] at w1
        exact va_mmax (own := ab_cn (mO M)) hx hb (by rw [hml, ← hn, hl.1]) hown (hts _ (gd_in w1 rfl)) (hts _ gd_ms_max) (hts _ gd_mi) (hts _ gd_mc_max) (by have := hR.1; omega) (by rw [so_wt]; have := hR.2.1; omega) (by have := hR.2.2.1; omega) (by have := hR.2.2.2; omega) hd (kk _ _ _ hH hl hn)
      · cases h
    · cases h
  · rename_i T0 hs
    split at h
    · rename_i st1
      split at h
      · rename_i hc
        obtain ⟨rfl, rfl⟩ := ab_psh_inv h
        obtain ⟨m1, m2⟩ := site_min _ (ab_find_mem _ _ _ _ hs) rfl
        obtain ⟨q1, hq1, e1⟩ := mem_snd m1
        have w1 := wk_lk_ok q1 hq1
        rw [e1, m2] at w1
        exact va_mmin (own := ab_cn (mO M)) hx hb (by rw [hml, ← hn, hl.1]) hown (hts _ (gd_in w1 rfl)) (hts _ gd_ms_min) (hts _ gd_mi) (hts _ gd_mc_min) (by have := hR.1; omega) (by rw [so_wt]; have := hR.2.1; omega) (by have := hR.2.2.1; omega) (by have := hR.2.2.2; omega) hd (kk _ _ _ hH hl hn)
      · cases h
    · cases h
  · rename_i T0 hs
    split at h
    · rename_i st1
      split at h
      · rename_i hc
        obtain ⟨rfl, rfl⟩ := ab_psh_inv h
        obtain ⟨m1, m2⟩ := site_abs _ (ab_find_mem _ _ _ _ hs) rfl
        obtain ⟨q1, hq1, e1⟩ := mem_snd m1
        have w1 := wk_lk_ok q1 hq1
        rw [e1, m2] at w1
        exact va_mabs (own := ab_cn (mO M)) hx hb (by rw [hml, ← hn, hl.1]) hown (hts _ (gd_in w1 rfl)) (hts _ gd_ms_abs) (hts _ gd_mi) (hts _ gd_mc_abs) (by have := hR.1; omega) (by rw [so_wt]; have := hR.2.1; omega) (by have := hR.2.2.1; omega) (by have := hR.2.2.2; omega) hd (kk _ _ _ hH hl hn)
      · cases h
    · cases h
  · cases h
end STEP3
