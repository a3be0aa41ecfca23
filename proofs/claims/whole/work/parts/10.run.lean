/-! the run of a frame -/
theorem site0 : ∀ q ∈ ab_site, q.2.2.1 = 0 → q ∈ wk_lk.map (fun z => z.2) ∧ q.2.2.2 ∈ wk_in.map (fun z => z.2) ∧ q.2.2.2 ∈ wk_se.map (fun z => z.2) := by decide +kernel
theorem site1 : ∀ q ∈ ab_site, q.2.2.1 = 1 → q ∈ wk_lk.map (fun z => z.2) ∧ q.2.2.2 ∈ wk_st.map (fun z => z.2) := by decide +kernel
theorem site2 : ∀ q ∈ ab_site, q.2.2.1 = 2 → q ∈ wk_lk.map (fun z => z.2) ∧ q.2.2.2 ∈ wk_in.map (fun z => z.2) ∧ (mY q.2.2.2).name = "<init>" ∧ mR q.2.2.2 = none := by decide +kernel
theorem site4 : ∀ q ∈ ab_site, q.2.2.1 = 4 → q ∈ wk_ln.map (fun z => z.2) ∧ q.2.2.2 ∈ wk_st.map (fun z => z.2) := by decide +kernel
theorem site5 : ∀ q ∈ ab_site, q.2.2.1 = 5 → q ∈ wk_ln.map (fun z => z.2) ∧ q.2.2.2 ∈ wk_in.map (fun z => z.2) ∧ (mY q.2.2.2).name = "<init>" ∧ mR q.2.2.2 = none := by decide +kernel
section RUNS
variable {p : Program} {l : Launch} {e : Env} {R : Room} {s : State} {m : MethodId} {args : Array Value} {below : List Frame} {meth : Method} {c : Code} {Q : State → Prop}
variable {D : va_G} {ca : Nat → ClassId} {ad : Nat → Nat} {base : Nat} {sp : Nat → Nat × (Nat → Int32)} {M T f : Nat}
variable {pc len k n idx : Nat} {ls : List (Option Value)} {st rest av ps : List Value} {g g' : ab_G} {v : Option Value} {H : Heap} {locs : List Loc} {arr : Array Slot}
theorem so_mW (hf : so_R R M) (h : 19 + mL T + mW T ≤ mW M) : 8 + (mL T + 11) + (so_rm T).locals ≤ R.locals := by
  have h1 := hf.2.1
  show 8 + (mL T + 11) + mW T ≤ R.locals
  omega
/-- a call of an object's method -/
theorem so_cV (F : so_F p R s m args meth c D ca ad base sp M) (hH : so_H D ca ad base sp g s H locs k) (hl : so_ls ad arr ls) (hn : ls.length = mL M) (hd : decode (mB M) pc = .ok (.invokevirtual idx, len)) (h : ab_virt M len idx st k n g = some (.inr (.inr (T, av, rest)))) (hI : so_PR f) (hlen : (ab_exp av).length ≤ mL T) (hr : ab_run f T 0 (ab_pad (mL T) (ab_exp av)) [] 0 0 g = some (v, g')) (hv : ab_rk T v = some ps)
    (kk : ∀ (H1 : Heap) (locs1 : List Loc), so_H D ca ad base sp g' s H1 locs1 (k + mC T) → W p l e R s m args below meth c H1 locs1 (k + mC T) (n + mS T) Q (F0 m (pc + 3) arr ((ps ++ rest).map (so_v ad)))) : W p l e R s m args below meth c H locs k n Q (F0 m pc arr (st.map (so_v ad))) := by
  have F' := F
  obtain ⟨hx, hb, hml, hown, hts, hR, hin, hK, ha⟩ := F
  unfold ab_virt at h
  split at h
  · rename_i T1 hs
    split at h
    · rename_i o rest1 hst
      split at h
      · rename_i ho
        unfold ab_callo at h
        split at h
        · rename_i hc
          cases h
          obtain ⟨rfl, hc1, hc2, hc3, hc4, hc5, hc6⟩ := hc
          obtain ⟨hT, hcode⟩ := mt_of hs (by decide)
          obtain ⟨s1, s2, s3⟩ := site0 _ (ab_find_mem _ _ _ _ hs) rfl
          obtain ⟨q1, hq1, e1⟩ := mem_snd s1
          obtain ⟨q2, hq2, e2⟩ := mem_snd s2
          obtain ⟨q3, hq3, e3⟩ := mem_snd s3
          have w1 := wk_lk_ok q1 hq1
          have w2 := wk_in_ok q2 hq2
          have w3 := wk_se_ok q3 hq3
          rw [e1] at w1
          rw [e2] at w2
          rw [e3] at w3
          refine so_sz ha hK.2.2.2.2.2.2 hH fun hz => ?_
          have hM : Met l (mY T) (so_ws T) (so_rm T) (so_Pc D ca ad base sp (.ref o :: (st.take (mN T)).reverse) g) (so_Qc D ca ad base sp T v g g') (mC T) (mS T) (so_A base) := so_met hI hT hlen hr ha
          have cw : CallW R s args (ab_cn (mO M)) (mY T).cls idx (mY T) (mB T) (mL T) (mR T) (so_ws T) (so_rm T) (mC T) (mS T) (mN T) :=
            cwV (mN T) hts (so_good hcode (fun w hw => by
              rcases List.mem_cons.mp hw with rfl | hw
              · exact gd_in w1 rfl
              rcases List.mem_cons.mp hw with rfl | hw
              · exact gd_in w2 rfl
              rcases List.mem_cons.mp hw with rfl | hw
              · exact gd_in w3 rfl
              rcases List.mem_cons.mp hw with rfl | hw
              · exact mt_ini hT
              cases hw)) rfl rfl rfl ⟨rfl, hT.2.2.1, hT.2.2.2.1, hT.2.2.2.2.1⟩ ⟨Nat.le_trans hc3 hR.1, so_mW hR hc4⟩
          have hstk : st.map (so_v ad) = (((st.take (mN T)).reverse).map (so_v ad)).reverse ++ .ref (ad o) :: rest.map (so_v ad) := by
            rw [← List.map_reverse, List.reverse_reverse]
            have e9 : st = st.take (mN T) ++ (.ref o :: rest) := by rw [← hst, List.take_append_drop]
            have e10 : st.map (so_v ad) = (st.take (mN T) ++ (.ref o :: rest)).map (so_v ad) := by rw [← e9]
            rw [e10, List.map_append]
            rfl
          have run := va_runV (l := l) (e := e) (below := below) (meth := meth) (H := H) (locs := locs) (cells := k) (slots := n) (b := ad o) (As := ((st.take (mN T)).reverse).map (so_v ad)) (rest := rest.map (so_v ad)) (g := F0 m pc arr (st.map (so_v ad))) ⟨hx, hb, hml, hown, hts⟩ hM cw
            ⟨so_blind, by
              have := va_recv (q := (ab_cn (mO T), ab_T (mO T), ab_nf (mO T))) hK.1 hH.1 (cl_at ho.2.2) (by rw [so_W_at ho.1, so_EC ho.2.1 ho.2.2])
              rw [hT.2.1]
              exact this, fun U hU hW => ⟨by simp [so_v], so_Bat F' hH hz hU hW⟩⟩
            rfl (by rw [List.length_map]; exact hc1) (by show arr.size = mL M; rw [hl.1, hn]) hstk (lv_room (by rw [so_wt]; exact hc2)) hd ⟨Nat.le_trans hc5 hR.2.2.1, Nat.le_trans hc6 hR.2.2.2⟩
          exact so_after run hH hv kk
        · cases h
      · cases h
    · cases h
  · cases h
/-- a call of a static method -/
theorem so_cS (F : so_F p R s m args meth c D ca ad base sp M) (hH : so_H D ca ad base sp g s H locs k) (hl : so_ls ad arr ls) (hn : ls.length = mL M) (hd : decode (mB M) pc = .ok (.invokestatic idx, len)) (h : ab_stc M pc len idx ls st k n g = some (.inr (.inr (T, av, rest)))) (hI : so_PR f) (hlen : (ab_exp av).length ≤ mL T) (hr : ab_run f T 0 (ab_pad (mL T) (ab_exp av)) [] 0 0 g = some (v, g')) (hv : ab_rk T v = some ps)
    (kk : ∀ (H1 : Heap) (locs1 : List Loc), so_H D ca ad base sp g' s H1 locs1 (k + mC T) → W p l e R s m args below meth c H1 locs1 (k + mC T) (n + mS T) Q (F0 m (pc + 3) arr ((ps ++ rest).map (so_v ad)))) : W p l e R s m args below meth c H locs k n Q (F0 m pc arr (st.map (so_v ad))) := by
  have F' := F
  obtain ⟨hx, hb, hml, hown, hts, hR, hin, hK, ha⟩ := F
  have hstk : ∀ N : Nat, st.map (so_v ad) = (((st.take N).reverse).map (so_v ad)).reverse ++ (st.drop N).map (so_v ad) := fun N => by
    rw [← List.map_reverse, List.reverse_reverse, ← List.map_append, List.take_append_drop]
  unfold ab_stc at h
  split at h
  · rename_i T1 hs
    unfold ab_call at h
    split at h
    · rename_i hc
      cases h
      obtain ⟨rfl, hc1, hc2, hc3, hc4, hc5, hc6⟩ := hc
      obtain ⟨hT, hcode⟩ := mt_of hs (by decide)
      obtain ⟨s1, s2⟩ := site1 _ (ab_find_mem _ _ _ _ hs) rfl
      obtain ⟨q1, hq1, e1⟩ := mem_snd s1
      obtain ⟨q2, hq2, e2⟩ := mem_snd s2
      have w1 := wk_lk_ok q1 hq1
      have w2 := wk_st_ok q2 hq2
      rw [e1] at w1
      rw [e2] at w2
      refine so_sz ha hK.2.2.2.2.2.2 hH fun hz => ?_
      have hM : Met l (mY T) (so_ws T) (so_rm T) (so_Pc D ca ad base sp (st.take (mN T)).reverse g) (so_Qc D ca ad base sp T v g g') (mC T) (mS T) (so_A base) := so_met hI hT hlen hr ha
      have cw := va_cwS (R := R) (own := ab_cn (mO M)) (index := idx) (y := mY T) (bytes := mB T) (maxL := mL T) (mc := mC T) (ms := mS T) (ret := mR T) (ws := so_ws T) (rm := so_rm T) (mN T) hts (so_good hcode (fun w hw => by
              rcases List.mem_cons.mp hw with rfl | hw
              · exact gd_in w1 rfl
              rcases List.mem_cons.mp hw with rfl | hw
              · exact gd_in w2 rfl
              rcases List.mem_cons.mp hw with rfl | hw
              · exact mt_ini hT
              cases hw)) rfl rfl rfl ⟨hT.2.2.1, hT.2.2.2.1, hT.2.2.2.2.1⟩ ⟨Nat.le_trans hc3 hR.1, so_mW hR hc4⟩
      have run := va_runS (l := l) (e := e) (below := below) (meth := meth) (H := H) (locs := locs) (cells := k) (slots := n) (As := ((st.take (mN T)).reverse).map (so_v ad)) (rest := (st.drop (mN T)).map (so_v ad)) (g := F0 m pc arr (st.map (so_v ad))) ⟨hx, hb, hml, hown, hts⟩ hM cw
            ⟨so_blind, fun U hU hW => ⟨rfl, so_Bat F' hH hz hU hW⟩⟩
            rfl (by rw [List.length_map]; exact hc1) (by show arr.size = mL M; rw [hl.1, hn]) (hstk _) (lv_room (by rw [so_wt]; exact hc2)) hd ⟨Nat.le_trans hc5 hR.2.2.1, Nat.le_trans hc6 hR.2.2.2⟩
      exact so_after run hH hv kk
    · cases h
  · rename_i T1 hs
    unfold ab_call at h
    split at h
    · rename_i hc
      cases h
      obtain ⟨rfl, hc1, hc2, hc3, hc4, hc5, hc6⟩ := hc
      obtain ⟨hT, hcode⟩ := mt_of hs (by decide)
      obtain ⟨s1, s2⟩ := site4 _ (ab_find_mem _ _ _ _ hs) rfl
      obtain ⟨q1, hq1, e1⟩ := mem_snd s1
      obtain ⟨q2, hq2, e2⟩ := mem_snd s2
      have w1 := hK.2.2.2.2.1 q1 hq1
      have w2 := wk_st_ok q2 hq2
      rw [e1] at w1
      rw [e2] at w2
      refine so_sz ha hK.2.2.2.2.2.2 hH fun hz => ?_
      have hM : Met l (mY T) (so_ws T) (so_rm T) (so_Pc D ca ad base sp (st.take (mN T)).reverse g) (so_Qc D ca ad base sp T v g g') (mC T) (mS T) (so_A base) := so_met hI hT hlen hr ha
      have cw := va_cnB (R := R) (args := args) (own := ab_cn (mO M)) (host := "SaidMine") (index := idx) (y := mY T) (bytes := mB T) (maxL := mL T) (mc := mC T) (ms := mS T) (ret := mR T) (ws := so_ws T) (rm := so_rm T) (mN T) hts (so_good (ws := []) hcode (fun w hw => by cases hw)) rfl rfl rfl w1 (hts _ (mt_ini hT)) ⟨hT.2.2.1, hT.2.2.2.1, hT.2.2.2.2.1⟩ ⟨Nat.le_trans hc3 hR.1, so_mW hR hc4⟩
      have run := va_runSN (l := l) (e := e) (below := below) (meth := meth) (H := H) (locs := locs) (cells := k) (slots := n) (As := ((st.take (mN T)).reverse).map (so_v ad)) (rest := (st.drop (mN T)).map (so_v ad)) (g := F0 m pc arr (st.map (so_v ad))) ⟨hx, hb, hml, hown, hts⟩ hM ⟨cw, hts _ (gd_in w2 rfl), trivial⟩
            ⟨so_blind, fun U hU hW => ⟨rfl, so_Bat F' hH hz hU hW⟩⟩
            rfl (by rw [List.length_map]; exact hc1) (by show arr.size = mL M; rw [hl.1, hn]) (hstk _) (lv_room (by rw [so_wt]; exact hc2)) hd ⟨Nat.le_trans hc5 hR.2.2.1, Nat.le_trans hc6 hR.2.2.2⟩
      exact so_after run hH hv kk
    · cases h
  all_goals
    first
    | (cases h; done)
    | (split at h
       · split at h
         · unfold ab_psh ab_ok at h
           split at h <;> cases h
         · cases h
       · cases h)
/-- a call of a constructor -/
theorem so_cI (F : so_F p R s m args meth c D ca ad base sp M) (hH : so_H D ca ad base sp g s H locs k) (hl : so_ls ad arr ls) (hn : ls.length = mL M) (hd : decode (mB M) pc = .ok (.invokespecial idx, len)) (h : ab_spc M pc len idx ls st k n g = some (.inr (.inr (T, av, rest)))) (hI : so_PR f) (hlen : (ab_exp av).length ≤ mL T) (hr : ab_run f T 0 (ab_pad (mL T) (ab_exp av)) [] 0 0 g = some (v, g')) (hv : ab_rk T v = some ps)
    (kk : ∀ (H1 : Heap) (locs1 : List Loc), so_H D ca ad base sp g' s H1 locs1 (k + mC T) → W p l e R s m args below meth c H1 locs1 (k + mC T) (n + mS T) Q (F0 m (pc + 3) arr ((ps ++ rest).map (so_v ad)))) : W p l e R s m args below meth c H locs k n Q (F0 m pc arr (st.map (so_v ad))) := by
  have F' := F
  obtain ⟨hx, hb, hml, hown, hts, hR, hin, hK, ha⟩ := F
  unfold ab_spc at h
  split at h
  · split at h
    · split at h
      · unfold ab_psh ab_ok at h
        split at h <;> cases h
      · cases h
    · cases h
  · rename_i T1 hs
    split at h
    · rename_i o rest1
      split at h
      · rename_i hN
        unfold ab_callo at h
        split at h
        · rename_i hc
          cases h
          obtain ⟨rfl, hc1, hc2, hc3, hc4, hc5, hc6⟩ := hc
          obtain ⟨hT, hcode⟩ := mt_of hs (by decide)
          obtain ⟨s1, s2, s3, s4⟩ := site2 _ (ab_find_mem _ _ _ _ hs) rfl
          obtain ⟨q1, hq1, e1⟩ := mem_snd s1
          obtain ⟨q2, hq2, e2⟩ := mem_snd s2
          have w1 := wk_lk_ok q1 hq1
          have w2 := wk_in_ok q2 hq2
          rw [e1] at w1
          rw [e2] at w2
          refine so_sz ha hK.2.2.2.2.2.2 hH fun hz => ?_
          have hM : Met l (mY T) (so_ws T) (so_rm T) (so_Pc D ca ad base sp (.ref o :: []) g) (so_Qc D ca ad base sp T v g g') (mC T) (mS T) (so_A base) := so_met hI hT hlen hr ha
          have hws : so_ws T = Cond.code (mY T) (mB T) (mL T) none :: gd := by unfold so_ws ab_code; rw [s4]
          have cw := cwI (R := R) (s := s) (args := args) (own := ab_cn (mO M)) (index := idx) (y := mY T) (bytes := mB T) (maxL := mL T) (mc := mC T) (ms := mS T) (ws := so_ws T) (rm := so_rm T) (mN T) hts (so_good (ws := []) hcode (fun w hw => by cases hw)) hws rfl rfl (hts _ (mt_ini hT)) (hts _ (gd_in w1 rfl)) (hts _ (gd_in w2 rfl)) s3 ⟨hT.2.2.1, hT.2.2.2.1, hT.2.2.2.2.1⟩ ⟨Nat.le_trans hc3 hR.1, so_mW hR hc4⟩
          have run := va_runI (l := l) (e := e) (below := below) (meth := meth) (H := H) (locs := locs) (cells := k) (slots := n) (b := ad o) (As := []) (rest := rest.map (so_v ad)) (g := F0 m pc arr (.ref (ad o) :: rest.map (so_v ad))) ⟨hx, hb, hml, hown, hts⟩ hM cw
            ⟨so_blind, fun U hU hW => ⟨rfl, so_Bat F' hH hz hU hW⟩⟩
            rfl (by rw [hN]; rfl) (by show arr.size = mL M; rw [hl.1, hn]) rfl (lv_room (by rw [so_wt]; exact hc2)) hd ⟨Nat.le_trans hc5 hR.2.2.1, Nat.le_trans hc6 hR.2.2.2⟩
          exact so_after run hH hv kk
        · cases h
      · cases h
    · cases h
  · rename_i T1 hs
    split at h
    · rename_i o rest1
      split at h
      · rename_i hN
        unfold ab_callo at h
        split at h
        · rename_i hc
          cases h
          obtain ⟨rfl, hc1, hc2, hc3, hc4, hc5, hc6⟩ := hc
          obtain ⟨hT, hcode⟩ := mt_of hs (by decide)
          obtain ⟨s1, s2, s3, s4⟩ := site5 _ (ab_find_mem _ _ _ _ hs) rfl
          obtain ⟨q1, hq1, e1⟩ := mem_snd s1
          obtain ⟨q2, hq2, e2⟩ := mem_snd s2
          have w1 := hK.2.2.2.2.1 q1 hq1
          have w2 := wk_in_ok q2 hq2
          rw [e1] at w1
          rw [e2] at w2
          refine so_sz ha hK.2.2.2.2.2.2 hH fun hz => ?_
          have hM : Met l (mY T) (so_ws T) (so_rm T) (so_Pc D ca ad base sp (.ref o :: []) g) (so_Qc D ca ad base sp T v g g') (mC T) (mS T) (so_A base) := so_met hI hT hlen hr ha
          have hws : so_ws T = Cond.code (mY T) (mB T) (mL T) none :: gd := by unfold so_ws ab_code; rw [s4]
          have cw := va_cnB (R := R) (args := args) (own := ab_cn (mO M)) (host := "SaidMine") (index := idx) (y := mY T) (bytes := mB T) (maxL := mL T) (mc := mC T) (ms := mS T) (ret := none) (ws := so_ws T) (rm := so_rm T) (mN T) hts (so_good (ws := []) hcode (fun w hw => by cases hw)) hws rfl rfl w1 (hts _ (mt_ini hT)) ⟨hT.2.2.1, hT.2.2.2.1, hT.2.2.2.2.1⟩ ⟨Nat.le_trans hc3 hR.1, so_mW hR hc4⟩
          have run := va_runIN (l := l) (e := e) (below := below) (meth := meth) (H := H) (locs := locs) (cells := k) (slots := n) (b := ad o) (As := []) (rest := rest.map (so_v ad)) (g := F0 m pc arr (.ref (ad o) :: rest.map (so_v ad))) ⟨hx, hb, hml, hown, hts⟩ hM ⟨cw, s3, hts _ (gd_in w2 rfl)⟩
            ⟨so_blind, fun U hU hW => ⟨rfl, so_Bat F' hH hz hU hW⟩⟩
            rfl (by rw [hN]; rfl) (by show arr.size = mL M; rw [hl.1, hn]) rfl (lv_room (by rw [so_wt]; exact hc2)) hd ⟨Nat.le_trans hc5 hR.2.2.1, Nat.le_trans hc6 hR.2.2.2⟩
          exact so_after run hH hv kk
        · cases h
      · cases h
    · cases h
  · cases h
theorem so_run : ∀ f : Nat, so_PR f := by
  intro f
  induction f with
  | zero =>
    intro p l e R s m args below meth c Q D ca ad base sp M pc k n ls st g g' v H locs arr hr F hH hl hn hE
    cases hr
  | succ f ih =>
    intro p l e R s m args below meth c Q D ca ad base sp M pc k n ls st g g' v H locs arr hr F hH hl hn hE
    unfold ab_run at hr
    split at hr
    · cases hr
    · rename_i r hs
      cases hr
      obtain ⟨rfl, rfl, h3, h4⟩ := ab_ret_inv hs
      obtain ⟨e1, e2, e3⟩ := hE H locs arr pc n hH h3
      rcases h4 with ⟨y, h5, rfl, h7, h8⟩ | ⟨y, h5, rfl, h7, h8⟩ | ⟨h5, rfl, h7, h8⟩
      · exact e1 y h5 h7 h8
      · exact e2 y h5 h7 h8
      · exact e3 h5 h7 h8
    · rename_i pc' ls' st' k' n' g2 hs
      exact so_step F hH hl hn hs (fun H1 locs1 arr1 hH1 hl1 hn1 => ih hr F hH1 hl1 hn1 hE)
    · rename_i T av rest hs
      split at hr
      · rename_i hlen
        split at hr
        · cases hr
        · rename_i v1 g1 hr1
          split at hr
          · cases hr
          · rename_i ps hps
            have kk : ∀ (H1 : Heap) (locs1 : List Loc), so_H D ca ad base sp g1 s H1 locs1 (k + mC T) → W p l e R s m args below meth c H1 locs1 (k + mC T) (n + mS T) Q (F0 m (pc + 3) arr ((ps ++ rest).map (so_v ad))) := fun H1 locs1 hH1 => ih hr F hH1 hl hn hE
            unfold ab_step at hs
            split at hs
            · rename_i ins len hcd
              have hd := cd_inv hcd
              have hh := ab_sel_c hs
              clear hs
              obtain ⟨hs, hk⟩ := hh
              cases ins with
              | invokevirtual idx => exact so_cV F hH hl hn hd hs ih hlen hr1 hps kk
              | invokestatic idx => exact so_cS F hH hl hn hd hs ih hlen hr1 hps kk
              | invokespecial idx => exact so_cI F hH hl hn hd hs ih hlen hr1 hps kk
              | _ => simp [ab_kd] at hk
            · cases hs
      · cases hr
end RUNS
