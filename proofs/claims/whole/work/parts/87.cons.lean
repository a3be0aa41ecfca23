/-! the constructors: runs that make objects -/
def Szn (Z n o : Nat) : Nat × Nat := if n ≤ o ∧ o < 1000 then (99, 0) else SH Z o
def Cs (Z n : Nat) (I : ab_I) (R : ab_R) (L : ab_L) : ab_G := (n, Szn Z n, I, R, L)
def Fr (n : Nat) (I : ab_I) (R : ab_R) (L : ab_L) : Prop := ∀ p, n ≤ p → p < 1000 → I p = (fun _ => 0) ∧ R p = (fun _ => 0) ∧ L p = (fun _ => 0)
theorem Fr.wI {n : Nat} {I : ab_I} {R : ab_R} {L : ab_L} (h : Fr n I R L) {o f : Nat} {x : Int32} (ho : o < n) : Fr n (wI I o f x) R L := fun p h1 h2 => ⟨(wI_row (Nat.ne_of_gt (Nat.lt_of_lt_of_le ho h1))).trans (h p h1 h2).1, (h p h1 h2).2⟩
theorem wR_row {R : ab_R} {o k p : Nat} {v : Nat} (h : p ≠ o) : wR R o k v p = R p := by
  funext j
  simp only [wR, if_neg h]
theorem Fr.wR {n : Nat} {I : ab_I} {R : ab_R} {L : ab_L} (h : Fr n I R L) {o f : Nat} {x : Nat} (ho : o < n) : Fr n I (wR R o f x) L := fun p h1 h2 => ⟨(h p h1 h2).1, (wR_row (Nat.ne_of_gt (Nat.lt_of_lt_of_le ho h1))).trans (h p h1 h2).2.1, (h p h1 h2).2.2⟩
theorem Szn_112 (Z : Nat) : Szn Z 112 = SH Z := by
  funext o
  unfold Szn
  split
  · rename_i h
    unfold SH
    rw [if_neg (by omega), if_neg (by omega), if_neg (by omega)]
    rw [List.getD_eq_getElem?_getD, List.getElem?_eq_none (by rw [ab_shl_len]; omega)]
    rfl
  · rfl
theorem Cs_GG (Z : Nat) (I : ab_I) (R : ab_R) (L : ab_L) : Cs Z 112 I R L = GG Z I R L := by
  unfold Cs GG
  rw [Szn_112]
theorem Szn_at {Z n o : Nat} (h : o < n ∨ 1000 ≤ o) : Szn Z n o = SH Z o := by
  unfold Szn
  rw [if_neg (by omega)]
theorem mk_Cs {Z n kd len : Nat} {I : ab_I} {R : ab_R} {L : ab_L} (hs : SH Z n = (kd, len)) (hn : n < 1000) (h : Fr n I R L) : ab_mk (Cs Z n I R L) kd len = Cs Z (n + 1) I R L := by
  obtain ⟨h1, h2, h3⟩ := h n (Nat.le_refl n) hn
  have e1 : (fun o => if o = n then (kd, len) else Szn Z n o) = Szn Z (n + 1) := by
    funext o
    by_cases ho : o = n
    · rw [if_pos ho, ho, Szn_at (Or.inl (Nat.lt_succ_self n)), hs]
    · rw [if_neg ho]
      unfold Szn
      by_cases hp : n ≤ o ∧ o < 1000
      · rw [if_pos hp, if_pos ⟨by omega, hp.2⟩]
      · rw [if_neg hp, if_neg (by omega)]
  have e2 : (fun o j => if o = n then (0 : Int32) else I o j) = I := by
    funext o j
    by_cases ho : o = n
    · rw [if_pos ho, ho, h1]
    · rw [if_neg ho]
  have e3 : (fun o j => if o = n then (0 : Nat) else R o j) = R := by
    funext o j
    by_cases ho : o = n
    · rw [if_pos ho, ho, h2]
    · rw [if_neg ho]
  have e4 : (fun o j => if o = n then (0 : Int64) else L o j) = L := by
    funext o j
    by_cases ho : o = n
    · rw [if_pos ho, ho, h3]
    · rw [if_neg ho]
  show (n + 1, (fun o => if o = n then (kd, len) else Szn Z n o), (fun o j => if o = n then (0 : Int32) else I o j), (fun o j => if o = n then (0 : Nat) else R o j), (fun o j => if o = n then (0 : Int64) else L o j)) = (n + 1, Szn Z (n + 1), I, R, L)
  rw [e1, e2, e3, e4]
theorem ab_run_mono : ∀ (f M pc : Nat) (ls : List (Option Value)) (st : List Value) (k n : Nat) (g : ab_G) (y : Option Value × ab_G) (d : Nat), ab_run f M pc ls st k n g = some y → ab_run (f + d) M pc ls st k n g = some y := by
  intro f
  induction f with
  | zero =>
    intro M pc ls st k n g y d h
    cases h
  | succ f ih =>
    intro M pc ls st k n g y d h
    rw [Nat.succ_add]
    unfold ab_run at h ⊢
    split at h
    · cases h
    · rename_i hs
      exact h
    · rename_i hs
      exact ih _ _ _ _ _ _ _ _ d h
    · rename_i hs
      split at h
      · rename_i hl
        simp only [if_pos hl]
        split at h
        · cases h
        · rename_i h1
          rw [ih _ _ _ _ _ _ _ _ d h1]
          split at h
          · cases h
          · rename_i h2
            simp only
            rw [h2]
            exact ih _ _ _ _ _ _ _ _ d h
      · cases h
def Rn (Z M pc : Nat) (ls : List (Option Value)) (st : List Value) (k s n : Nat) (I : ab_I) (R : ab_R) (L : ab_L) (P : Option Value → Nat → ab_I → ab_R → ab_L → Prop) : Prop :=
  Fr n I R L → ∃ f v n' I' R' L', ab_run f M pc ls st k s (Cs Z n I R L) = some (v, Cs Z n' I' R' L') ∧ (v = none → Fr n' I' R' L') ∧ P v n' I' R' L'
section CONS
variable {Z M pc : Nat} {ls : List (Option Value)} {st : List Value} {k s n : Nat} {I : ab_I} {R : ab_R} {L : ab_L} {P : Option Value → Nat → ab_I → ab_R → ab_L → Prop}
theorem Rn.step {pc' : Nat} {ls' : List (Option Value)} {st' : List Value} {k' s' n' : Nat} {I' : ab_I} {R' : ab_R} {L' : ab_L} (h : Fr n I R L → ab_step M pc ls st k s (Cs Z n I R L) = some (.inr (.inl (pc', ls', st', k', s', Cs Z n' I' R' L')))) (hf : Fr n I R L → Fr n' I' R' L') (kk : Rn Z M pc' ls' st' k' s' n' I' R' L' P) : Rn Z M pc ls st k s n I R L P := fun f0 => by
  obtain ⟨f, v, n2, I2, R2, L2, e, fr, hp⟩ := kk (hf f0)
  refine ⟨f + 1, v, n2, I2, R2, L2, ?_, fr, hp⟩
  unfold ab_run
  rw [h f0]
  exact e
theorem Rn.call {T : Nat} {av rest : List Value} {Pc : Option Value → Nat → ab_I → ab_R → ab_L → Prop} (h : ab_step M pc ls st k s (Cs Z n I R L) = some (.inr (.inr (T, av, rest)))) (hl : (ab_exp av).length ≤ mL T) (hT : Rn Z T 0 (ab_pad (mL T) (ab_exp av)) [] 0 0 n I R L Pc) (hk : ∀ v n' I' R' L', Pc v n' I' R' L' → ∃ p, v = none ∧ ab_rk T v = some p ∧ Rn Z M (pc + 3) ls (p ++ rest) (k + mC T) (s + mS T) n' I' R' L' P) : Rn Z M pc ls st k s n I R L P := fun f0 => by
  obtain ⟨f1, v1, n1, I1, R1, L1, e1, fr1, hp1⟩ := hT f0
  obtain ⟨p, hv1, hrk, kk⟩ := hk _ _ _ _ _ hp1
  obtain ⟨f, v, n2, I2, R2, L2, e, fr, hp⟩ := kk (fr1 hv1)
  refine ⟨f1 + f + 1, v, n2, I2, R2, L2, ?_, fr, hp⟩
  unfold ab_run
  rw [h]
  simp only [if_pos hl]
  rw [ab_run_mono _ _ _ _ _ _ _ _ _ f e1]
  simp only
  rw [hrk, Nat.add_comm f1 f]
  exact ab_run_mono _ _ _ _ _ _ _ _ _ f1 e
theorem Rn.ret (hc : cd M pc = some (.return_, 1)) (hk : k = mC M) (hs : s ≤ mS M) (hm : mR M = none) (hP : P none n I R L) : Rn Z M pc ls [] k s n I R L P := fun f0 => by
  refine ⟨1, none, n, I, R, L, ?_, fun _ => f0, hP⟩
  unfold ab_run ab_step
  rw [hc]
  simp only [ab_ins, ab_retv, hk, hs, hm, and_self, if_true, ab_sel, ab_kd]
theorem Rn.psh {ins : Instr} {len pc' : Nat} {ls' : List (Option Value)} {st' : List Value} {I' : ab_I} {R' : ab_R} {L' : ab_L} (hc : cd M pc = some (ins, len)) (h : ab_ins M pc len ins ls st k s (Cs Z n I R L) = ab_psh len len pc ls' st' k s (Cs Z n I' R' L')) (hp : pc + len = pc') (hf : Fr n I R L → Fr n I' R' L') (kk : Rn Z M pc' ls' st' k s n I' R' L' P) : Rn Z M pc ls st k s n I R L P := by
  subst hp
  refine Rn.step (fun _ => ?_) hf kk
  unfold ab_step
  rw [hc]
  simp only [h, ab_psh, if_true, ab_ok, ab_sel]
theorem Rn.aload {i : Fin 4} {pc' v : Nat} (hc : cd M pc = some (.aload_n i, 1)) (hl : ls[(i : Nat)]? = some (some (.ref v))) (hp : pc + 1 = pc') (kk : Rn Z M pc' ls (.ref v :: st) k s n I R L P) : Rn Z M pc ls st k s n I R L P :=
  Rn.psh hc (by simp only [ab_ins, ab_lda, hl]) hp id kk
theorem Rn.iload {i : Fin 4} {pc' : Nat} {v : Int32} (hc : cd M pc = some (.iload_n i, 1)) (hl : ls[(i : Nat)]? = some (some (.int v))) (hp : pc + 1 = pc') (kk : Rn Z M pc' ls (.int v :: st) k s n I R L P) : Rn Z M pc ls st k s n I R L P :=
  Rn.psh hc (by simp only [ab_ins, ab_ldi, hl]) hp id kk
theorem Rn.iconst {z : Int} {pc' : Nat} {v : Int32} (hc : cd M pc = some (.iconst z, 1)) (hv : Int32.ofInt z = v) (hp : pc + 1 = pc') (kk : Rn Z M pc' ls (.int v :: st) k s n I R L P) : Rn Z M pc ls st k s n I R L P := by
  subst hv
  exact Rn.psh hc rfl hp id kk
theorem Rn.bipush {z : Int} {pc' : Nat} {v : Int32} (hc : cd M pc = some (.bipush z, 2)) (hv : (Int8.ofInt z).toInt32 = v) (hp : pc + 2 = pc') (kk : Rn Z M pc' ls (.int v :: st) k s n I R L P) : Rn Z M pc ls st k s n I R L P := by
  subst hv
  exact Rn.psh hc rfl hp id kk
theorem Rn.sipush {z : Int} {pc' : Nat} {v : Int32} (hc : cd M pc = some (.sipush z, 3)) (hv : (Int16.ofInt z).toInt32 = v) (hp : pc + 3 = pc') (kk : Rn Z M pc' ls (.int v :: st) k s n I R L P) : Rn Z M pc ls st k s n I R L P := by
  subst hv
  exact Rn.psh hc rfl hp id kk
theorem Rn.dup {pc' : Nat} {v : Value} (hc : cd M pc = some (.dup, 1)) (hv : v.category = 1) (hp : pc + 1 = pc') (kk : Rn Z M pc' ls (v :: v :: st) k s n I R L P) : Rn Z M pc ls (v :: st) k s n I R L P :=
  Rn.psh hc (by simp only [ab_ins, if_pos hv]) hp id kk
theorem Rn.dup2 {pc' : Nat} {v w : Value} (hc : cd M pc = some (.dup2, 1)) (hv : v.category = 1 ∧ w.category = 1) (hp : pc + 1 = pc') (kk : Rn Z M pc' ls (v :: w :: v :: w :: st) k s n I R L P) : Rn Z M pc ls (v :: w :: st) k s n I R L P :=
  Rn.psh hc (by simp only [ab_ins, if_pos hv]) hp id kk
theorem Rn.istore {i : Fin 4} {pc' : Nat} {v : Int32} {ls' : List (Option Value)} (hc : cd M pc = some (.istore_n i, 1)) (hi : (i : Nat) < ls.length ∧ ab_fr ls i = true) (he : ls.set (i : Nat) (some (.int v)) = ls') (hp : pc + 1 = pc') (kk : Rn Z M pc' ls' st k s n I R L P) : Rn Z M pc ls (.int v :: st) k s n I R L P := by
  subst he
  exact Rn.psh hc (by simp only [ab_ins, ab_sti, if_pos hi]) hp id kk
theorem Rn.astore {i : Fin 4} {pc' : Nat} {v : Nat} {ls' : List (Option Value)} (hc : cd M pc = some (.astore_n i, 1)) (hi : (i : Nat) < ls.length ∧ ab_fr ls i = true) (he : ls.set (i : Nat) (some (.ref v)) = ls') (hp : pc + 1 = pc') (kk : Rn Z M pc' ls' st k s n I R L P) : Rn Z M pc ls (.ref v :: st) k s n I R L P := by
  subst he
  exact Rn.psh hc (by simp only [ab_ins, ab_sta, if_pos hi]) hp id kk
theorem Rn.iinc {i : Nat} {z : Int} {pc' : Nat} {v w : Int32} {ls' : List (Option Value)} (hc : cd M pc = some (.iinc i z, 3)) (hl : ls[i]? = some (some (.int v))) (hi : i < ls.length ∧ ab_fr ls i = true) (hw : v + Int32.ofInt z = w) (he : ls.set i (some (.int w)) = ls') (hp : pc + 3 = pc') (kk : Rn Z M pc' ls' st k s n I R L P) : Rn Z M pc ls st k s n I R L P := by
  subst he
  subst hw
  exact Rn.psh hc (by simp only [ab_ins, hl, if_pos hi]) hp id kk
theorem Rn.obj {idx pc' o T : Nat} (hc : cd M pc = some (.invokespecial idx, 3)) (hs : ab_find ab_site (mO M) idx = some (6, T)) (hw : ab_wt st ≤ 8 ∧ 1 ≤ mF M ∧ 20 ≤ mW M) (hp : pc + 3 = pc') (kk : Rn Z M pc' ls st k s n I R L P) : Rn Z M pc ls (.ref o :: st) k s n I R L P :=
  Rn.psh hc (by simp only [ab_ins, ab_spc, hs, if_pos hw]) hp id kk
theorem Rn.mk {ins : Instr} {len pc' kd sz ln : Nat} {st' : List Value} (hc : cd M pc = some (ins, len)) (h : ab_ins M pc len ins ls st k s (Cs Z n I R L) = ab_psh len len pc ls st' (k + 1) (s + sz) (ab_mk (Cs Z n I R L) kd ln)) (hs : SH Z n = (kd, ln)) (hn : n < 1000) {n1 : Nat} (hn1 : n + 1 = n1) (hp : pc + len = pc') {s' : Nat} (hz : s + sz = s') (kk : Rn Z M pc' ls st' (k + 1) s' n1 I R L P) : Rn Z M pc ls st k s n I R L P := by
  subst hp hz hn1
  refine Rn.step (fun f0 => ?_) (fun f0 p h1 h2 => f0 p (Nat.le_of_succ_le h1) h2) kk
  unfold ab_step
  rw [hc, ← mk_Cs hs hn f0]
  simp only [h, ab_psh, if_true, ab_ok, ab_sel]
theorem Rn.newi {pc' : Nat} {z : Int32} {len s' : Nat} (hc : cd M pc = some (.newarray .int, 2)) (hz : z.toNatClampNeg = len ∧ ¬ z < 0) (hz2 : len ≤ 10000) (hs : SH Z n = (10, len)) (hn : n < 1000) (hk : k + 1 ≤ mC M) (hm : s + len ≤ mS M) {n1 : Nat} (hn1 : n + 1 = n1) (hp : pc + 2 = pc') (hs' : s + len = s') (kk : Rn Z M pc' ls (.ref n :: st) (k + 1) s' n1 I R L P) : Rn Z M pc ls (.int z :: st) k s n I R L P := by
  obtain ⟨e1, e2⟩ := hz
  exact Rn.mk hc (kd := 10) (sz := len) (ln := len) (by
    simp only [ab_ins, ab_newa, e1]
    rw [if_pos ⟨hn, e2, hz2, hk, hm⟩]
    rfl) hs hn hn1 hp hs' kk
theorem Rn.newz {pc' : Nat} {z : Int32} {len s' : Nat} (hc : cd M pc = some (.newarray .boolean, 2)) (hz : z.toNatClampNeg = len ∧ ¬ z < 0) (hz2 : len ≤ 10000) (hs : SH Z n = (11, len)) (hn : n < 1000) (hk : k + 1 ≤ mC M) (hm : s + len ≤ mS M) {n1 : Nat} (hn1 : n + 1 = n1) (hp : pc + 2 = pc') (hs' : s + len = s') (kk : Rn Z M pc' ls (.ref n :: st) (k + 1) s' n1 I R L P) : Rn Z M pc ls (.int z :: st) k s n I R L P := by
  obtain ⟨e1, e2⟩ := hz
  exact Rn.mk hc (kd := 11) (sz := len) (ln := len) (by
    simp only [ab_ins, ab_newa, e1]
    rw [if_pos ⟨hn, e2, hz2, hk, hm⟩]
    rfl) hs hn hn1 hp hs' kk
theorem Rn.newr {pc' idx : Nat} {z : Int32} {len s' : Nat} (hc : cd M pc = some (.anewarray idx, 3)) (hi : ab_find ab_news (mO M) idx = some 3) (hz : z.toNatClampNeg = len ∧ ¬ z < 0) (hz2 : len ≤ 10000) (hs : SH Z n = (12, len)) (hn : n < 1000) (hk : k + 1 ≤ mC M) (hm : s + len ≤ mS M) {n1 : Nat} (hn1 : n + 1 = n1) (hp : pc + 3 = pc') (hs' : s + len = s') (kk : Rn Z M pc' ls (.ref n :: st) (k + 1) s' n1 I R L P) : Rn Z M pc ls (.int z :: st) k s n I R L P := by
  obtain ⟨e1, e2⟩ := hz
  exact Rn.mk hc (kd := 12) (sz := len) (ln := len) (by
    simp only [ab_ins, hi, ab_newa, e1]
    rw [if_pos ⟨hn, e2, hz2, hk, hm⟩]
    rfl) hs hn hn1 hp hs' kk
theorem Rn.new {pc' idx C s' : Nat} (hc : cd M pc = some (.new idx, 3)) (hi : ab_find ab_news (mO M) idx = some C) (hs : SH Z n = (C, 0)) (hn : n < 1000) (hk : k + 1 ≤ mC M ∧ s + ab_nf C ≤ mS M ∧ C < 6) {n1 : Nat} (hn1 : n + 1 = n1) (hp : pc + 3 = pc') (hs' : s + ab_nf C = s') (kk : Rn Z M pc' ls (.ref n :: st) (k + 1) s' n1 I R L P) : Rn Z M pc ls st k s n I R L P :=
  Rn.mk hc (kd := C) (sz := ab_nf C) (ln := 0) (by
    simp only [ab_ins, ab_new, hi]
    rw [if_pos ⟨hn, hk⟩]
    rfl) hs hn hn1 hp hs' kk
theorem Rn.putr {pc' idx C f o a : Nat} (hc : cd M pc = some (.putfield idx, 3)) (hi : ab_find ab_fld (mO M) idx = some (C, f)) (ho : o < n) (hs : (SH Z o).1 = C) (hf : f < ab_nf C ∧ (ab_ff C f = false ∨ (mI M = true ∧ mO M = C))) (hk : ab_fk C f = 1) {a1 : Nat} (ha1 : a + 1 = a1) (hp : pc + 3 = pc') (kk : Rn Z M pc' ls st k s n I (wR R o f a1) L P) : Rn Z M pc ls (.ref a :: .ref o :: st) k s n I R L P := by
  subst ha1
  exact Rn.psh hc (by
    have e : (Szn Z n o).1 = C := by rw [Szn_at (Or.inl ho)]; exact hs
    simp only [ab_ins, ab_putf, hi]
    rw [if_pos ⟨ho, e, hf⟩]
    simp only [ab_puti, if_pos hk]
    rfl) hp (fun h => h.wR ho) kk
theorem Rn.puti {pc' idx C f o : Nat} {x : Int32} (hc : cd M pc = some (.putfield idx, 3)) (hi : ab_find ab_fld (mO M) idx = some (C, f)) (ho : o < n) (hs : (SH Z o).1 = C) (hf : f < ab_nf C ∧ (ab_ff C f = false ∨ (mI M = true ∧ mO M = C))) (hk : ab_fk C f = 0) (hp : pc + 3 = pc') (kk : Rn Z M pc' ls st k s n (wI I o f x) R L P) : Rn Z M pc ls (.int x :: .ref o :: st) k s n I R L P :=
  Rn.psh hc (by
    have e : (Szn Z n o).1 = C := by rw [Szn_at (Or.inl ho)]; exact hs
    simp only [ab_ins, ab_putf, hi]
    rw [if_pos ⟨ho, e, hf⟩]
    simp only [ab_puti, if_pos (Or.inl hk)]
    rfl) hp (fun h => h.wI ho) kk
theorem Rn.getr {pc' idx C f o a : Nat} (hc : cd M pc = some (.getfield idx, 3)) (hi : ab_find ab_fld (mO M) idx = some (C, f)) (ho : o < n) (hs : (SH Z o).1 = C) (hf : f < ab_nf C) (hk : ab_fk C f = 1) (hR : R o f = a + 1) (hp : pc + 3 = pc') (kk : Rn Z M pc' ls (.ref a :: st) k s n I R L P) : Rn Z M pc ls (.ref o :: st) k s n I R L P :=
  Rn.psh hc (by
    have e : (Szn Z n o).1 = C := by rw [Szn_at (Or.inl ho)]; exact hs
    simp only [ab_ins, ab_getf, hi]
    rw [if_pos ⟨ho, e, hf⟩, if_pos hk]
    show ab_psh 3 3 pc ls (rv (R o f) :: st) k s (Cs Z n I R L) = _
    rw [hR]
    rfl) hp id kk
theorem Rn.goto {off : Int} {pc' : Nat} (hc : cd M pc = some (.goto off, 3)) (h0 : 0 ≤ (pc : Int) + off) (hp : ((pc : Int) + off).toNat = pc') (kk : Rn Z M pc' ls st k s n I R L P) : Rn Z M pc ls st k s n I R L P := by
  subst hp
  refine Rn.step (fun _ => ?_) id kk
  unfold ab_step
  rw [hc]
  simp only [ab_ins, ab_br, h0, and_self, if_true, ab_ok, ab_sel]
theorem Rn.ific {c : ClassFile.Cond} {off : Int} {x y : Int32} {pc' : Nat} (hc : cd M pc = some (.if_icmp c off, 3)) (h0 : 0 ≤ (pc : Int) + off) (hp : (if ab_c2 c x y = true then ((pc : Int) + off).toNat else pc + 3) = pc') (kk : Rn Z M pc' ls st k s n I R L P) : Rn Z M pc ls (.int y :: .int x :: st) k s n I R L P := by
  subst hp
  refine Rn.step (fun _ => ?_) id kk
  unfold ab_step
  rw [hc]
  simp only [ab_ins, ab_br, h0, and_self, if_true, ab_ok, ab_sel]
theorem Rn.ifc {c : ClassFile.Cond} {off : Int} {x : Int32} {pc' : Nat} (hc : cd M pc = some (.ifCond c off, 3)) (h0 : 0 ≤ (pc : Int) + off) (hp : (if ab_c1 c x = true then ((pc : Int) + off).toNat else pc + 3) = pc') (kk : Rn Z M pc' ls st k s n I R L P) : Rn Z M pc ls (.int x :: st) k s n I R L P := by
  subst hp
  refine Rn.step (fun _ => ?_) id kk
  unfold ab_step
  rw [hc]
  simp only [ab_ins, ab_br, h0, and_self, if_true, ab_ok, ab_sel]
theorem Rn.aast {pc' a o : Nat} {i : Int32} {j : Nat} (hc : cd M pc = some (.aastore, 1)) (ho : o < n) (ha : a < n) (hs : (SH Z o).1 = 12) (hi : ab_ix i (SH Z o).2 = true) (h3 : (SH Z a).1 = 3) (hj : i.toNatClampNeg = j) {a1 : Nat} (ha1 : a + 1 = a1) (hp : pc + 1 = pc') (kk : Rn Z M pc' ls st k s n I (wR R o j a1) L P) : Rn Z M pc ls (.ref a :: .int i :: .ref o :: st) k s n I R L P := by
  subst hj ha1
  exact Rn.psh hc (by
    simp only [ab_ins, ab_aast]
    have e : o < n ∧ (Szn Z n o).1 = 12 ∧ ab_ix i (Szn Z n o).2 = true ∧ a < n ∧ (Szn Z n a).1 = 3 := by
      rw [Szn_at (Or.inl ho), Szn_at (Or.inl ha)]
      exact ⟨ho, hs, hi, ha, h3⟩
    exact (if_pos e).trans rfl) hp (fun h => h.wR ho) kk
theorem Rn.getst {idx pc' o : Nat} (hc : cd M pc = some (.getstatic idx, 3)) (hs : ab_find ab_stat (mO M) idx = some o) (hp : pc + 3 = pc') (kk : Rn Z M pc' ls (.ref o :: st) k s n I R L P) : Rn Z M pc ls st k s n I R L P :=
  Rn.psh hc (by simp only [ab_ins, hs]) hp id kk
theorem Rn.alen {pc' o len : Nat} {v : Int32} (hc : cd M pc = some (.arraylength, 1)) (ho : o < n ∨ 1000 ≤ o ∧ o < 1003) (hs : SH Z o = (10, len)) (hv : Int32.ofNat len = v) (hp : pc + 1 = pc') (kk : Rn Z M pc' ls (.int v :: st) k s n I R L P) : Rn Z M pc ls (.ref o :: st) k s n I R L P := by
  subst hv
  exact Rn.psh hc (by
    have e : Szn Z n o = (10, len) := by rw [Szn_at (ho.imp id And.left)]; exact hs
    have e1 : (Szn Z n o).1 = 10 := by rw [e]
    have e2 : (Szn Z n o).2 = len := by rw [e]
    simp only [ab_ins, ab_alen]
    refine (if_pos (show (o < n ∨ 1000 ≤ o ∧ o < 1003) ∧ (Szn Z n o).1 = 10 from ⟨ho, e1⟩)).trans ?_
    show ab_psh 1 1 pc ls (.int (Int32.ofNat (Szn Z n o).2) :: st) k s _ = _
    rw [e2]) hp id kk
theorem Rn.iald {pc' o len : Nat} {i v : Int32} (hc : cd M pc = some (.iaload, 1)) (ho : o < n) (hs : SH Z o = (10, len)) (hi : ab_ix i len = true) (hv : I o i.toNatClampNeg = v) (hp : pc + 1 = pc') (kk : Rn Z M pc' ls (.int v :: st) k s n I R L P) : Rn Z M pc ls (.int i :: .ref o :: st) k s n I R L P := by
  subst hv
  exact Rn.psh hc (by
    have e : Szn Z n o = (10, len) := by rw [Szn_at (Or.inl ho)]; exact hs
    simp only [ab_ins, ab_ald]
    refine (if_pos (show (o < n ∨ (1000 ≤ o ∧ o < 1003 ∧ True)) ∧ (Szn Z n o).1 = 10 ∧ ab_ix i (Szn Z n o).2 = true from by rw [e]; exact ⟨Or.inl ho, rfl, hi⟩)).trans ?_
    rfl) hp id kk
theorem Rn.iast {pc' o len j : Nat} {i x : Int32} (hc : cd M pc = some (.iastore, 1)) (ho : o < n) (hs : SH Z o = (10, len)) (hi : ab_ix i len = true) (hj : i.toNatClampNeg = j) (hp : pc + 1 = pc') (kk : Rn Z M pc' ls st k s n (wI I o j x) R L P) : Rn Z M pc ls (.int x :: .int i :: .ref o :: st) k s n I R L P := by
  subst hj
  exact Rn.psh hc (by
    have e : Szn Z n o = (10, len) := by rw [Szn_at (Or.inl ho)]; exact hs
    simp only [ab_ins, ab_ast]
    exact (if_pos (show o < n ∧ (Szn Z n o).1 = 10 ∧ ab_ix i (Szn Z n o).2 = true ∧ (True ∨ (10 = 11 ∧ (x = 0 ∨ x = 1))) from by rw [e]; exact ⟨ho, rfl, hi, Or.inl trivial⟩)).trans rfl) hp (fun h => h.wI ho) kk
theorem Rn.irem {pc' : Nat} {x y v : Int32} (hc : cd M pc = some (.irem, 1)) (hy : ¬ y = 0) (hv : x - x / y * y = v) (hp : pc + 1 = pc') (kk : Rn Z M pc' ls (.int v :: st) k s n I R L P) : Rn Z M pc ls (.int y :: .int x :: st) k s n I R L P := by
  subst hv
  exact Rn.psh hc (by simp only [ab_ins, if_neg hy]) hp id kk
theorem Rn.idiv {pc' : Nat} {x y v : Int32} (hc : cd M pc = some (.idiv, 1)) (hy : ¬ y = 0) (hv : x / y = v) (hp : pc + 1 = pc') (kk : Rn Z M pc' ls (.int v :: st) k s n I R L P) : Rn Z M pc ls (.int y :: .int x :: st) k s n I R L P := by
  subst hv
  exact Rn.psh hc (by simp only [ab_ins, if_neg hy]) hp id kk
theorem Rn.ishl {pc' : Nat} {x y v : Int32} (hc : cd M pc = some (.ishl, 1)) (hv : x <<< (y &&& 31) = v) (hp : pc + 1 = pc') (kk : Rn Z M pc' ls (.int v :: st) k s n I R L P) : Rn Z M pc ls (.int y :: .int x :: st) k s n I R L P := by
  subst hv
  exact Rn.psh hc rfl hp id kk
theorem Rn.ior {pc' : Nat} {x y v : Int32} (hc : cd M pc = some (.ior, 1)) (hv : x ||| y = v) (hp : pc + 1 = pc') (kk : Rn Z M pc' ls (.int v :: st) k s n I R L P) : Rn Z M pc ls (.int y :: .int x :: st) k s n I R L P := by
  subst hv
  exact Rn.psh hc rfl hp id kk
theorem sh_at {o : Nat} {x : Nat × Nat} (h : o < 112) (e : ab_shl.getD o (99, 0) = x) : SH Z o = x := by
  unfold SH
  rw [if_neg (by omega), if_neg (by omega), if_neg (by omega)]
  exact e
theorem Rn.ctor {T idx o : Nat} {kd : Nat} {ls1 : List (Option Value)} {Pc : Option Value → Nat → ab_I → ab_R → ab_L → Prop} {pc' k' s' : Nat} (hc : cd M pc = some (.invokespecial idx, 3)) (hs : ab_find ab_site (mO M) idx = some (kd, T)) (hkd : kd = 2 ∨ kd = 5) (hN : mN T = 0 ∧ mR T = none ∧ 1 ≤ mL T) (hw : ab_wt st ≤ 8) (hr : mF T + 1 ≤ mF M ∧ 19 + mL T + mW T ≤ mW M ∧ k + mC T ≤ mC M ∧ s + mS T ≤ mS M) (hl1 : ab_pad (mL T) [some (.ref o)] = ls1) (hT : Rn Z T 0 ls1 [] 0 0 n I R L Pc) (hk' : k + mC T = k') (hs' : s + mS T = s') (hp : pc + 3 = pc') (kk : ∀ v n' I' R' L', Pc v n' I' R' L' → v = none ∧ Rn Z M pc' ls st k' s' n' I' R' L' P) : Rn Z M pc ls (.ref o :: st) k s n I R L P := by
  subst hk' hs' hp hl1
  refine Rn.call (T := T) (av := [.ref o]) (rest := st) ?_ hN.2.2 hT (fun v n' I' R' L' hp => ?_)
  · unfold ab_step
    rw [hc]
    rcases hkd with rfl | rfl
    · simp only [ab_ins, ab_spc, hs, if_pos hN.1, ab_callo]
      rw [if_pos ⟨trivial, hN.1.symm, hw, hr⟩]
      rfl
    · simp only [ab_ins, ab_spc, hs, if_pos hN.1, ab_callo]
      rw [if_pos ⟨trivial, hN.1.symm, hw, hr⟩]
      rfl
  · obtain ⟨rfl, h⟩ := kk v n' I' R' L' hp
    exact ⟨[], rfl, by simp only [ab_rk, hN.2.1], h⟩
end CONS
