/-! the most that can be kept -/
def kf (Q : Nat → Bool) (f : Nat → Nat) (w p : Nat) : Nat → Nat
  | 0 => f p
  | n + 1 => if Q n = true then max (kf Q f w p n) (f (p - prc n) + w) else kf Q f w p n
theorem kf_le {Q : Nat → Bool} {f : Nat → Nat} {w p V : Nat} : ∀ n, f p ≤ V → (∀ x, x < n → Q x = true → f (p - prc x) + w ≤ V) → kf Q f w p n ≤ V
  | 0, h, _ => h
  | n + 1, h, h2 => by
    have ih := kf_le n h (fun x hx => h2 x (by omega))
    rw [kf]
    split
    · rename_i hq
      have := h2 n (by omega) hq
      omega
    · exact ih
theorem kf_0 {Q : Nat → Bool} {f : Nat → Nat} {w p : Nat} : ∀ n, f p ≤ kf Q f w p n
  | 0 => Nat.le_refl _
  | n + 1 => by
    have ih := kf_0 (Q := Q) (f := f) (w := w) (p := p) n
    rw [kf]
    split <;> omega
theorem kf_ge {Q : Nat → Bool} {f : Nat → Nat} {w p x : Nat} (hq : Q x = true) : ∀ n, x < n → f (p - prc x) + w ≤ kf Q f w p n
  | n + 1, h => by
    rw [kf]
    by_cases e : x = n
    · subst e
      rw [if_pos hq]
      omega
    · have ih := kf_ge (f := f) (w := w) (p := p) hq n (by omega)
      split <;> omega
theorem kf_add {Q : Nat → Bool} {f : Nat → Nat} {w p c V : Nat} (h : f p + c ≤ V) : ∀ n, (∀ x, x < n → Q x = true → f (p - prc x) + w + c ≤ V) → kf Q f w p n + c ≤ V
  | 0, _ => h
  | n + 1, h2 => by
    have ih := kf_add h n (fun x hx => h2 x (by omega))
    rw [kf]
    split
    · rename_i hq
      have := h2 n (by omega) hq
      omega
    · exact ih
theorem kf_cst {Q : Nat → Bool} {f : Nat → Nat} {w p c : Nat} : ∀ n, kf Q (fun q => f q + c) w p n = kf Q f w p n + c
  | 0 => rfl
  | n + 1 => by
    rw [kf, kf, kf_cst n]
    split <;> omega
def wqf (co s : Co) (t : Nat) : Bool := tpf co t && !stayf co s t
def kst (co s : Co) (t : Nat) (f : Nat → Nat) (p : Nat) : Nat := kf (fun x => wyf co s t x && fit p x) f (wwf co t) p 16
def opA (co s : Co) (t : Nat) (f : Nat → Nat) : Nat → Nat := if wqf co s t = true then kst co s t f else if tpf co t = true then (fun p => f p + wwf co t) else f
def mono (f : Nat → Nat) : Prop := ∀ p x, x < 16 → fit p x = true → f (p - prc x) ≤ f p
section MOST
variable {co s : Co}
theorem kst_le {t p V : Nat} {f : Nat → Nat} (h : f p ≤ V) (h2 : ∀ x, x < 16 → wyf co s t x = true → fit p x = true → f (p - prc x) + wwf co t ≤ V) : kst co s t f p ≤ V := kf_le 16 h fun x hx hq => by
  rw [Bool.and_eq_true] at hq
  exact h2 x hx hq.1 hq.2
theorem kst_0 {t p : Nat} {f : Nat → Nat} : f p ≤ kst co s t f p := kf_0 16
theorem kst_ge {t p x : Nat} {f : Nat → Nat} (hx : x < 16) (h1 : wyf co s t x = true) (h2 : fit p x = true) : f (p - prc x) + wwf co t ≤ kst co s t f p := kf_ge (Q := fun x => wyf co s t x && fit p x) (by rw [h1, h2]; rfl) 16 hx
theorem kst_mono {t : Nat} {f : Nat → Nat} (h : mono f) : mono (kst co s t f) := by
  intro p x hx hf
  refine kst_le ?_ fun y hy h1 h2 => ?_
  · exact Nat.le_trans (h p x hx hf) kst_0
  · obtain ⟨f1, f2⟩ := fit_comm hx hy hf h2
    have a := kst_ge (f := f) hy h1 f1
    have b := h (p - prc y) x hx f2
    rw [Nat.sub_right_comm] at b
    omega
theorem opA_mono {t : Nat} {f : Nat → Nat} (h : mono f) : mono (opA co s t f) := by
  unfold opA
  split
  · exact kst_mono h
  · split
    · intro p x hx hf
      have := h p x hx hf
      show f (p - prc x) + wwf co t ≤ f p + wwf co t
      omega
    · exact h
theorem kst_comm_le {i j : Nat} {f : Nat → Nat} (p : Nat) : kst co s i (kst co s j f) p ≤ kst co s j (kst co s i f) p := by
  refine kst_le ?_ fun w hw h1 h2 => ?_
  · refine kst_le ?_ fun v hv h3 h4 => ?_
    · exact Nat.le_trans kst_0 kst_0
    · have a := kst_ge (f := kst co s i f) hv h3 h4
      have b := kst_0 (co := co) (s := s) (t := i) (f := f) (p := p - prc v)
      omega
  · refine kf_add ?_ 16 fun v hv hq => ?_
    · have a := kst_ge (co := co) (s := s) (f := f) hw h1 h2
      have b := kst_0 (co := co) (s := s) (t := j) (f := kst co s i f) (p := p)
      omega
    · rw [Bool.and_eq_true] at hq
      obtain ⟨f1, f2⟩ := fit_comm hw hv h2 hq.2
      have a := kst_ge (co := co) (s := s) (t := i) (f := f) hw h1 f2
      have b := kst_ge (co := co) (s := s) (t := j) (f := kst co s i f) hv hq.1 f1
      rw [Nat.sub_right_comm] at a
      omega
theorem kst_comm {i j : Nat} {f : Nat → Nat} : kst co s i (kst co s j f) = kst co s j (kst co s i f) := funext fun p => Nat.le_antisymm (kst_comm_le p) (kst_comm_le p)
theorem kst_cst {i c : Nat} {f : Nat → Nat} : kst co s i (fun q => f q + c) = fun p => kst co s i f p + c := funext fun p => kf_cst 16
theorem opA_comm {i j : Nat} {f : Nat → Nat} : opA co s i (opA co s j f) = opA co s j (opA co s i f) := by
  unfold opA
  by_cases a : wqf co s i = true
  · by_cases b : wqf co s j = true
    · simp only [a, b, if_true]
      exact kst_comm
    · by_cases c : tpf co j = true
      · simp only [a, b, c, if_true, if_false, Bool.false_eq_true]
        exact kst_cst
      · simp only [a, b, c, if_true, if_false, Bool.false_eq_true]
  · by_cases b : wqf co s j = true
    · by_cases c : tpf co i = true
      · simp only [a, b, c, if_true, if_false, Bool.false_eq_true]
        exact kst_cst.symm
      · simp only [a, b, c, if_true, if_false, Bool.false_eq_true]
    · by_cases c : tpf co i = true <;> by_cases d : tpf co j = true <;> simp only [a, b, c, d, if_true, if_false, Bool.false_eq_true]
      funext p
      omega
/-- in the order of the things; in the reference's -/
def Cop (co s : Co) : Nat → (Nat → Nat) → Nat → Nat
  | 0, f => f
  | n + 1, f => opA co s n (Cop co s n f)
def Mv (co s : Co) : Nat → Nat → Nat
  | 0 => fun _ => 0
  | d + 1 => opA co s (co 0 3 - 1 - d) (Mv co s d)
def Ck (co s : Co) : Nat → Nat → Nat
  | 0 => fun _ => 0
  | n + 1 => if wqf co s n = true then kst co s n (Ck co s n) else Ck co s n
def Sk (co s : Co) : Nat → Nat
  | 0 => 0
  | n + 1 => Sk co s n + (if tpf co n = true ∧ stayf co s n = true then wwf co n else 0)
theorem Cop_comm {i : Nat} : ∀ n f, opA co s i (Cop co s n f) = Cop co s n (opA co s i f)
  | 0, _ => rfl
  | n + 1, f => by rw [Cop, Cop, opA_comm, Cop_comm n f]
theorem Mv_C : ∀ d, d ≤ co 0 3 → Cop co s (co 0 3 - d) (Mv co s d) = Cop co s (co 0 3) (fun _ => 0)
  | 0, _ => rfl
  | d + 1, h => by
    rw [← Mv_C d (by omega), show co 0 3 - d = (co 0 3 - 1 - d) + 1 by omega, Cop, Cop_comm, show co 0 3 - (d + 1) = co 0 3 - 1 - d by omega, Mv]
theorem Cop_k : ∀ n, Cop co s n (fun _ => 0) = fun p => Ck co s n p + Sk co s n
  | 0 => rfl
  | n + 1 => by
    rw [Cop, Cop_k n, Ck, Sk, opA]
    by_cases a : wqf co s n = true
    · have hs : ¬ (tpf co n = true ∧ stayf co s n = true) := fun w => by
        unfold wqf at a
        rw [w.1, w.2] at a
        exact Bool.false_ne_true a
      simp only [a, hs, if_true, if_false, Nat.add_zero]
      exact kst_cst
    · by_cases b : tpf co n = true
      · have hs : tpf co n = true ∧ stayf co s n = true := ⟨b, by
          cases h : stayf co s n
          · exact absurd (by unfold wqf; rw [b, h]; rfl) a
          · rfl⟩
        simp only [a, b, hs, if_true, if_false, Bool.false_eq_true, and_self]
        funext p
        omega
      · have hs : ¬ (tpf co n = true ∧ stayf co s n = true) := fun w => b w.1
        simp only [a, b, hs, if_false, Bool.false_eq_true, Nat.add_zero, false_and]
theorem Mv_k (p : Nat) : Mv co s (co 0 3) p = Ck co s (co 0 3) p + Sk co s (co 0 3) := by
  have h := Mv_C (co := co) (s := s) (co 0 3) (Nat.le_refl _)
  rw [Nat.sub_self, Cop_k] at h
  exact congrFun h p
/-- what stays, told by what is outermost -/
def Sn (co s : Co) (m : Nat) : Nat → Nat
  | 0 => 0
  | n + 1 => Sn co s m n + (if tpf co n = true ∧ stayf co s n = true then wwn co n m else 0)
theorem Sk_n : ∀ n, Sk co s n = Sn co s (co 0 3) n
  | 0 => rfl
  | n + 1 => by rw [Sk, Sn, Sk_n n]; rfl
theorem Sn_0 : ∀ n, Sn co s 0 n = 0
  | 0 => rfl
  | n + 1 => by
    rw [Sn, Sn_0 n]
    simp [wwn]
theorem Sn_s (m : Nat) : ∀ n, Sn co s (m + 1) n = Sn co s m n + (if top co m < n ∧ tpf co (top co m) = true ∧ stayf co s (top co m) = true then co 5 m else 0)
  | 0 => by rw [Sn, Sn, if_neg (fun w => by omega)]
  | n + 1 => by
    rw [Sn, Sn, Sn_s m n, wwn]
    by_cases e : top co m = n
    · rw [if_pos e, e, if_neg (show ¬ (n < n ∧ _) from fun w => by omega)]
      by_cases c : tpf co n = true ∧ stayf co s n = true
      · rw [if_pos c, if_pos c, if_pos ⟨by omega, c⟩]
        omega
      · rw [if_neg c, if_neg c, if_neg (fun w => c w.2)]
    · rw [if_neg e, Nat.add_zero]
      by_cases c : top co m < n ∧ tpf co (top co m) = true ∧ stayf co s (top co m) = true
      · rw [if_pos c, if_pos (show top co m < n + 1 ∧ tpf co (top co m) = true ∧ stayf co s (top co m) = true from ⟨by omega, c.2⟩)]
        omega
      · rw [if_neg c, if_neg (show ¬ (top co m < n + 1 ∧ tpf co (top co m) = true ∧ stayf co s (top co m) = true) from fun w => c ⟨by omega, w.2⟩)]
        omega
theorem Sn_w {K n : Nat} : ∀ k, (∀ t, t < k → top co t < n ∧ tpf co (top co t) = true ∧ stayf co s (top co t) = K.testBit t) → Sn co s k n = sumw co K k
  | 0, _ => Sn_0 n
  | k + 1, h => by
    obtain ⟨h1, h2, h3⟩ := h k (by omega)
    rw [Sn_s, Sn_w k (fun t ht => h t (by omega)), sumw, ← h3]
    cases hs : stayf co s (top co k)
    · rw [if_neg (fun w => Bool.false_ne_true w.2.2)]
      simp
    · rw [if_pos ⟨h1, h2, rfl⟩]
      simp
theorem tp_top (hw : WF co) {t : Nat} (ht : t < co 0 3) : tpf co (top co t) = true := decide_eq_true (hw.2.2.2.2.2.2 t ht).2.2.2.2.2.2
theorem stay_top (hw : WF co) {t : Nat} (ht : t < co 0 3) : stayf co s (top co t) = stayf co s t := by
  unfold stayf
  rw [top_tp (tp_top hw ht)]
theorem Sk_w (hw : WF co) : Sk co s (co 0 3) = sumw co (mk (stayf co s) (co 0 3)) (co 0 3) := by
  rw [Sk_n]
  exact Sn_w _ fun t ht => ⟨top_lt hw ht, tp_top hw ht, by rw [stay_top hw ht, mk_bit, decide_eq_true ht, Bool.true_and]⟩
/-- the reference's rows -/
theorem Mv_mono : ∀ d, mono (Mv co s d)
  | 0 => fun _ _ _ _ => Nat.le_refl _
  | d + 1 => by
    rw [Mv]
    exact opA_mono (Mv_mono d)
theorem chm_t {wm : Nat → Bool} {rest : Nat → Nat} {t p x : Nat} (h1 : x &&& mayf co s t = x) (h2 : fit p x = true) (h3 : rest (p - prc x) ≠ 0) : chm true co s wm rest t p x = rest (p - prc x) + (if (tpf co t && isf co s t x) = true then wwf co t else 0) := by
  unfold chm
  rw [if_pos ⟨h1, h2⟩, if_neg, if_pos rfl]
  rintro (w | ⟨w, -⟩)
  · exact h3 w
  · cases w
theorem Bm_t (hw : WF co) {wm : Nat → Bool} : ∀ d, d ≤ co 0 3 → ∀ p, Bm true co s wm d p = Mv co s d p + 1
  | 0, _, p => rfl
  | d + 1, hd, p => by
    have ih := Bm_t hw (wm := wm) d (by omega)
    have ht : co 0 3 - 1 - d < co 0 3 := by omega
    have hm := Mv_mono (co := co) (s := s) d
    rw [Bm, if_pos rfl, Mv]
    generalize co 0 3 - 1 - d = t at ht
    have c0 : chm true co s wm (Bm true co s wm d) t p 0 = Mv co s d p + 1 + (if (tpf co t && isf co s t 0) = true then wwf co t else 0) := by
      rw [chm_t (Nat.zero_and _) (fit_0 p) (by rw [ih]; omega), ih]
      rfl
    have up : ∀ V, Mv co s d p + 1 + (if tpf co t = true ∧ stayf co s t = true then wwf co t else 0) ≤ V → (wqf co s t = true → ∀ w, w < 16 → wyf co s t w = true → fit p w = true → Mv co s d (p - prc w) + wwf co t + 1 ≤ V) → ∀ x, x < 16 → chm true co s wm (Bm true co s wm d) t p x ≤ V := by
      intro V hV hq x hx
      by_cases hc : x &&& mayf co s t = x ∧ fit p x = true
      · rw [chm_t hc.1 hc.2 (by rw [ih]; omega), ih]
        have h1 := hm p x hx hc.2
        by_cases hi : (tpf co t && isf co s t x) = true
        · rw [if_pos hi]
          rw [Bool.and_eq_true] at hi
          by_cases hs : stayf co s t = true
          · rw [if_pos ⟨hi.1, hs⟩] at hV
            omega
          · have hs2 : stayf co s t = false := by simpa using hs
            have hq2 : wqf co s t = true := by
              unfold wqf
              rw [hi.1, hs2]
              rfl
            have hs3 := hs2
            unfold stayf at hs3
            rw [top_tp hi.1] at hs3
            have hs4 : (s 2 0).testBit t = false ∧ heldf co t (cntf co s t) = false := by
              cases a : (s 2 0).testBit t <;> cases b : heldf co t (cntf co s t) <;> simp [a, b] at hs3 ⊢
            obtain ⟨w, w1, w2, w3, w4⟩ := wy_ex hw ht hs4.2 hs4.1 hc.1 hi.2
            obtain ⟨f1, f2, f3⟩ := fit_sub hx w3 w1 hc.2
            have h5 := hq hq2 w w3 w2 f1
            have h6 := hm (p - prc w) _ (andn_lt (n := 4) hx) f2
            rw [← f3] at h6
            omega
        · rw [if_neg hi]
          have : Mv co s d p + 1 ≤ V := by
            split at hV <;> omega
          omega
      · unfold chm
        rw [if_neg hc]
        exact Nat.zero_le _
    by_cases hq : wqf co s t = true
    · have hq2 : tpf co t = true ∧ stayf co s t = false := by
        unfold wqf at hq
        rw [Bool.and_eq_true, Bool.not_eq_true'] at hq
        exact hq
      have hns : ¬ (tpf co t = true ∧ stayf co s t = true) := fun w => by
        rw [hq2.2] at w
        exact Bool.false_ne_true w.2
      unfold opA
      rw [if_pos hq]
      apply Nat.le_antisymm
      · refine mx_le 16 (up _ ?_ fun _ w hw3 h1 h2 => ?_)
        · rw [if_neg hns]
          have := kst_0 (co := co) (s := s) (t := t) (f := Mv co s d) (p := p)
          omega
        · have := kst_ge (f := Mv co s d) hw3 h1 h2
          omega
      · have hle : kst co s t (Mv co s d) p ≤ mx (chm true co s wm (Bm true co s wm d) t p) 16 - 1 := by
          refine kst_le ?_ fun w hw3 h1 h2 => ?_
          · have := mx_ge (f := chm true co s wm (Bm true co s wm d) t p) (s := 0) 16 (by decide)
            rw [c0] at this
            omega
          · have := mx_ge (f := chm true co s wm (Bm true co s wm d) t p) (s := w) 16 hw3
            obtain ⟨k1, k2, k3, k4⟩ := wy_is hw h1
            rw [chm_t k1 h2 (by rw [ih]; omega), ih, hq2.1, k2, if_pos (show (true && true) = true from rfl)] at this
            omega
        have := mx_ge (f := chm true co s wm (Bm true co s wm d) t p) (s := 0) 16 (by decide)
        rw [c0] at this
        omega
    · unfold opA
      rw [if_neg hq]
      by_cases ht2 : tpf co t = true
      · rw [if_pos ht2]
        have hs : stayf co s t = true := by
          cases h : stayf co s t
          · exact absurd (by unfold wqf; rw [ht2, h]; rfl) hq
          · rfl
        refine mx_eq (s := 0) (up _ ?_ fun w => absurd w hq) (by decide) ?_
        · rw [if_pos ⟨ht2, hs⟩]
          omega
        · rw [c0, ht2, isf_0 ht2, hs, if_pos (show (true && true) = true from rfl)]
          omega
      · rw [if_neg ht2]
        refine mx_eq (s := 0) (up _ ?_ fun w => absurd w hq) (by decide) ?_
        · rw [if_neg (fun w => ht2 w.1)]
          omega
        · have : tpf co t = false := by simpa using ht2
          rw [c0, this]
          rfl
end MOST
