/-! the whole state, and both programs' hold on it -/
abbrev Gs : Type := Nat → Co
/-- g 0 the coast, g 1 the shore; g 2 0 the letters; g 2 1: 0 how many letters, 1 the ring's next place, 2 acts, 3 slots filled, 4 lessons, 5 seen; g 2 2 a lesson: 4 c + 2 own + held; g 2 3 seen: 2 t + there; g (10+j) the ring, g (30+k) the slots -/
def inR (pe ac j : Nat) : Prop := (pe + 15 - j) % 16 < ac
def brf (p : Nat) : Nat := (if p % 5 = 0 then 0 else 1) ||| (if p / 5 % 5 = 0 then 0 else 2) ||| (if p / 25 % 5 = 0 then 0 else 4) ||| (if p / 125 % 5 = 0 then 0 else 8)
def prc (s : Nat) : Nat := (s.testBit 0).toNat + 5 * (s.testBit 1).toNat + 25 * (s.testBit 2).toNat + 125 * (s.testBit 3).toNat
def fct : Nat → Nat
  | 0 => 1
  | n + 1 => (n + 1) * fct n
def PG (g : Gs) : Prop := WF (g 0) ∧ WS (g 0) (g 1) ∧ WN (g 0) (g 1) ∧ (g 2 1 0 ≤ 56 ∧ ∀ i, i < g 2 1 0 → g 2 0 i ≤ 255) ∧ (g 2 1 1 < 16 ∧ g 2 1 2 ≤ 16 ∧ g 2 1 3 < 4) ∧ (g 2 1 4 ≤ 6 ∧ g 2 1 5 ≤ 6) ∧
  (∀ i, i < g 2 1 4 → g 2 2 i < 20) ∧ (∀ i, i < g 2 1 5 → g 2 3 i < 12) ∧ (∀ j, j < 16 → inR (g 2 1 1) (g 2 1 2) j → WS (g 0) (g (10 + j)) ∧ WN (g 0) (g (10 + j))) ∧ (∀ k, k < 2 → (g 2 1 3).testBit k = true → WS (g 0) (g (30 + k)) ∧ WN (g 0) (g (30 + k)))
def XX (g : Gs) (sd : Int64) (c : Nat) (I : ab_I) (R : ab_R) (L : ab_L) : Prop := (IsC c ∧ R 0 3 = c + 1 ∧ R 0 4 = 14 - c + 1 ∧ Fx R) ∧ (XC I c (g 0) ∧ XS I 19 (g 0) (g 1)) ∧ (I 0 1 = nI (g 2 1 0) ∧ ∀ i, i < g 2 1 0 → I 1 i = nI (g 2 0 i)) ∧ (I 0 8 = nI (g 2 1 1) ∧ I 0 9 = nI (g 2 1 2) ∧ I 0 11 = nI (g 2 1 3)) ∧
  (∀ j, j < 16 → inR (g 2 1 1) (g 2 1 2) j → XS I (33 + 3 * j) (g 0) (g (10 + j))) ∧ (∀ k, k < 2 → (g 2 1 3).testBit k = true → XS I (81 + 3 * k) (g 0) (g (30 + k))) ∧ (I 0 14 = nI (g 2 1 4) ∧ I 0 16 = nI (g 2 1 5)) ∧
  (∀ i, i < g 2 1 4 → I 31 i = nI (g 2 2 i)) ∧ (∀ i, i < g 2 1 5 → I 32 i = nI (g 2 3 i)) ∧ ((∀ p, p < 625 → I 28 p = nI (brf p)) ∧ (∀ k, k < 16 → I 1001 k = nI (prc k)) ∧ ∀ k, k < 5 → I 1002 k = nI (fct k)) ∧ L 0 17 = sd
def MM (g : Gs) (sd : Int64) (I : ab_I) (R : ab_R) (L : ab_L) : Prop := Fx R ∧ (MC I (g 0) ∧ MS (I 94) 0 (g 0) (g 1)) ∧ (I 87 24 = nI (g 2 1 0) ∧ ∀ i, i < g 2 1 0 → I 102 i = nI (g 2 0 i)) ∧ (I 87 28 = nI (g 2 1 1) ∧ I 87 27 = nI (g 2 1 2) ∧ ∀ k, k < 2 → I 110 k = nI ((g 2 1 3).testBit k).toNat) ∧
  (∀ j, j < 16 → inR (g 2 1 1) (g 2 1 2) j → MS (I 103) (13 * j) (g 0) (g (10 + j))) ∧ (∀ k, k < 2 → (g 2 1 3).testBit k = true → MS (I 111) (13 * k) (g 0) (g (30 + k))) ∧ (I 87 36 = nI (g 2 1 4) ∧ I 87 39 = nI (g 2 1 5)) ∧
  (∀ i, i < g 2 1 4 → I 106 i = nI (10 * (g 2 2 i / 4) + g 2 2 i / 2 % 2) ∧ I 107 i = nI (g 2 2 i % 2)) ∧ (∀ i, i < g 2 1 5 → I 108 i = nI (g 2 3 i / 2) ∧ I 109 i = nI (g 2 3 i % 2)) ∧ L 87 42 = sd
section STATE
variable {Z : Nat} {g g' : Gs} {sd sd' : Int64} {c : Nat} {I I' : ab_I} {R R' : ab_R} {L L' : ab_L}
theorem PG.wf (h : PG g) : WF (g 0) := h.1
theorem PG.ws (h : PG g) : WS (g 0) (g 1) := h.2.1
theorem PG.wn (h : PG g) : WN (g 0) (g 1) := h.2.2.1
theorem PG.tn (h : PG g) : g 2 1 0 ≤ 56 := h.2.2.2.1.1
theorem PG.tx (h : PG g) {i : Nat} (hi : i < g 2 1 0) : g 2 0 i ≤ 255 := h.2.2.2.1.2 i hi
theorem PG.pe (h : PG g) : g 2 1 1 < 16 := h.2.2.2.2.1.1
theorem PG.ac (h : PG g) : g 2 1 2 ≤ 16 := h.2.2.2.2.1.2.1
theorem PG.kb (h : PG g) : g 2 1 3 < 4 := h.2.2.2.2.1.2.2
theorem PG.ln (h : PG g) : g 2 1 4 ≤ 6 := h.2.2.2.2.2.1.1
theorem PG.sn (h : PG g) : g 2 1 5 ≤ 6 := h.2.2.2.2.2.1.2
theorem PG.le (h : PG g) {i : Nat} (hi : i < g 2 1 4) : g 2 2 i < 20 := h.2.2.2.2.2.2.1 i hi
theorem PG.se (h : PG g) {i : Nat} (hi : i < g 2 1 5) : g 2 3 i < 12 := h.2.2.2.2.2.2.2.1 i hi
theorem PG.ri (h : PG g) {j : Nat} (hj : j < 16) (hr : inR (g 2 1 1) (g 2 1 2) j) : WS (g 0) (g (10 + j)) ∧ WN (g 0) (g (10 + j)) := h.2.2.2.2.2.2.2.2.1 j hj hr
theorem PG.sl (h : PG g) {k : Nat} (hk : k < 2) (hb : (g 2 1 3).testBit k = true) : WS (g 0) (g (30 + k)) ∧ WN (g 0) (g (30 + k)) := h.2.2.2.2.2.2.2.2.2 k hk hb
theorem XX.cc (h : XX g sd c I R L) : IsC c := h.1.1
theorem XX.r3 (h : XX g sd c I R L) : R 0 3 = c + 1 := h.1.2.1
theorem XX.r4 (h : XX g sd c I R L) : R 0 4 = 14 - c + 1 := h.1.2.2.1
theorem XX.F (h : XX g sd c I R L) : Fx R := h.1.2.2.2
theorem XX.C (h : XX g sd c I R L) : XC I c (g 0) := h.2.1.1
theorem XX.S (h : XX g sd c I R L) : XS I 19 (g 0) (g 1) := h.2.1.2
theorem XX.tn (h : XX g sd c I R L) : I 0 1 = nI (g 2 1 0) := h.2.2.1.1
theorem XX.tx (h : XX g sd c I R L) {i : Nat} (hi : i < g 2 1 0) : I 1 i = nI (g 2 0 i) := h.2.2.1.2 i hi
theorem XX.pe (h : XX g sd c I R L) : I 0 8 = nI (g 2 1 1) := h.2.2.2.1.1
theorem XX.ac (h : XX g sd c I R L) : I 0 9 = nI (g 2 1 2) := h.2.2.2.1.2.1
theorem XX.kb (h : XX g sd c I R L) : I 0 11 = nI (g 2 1 3) := h.2.2.2.1.2.2
theorem XX.ri (h : XX g sd c I R L) {j : Nat} (hj : j < 16) (hr : inR (g 2 1 1) (g 2 1 2) j) : XS I (33 + 3 * j) (g 0) (g (10 + j)) := h.2.2.2.2.1 j hj hr
theorem XX.sl (h : XX g sd c I R L) {k : Nat} (hk : k < 2) (hb : (g 2 1 3).testBit k = true) : XS I (81 + 3 * k) (g 0) (g (30 + k)) := h.2.2.2.2.2.1 k hk hb
theorem XX.ln (h : XX g sd c I R L) : I 0 14 = nI (g 2 1 4) := h.2.2.2.2.2.2.1.1
theorem XX.sn (h : XX g sd c I R L) : I 0 16 = nI (g 2 1 5) := h.2.2.2.2.2.2.1.2
theorem XX.le (h : XX g sd c I R L) {i : Nat} (hi : i < g 2 1 4) : I 31 i = nI (g 2 2 i) := h.2.2.2.2.2.2.2.1 i hi
theorem XX.se (h : XX g sd c I R L) {i : Nat} (hi : i < g 2 1 5) : I 32 i = nI (g 2 3 i) := h.2.2.2.2.2.2.2.2.1 i hi
theorem XX.br (h : XX g sd c I R L) {i : Nat} (hi : i < 625) : I 28 i = nI (brf i) := h.2.2.2.2.2.2.2.2.2.1.1 i hi
theorem XX.pr (h : XX g sd c I R L) {i : Nat} (hi : i < 16) : I 1001 i = nI (prc i) := h.2.2.2.2.2.2.2.2.2.1.2.1 i hi
theorem XX.fc (h : XX g sd c I R L) {i : Nat} (hi : i < 5) : I 1002 i = nI (fct i) := h.2.2.2.2.2.2.2.2.2.1.2.2 i hi
theorem XX.sed (h : XX g sd c I R L) : L 0 17 = sd := h.2.2.2.2.2.2.2.2.2.2
theorem MM.F (h : MM g sd I R L) : Fx R := h.1
theorem MM.C (h : MM g sd I R L) : MC I (g 0) := h.2.1.1
theorem MM.S (h : MM g sd I R L) : MS (I 94) 0 (g 0) (g 1) := h.2.1.2
theorem MM.tn (h : MM g sd I R L) : I 87 24 = nI (g 2 1 0) := h.2.2.1.1
theorem MM.tx (h : MM g sd I R L) {i : Nat} (hi : i < g 2 1 0) : I 102 i = nI (g 2 0 i) := h.2.2.1.2 i hi
theorem MM.pe (h : MM g sd I R L) : I 87 28 = nI (g 2 1 1) := h.2.2.2.1.1
theorem MM.ac (h : MM g sd I R L) : I 87 27 = nI (g 2 1 2) := h.2.2.2.1.2.1
theorem MM.kb (h : MM g sd I R L) {k : Nat} (hk : k < 2) : I 110 k = nI ((g 2 1 3).testBit k).toNat := h.2.2.2.1.2.2 k hk
theorem MM.ri (h : MM g sd I R L) {j : Nat} (hj : j < 16) (hr : inR (g 2 1 1) (g 2 1 2) j) : MS (I 103) (13 * j) (g 0) (g (10 + j)) := h.2.2.2.2.1 j hj hr
theorem MM.sl (h : MM g sd I R L) {k : Nat} (hk : k < 2) (hb : (g 2 1 3).testBit k = true) : MS (I 111) (13 * k) (g 0) (g (30 + k)) := h.2.2.2.2.2.1 k hk hb
theorem MM.ln (h : MM g sd I R L) : I 87 36 = nI (g 2 1 4) := h.2.2.2.2.2.2.1.1
theorem MM.sn (h : MM g sd I R L) : I 87 39 = nI (g 2 1 5) := h.2.2.2.2.2.2.1.2
theorem MM.le (h : MM g sd I R L) {i : Nat} (hi : i < g 2 1 4) : I 106 i = nI (10 * (g 2 2 i / 4) + g 2 2 i / 2 % 2) ∧ I 107 i = nI (g 2 2 i % 2) := h.2.2.2.2.2.2.2.1 i hi
theorem MM.se (h : MM g sd I R L) {i : Nat} (hi : i < g 2 1 5) : I 108 i = nI (g 2 3 i / 2) ∧ I 109 i = nI (g 2 3 i % 2) := h.2.2.2.2.2.2.2.2.1 i hi
theorem MM.sed (h : MM g sd I R L) : L 87 42 = sd := h.2.2.2.2.2.2.2.2.2
/-- one side's cells alone change -/
def FX (I I' : ab_I) : Prop := ∀ o, 87 ≤ o → o < 112 → I' o = I o
def FM (I I' : ab_I) : Prop := ∀ o, (o < 87 ∨ 112 ≤ o) → I' o = I o
theorem FX.rf : FX I I := fun _ _ _ => rfl
theorem FM.rf : FM I I := fun _ _ => rfl
theorem FX.tr {J : ab_I} (h1 : FX I J) (h2 : FX J I') : FX I I' := fun o a b => (h2 o a b).trans (h1 o a b)
theorem FM.tr {J : ab_I} (h1 : FM I J) (h2 : FM J I') : FM I I' := fun o a => (h2 o a).trans (h1 o a)
theorem OffS.fx {s : Nat} (hs : IsS s) (h : OffS I I' s) : FX I I' := fun o a b => h o (by unfold IsS at hs; omega) (by unfold IsS at hs; omega) (by unfold IsS at hs; omega)
theorem OffL.fm {b : Nat} (h : OffL I I' b) : FM I I' := fun o a => h.1 o (by omega)
theorem XX.fm (h : XX g sd c I R L) (f : FM I I') (hL : L' 0 = L 0) : XX g sd c I' R L' := by
  have hc := h.cc
  have e : ∀ o, o < 87 → I' o = I o := fun o w => f o (Or.inl w)
  refine ⟨h.1, ⟨h.C.off fun k hk => e _ ?_, h.S.off fun k hk => e _ (by omega)⟩, ?_, ?_, fun j hj hr => (h.ri hj hr).off fun k hk => e _ (by omega), fun j hj hr => (h.sl hj hr).off fun k hk => e _ (by omega), ?_, ?_, ?_, ?_, ?_⟩
  · unfold IsC at hc
    omega
  · rw [e 0 (by decide), e 1 (by decide)]
    exact h.2.2.1
  · rw [e 0 (by decide)]
    exact h.2.2.2.1
  · rw [e 0 (by decide)]
    exact h.2.2.2.2.2.2.1
  · rw [e 31 (by decide)]
    exact h.2.2.2.2.2.2.2.1
  · rw [e 32 (by decide)]
    exact h.2.2.2.2.2.2.2.2.1
  · rw [e 28 (by decide), f 1001 (by omega), f 1002 (by omega)]
    exact h.2.2.2.2.2.2.2.2.2.1
  · rw [hL]
    exact h.sed
theorem MM.fx (h : MM g sd I R L) (hF : Fx R') (f : FX I I') (hL : L' 87 = L 87) : MM g sd I' R' L' := by
  have e : ∀ o, 87 ≤ o ∧ o < 112 → I' o = I o := fun o w => f o w.1 w.2
  refine ⟨hF, ⟨?_, ?_⟩, ?_, ?_, ?_, ?_, ?_, ?_, ?_, ?_⟩
  · unfold MC
    rw [e 87 (by decide), e 88 (by decide), e 89 (by decide), e 90 (by decide), e 91 (by decide), e 92 (by decide), e 93 (by decide)]
    exact h.C
  · rw [e 94 (by decide)]
    exact h.S
  · rw [e 87 (by decide), e 102 (by decide)]
    exact h.2.2.1
  · rw [e 87 (by decide), e 110 (by decide)]
    exact h.2.2.2.1
  · rw [e 103 (by decide)]
    exact h.2.2.2.2.1
  · rw [e 111 (by decide)]
    exact h.2.2.2.2.2.1
  · rw [e 87 (by decide)]
    exact h.2.2.2.2.2.2.1
  · rw [e 106 (by decide), e 107 (by decide)]
    exact h.2.2.2.2.2.2.2.1
  · rw [e 108 (by decide), e 109 (by decide)]
    exact h.2.2.2.2.2.2.2.2.1
  · rw [hL]
    exact h.sed
/-- the shore, or what a call uses as its slate, changes -/
def gS (g : Gs) (a : Nat) (s : Co) : Gs := fun x => if x = a then s else g x
def gQ (g : Gs) (i v : Nat) : Gs := fun x => if x = 2 then (fun b d => if b = 1 ∧ d = i then v else g 2 b d) else g x
def gA (g : Gs) (b i v : Nat) : Gs := fun x => if x = 2 then (fun b' d => if b' = b ∧ d = i then v else g 2 b' d) else g x
theorem XX.now {sh : Co} (h : XX g sd c I R L) (f : OffS I I' 19) (hS : XS I' 19 (g 0) sh) : XX (gS g 1 sh) sd c I' R L := by
  have hc := h.cc
  have e : ∀ o, o ≠ 19 ∧ o ≠ 20 ∧ o ≠ 21 → I' o = I o := fun o w => f o w.1 w.2.1 w.2.2
  have e10 : ∀ j, gS g 1 sh (10 + j) = g (10 + j) := fun j => if_neg (by omega)
  have e30 : ∀ j, gS g 1 sh (30 + j) = g (30 + j) := fun j => if_neg (by omega)
  refine ⟨h.1, ⟨h.C.off fun k hk => e _ ?_, hS⟩, ?_, ?_, fun j hj hr => ?_, fun j hj hr => ?_, ?_, ?_, ?_, ?_, ?_⟩
  · unfold IsC at hc
    omega
  · rw [e 0 (by decide), e 1 (by decide)]
    exact h.2.2.1
  · rw [e 0 (by decide)]
    exact h.2.2.2.1
  · rw [e10]
    exact (h.ri hj hr).off fun k hk => e _ (by omega)
  · rw [e30]
    exact (h.sl hj hr).off fun k hk => e _ (by omega)
  · rw [e 0 (by decide)]
    exact h.2.2.2.2.2.2.1
  · rw [e 31 (by decide)]
    exact h.2.2.2.2.2.2.2.1
  · rw [e 32 (by decide)]
    exact h.2.2.2.2.2.2.2.2.1
  · rw [e 28 (by decide), e 1001 (by omega), e 1002 (by omega)]
    exact h.2.2.2.2.2.2.2.2.2.1
  · exact h.sed
theorem XX.tri (h : XX g sd c I R L) (e : ∀ o, o ≠ 22 → o ≠ 23 → o ≠ 24 → o ≠ 29 → o ≠ 30 → o ≠ 27 → I' o = I o) : XX g sd c I' R L := by
  have hc := h.cc
  refine ⟨h.1, ⟨h.C.off fun k hk => e _ ?_ ?_ ?_ ?_ ?_ ?_, h.S.off fun k hk => e _ (by omega) (by omega) (by omega) (by omega) (by omega) (by omega)⟩, ?_, ?_, fun j hj hr => (h.ri hj hr).off fun k hk => e _ (by omega) (by omega) (by omega) (by omega) (by omega) (by omega), fun j hj hr => (h.sl hj hr).off fun k hk => e _ (by omega) (by omega) (by omega) (by omega) (by omega) (by omega), ?_, ?_, ?_, ?_, ?_⟩
  iterate 6
    · unfold IsC at hc
      omega
  · rw [e 0 (by decide) (by decide) (by decide) (by decide) (by decide) (by decide), e 1 (by decide) (by decide) (by decide) (by decide) (by decide) (by decide)]
    exact h.2.2.1
  · rw [e 0 (by decide) (by decide) (by decide) (by decide) (by decide) (by decide)]
    exact h.2.2.2.1
  · rw [e 0 (by decide) (by decide) (by decide) (by decide) (by decide) (by decide)]
    exact h.2.2.2.2.2.2.1
  · rw [e 31 (by decide) (by decide) (by decide) (by decide) (by decide) (by decide)]
    exact h.2.2.2.2.2.2.2.1
  · rw [e 32 (by decide) (by decide) (by decide) (by decide) (by decide) (by decide)]
    exact h.2.2.2.2.2.2.2.2.1
  · rw [e 28 (by decide) (by decide) (by decide) (by decide) (by decide) (by decide), e 1001 (by decide) (by decide) (by decide) (by decide) (by decide) (by decide), e 1002 (by decide) (by decide) (by decide) (by decide) (by decide) (by decide)]
    exact h.2.2.2.2.2.2.2.2.2.1
  · exact h.sed
theorem MM.now {sh : Co} (h : MM g sd I R L) (f : OffL I I' 0) (hS : MS (I' 94) 0 (g 0) sh) : MM (gS g 1 sh) sd I' R L := by
  have e := f.1
  have e10 : ∀ j, gS g 1 sh (10 + j) = g (10 + j) := fun j => if_neg (by omega)
  have e30 : ∀ j, gS g 1 sh (30 + j) = g (30 + j) := fun j => if_neg (by omega)
  refine ⟨h.1, ⟨h.C.off e, hS⟩, ?_, ?_, ?_, ?_, ?_, ?_, ?_, ?_⟩
  · rw [e 87 (by decide), e 102 (by decide)]
    exact h.2.2.1
  · rw [e 87 (by decide), e 110 (by decide)]
    exact h.2.2.2.1
  · simp only [e10]
    rw [e 103 (by decide)]
    exact h.2.2.2.2.1
  · simp only [e30]
    rw [e 111 (by decide)]
    exact h.2.2.2.2.2.1
  · rw [e 87 (by decide)]
    exact h.2.2.2.2.2.2.1
  · rw [e 106 (by decide), e 107 (by decide)]
    exact h.2.2.2.2.2.2.2.1
  · rw [e 108 (by decide), e 109 (by decide)]
    exact h.2.2.2.2.2.2.2.2.1
  · exact h.sed
/-- what a call may use as its slate: level 1, the tables, four fields -/
theorem MM.tri (h : MM g sd I R L) (e : ∀ o, o ≠ 94 → o ≠ 104 → o ≠ 105 → o ≠ 87 → I' o = I o) (e8 : ∀ k, k ≤ 3 ∨ k = 24 ∨ k = 27 ∨ k = 28 ∨ k = 36 ∨ k = 39 → I' 87 k = I 87 k) (e9 : ∀ j, j < 13 → I' 94 j = I 94 j) (h6 : g 0 0 3 ≤ 6) : MM g sd I' R L := by
  refine ⟨h.1, ⟨?_, ?_⟩, ?_, ?_, ?_, ?_, ?_, ?_, ?_, ?_⟩
  · unfold MC
    rw [e8 0 (by decide), e8 1 (by decide), e8 2 (by decide), e8 3 (by decide), e 88 (by decide) (by decide) (by decide) (by decide), e 89 (by decide) (by decide) (by decide) (by decide), e 90 (by decide) (by decide) (by decide) (by decide), e 91 (by decide) (by decide) (by decide) (by decide), e 92 (by decide) (by decide) (by decide) (by decide), e 93 (by decide) (by decide) (by decide) (by decide)]
    exact h.C
  · have hS := h.S
    refine ⟨fun t ht => ?_, fun t ht => ?_, ?_, ?_, ?_⟩
    · rw [e9 _ (by omega), hS.pl ht]
    · rw [e9 _ (by omega), hS.sd ht]
    · rw [e9 _ (by omega), hS.st]
    · rw [e9 _ (by omega), hS.ow]
    · rw [e9 _ (by omega), hS.bl]
  · rw [e8 24 (by decide), e 102 (by decide) (by decide) (by decide) (by decide)]
    exact h.2.2.1
  · rw [e8 28 (by decide), e8 27 (by decide), e 110 (by decide) (by decide) (by decide) (by decide)]
    exact h.2.2.2.1
  · rw [e 103 (by decide) (by decide) (by decide) (by decide)]
    exact h.2.2.2.2.1
  · rw [e 111 (by decide) (by decide) (by decide) (by decide)]
    exact h.2.2.2.2.2.1
  · rw [e8 36 (by decide), e8 39 (by decide)]
    exact h.2.2.2.2.2.2.1
  · rw [e 106 (by decide) (by decide) (by decide) (by decide), e 107 (by decide) (by decide) (by decide) (by decide)]
    exact h.2.2.2.2.2.2.2.1
  · rw [e 108 (by decide) (by decide) (by decide) (by decide), e 109 (by decide) (by decide) (by decide) (by decide)]
    exact h.2.2.2.2.2.2.2.2.1
  · exact h.sed
theorem XX.up (h : XX g sd c I R L) (ho : ∀ o, o ≠ 0 → o ≠ 1 → o ≠ 31 → o ≠ 32 → I' o = I o) (e0 : g' 0 = g 0) (e1 : g' 1 = g 1) (er : ∀ j, j < 16 → inR (g' 2 1 1) (g' 2 1 2) j → inR (g 2 1 1) (g 2 1 2) j ∧ g' (10 + j) = g (10 + j)) (es : ∀ k, k < 2 → (g' 2 1 3).testBit k = true → (g 2 1 3).testBit k = true ∧ g' (30 + k) = g (30 + k))
    (f1 : I' 0 1 = nI (g' 2 1 0) ∧ ∀ i, i < g' 2 1 0 → I' 1 i = nI (g' 2 0 i)) (f2 : I' 0 8 = nI (g' 2 1 1) ∧ I' 0 9 = nI (g' 2 1 2) ∧ I' 0 11 = nI (g' 2 1 3)) (f3 : I' 0 14 = nI (g' 2 1 4) ∧ I' 0 16 = nI (g' 2 1 5)) (f4 : ∀ i, i < g' 2 1 4 → I' 31 i = nI (g' 2 2 i)) (f5 : ∀ i, i < g' 2 1 5 → I' 32 i = nI (g' 2 3 i)) (f6 : L' 0 17 = sd') : XX g' sd' c I' R L' := by
  have hc := h.cc
  refine ⟨h.1, ⟨?_, ?_⟩, f1, f2, fun j hj hr => ?_, fun j hj hr => ?_, f3, f4, f5, ?_, f6⟩
  · rw [e0]
    exact h.C.off fun k hk => ho _ (by unfold IsC at hc; omega) (by unfold IsC at hc; omega) (by unfold IsC at hc; omega) (by unfold IsC at hc; omega)
  · rw [e0, e1]
    exact h.S.off fun k hk => ho _ (by omega) (by omega) (by omega) (by omega)
  · obtain ⟨a, b⟩ := er j hj hr
    rw [e0, b]
    exact (h.ri hj a).off fun k hk => ho _ (by omega) (by omega) (by omega) (by omega)
  · obtain ⟨a, b⟩ := es j hj hr
    rw [e0, b]
    exact (h.sl hj a).off fun k hk => ho _ (by omega) (by omega) (by omega) (by omega)
  · rw [ho 28 (by decide) (by decide) (by decide) (by decide), ho 1001 (by decide) (by decide) (by decide) (by decide), ho 1002 (by decide) (by decide) (by decide) (by decide)]
    exact h.2.2.2.2.2.2.2.2.2.1
theorem MM.up (h : MM g sd I R L) (e : ∀ o, o ≠ 87 → o ≠ 102 → o ≠ 106 → o ≠ 107 → o ≠ 108 → o ≠ 109 → o ≠ 110 → I' o = I o) (e8 : ∀ k, k ≤ 3 → I' 87 k = I 87 k) (e0 : g' 0 = g 0) (e1 : g' 1 = g 1) (er : ∀ j, j < 16 → inR (g' 2 1 1) (g' 2 1 2) j → inR (g 2 1 1) (g 2 1 2) j ∧ g' (10 + j) = g (10 + j)) (es : ∀ k, k < 2 → (g' 2 1 3).testBit k = true → (g 2 1 3).testBit k = true ∧ g' (30 + k) = g (30 + k))
    (f1 : I' 87 24 = nI (g' 2 1 0) ∧ ∀ i, i < g' 2 1 0 → I' 102 i = nI (g' 2 0 i)) (f2 : I' 87 28 = nI (g' 2 1 1) ∧ I' 87 27 = nI (g' 2 1 2) ∧ ∀ k, k < 2 → I' 110 k = nI ((g' 2 1 3).testBit k).toNat) (f3 : I' 87 36 = nI (g' 2 1 4) ∧ I' 87 39 = nI (g' 2 1 5)) (f4 : ∀ i, i < g' 2 1 4 → I' 106 i = nI (10 * (g' 2 2 i / 4) + g' 2 2 i / 2 % 2) ∧ I' 107 i = nI (g' 2 2 i % 2)) (f5 : ∀ i, i < g' 2 1 5 → I' 108 i = nI (g' 2 3 i / 2) ∧ I' 109 i = nI (g' 2 3 i % 2)) (f6 : L' 87 42 = sd') : MM g' sd' I' R L' := by
  have d : ∀ o, o ≠ 87 ∧ o ≠ 102 ∧ o ≠ 106 ∧ o ≠ 107 ∧ o ≠ 108 ∧ o ≠ 109 ∧ o ≠ 110 → I' o = I o := fun o w => e o w.1 w.2.1 w.2.2.1 w.2.2.2.1 w.2.2.2.2.1 w.2.2.2.2.2.1 w.2.2.2.2.2.2
  refine ⟨h.1, ⟨?_, ?_⟩, f1, f2, fun j hj hr => ?_, fun j hj hr => ?_, f3, f4, f5, f6⟩
  · rw [e0]
    unfold MC
    rw [e8 0 (by decide), e8 1 (by decide), e8 2 (by decide), e8 3 (by decide), d 88 (by decide), d 89 (by decide), d 90 (by decide), d 91 (by decide), d 92 (by decide), d 93 (by decide)]
    exact h.C
  · rw [e0, e1, d 94 (by decide)]
    exact h.S
  · obtain ⟨a, b⟩ := er j hj hr
    rw [e0, b, d 103 (by decide)]
    exact h.ri hj a
  · obtain ⟨a, b⟩ := es j hj hr
    rw [e0, b, d 111 (by decide)]
    exact h.sl hj a
end STATE
/-- a call of each program with the same arguments gives the same, and the state stays one -/
def XK (Z M : Nat) (av : List Value) (v : Value) (g g' : Gs) (sd sd' : Int64) : Prop := ∀ c I R L, XX g sd c I R L → ∃ c' I' R' L', cl Z M (.ref 0 :: av) I R L = some (some v, I', R', L') ∧ XX g' sd' c' I' R' L' ∧ FX I I' ∧ L' 87 = L 87
def MK (Z M : Nat) (av : List Value) (v : Value) (g g' : Gs) (sd sd' : Int64) : Prop := ∀ I R L, MM g sd I R L → ∃ I' L', cl Z M (.ref 87 :: av) I R L = some (some v, I', R, L') ∧ MM g' sd' I' R L' ∧ FM I I' ∧ L' 0 = L 0
def Both (Z MX MM' : Nat) (av : List Value) : Prop := ∀ g sd, PG g → ∃ v g' sd', PG g' ∧ XK Z MX av v g g' sd sd' ∧ MK Z MM' av v g g' sd sd'
theorem Both.run {Z MX MM' : Nat} {av : List Value} (h : Both Z MX MM' av) {g : Gs} {sd : Int64} {c : Nat} {I : ab_I} {R : ab_R} {L : ab_L} (hp : PG g) (hx : XX g sd c I R L) (hm : MM g sd I R L) : ∃ v g' sd' c' I1 R1 L1 I2 L2, cl Z MX (.ref 0 :: av) I R L = some (some v, I1, R1, L1) ∧ cl Z MM' (.ref 87 :: av) I1 R1 L1 = some (some v, I2, R1, L2) ∧ PG g' ∧ XX g' sd' c' I2 R1 L2 ∧ MM g' sd' I2 R1 L2 := by
  obtain ⟨v, g', sd', p', kx, km⟩ := h g sd hp
  obtain ⟨c', I1, R1, L1, e1, x1, f1, l1⟩ := kx c I R L hx
  obtain ⟨I2, L2, e2, m2, f2, l2⟩ := km I1 R1 L1 (hm.fx x1.F f1 l1)
  exact ⟨v, g', sd', c', I1, R1, L1, I2, L2, e1, e2, p', x1.fm f2 l2, m2⟩
