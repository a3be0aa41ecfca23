/-! the coast and the shore as numbers; what follows from them -/
abbrev Co : Type := Nat → Nat → Nat
/-- co 0: 0 law, 1 last, 2 houses, 3 things, 4 debts; co 1 home, co 2 breaths (of a house); co 3 start, co 4 pace, co 5 worth, co 6 owner + 1, co 7 inside + 1 (of a thing) -/
def XC (I : ab_I) (c : Nat) (co : Co) : Prop :=
  I c 7 = nI (co 0 2) ∧ I c 8 = nI (co 0 3) ∧ I c 9 = nI (co 0 0) ∧ I c 10 = nI (co 0 1) ∧ I c 11 = nI (co 0 4) ∧
  (∀ h, h < co 0 2 → I (c + 1) h = nI (co 1 h)) ∧ (∀ h, h < co 0 2 → I (c + 2) h = nI (co 2 h)) ∧
  (∀ t, t < co 0 3 → I (c + 3) t = nI (co 3 t)) ∧ (∀ t, t < co 0 3 → I (c + 4) t = nI (co 4 t)) ∧ (∀ t, t < co 0 3 → I (c + 5) t = nI (co 5 t)) ∧ (∀ t, t < co 0 3 → I (c + 6) t = nN (co 6 t)) ∧ (∀ t, t < co 0 3 → I (c + 7) t = nN (co 7 t))
theorem XC.hs {I : ab_I} {c : Nat} {co : Co} (h : XC I c co) : I c 7 = nI (co 0 2) := h.1
theorem XC.th {I : ab_I} {c : Nat} {co : Co} (h : XC I c co) : I c 8 = nI (co 0 3) := h.2.1
theorem XC.lw {I : ab_I} {c : Nat} {co : Co} (h : XC I c co) : I c 9 = nI (co 0 0) := h.2.2.1
theorem XC.la {I : ab_I} {c : Nat} {co : Co} (h : XC I c co) : I c 10 = nI (co 0 1) := h.2.2.2.1
theorem XC.db {I : ab_I} {c : Nat} {co : Co} (h : XC I c co) : I c 11 = nI (co 0 4) := h.2.2.2.2.1
theorem XC.a1 {I : ab_I} {c : Nat} {co : Co} (h : XC I c co) {t : Nat} (ht : t < co 0 2) : I (c + 1) t = nI (co 1 t) := h.2.2.2.2.2.1 t ht
theorem XC.a2 {I : ab_I} {c : Nat} {co : Co} (h : XC I c co) {t : Nat} (ht : t < co 0 2) : I (c + 2) t = nI (co 2 t) := h.2.2.2.2.2.2.1 t ht
theorem XC.a3 {I : ab_I} {c : Nat} {co : Co} (h : XC I c co) {t : Nat} (ht : t < co 0 3) : I (c + 3) t = nI (co 3 t) := h.2.2.2.2.2.2.2.1 t ht
theorem XC.a4 {I : ab_I} {c : Nat} {co : Co} (h : XC I c co) {t : Nat} (ht : t < co 0 3) : I (c + 4) t = nI (co 4 t) := h.2.2.2.2.2.2.2.2.1 t ht
theorem XC.a5 {I : ab_I} {c : Nat} {co : Co} (h : XC I c co) {t : Nat} (ht : t < co 0 3) : I (c + 5) t = nI (co 5 t) := h.2.2.2.2.2.2.2.2.2.1 t ht
theorem XC.a6 {I : ab_I} {c : Nat} {co : Co} (h : XC I c co) {t : Nat} (ht : t < co 0 3) : I (c + 6) t = nN (co 6 t) := h.2.2.2.2.2.2.2.2.2.2.1 t ht
theorem XC.a7 {I : ab_I} {c : Nat} {co : Co} (h : XC I c co) {t : Nat} (ht : t < co 0 3) : I (c + 7) t = nN (co 7 t) := h.2.2.2.2.2.2.2.2.2.2.2 t ht
/-- sh 0 place, sh 1 said (bits); sh 2: 0 stones, 1 who owes, 2 the blow -/
def XS (I : ab_I) (s : Nat) (co sh : Co) : Prop :=
  (∀ t, t < co 0 3 → I (s + 1) t = nI (sh 0 t)) ∧ (∀ h, h < 4 → I (s + 2) h = nI (sh 1 h)) ∧ I s 2 = nI (sh 2 0) ∧ I s 3 = nI (sh 2 1) ∧ I s 4 = nI (sh 2 2)
theorem XS.pl {I : ab_I} {s : Nat} {co sh : Co} (h : XS I s co sh) {t : Nat} (ht : t < co 0 3) : I (s + 1) t = nI (sh 0 t) := h.1 t ht
theorem XS.sd {I : ab_I} {s : Nat} {co sh : Co} (h : XS I s co sh) {t : Nat} (ht : t < 4) : I (s + 2) t = nI (sh 1 t) := h.2.1 t ht
theorem XS.st {I : ab_I} {s : Nat} {co sh : Co} (h : XS I s co sh) : I s 2 = nI (sh 2 0) := h.2.2.1
theorem XS.ow {I : ab_I} {s : Nat} {co sh : Co} (h : XS I s co sh) : I s 3 = nI (sh 2 1) := h.2.2.2.1
theorem XS.bl {I : ab_I} {s : Nat} {co sh : Co} (h : XS I s co sh) : I s 4 = nI (sh 2 2) := h.2.2.2.2
/-- one out: where a thing lies, or itself -/
def up (co : Co) (p : Nat) : Nat := if co 7 p = 0 then p else co 7 p - 1
def topf (co : Co) : Nat → Nat → Nat
  | 0, t => t
  | i + 1, t => up co (topf co i t)
def top (co : Co) (t : Nat) : Nat := topf co 6 t
def WF (co : Co) : Prop := co 0 2 ≤ 4 ∧ co 0 3 ≤ 6 ∧ co 0 0 ≤ 3 ∧ (1 ≤ co 0 1 ∧ co 0 1 ≤ 5) ∧ co 0 4 < 16 ∧ (∀ h, h < co 0 2 → co 1 h ≤ co 0 1 ∧ co 2 h ≤ 4) ∧
  (∀ t, t < co 0 3 → co 3 t ≤ co 0 1 ∧ 1 ≤ co 4 t ∧ co 4 t ≤ 3 ∧ co 5 t ≤ 9 ∧ co 6 t ≤ co 0 2 ∧ co 7 t ≤ co 0 3 ∧ co 7 (topf co 6 t) = 0)
def WS (co sh : Co) : Prop := (∀ t, t < co 0 3 → sh 0 t ≤ co 0 1) ∧ (∀ h, h < 4 → sh 1 h < 64) ∧ sh 2 0 < 64 ∧ sh 2 1 < 16
theorem WF.h4 {co : Co} (h : WF co) : co 0 2 ≤ 4 := h.1
theorem WF.t6 {co : Co} (h : WF co) : co 0 3 ≤ 6 := h.2.1
theorem up_lt {co : Co} (hw : WF co) {p : Nat} (hp : p < co 0 3) : up co p < co 0 3 := by
  unfold up
  have := (hw.2.2.2.2.2.2 p hp).2.2.2.2.2.1
  split <;> omega
theorem topf_lt {co : Co} (hw : WF co) {t : Nat} (ht : t < co 0 3) : ∀ i, topf co i t < co 0 3
  | 0 => ht
  | i + 1 => up_lt hw (topf_lt hw ht i)
theorem top_lt {co : Co} (hw : WF co) {t : Nat} (ht : t < co 0 3) : top co t < co 0 3 := topf_lt hw ht 6
theorem topf_fix {co : Co} {t i : Nat} (h : co 7 (topf co i t) = 0) : ∀ d, topf co (i + d) t = topf co i t
  | 0 => rfl
  | d + 1 => by
    rw [← Nat.add_assoc, topf, topf_fix h d, up, if_pos h]
theorem topf_6 {co : Co} {t i : Nat} (h : co 7 (topf co i t) = 0) (hi : i ≤ 6) : topf co i t = top co t := by
  have := topf_fix h (6 - i)
  rw [show i + (6 - i) = 6 by omega] at this
  exact this.symm
def lawf (law c : Nat) (own : Bool) : Bool := if law = 0 then decide (1 ≤ c) else if law = 1 then decide (c = 1) else if law = 2 then own else decide (2 ≤ c)
def heldf (co : Co) (t s : Nat) : Bool := lawf (co 0 0) (pc s 6) (decide (co 6 t ≠ 0) && s.testBit (co 6 t - 1))
/-- who said it to a thing; of them, who is counted -/
def saidf (co sh : Co) (t : Nat) : Nat := mk (fun h => (sh 1 h).testBit t) (co 0 2)
def cntf (co sh : Co) (t : Nat) : Nat := saidf co sh t ^^^ (saidf co sh t &&& sh 2 1)
def stayf (co sh : Co) (t : Nat) : Bool := (sh 2 0).testBit (top co t) || heldf co (top co t) (cntf co sh (top co t))
def nearf (co sh : Co) (h t : Nat) : Bool := decide (sh 0 t ≤ co 1 h + 1 ∧ co 1 h ≤ sh 0 t + 1)
def hasI (x : Int32) (n : Nat) : Bool := decide (0 ≤ x.toInt ∧ x.toInt < n)
theorem hasI_nI {t n : Nat} (h : t < 2 ^ 31) : hasI (nI t) n = decide (t < n) := by
  unfold hasI
  rw [nI_toInt h]
  congr 1
  simp
theorem nN_has {k n : Nat} (hk : k ≤ n) (hn : n < 2 ^ 31) : hasI (nN k) n = decide (k ≠ 0) := by
  cases k with
  | zero => simp [hasI, nN, iI_toInt]
  | succ k =>
    rw [nN, hasI_nI (by omega)]
    simp
    omega
theorem hasI_t {x : Int32} {n : Nat} (hn : n < 2 ^ 31) (h : hasI x n = true) : ∃ t, t < n ∧ x = nI t := by
  unfold hasI at h
  have h := of_decide_eq_true h
  refine ⟨x.toInt.toNat, by omega, ?_⟩
  rw [nI_iI, iI_of x]
  congr 1
  rw [← iI_of x]
  omega
theorem cntf_lt (co sh : Co) (t : Nat) : cntf co sh t < 2 ^ co 0 2 := andn_lt (mk_lt _ _)
theorem cntf_16 {co : Co} (hw : WF co) (sh : Co) (t : Nat) : cntf co sh t < 16 := Nat.lt_of_lt_of_le (cntf_lt co sh t) (Nat.pow_le_pow_right (by decide) hw.h4)
/-! bit, holds, bitCount -/
theorem s_bit {Z n k : Nat} {I : ab_I} {R : ab_R} {L : ab_L} (hn : n < 2 ^ 31) (hk : k < 31) : cl Z 61 [.int (nI n), .int (nI k)] I R L = some (some (.int (nI (n.testBit k).toNat)), I, R, L) := by
  rw [n61]
  simp only [e61_0, e61_1, e61_2, e61_3, e61_4, e61_5]
  rw [nI_bit hn hk]
theorem s_holds {Z law c : Nat} {own : Bool} {I : ab_I} {R : ab_R} {L : ab_L} (hl : law ≤ 3) (hc : c < 2 ^ 31) : cl Z 65 [.int (nI law), .int (nI c), .int (nI own.toNat)] I R L = some (some (.int (nI (lawf law c own).toNat)), I, R, L) := by
  rw [n65]
  rcases (show law = 0 ∨ law = 1 ∨ law = 2 ∨ law = 3 by omega) with rfl | rfl | rfl | rfl
  · simp only [e65_0, e65_1, e65_28, e65_29, e65_30, e65_33, e65_34, e65_37, e65_38, e65_39, e65_40, e65_41, e65_44, e65_45, e65_48, e65_49, e65_50, e65_51, e65_52, e65_53, e65_54, e65_57, e65_58, e65_61, e65_62, lawf, if_true, nI_ltI hc (show 1 < 2 ^ 31 by decide), b01_0, b01_1]
    by_cases h : c < 1
    · rw [if_pos h, decide_eq_false (by omega)]
      rfl
    · rw [if_neg h, decide_eq_true (by omega)]
      rfl
  · simp only [e65_0, e65_1, e65_28, e65_29, e65_30, e65_33, e65_34, e65_37, e65_38, e65_39, e65_40, e65_41, e65_44, e65_45, e65_48, e65_49, e65_50, e65_51, e65_52, e65_53, e65_54, e65_57, e65_58, e65_61, e65_62, lawf, show (nI 1 = nI 0) = False by decide, if_false, if_true, nI_eq hc (show 1 < 2 ^ 31 by decide), b01_0, b01_1]
    by_cases h : c = 1
    · subst h
      rfl
    · rw [if_neg h, if_neg (by decide), decide_eq_false h]
      rfl
  · simp only [e65_0, e65_1, e65_28, e65_29, e65_30, e65_33, e65_34, e65_37, e65_38, e65_39, e65_40, e65_41, e65_44, e65_45, e65_48, e65_49, e65_50, e65_51, e65_52, e65_53, e65_54, e65_57, e65_58, e65_61, e65_62, lawf, show (nI 2 = nI 0) = False by decide, show (nI 2 = nI 1) = False by decide, if_false, if_true, b01_b]
    simp
  · simp only [e65_0, e65_1, e65_28, e65_29, e65_30, e65_33, e65_34, e65_37, e65_38, e65_39, e65_40, e65_41, e65_44, e65_45, e65_48, e65_49, e65_50, e65_51, e65_52, e65_53, e65_54, e65_57, e65_58, e65_61, e65_62, lawf, show (nI 3 = nI 0) = False by decide, show (nI 3 = nI 1) = False by decide, show (nI 3 = nI 2) = False by decide, if_false, nI_ltI hc (show 2 < 2 ^ 31 by decide), b01_0, b01_1]
    by_cases h : c < 2
    · simp [h, show ¬ 2 ≤ c by omega]
    · simp [h, show 2 ≤ c by omega]
