/-! numbers and sets -/
theorem loop_up {F : Nat → ab_Rm} (n : Nat) {r : ab_Rm} (hs : ∀ i, i < n → F i = F (i + 1)) (he : F n = r) : ∀ i, i ≤ n → F i = r := by
  have key : ∀ d i, i + d = n → F i = r := by
    intro d
    induction d with
    | zero =>
      intro i hi
      rw [← he, ← hi, Nat.add_zero]
    | succ d ih =>
      intro i hi
      rw [hs i (by omega)]
      exact ih (i + 1) (by omega)
  exact fun i hi => key (n - i) i (by omega)
/-- a loop that may end early -/
theorem loop_ex {F G : Nat → ab_Rm} (n : Nat) (hs : ∀ i, i < n → F (i + 1) = G (i + 1) → F i = G i) (he : F n = G n) : ∀ i, i ≤ n → F i = G i := by
  have key : ∀ d i, i + d = n → F i = G i := by
    intro d
    induction d with
    | zero =>
      intro i hi
      rw [Nat.add_zero] at hi
      rw [hi]
      exact he
    | succ d ih =>
      intro i hi
      exact hs i (by omega) (ih (i + 1) (by omega))
  exact fun i hi => key (n - i) i (by omega)
def mk (P : Nat → Bool) : Nat → Nat
  | 0 => 0
  | n + 1 => mk P n ||| (if P n then 2 ^ n else 0)
theorem mk_lt (P : Nat → Bool) : ∀ n, mk P n < 2 ^ n
  | 0 => by simp [mk]
  | n + 1 => by
    have ih := mk_lt P n
    rw [mk]
    have e : 2 ^ (n + 1) = 2 ^ n + 2 ^ n := by rw [Nat.pow_succ]; omega
    refine Nat.or_lt_two_pow (by omega) ?_
    split
    · omega
    · exact Nat.two_pow_pos _
theorem mk_bit (P : Nat → Bool) (j : Nat) : ∀ n, (mk P n).testBit j = (decide (j < n) && P j)
  | 0 => by simp [mk]
  | n + 1 => by
    rw [mk, Nat.testBit_or, mk_bit P j n]
    by_cases hj : j = n
    · subst hj
      by_cases h : P j = true
      · simp [h]
      · simp [h]
    · by_cases h : P n = true
      · rw [if_pos h, Nat.testBit_two_pow]
        rw [show decide (n = j) = false by simp; omega, Bool.or_false]
        congr 1
        simp; omega
      · rw [if_neg h, Nat.zero_testBit, Bool.or_false]
        congr 1
        simp; omega
theorem mk_congr {P Q : Nat → Bool} : ∀ n, (∀ j, j < n → P j = Q j) → mk P n = mk Q n
  | 0, _ => rfl
  | n + 1, h => by rw [mk, mk, mk_congr n (fun j hj => h j (by omega)), h n (by omega)]
def pc (s : Nat) : Nat → Nat
  | 0 => 0
  | n + 1 => pc s n + (s.testBit n).toNat
theorem pc_le (s : Nat) : ∀ n, pc s n ≤ n
  | 0 => Nat.le_refl 0
  | n + 1 => by
    have := pc_le s n
    have h2 : (s.testBit n).toNat ≤ 1 := Bool.toNat_le _
    rw [pc]
    omega
/-- the 32-bit forms -/
theorem nI_b (b : Bool) : nI b.toNat = nI 0 ↔ b = false := by cases b <;> decide
theorem nI_b' (b : Bool) : nI b.toNat = 0 ∨ nI b.toNat = 1 := by cases b <;> decide
theorem nx_and' (a b : Nat) : nI a &&& nI b = nI (a &&& b) := by
  apply Int32.toBitVec_inj.mp
  simp [nI, BitVec.ofNat_and]
theorem nx_or' (a b : Nat) : nI a ||| nI b = nI (a ||| b) := by
  apply Int32.toBitVec_inj.mp
  simp [nI, BitVec.ofNat_or]
theorem nx_xor' (a b : Nat) : nI a ^^^ nI b = nI (a ^^^ b) := by
  apply Int32.toBitVec_inj.mp
  simp [nI, BitVec.ofNat_xor]
theorem sm_k : ∀ k, k < 31 → ((nI k &&& 31).toBitVec.smod 32).toNat = k := by decide +kernel
theorem nI_shl {n k : Nat} (hk : k < 31) (h : n * 2 ^ k < 2 ^ 32) : nI n <<< (nI k &&& 31) = nI (n * 2 ^ k) := pk_shlN _ k (sm_k k hk) h
theorem nI_1shl {k : Nat} (hk : k < 31) : nI 1 <<< (nI k &&& 31) = nI (2 ^ k) := by
  rw [nI_shl hk (by rw [Nat.one_mul]; exact Nat.pow_lt_pow_right (by decide) (by omega)), Nat.one_mul]
theorem nI_shr {n k : Nat} (hn : n < 2 ^ 31) (hk : k < 31) : nI n >>> (nI k &&& 31) = nI (n / 2 ^ k) := pk_shrN hn _ k (sm_k k hk)
theorem nI_bit {n k : Nat} (hn : n < 2 ^ 31) (hk : k < 31) : nI n >>> (nI k &&& 31) &&& nI 1 = nI (n.testBit k).toNat := by
  rw [nI_shr hn hk, nx_and', Nat.toNat_testBit, Nat.and_one_is_mod]
theorem nI_m1 (a : Nat) : nI a ^^^ iI (-1) = ~~~ (nI a) := by
  apply Int32.toBitVec_inj.mp
  simp [nI, iI]
theorem nI_andn (a b : Nat) : nI a &&& (nI b ^^^ iI (-1)) = nI (a ^^^ (a &&& b)) := by
  rw [nI_m1]
  apply Int32.toBitVec_inj.mp
  apply BitVec.eq_of_getLsbD_eq
  intro i hi
  simp [nI, hi, Nat.testBit_xor, Nat.testBit_and]
  cases (BitVec.ofNat 32 a)[i] <;> cases (BitVec.ofNat 32 b)[i] <;> rfl
theorem andn_bit (a b j : Nat) : (a ^^^ (a &&& b)).testBit j = (a.testBit j && !b.testBit j) := by
  rw [Nat.testBit_xor, Nat.testBit_and]
  cases a.testBit j <;> cases b.testBit j <;> rfl
theorem andn_lt {a b n : Nat} (h : a < 2 ^ n) : a ^^^ (a &&& b) < 2 ^ n := Nat.xor_lt_two_pow h (Nat.lt_of_le_of_lt Nat.and_le_left h)
theorem ab_ixN {t n : Nat} (h : t < n) (hn : n < 2 ^ 31) : ab_ix (nI t) n = true := by
  have := nI_in h hn
  simp [ab_ix]
  simpa using this
theorem ab_ixL {t n : Nat} (h : t < n ∧ n < 2 ^ 31) : ab_ix (nI t) n = true := ab_ixN h.1 h.2
theorem iI_toInt {z : Int} (h1 : -2 ^ 31 ≤ z) (h2 : z < 2 ^ 31) : (iI z).toInt = z := Int32.toInt_ofInt_of_le h1 h2
theorem nI_iI (n : Nat) : nI n = iI (n : Int) := by
  apply Int32.toBitVec_inj.mp
  simp [nI, iI]
theorem iI_add (a b : Int) : iI a + iI b = iI (a + b) := (Int32.ofInt_add a b).symm
theorem iI_sub (a b : Int) : iI a - iI b = iI (a - b) := (Int32.ofInt_sub a b).symm
theorem iI_mul (a b : Int) : iI a * iI b = iI (a * b) := (Int32.ofInt_mul a b).symm
theorem iI_lt {a b : Int} (ha : -2 ^ 31 ≤ a ∧ a < 2 ^ 31) (hb : -2 ^ 31 ≤ b ∧ b < 2 ^ 31) : iI a < iI b ↔ a < b := by
  rw [Int32.lt_iff_toInt_lt, iI_toInt ha.1 ha.2, iI_toInt hb.1 hb.2]
theorem iI_le {a b : Int} (ha : -2 ^ 31 ≤ a ∧ a < 2 ^ 31) (hb : -2 ^ 31 ≤ b ∧ b < 2 ^ 31) : iI a ≤ iI b ↔ a ≤ b := by
  rw [Int32.le_iff_toInt_le, iI_toInt ha.1 ha.2, iI_toInt hb.1 hb.2]
theorem iI_eq {a b : Int} (ha : -2 ^ 31 ≤ a ∧ a < 2 ^ 31) (hb : -2 ^ 31 ≤ b ∧ b < 2 ^ 31) : iI a = iI b ↔ a = b := by
  constructor
  · intro h
    have := congrArg Int32.toInt h
    rwa [iI_toInt ha.1 ha.2, iI_toInt hb.1 hb.2] at this
  · rintro rfl
    rfl
theorem iI_of (x : Int32) : x = iI x.toInt := (Int32.ofInt_toInt x).symm
theorem x_rng (x : Int32) : -2 ^ 31 ≤ x.toInt ∧ x.toInt < 2 ^ 31 := ⟨Int32.le_toInt x, Int32.toInt_lt x⟩
/-- no reference, or the object before -/
def nN : Nat → Int32
  | 0 => iI (-9)
  | a + 1 => nI a
theorem rv_s (a : Nat) : rv (a + 1) = .ref a := rfl
