/-! the reference's keeping: what it reads -/
def KM (I : ab_I) (co sh : Co) (cnt : Bool) (W who : Nat) (anew : Bool) : Prop := (MC I co ∧ MS (I 94) 0 co sh) ∧ I 87 31 = nI W ∧ I 87 32 = nI cnt.toNat ∧ I 87 33 = nI who ∧ I 87 34 = nI anew.toNat
theorem KM.off {I J : ab_I} {co sh : Co} {cnt anew : Bool} {W who : Nat} (h : KM I co sh cnt W who anew) (o : ∀ x, x ≠ 104 → J x = I x) : KM J co sh cnt W who anew := by
  unfold KM MC
  rw [o 87 (by decide), o 88 (by decide), o 89 (by decide), o 90 (by decide), o 91 (by decide), o 92 (by decide), o 93 (by decide), o 94 (by decide)]
  exact h
def s0f (sh : Co) (anew : Bool) : Co := if anew = true then shU sh else sh
def nB : Nat → Int32
  | 0 => iI (-1)
  | v + 1 => nI v
theorem dig_lt (p h : Nat) : dig p h < 5 := Nat.mod_lt _ (by decide)
def wif (a b : Nat) : Nat → Bool
  | 0 => true
  | n + 1 => wif a b n && decide (dig a n ≤ dig b n)
theorem wif_iff {a b : Nat} : wif a b 4 = true ↔ ∀ n, n < 4 → dig a n ≤ dig b n := by
  simp only [wif, Bool.and_eq_true, decide_eq_true_iff, true_and]
  constructor
  · rintro ⟨⟨⟨a0, a1⟩, a2⟩, a3⟩ n hn
    rcases (show n = 0 ∨ n = 1 ∨ n = 2 ∨ n = 3 by omega) with rfl | rfl | rfl | rfl <;> assumption
  · intro h
    exact ⟨⟨⟨h 0 (by decide), h 1 (by decide)⟩, h 2 (by decide)⟩, h 3 (by decide)⟩
def ddf (co s : Co) (who n : Nat) : Nat := (who.testBit n).toNat * (co 2 n - pc (s 1 n) 6)
theorem ddf_4 {co s : Co} (hw : WF co) {who n : Nat} (hn : n < co 0 2) : ddf co s who n ≤ 4 := by
  have := (hw.2.2.2.2.2.1 n hn).2
  unfold ddf
  cases who.testBit n <;> simp <;> omega
def hrf (co s : Co) (who : Nat) : Nat → Nat
  | 0 => 0
  | j + 1 => 5 * hrf co s who j + ddf co s who (co 0 2 - 1 - j)
theorem pu_dd {co s : Co} {who : Nat} : ∀ n, pu co s who (n + 1) = pu co s who n + ddf co s who n * 5 ^ n := fun _ => rfl
theorem hrf_pu {co s : Co} (hw : WF co) {who : Nat} : hrf co s who (co 0 2) = pu co s who (co 0 2) := by
  have h4 := hw.h4
  rcases (show co 0 2 = 0 ∨ co 0 2 = 1 ∨ co 0 2 = 2 ∨ co 0 2 = 3 ∨ co 0 2 = 4 by omega) with e | e | e | e | e
  · rw [e]
    rfl
  all_goals
    have q : ∀ j, hrf co s who (j + 1) = 5 * hrf co s who j + ddf co s who (co 0 2 - 1 - j) := fun _ => rfl
    rw [e] at q ⊢
  · rw [q, pu_dd]
    simp [hrf, pu]
  · rw [q, q, pu_dd, pu_dd]
    simp [hrf, pu]
    omega
  · rw [q, q, q, pu_dd, pu_dd, pu_dd]
    simp [hrf, pu]
    omega
  · rw [q, q, q, q, pu_dd, pu_dd, pu_dd, pu_dd]
    simp [hrf, pu]
    omega
theorem dig_pu {co s : Co} (hw : WF co) {who n : Nat} (hn : n < 4) : dig (pu co s who (co 0 2)) n = if n < co 0 2 then ddf co s who n else 0 := by
  have h4 := hw.h4
  have hd := fun n hn => ddf_4 (s := s) (who := who) (n := n) hw hn
  unfold dig
  rcases (show co 0 2 = 0 ∨ co 0 2 = 1 ∨ co 0 2 = 2 ∨ co 0 2 = 3 ∨ co 0 2 = 4 by omega) with e | e | e | e | e
  · rw [e]
    simp [pu]
  · have d0 := hd 0 (by omega)
    rw [e, pu_dd]
    rcases (show n = 0 ∨ n = 1 ∨ n = 2 ∨ n = 3 by omega) with rfl | rfl | rfl | rfl <;> simp [pu] <;> omega
  · have d0 := hd 0 (by omega)
    have d1 := hd 1 (by omega)
    rw [e, pu_dd, pu_dd]
    rcases (show n = 0 ∨ n = 1 ∨ n = 2 ∨ n = 3 by omega) with rfl | rfl | rfl | rfl <;> simp [pu] <;> omega
  · have d0 := hd 0 (by omega)
    have d1 := hd 1 (by omega)
    have d2 := hd 2 (by omega)
    rw [e, pu_dd, pu_dd, pu_dd]
    rcases (show n = 0 ∨ n = 1 ∨ n = 2 ∨ n = 3 by omega) with rfl | rfl | rfl | rfl <;> simp [pu] <;> omega
  · have d0 := hd 0 (by omega)
    have d1 := hd 1 (by omega)
    have d2 := hd 2 (by omega)
    have d3 := hd 3 (by omega)
    rw [e, pu_dd, pu_dd, pu_dd, pu_dd]
    rcases (show n = 0 ∨ n = 1 ∨ n = 2 ∨ n = 3 by omega) with rfl | rfl | rfl | rfl <;> simp [pu] <;> omega
/-- may a set say mine to a thing, house by house -/
def msf (co s : Co) (who t p x : Nat) : Nat → Bool
  | 0 => true
  | n + 1 => msf co s who t p x n && (!x.testBit n || (decide (n < co 0 2) && (who.testBit n && (nearf co s n t && (!(decide (n < co 0 2) && (s 1 n).testBit t) && decide (0 < dig p n))))))
theorem msf_iff {co s : Co} {who t p x : Nat} : ∀ m, msf co s who t p x m = true ↔ ∀ n, n < m → x.testBit n = true → n < co 0 2 ∧ who.testBit n = true ∧ nearf co s n t = true ∧ (s 1 n).testBit t = false ∧ 0 < dig p n
  | 0 => by simp [msf]
  | m + 1 => by
    rw [msf, Bool.and_eq_true, msf_iff m]
    constructor
    · rintro ⟨a, b⟩ n hn hx
      by_cases e : n = m
      · subst e
        rw [hx] at b
        by_cases h : n < co 0 2
        · simp [h] at b
          exact ⟨h, b.1, b.2.1, b.2.2.1, b.2.2.2⟩
        · simp [h] at b
      · exact a n (by omega) hx
    · intro h
      refine ⟨fun n hn => h n (by omega), ?_⟩
      cases hx : x.testBit m
      · rfl
      · obtain ⟨a, b, c, d, e⟩ := h m (by omega) hx
        simp [a, b, c, d, e]
theorem msf_eq {co s : Co} (hw : WF co) {who t p x : Nat} (hx : x < 16) (hp : ∀ n, n < 4 → dig p n ≤ dig (pu co s who (co 0 2)) n) : msf co s who t p x 4 = true ↔ (x &&& mayf co s t = x ∧ fit p x = true) := by
  rw [msf_iff, fit_iff hx]
  have h4 := hw.h4
  constructor
  · intro h
    refine ⟨and_of fun j hj => ?_, fun n hn hb => ?_⟩
    · have hj4 : j < 4 := by
        apply Nat.lt_of_not_le
        intro w
        rw [Nat.testBit_lt_two_pow (Nat.lt_of_lt_of_le hx (Nat.pow_le_pow_right (n := 2) (by decide) w))] at hj
        exact Bool.false_ne_true hj
      obtain ⟨a, b, c, d, e⟩ := h j hj4 hj
      unfold mayf
      rw [mk_bit, c, d, decide_eq_true a]
      rfl
    · have := (h n hn hb).2.2.2.2
      omega
  · rintro ⟨a, b⟩ n hn hb
    have h1 := and_sub a n hb
    unfold mayf at h1
    rw [mk_bit, Bool.and_eq_true, Bool.and_eq_true, Bool.not_eq_true'] at h1
    have h2 := of_decide_eq_true h1.1
    have h3 := b n hn hb
    have h5 := hp n hn
    rw [dig_pu hw hn, if_pos h2] at h5
    refine ⟨h2, ?_, h1.2.1, h1.2.2, by omega⟩
    cases hq : who.testBit n
    · unfold ddf at h5
      rw [hq] at h5
      simp at h5
      omega
    · rfl
section MKEEP
variable {Z t who W : Nat} {co sh : Co} {cnt anew : Bool} {I : ab_I} {R : ab_R} {L : ab_L}
theorem m_breathOf {p h : Nat} (hp : p < 2 ^ 31) (hh : h < 4) : cl Z 154 [.int (nI p), .int (nI h)] I R L = some (some (.int (nI (dig p h))), I, R, L) := by
  rw [n154]
  unfold dig
  have r5 : ∀ a, a < 2 ^ 31 → nI a - nI (a / 5) * nI 5 = nI (a % 5) := fun a ha => by rw [← pk_div ha (show 0 < 5 by decide) (show 5 < 2 ^ 31 by decide), pk_rem ha (by decide) (by decide)]
  rcases (show h = 0 ∨ h = 1 ∨ h = 2 ∨ h = 3 by omega) with rfl | rfl | rfl | rfl
  · simp only [e154_0, e154_1, e154_2, e154_5, e154_6, e154_9, e154_10, e154_11, e154_14, e154_15, e154_18, e154_19, e154_20, e154_23, e154_25, e154_28, e154_30, e154_31, e154_32, e154_33, bI_s, bL_s, bV_s, rv_s1, nl_i, nl_a, nl_n, w8_0, w8_i, w8_a, w8_l, ct_i, ct_a, b01_0, b01_1, b01_b, if_true, show ¬ nI 1 = 0 by decide, show ¬ nI 5 = 0 by decide, not_false_eq_true, pk_div hp (show 0 < 1 by decide) (show 1 < 2 ^ 31 by decide), Nat.div_one, pk_div hp (show 0 < 5 by decide) (show 5 < 2 ^ 31 by decide), r5 p hp, Nat.pow_zero]
  · have hp2 : p / 5 < 2 ^ 31 := Nat.lt_of_le_of_lt (Nat.div_le_self _ _) hp
    simp only [e154_0, e154_1, e154_2, e154_5, e154_6, e154_9, e154_10, e154_11, e154_14, e154_15, e154_18, e154_19, e154_20, e154_23, e154_25, e154_28, e154_30, e154_31, e154_32, e154_33, bI_s, bL_s, bV_s, rv_s1, nl_i, nl_a, nl_n, w8_0, w8_i, w8_a, w8_l, ct_i, ct_a, b01_0, b01_1, b01_b, show (nI 1 = nI 0) = False by decide, if_true, if_false, show ¬ nI 5 = 0 by decide, not_false_eq_true, pk_div hp (show 0 < 5 by decide) (show 5 < 2 ^ 31 by decide), pk_div hp2 (show 0 < 5 by decide) (show 5 < 2 ^ 31 by decide), r5 _ hp2, Nat.pow_one]
  · have hp2 : p / 25 < 2 ^ 31 := Nat.lt_of_le_of_lt (Nat.div_le_self _ _) hp
    simp only [e154_0, e154_1, e154_2, e154_5, e154_6, e154_9, e154_10, e154_11, e154_14, e154_15, e154_18, e154_19, e154_20, e154_23, e154_25, e154_28, e154_30, e154_31, e154_32, e154_33, bI_s, bL_s, bV_s, rv_s1, nl_i, nl_a, nl_n, w8_0, w8_i, w8_a, w8_l, ct_i, ct_a, b01_0, b01_1, b01_b, show (nI 2 = nI 0) = False by decide, show (nI 2 = nI 1) = False by decide, if_true, if_false, show ¬ nI 25 = 0 by decide, show ¬ nI 5 = 0 by decide, not_false_eq_true, pk_div hp (show 0 < 25 by decide) (show 25 < 2 ^ 31 by decide), pk_div hp2 (show 0 < 5 by decide) (show 5 < 2 ^ 31 by decide), r5 _ hp2, Nat.reducePow]
  · have hp2 : p / 125 < 2 ^ 31 := Nat.lt_of_le_of_lt (Nat.div_le_self _ _) hp
    simp only [e154_0, e154_1, e154_2, e154_5, e154_6, e154_9, e154_10, e154_11, e154_14, e154_15, e154_18, e154_19, e154_20, e154_23, e154_25, e154_28, e154_30, e154_31, e154_32, e154_33, bI_s, bL_s, bV_s, rv_s1, nl_i, nl_a, nl_n, w8_0, w8_i, w8_a, w8_l, ct_i, ct_a, b01_0, b01_1, b01_b, show (nI 3 = nI 0) = False by decide, show (nI 3 = nI 1) = False by decide, show (nI 3 = nI 2) = False by decide, if_true, if_false, show ¬ nI 125 = 0 by decide, show ¬ nI 5 = 0 by decide, not_false_eq_true, pk_div hp (show 0 < 125 by decide) (show 125 < 2 ^ 31 by decide), pk_div hp2 (show 0 < 5 by decide) (show 5 < 2 ^ 31 by decide), r5 _ hp2, Nat.reducePow]
theorem m_lessBy {x : Nat} (hx : x < 16) : cl Z 158 [.int (nI x)] I R L = some (some (.int (nI (prc x))), I, R, L) := by
  have e0 : nI x &&& nI 1 = nI (x.testBit 0).toNat := by
    rw [nx_and', Nat.and_one_is_mod, Nat.toNat_testBit, Nat.pow_zero, Nat.div_one]
  rw [n158]
  simp only [e158_0, e158_1, e158_2, e158_3, e158_4, e158_5, e158_6, e158_7, e158_8, e158_9, e158_10, e158_11, e158_13, e158_14, e158_15, e158_16, e158_17, e158_18, e158_19, e158_20, e158_22, e158_23, e158_24, e158_25, e158_26, e158_27, e158_28, e158_29, bI_s, bL_s, bV_s, rv_s1, nl_i, nl_a, nl_n, w8_0, w8_i, w8_a, w8_l, ct_i, ct_a, b01_0, b01_1, b01_b, e0, nI_bit (show x < 2 ^ 31 by omega) (show 1 < 31 by decide), nI_bit (show x < 2 ^ 31 by omega) (show 2 < 31 by decide), nI_bit (show x < 2 ^ 31 by omega) (show 3 < 31 by decide), pk_mul, nI_add]
  rfl
theorem m_isWithin {a b : Nat} (ha : a < 2 ^ 31) (hb : b < 2 ^ 31) : cl Z 153 [.int (nI a), .int (nI b)] I R L = some (some (.int (nI (wif a b 4).toNat)), I, R, L) := by
  rw [n153]
  simp only [e153_0, e153_1, e153_2, e153_3, e153_5, e153_6, e153_9, e153_10, e153_13, e153_14, e153_15, e153_18, e153_19, e153_20, e153_23, e153_26, e153_27, e153_30, e153_31, e153_32, e153_35, e153_38, e153_39, bI_s, bL_s, bV_s, rv_s1, nl_i, nl_a, nl_n, w8_0, w8_i, w8_a, w8_l, ct_i, ct_a, b01_0, b01_1, b01_b]
  refine loop_up (F := fun i => ex Z 0 0 153 4 [some (.int (nI a)), some (.int (nI b)), some (.int (nI (wif a b i).toNat)), some (.int (nI i))] [] I R L) 4 (fun i hi => ?_) ?_ 0 (Nat.zero_le _)
  · have h1 := dig_lt a i
    have h2 := dig_lt b i
    have w1 : wif a b (i + 1) = (wif a b i && !decide (dig b i < dig a i)) := by rw [wif, dle]
    rw [e153_4]
    simp only [e153_0, e153_1, e153_2, e153_3, e153_5, e153_6, e153_9, e153_10, e153_13, e153_14, e153_15, e153_18, e153_19, e153_20, e153_23, e153_26, e153_27, e153_30, e153_31, e153_32, e153_35, e153_38, e153_39, bI_s, bL_s, bV_s, rv_s1, nl_i, nl_a, nl_n, w8_0, w8_i, w8_a, w8_l, ct_i, ct_a, b01_0, b01_1, b01_b, nI_leI (show 4 < 2 ^ 31 by decide) (show i < 2 ^ 31 by omega), show ¬ 4 ≤ i by omega, if_false, nI_b, m_breathOf ha hi, m_breathOf hb hi, nI_ltI (show dig b i < 2 ^ 31 by omega) (show dig a i < 2 ^ 31 by omega), nI_add, w1]
    cases wif a b i <;> by_cases h : dig b i < dig a i <;> simp [h]
  · rw [e153_4]
    simp only [e153_0, e153_1, e153_2, e153_3, e153_5, e153_6, e153_9, e153_10, e153_13, e153_14, e153_15, e153_18, e153_19, e153_20, e153_23, e153_26, e153_27, e153_30, e153_31, e153_32, e153_35, e153_38, e153_39, bI_s, bL_s, bV_s, rv_s1, nl_i, nl_a, nl_n, w8_0, w8_i, w8_a, w8_l, ct_i, ct_a, b01_0, b01_1, b01_b, Int32.le_refl, if_true]
end MKEEP
