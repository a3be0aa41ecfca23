/-! heard -/
def allf (P : Nat → Bool) : Nat → Bool
  | 0 => true
  | n + 1 => allf P n && P n
theorem allf_f {P : Nat → Bool} {i : Nat} (h : allf P i = false) : ∀ d, allf P (i + d) = false
  | 0 => h
  | d + 1 => by rw [← Nat.add_assoc, allf, allf_f h d]; rfl
/-- one thing seen, where la is at last -/
def seef (T la s : Nat) : Bool := !decide (s / 2 < T) || (la.testBit (s / 2) == decide (s % 2 = 1))
def hcn (P : Nat → Bool) : Nat → Nat
  | 0 => 0
  | n + 1 => hcn P n + (P n).toNat
def hal (A : Nat) (P : Nat → Bool) : Nat → Nat
  | 0 => A
  | n + 1 => if P n = true then hal A P n &&& n else hal A P n
def hsm (P : Nat → Bool) : Nat → Nat
  | 0 => 0
  | n + 1 => if P n = true then hsm P n ||| n else hsm P n
def hno (A : Nat) (P : Nat → Bool) : Nat → Nat
  | 0 => A
  | n + 1 => if P n = true then hno A P n ^^^ (hno A P n &&& n) else hno A P n
theorem hno_s {A : Nat} {P : Nat → Bool} : ∀ n, hno A P n = A ^^^ (A &&& hsm P n)
  | 0 => by simp [hno, hsm]
  | n + 1 => by
    rw [hno, hsm, hno_s n]
    split
    · apply Nat.eq_of_testBit_eq
      intro j
      rw [andn_bit, andn_bit, andn_bit, Nat.testBit_or]
      cases A.testBit j <;> cases (hsm P n).testBit j <;> cases n.testBit j <;> rfl
    · rfl
theorem hcn_le (P : Nat → Bool) : ∀ n, hcn P n ≤ n
  | 0 => Nat.le_refl 0
  | n + 1 => by
    have := hcn_le P n
    have h2 : (P n).toNat ≤ 1 := Bool.toNat_le _
    rw [hcn]
    omega
theorem shW_w {sh : Co} {h v w : Nat} : shW (shW sh 1 h v) 1 h w = shW sh 1 h w := by
  funext a b
  unfold shW
  split
  · rfl
  · rfl
theorem shW_i {sh : Co} {h : Nat} : shW sh 1 h (sh 1 h) = sh := by
  funext a b
  unfold shW
  split
  · rename_i w
    rw [w.1, w.2]
  · rfl
theorem rem2_b {a : Nat} (h : a < 2 ^ 31) : nI a - nI (a / 2) * nI 2 = nI (decide (a % 2 = 1)).toNat := by
  rw [← pk_div h (show 0 < 2 by decide) (show 2 < 2 ^ 31 by decide), pk_rem h (by decide) (by decide)]
  rcases (show a % 2 = 0 ∨ a % 2 = 1 by omega) with h | h <;> rw [h] <;> rfl
theorem nI_bq (b d : Bool) : (nI b.toNat = nI d.toNat) = ((b == d) = true) := by cases b <;> cases d <;> decide
theorem mod2_b (a : Nat) : nI (a % 2) = nI (decide (a % 2 = 1)).toNat := by
  rcases (show a % 2 = 0 ∨ a % 2 = 1 by omega) with h | h <;> rw [h] <;> rfl
def hrP (g : Gs) (h n s : Nat) : Bool := decide (s ^^^ (s &&& mk (nearf (g 0) (g 1) h) (g 0 0 3)) = 0) && (decide (pc s 6 ≤ g 0 2 h) && allf (fun i => seef (g 0 0 3) (lastf (g 0) (shW (g 1) 1 h s) n) (g 2 3 i)) (g 2 1 5))
section HEARD
variable {Z c h n : Nat} {g : Gs} {sd : Int64} {I : ab_I} {R : ab_R} {L : ab_L}
theorem x_isAsSeen (hp : PG g) (k : XX g sd c I R L) (hn : n < 100) {J : ab_I} {s : Nat} (h64 : s < 64) (hJ : OffS I J 22) (hS : XS J 22 (g 0) (shW (g 1) 1 h s)) : cl Z 98 [.ref 0, .ref 22, .int (nI n)] J R L = some (some (.int (nI (allf (fun i => seef (g 0 0 3) (lastf (g 0) (shW (g 1) 1 h s) n) (g 2 3 i)) (g 2 1 5)).toNat)), J, R, L) := by
  have hw := hp.wf
  have hv := hp.ws
  have hsn := hp.sn
  have h6 := hw.t6
  have hc := k.cc
  have hF := k.F
  have hCJ := k.C.offS hc IsS_22 hJ
  have j0 : J 0 = I 0 := hJ 0 (by decide) (by decide) (by decide)
  have j32 : J 32 = I 32 := hJ 32 (by decide) (by decide) (by decide)
  have a := k.sn
  have hlt : lastf (g 0) (shW (g 1) 1 h s) n < 2 ^ 31 := Nat.lt_of_lt_of_le (mk_lt _ _) (Nat.pow_le_pow_right (by decide) (by omega))
  have la := s_atLastBehind (Z := Z) (L := L) hF hc IsS_22 hCJ hS hw (shW1_WS hv h64) hn
  rw [n98]
  simp only [e98_0, e98_1, e98_4, e98_5, e98_6, e98_9, e98_10, e98_11, e98_15, e98_16, e98_19, e98_22, e98_23, e98_26, e98_28, e98_29, e98_30, e98_31, e98_33, e98_34, e98_37, e98_39, e98_42, e98_45, e98_46, e98_48, e98_51, e98_52, e98_55, e98_57, e98_58, e98_59, e98_60, e98_63, e98_64, e98_65, e98_68, e98_71, e98_72, bI_s, bL_s, bV_s, rv_s1, nl_i, nl_a, nl_n, w8_0, w8_i, w8_a, w8_l, ct_i, ct_a, b01_0, b01_1, b01_b, kd_0, k.r3, kdC hc, la]
  generalize lastf (g 0) (shW (g 1) 1 h s) n = q at *
  have key := loop_all (P := fun i => ∀ y, allf (fun i => seef (g 0 0 3) q (g 2 3 i)) i = true → ex Z 0 0 98 13 [some (.ref 0), some (.ref 22), some (.int (nI n)), some (.int (nI q)), some (.int (nI i)), y] [] J R L = some (some (.int (nI (allf (fun i => seef (g 0 0 3) q (g 2 3 i)) (g 2 1 5)).toNat)), J, R, L)) (g 2 1 5) (fun i hi ih y ht => ?_) (fun y ht => ?_) 0 (Nat.zero_le _)
  · exact key none rfl
  · have hse := hp.se hi
    have hs2 := k.se hi
    have e : allf (fun i => seef (g 0 0 3) q (g 2 3 i)) (i + 1) = seef (g 0 0 3) q (g 2 3 i) := by rw [allf, ht, Bool.true_and]
    have hf : seef (g 0 0 3) q (g 2 3 i) = false → allf (fun i => seef (g 0 0 3) q (g 2 3 i)) (g 2 1 5) = false := fun h9 => by
      have := allf_f (e.trans h9) (g 2 1 5 - (i + 1))
      rwa [show i + 1 + (g 2 1 5 - (i + 1)) = g 2 1 5 by omega] at this
    have ih2 := fun h9 => ih (some (.int (nI (g 2 3 i / 2)))) (e.trans h9)
    rw [e98_13]
    simp only [e98_0, e98_1, e98_4, e98_5, e98_6, e98_9, e98_10, e98_11, e98_15, e98_16, e98_19, e98_22, e98_23, e98_26, e98_28, e98_29, e98_30, e98_31, e98_33, e98_34, e98_37, e98_39, e98_42, e98_45, e98_46, e98_48, e98_51, e98_52, e98_55, e98_57, e98_58, e98_59, e98_60, e98_63, e98_64, e98_65, e98_68, e98_71, e98_72, bI_s, bL_s, bV_s, rv_s1, nl_i, nl_a, nl_n, w8_0, w8_i, w8_a, w8_l, ct_i, ct_a, b01_0, b01_1, b01_b, hF.x0, hF.x2, hF.x5, hF.x6, hF.x7, hF.x10, hF.x12, hF.x13, hF.x15, hF.k0, hF.k1, hF.k2, hF.m4, hF.m5, hF.m6, hF.m7, hF.m8, hF.m9, hF.m10, hF.m16, hF.m17, hF.m18, hF.m19, hF.m20, hF.m21, hF.m22, hF.m23, hF.m29, hF.m30, hF.m35, hF.m37, hF.m38, hF.m40, hF.m41, hF.m43, hF.m44, hF.q0, hF.q1, kd_0, kd_2, kd_3, kd_11, kd_19, kd_22, kd_27, kd_87, al_1, al_4, al_5, al_6, al_7, al_8, al_9, al_10, al_12, al_13, al_14, al_15, al_16, al_17, al_18, al_20, al_21, al_23, al_24, al_28, al_29, al_30, al_31, al_32, al_1001, al_1002, ql_25, ql_26, Nat.reduceLT, j0, j32, a, hs2, k.r3, kdC hc, nI_leI (show g 2 1 5 < 2 ^ 31 by omega) (show i < 2 ^ 31 by omega), show ¬ g 2 1 5 ≤ i by omega, if_false, ab_ixN (show i < 6 by omega) (show 6 < 2 ^ 31 by decide), nI_clamp (show i < 2 ^ 31 by omega), show ¬ nI 2 = 0 by decide, not_false_eq_true, pk_div (show g 2 3 i < 2 ^ 31 by omega) (show 0 < 2 by decide) (show 2 < 2 ^ 31 by decide), rem2_b (show g 2 3 i < 2 ^ 31 by omega), s_hasThing hc hCJ hw, hasI_nI (show g 2 3 i / 2 < 2 ^ 31 by omega), nI_b, s_bit hlt (show g 2 3 i / 2 < 31 by omega), nI_bb, nI_add]
    by_cases c1 : g 2 3 i / 2 < g 0 0 3
    · by_cases c2 : q.testBit (g 2 3 i / 2) = decide (g 2 3 i % 2 = 1)
      · have hs9 : seef (g 0 0 3) q (g 2 3 i) = true := by
          unfold seef
          rw [c2, decide_eq_true c1]
          simp
        simp only [c1, c2, decide_true, Bool.true_eq_false, if_false, if_true]
        exact ih2 hs9
      · have hs9 : seef (g 0 0 3) q (g 2 3 i) = false := by
          unfold seef
          rw [decide_eq_true c1]
          simpa using c2
        simp only [c1, c2, decide_true, Bool.true_eq_false, if_false]
        rw [hf hs9]
        rfl
    · have hs9 : seef (g 0 0 3) q (g 2 3 i) = true := by
        unfold seef
        rw [decide_eq_false c1]
        rfl
      simp only [c1, decide_false, if_true]
      exact ih2 hs9
  · rw [e98_13]
    simp only [e98_0, e98_1, e98_4, e98_5, e98_6, e98_9, e98_10, e98_11, e98_15, e98_16, e98_19, e98_22, e98_23, e98_26, e98_28, e98_29, e98_30, e98_31, e98_33, e98_34, e98_37, e98_39, e98_42, e98_45, e98_46, e98_48, e98_51, e98_52, e98_55, e98_57, e98_58, e98_59, e98_60, e98_63, e98_64, e98_65, e98_68, e98_71, e98_72, bI_s, bL_s, bV_s, rv_s1, nl_i, nl_a, nl_n, w8_0, w8_i, w8_a, w8_l, ct_i, ct_a, b01_0, b01_1, b01_b, hF.x0, hF.x2, hF.x5, hF.x6, hF.x7, hF.x10, hF.x12, hF.x13, hF.x15, hF.k0, hF.k1, hF.k2, hF.m4, hF.m5, hF.m6, hF.m7, hF.m8, hF.m9, hF.m10, hF.m16, hF.m17, hF.m18, hF.m19, hF.m20, hF.m21, hF.m22, hF.m23, hF.m29, hF.m30, hF.m35, hF.m37, hF.m38, hF.m40, hF.m41, hF.m43, hF.m44, hF.q0, hF.q1, kd_0, kd_2, kd_3, kd_11, kd_19, kd_22, kd_27, kd_87, al_1, al_4, al_5, al_6, al_7, al_8, al_9, al_10, al_12, al_13, al_14, al_15, al_16, al_17, al_18, al_20, al_21, al_23, al_24, al_28, al_29, al_30, al_31, al_32, al_1001, al_1002, ql_25, ql_26, Nat.reduceLT, j0, a, Int32.le_refl, if_true, ht, Bool.toNat_true]
theorem m_isSeen (hp : PG g) (k : MM g sd I R L) (hh : h < g 0 0 2) (hn : n < 100) {J : ab_I} {s : Nat} (h64 : s < 64) (hJ : OffL I J 13) : ∃ J', cl Z 181 [.ref 87, .int (nI h), .int (nI s), .int (nI n)] J R L = some (some (.int (nI (allf (fun i => seef (g 0 0 3) (lastf (g 0) (shW (g 1) 1 h s) n) (g 2 3 i)) (g 2 1 5)).toNat)), J', R, L) ∧ OffL I J' 13 := by
  have hw := hp.wf
  have hv := hp.ws
  have hsn := hp.sn
  have h4 := hw.h4
  have h6 := hw.t6
  have hF := k.F
  have hvs := shW1_WS (h := h) hv h64
  have hlt : lastf (g 0) (shW (g 1) 1 h s) n < 2 ^ 31 := Nat.lt_of_lt_of_le (mk_lt _ _) (Nat.pow_le_pow_right (by decide) (by omega))
  have hSJ : MS (J 94) 0 (g 0) (g 1) := k.S.off h6 hJ.2 (Or.inl (by decide))
  obtain ⟨J1, e1, o1, S1⟩ := m_layTrial (Z := Z) (L := L) hF hSJ h6
  have S2 : MS (wI J1 94 (19 + h) (nI s) 94) 13 (g 0) (shW (g 1) 1 h s) := S1.w1 h6 (by omega)
  have o2 : OffL J1 (wI J1 94 (19 + h) (nI s)) 13 := OffL.w (by omega)
  have oJ := (hJ.tr o1).tr o2
  have a := k.sn
  have bl := blwn_last hw hvs n
  have key2 : ∀ J, OffL I J 13 → MS (J 94) 13 (g 0) (blwn (g 0) n (shW (g 1) 1 h s)) → ∀ i, i ≤ g 2 1 5 → ex Z 0 0 181 41 [some (.ref 87), some (.int (nI h)), some (.int (nI s)), some (.int (nI n)), some (.int (nI (allf (fun i => seef (g 0 0 3) (lastf (g 0) (shW (g 1) 1 h s) n) (g 2 3 i)) i).toNat)), some (.int (nI i))] [] J R L = some (some (.int (nI (allf (fun i => seef (g 0 0 3) (lastf (g 0) (shW (g 1) 1 h s) n) (g 2 3 i)) (g 2 1 5)).toNat)), J, R, L) := by
    intro J oJ SJ
    have j87 : J 87 = I 87 := oJ.1 87 (by decide)
    have j108 : J 108 = I 108 := oJ.1 108 (by decide)
    have j109 : J 109 = I 109 := oJ.1 109 (by decide)
    have hCJ := k.C.off oJ.1
    have la := m_atLast (Z := Z) (L := L) (l := 1) hF hCJ (by decide) SJ hw (blwn_WS hvs n)
    rw [bl] at la
    generalize lastf (g 0) (shW (g 1) 1 h s) n = q at *
    refine loop_up (F := fun i => ex Z 0 0 181 41 [some (.ref 87), some (.int (nI h)), some (.int (nI s)), some (.int (nI n)), some (.int (nI (allf (fun i => seef (g 0 0 3) q (g 2 3 i)) i).toNat)), some (.int (nI i))] [] J R L) (g 2 1 5) (fun i hi => ?_) ?_
    · have hse := hp.se hi
      have hs2 := k.se hi
      have f1 : allf (fun i => seef (g 0 0 3) q (g 2 3 i)) (i + 1) = (allf (fun i => seef (g 0 0 3) q (g 2 3 i)) i && (!decide (g 2 3 i / 2 < g 0 0 3) || (q.testBit (g 2 3 i / 2) == decide (g 2 3 i % 2 = 1)))) := rfl
      rw [e181_41]
      simp only [e181_0, e181_1, e181_4, e181_5, e181_8, e181_10, e181_11, e181_12, e181_13, e181_14, e181_15, e181_19, e181_20, e181_23, e181_24, e181_25, e181_28, e181_29, e181_32, e181_35, e181_36, e181_38, e181_39, e181_43, e181_44, e181_47, e181_50, e181_52, e181_55, e181_56, e181_57, e181_60, e181_62, e181_63, e181_66, e181_69, e181_70, e181_71, e181_74, e181_75, e181_78, e181_80, e181_81, e181_84, e181_85, e181_88, e181_90, e181_91, e181_94, e181_95, e181_98, e181_99, e181_101, e181_104, e181_107, e181_109, bI_s, bL_s, bV_s, rv_s1, nl_i, nl_a, nl_n, w8_0, w8_i, w8_a, w8_l, ct_i, ct_a, b01_0, b01_1, b01_b, hF.m4, hF.m5, hF.m6, hF.m7, hF.m8, hF.m9, hF.m10, hF.m16, hF.m17, hF.m18, hF.m19, hF.m20, hF.m21, hF.m22, hF.m23, hF.m29, hF.m30, hF.m35, hF.m37, hF.m38, hF.m40, hF.m41, hF.m43, hF.m44, kd_87, al_88, al_89, al_90, al_91, al_92, al_93, al_94, al_95, al_96, al_97, al_98, al_99, al_100, al_101, al_102, al_103, al_104, al_105, al_106, al_108, al_111, zl_107, zl_109, zl_110, Nat.reduceLT, j87, j108, j109, a, hs2.1, hs2.2, nI_leI (show g 2 1 5 < 2 ^ 31 by omega) (show i < 2 ^ 31 by omega), show ¬ g 2 1 5 ≤ i by omega, if_false, ab_ixN (show i < 6 by omega) (show 6 < 2 ^ 31 by decide), nI_clamp (show i < 2 ^ 31 by omega), nI_b, m_isThing hCJ hw, hasI_nI (show g 2 3 i / 2 < 2 ^ 31 by omega), la, s_has hlt (show g 2 3 i / 2 < 31 by omega), mod2_b, nI_bq, nI_add, f1]
      cases allf (fun i => seef (g 0 0 3) q (g 2 3 i)) i <;> by_cases c1 : g 2 3 i / 2 < g 0 0 3 <;> cases c2 : (q.testBit (g 2 3 i / 2) == decide (g 2 3 i % 2 = 1)) <;> simp [c1]
    · rw [e181_41]
      simp only [e181_0, e181_1, e181_4, e181_5, e181_8, e181_10, e181_11, e181_12, e181_13, e181_14, e181_15, e181_19, e181_20, e181_23, e181_24, e181_25, e181_28, e181_29, e181_32, e181_35, e181_36, e181_38, e181_39, e181_43, e181_44, e181_47, e181_50, e181_52, e181_55, e181_56, e181_57, e181_60, e181_62, e181_63, e181_66, e181_69, e181_70, e181_71, e181_74, e181_75, e181_78, e181_80, e181_81, e181_84, e181_85, e181_88, e181_90, e181_91, e181_94, e181_95, e181_98, e181_99, e181_101, e181_104, e181_107, e181_109, bI_s, bL_s, bV_s, rv_s1, nl_i, nl_a, nl_n, w8_0, w8_i, w8_a, w8_l, ct_i, ct_a, b01_0, b01_1, b01_b, hF.m4, hF.m5, hF.m6, hF.m7, hF.m8, hF.m9, hF.m10, hF.m16, hF.m17, hF.m18, hF.m19, hF.m20, hF.m21, hF.m22, hF.m23, hF.m29, hF.m30, hF.m35, hF.m37, hF.m38, hF.m40, hF.m41, hF.m43, hF.m44, kd_87, al_88, al_89, al_90, al_91, al_92, al_93, al_94, al_95, al_96, al_97, al_98, al_99, al_100, al_101, al_102, al_103, al_104, al_105, al_106, al_108, al_111, zl_107, zl_109, zl_110, Nat.reduceLT, j87, a, Int32.le_refl, if_true]
  have key := loop_all (P := fun i => ∀ J, OffL I J 13 → MS (J 94) 13 (g 0) (blwn (g 0) i (shW (g 1) 1 h s)) → ∃ J', ex Z 0 0 181 17 [some (.ref 87), some (.int (nI h)), some (.int (nI s)), some (.int (nI n)), some (.int (nI i)), none] [] J R L = some (some (.int (nI (allf (fun i => seef (g 0 0 3) (lastf (g 0) (shW (g 1) 1 h s) n) (g 2 3 i)) (g 2 1 5)).toNat)), J', R, L) ∧ OffL I J' 13) n (fun i hi ih J oJ SJ => ?_) (fun J oJ SJ => ?_) 0 (Nat.zero_le _)
  · obtain ⟨J', e, o'⟩ := key _ oJ S2
    refine ⟨J', ?_, o'⟩
    rw [n181]
    simp only [e181_0, e181_1, e181_4, e181_5, e181_8, e181_10, e181_11, e181_12, e181_13, e181_14, e181_15, e181_19, e181_20, e181_23, e181_24, e181_25, e181_28, e181_29, e181_32, e181_35, e181_36, e181_38, e181_39, e181_43, e181_44, e181_47, e181_50, e181_52, e181_55, e181_56, e181_57, e181_60, e181_62, e181_63, e181_66, e181_69, e181_70, e181_71, e181_74, e181_75, e181_78, e181_80, e181_81, e181_84, e181_85, e181_88, e181_90, e181_91, e181_94, e181_95, e181_98, e181_99, e181_101, e181_104, e181_107, e181_109, bI_s, bL_s, bV_s, rv_s1, nl_i, nl_a, nl_n, w8_0, w8_i, w8_a, w8_l, ct_i, ct_a, b01_0, b01_1, b01_b, hF.m4, hF.m5, hF.m6, hF.m7, hF.m8, hF.m9, hF.m10, hF.m16, hF.m17, hF.m18, hF.m19, hF.m20, hF.m21, hF.m22, hF.m23, hF.m29, hF.m30, hF.m35, hF.m37, hF.m38, hF.m40, hF.m41, hF.m43, hF.m44, kd_87, al_88, al_89, al_90, al_91, al_92, al_93, al_94, al_95, al_96, al_97, al_98, al_99, al_100, al_101, al_102, al_103, al_104, al_105, al_106, al_108, al_111, zl_107, zl_109, zl_110, Nat.reduceLT, e1, nI_add, ab_ixN (show 19 + h < 26 by omega) (show 26 < 2 ^ 31 by decide), nI_clamp (show 19 + h < 2 ^ 31 by omega)]
    exact e
  · obtain ⟨J2, e2, o2, S2⟩ := m_pass (Z := Z) (L := L) (l := 1) hF (k.C.off oJ.1) (by decide) SJ hw (blwn_WS hvs i)
    obtain ⟨J', e, o'⟩ := ih J2 (oJ.tr o2) S2
    refine ⟨J', ?_, o'⟩
    rw [e181_17]
    simp only [e181_0, e181_1, e181_4, e181_5, e181_8, e181_10, e181_11, e181_12, e181_13, e181_14, e181_15, e181_19, e181_20, e181_23, e181_24, e181_25, e181_28, e181_29, e181_32, e181_35, e181_36, e181_38, e181_39, e181_43, e181_44, e181_47, e181_50, e181_52, e181_55, e181_56, e181_57, e181_60, e181_62, e181_63, e181_66, e181_69, e181_70, e181_71, e181_74, e181_75, e181_78, e181_80, e181_81, e181_84, e181_85, e181_88, e181_90, e181_91, e181_94, e181_95, e181_98, e181_99, e181_101, e181_104, e181_107, e181_109, bI_s, bL_s, bV_s, rv_s1, nl_i, nl_a, nl_n, w8_0, w8_i, w8_a, w8_l, ct_i, ct_a, b01_0, b01_1, b01_b, kd_87, nI_leI (show n < 2 ^ 31 by omega) (show i < 2 ^ 31 by omega), show ¬ n ≤ i by omega, if_false, e2, nI_add]
    exact e
  · refine ⟨J, ?_, oJ⟩
    rw [e181_17]
    simp only [e181_0, e181_1, e181_4, e181_5, e181_8, e181_10, e181_11, e181_12, e181_13, e181_14, e181_15, e181_19, e181_20, e181_23, e181_24, e181_25, e181_28, e181_29, e181_32, e181_35, e181_36, e181_38, e181_39, e181_43, e181_44, e181_47, e181_50, e181_52, e181_55, e181_56, e181_57, e181_60, e181_62, e181_63, e181_66, e181_69, e181_70, e181_71, e181_74, e181_75, e181_78, e181_80, e181_81, e181_84, e181_85, e181_88, e181_90, e181_91, e181_94, e181_95, e181_98, e181_99, e181_101, e181_104, e181_107, e181_109, bI_s, bL_s, bV_s, rv_s1, nl_i, nl_a, nl_n, w8_0, w8_i, w8_a, w8_l, ct_i, ct_a, b01_0, b01_1, b01_b, kd_87, Int32.le_refl, if_true]
    exact key2 J oJ SJ 0 (Nat.zero_le _)
def hrV (g : Gs) (h n w : Nat) : Int32 := if w = 0 then nI (hcn (hrP g h n) (2 ^ g 0 0 3)) else if hcn (hrP g h n) (2 ^ g 0 0 3) = 0 then iI (-9) else if w = 1 then nI (hal (2 ^ g 0 0 3 - 1) (hrP g h n) (2 ^ g 0 0 3)) else nI (hno (2 ^ g 0 0 3 - 1) (hrP g h n) (2 ^ g 0 0 3))
theorem B_heard (x y z : Int32) : Both Z 97 180 [.int x, .int y, .int z] := by
  intro g sd hp
  have hw := hp.wf
  have hv := hp.ws
  have h4 := hw.h4
  have h6 := hw.t6
  cases hx : hasI x (g 0 0 2) with
  | false =>
    refine Both.tell (v := .int (iI (-1))) hp (fun c I R L k => ?_) (fun I R L k => ?_)
    · have hc := k.cc
      rw [n97]
      simp only [e97_0, e97_1, e97_4, e97_5, e97_8, e97_11, e97_12, e97_13, e97_14, e97_17, e97_20, e97_21, e97_24, e97_25, e97_26, e97_29, e97_31, e97_32, e97_33, e97_36, e97_37, e97_40, e97_43, e97_44, e97_47, e97_48, e97_51, e97_52, e97_55, e97_57, e97_58, e97_60, e97_61, e97_64, e97_67, e97_69, e97_70, e97_73, e97_76, e97_78, e97_79, e97_83, e97_84, e97_87, e97_90, e97_93, e97_94, e97_97, e97_100, e97_101, e97_103, e97_104, e97_106, e97_108, e97_109, e97_110, e97_111, e97_114, e97_116, e97_119, e97_120, e97_123, e97_126, e97_127, e97_128, e97_131, e97_132, e97_135, e97_136, e97_138, e97_140, e97_143, e97_144, e97_145, e97_148, e97_149, e97_152, e97_155, e97_158, e97_160, e97_162, e97_163, e97_165, e97_167, e97_169, e97_170, e97_171, e97_172, e97_174, e97_177, e97_180, e97_181, e97_184, e97_186, e97_187, e97_189, e97_192, e97_194, e97_195, e97_196, e97_197, e97_200, e97_202, e97_205, e97_207, bI_s, bL_s, bV_s, rv_s1, nl_i, nl_a, nl_n, w8_0, w8_i, w8_a, w8_l, ct_i, ct_a, b01_0, b01_1, b01_b, kd_0, k.r3, kdC hc, s_hasHouse hc k.C hw, hx, Bool.toNat_false, if_true]
    · rw [n180]
      simp only [e180_0, e180_1, e180_2, e180_5, e180_8, e180_9, e180_10, e180_11, e180_12, e180_13, e180_16, e180_19, e180_22, e180_23, e180_24, e180_25, e180_28, e180_31, e180_34, e180_36, e180_37, e180_38, e180_40, e180_41, e180_42, e180_45, e180_46, e180_47, e180_48, e180_50, e180_51, e180_53, e180_54, e180_58, e180_59, e180_60, e180_63, e180_64, e180_67, e180_69, e180_70, e180_71, e180_74, e180_75, e180_76, e180_77, e180_80, e180_82, e180_85, e180_86, e180_89, e180_90, e180_91, e180_94, e180_95, e180_96, e180_98, e180_99, e180_102, e180_105, e180_108, e180_110, e180_112, e180_113, e180_115, e180_117, e180_119, e180_120, e180_122, e180_125, e180_128, e180_129, e180_132, e180_134, e180_137, e180_139, e180_142, e180_144, e180_147, e180_148, e180_149, e180_152, e180_154, e180_157, e180_158, e180_159, e180_162, e180_163, e180_164, e180_165, e180_167, e180_168, e180_169, e180_170, bI_s, bL_s, bV_s, rv_s1, nl_i, nl_a, nl_n, w8_0, w8_i, w8_a, w8_l, ct_i, ct_a, b01_0, b01_1, b01_b, kd_87, m_isHouse k.C hw, hx, Bool.toNat_false, if_true]
  | true =>
    obtain ⟨h, hh, rfl⟩ := hasI_t (by omega) hx
    by_cases hyz : hasI y 10 = true ∧ hasI z 3 = true
    · obtain ⟨hy, hz⟩ := hyz
      obtain ⟨n, hn, rfl⟩ := hasI_t (by decide) hy
      obtain ⟨w, hw3, rfl⟩ := hasI_t (by decide) hz
      have hN : 2 ^ g 0 0 3 ≤ 64 := Nat.pow_le_pow_right (n := 2) (by decide) h6
      have hN1 := Nat.two_pow_pos (g 0 0 3)
      have hbr := (hw.2.2.2.2.2.1 h hh).2
      have hcnt := hcn_le (hrP g h n)
      have hnl : mk (nearf (g 0) (g 1) h) (g 0 0 3) < 2 ^ 31 := Nat.lt_of_lt_of_le (mk_lt _ _) (by omega)
      refine ⟨.int (hrV g h n w), g, sd, hp, fun c I R L k => ?_, fun I R L k => ?_⟩
      · have hc := k.cc
        have hF := k.F
        obtain ⟨J1, e1, o1, S1⟩ := s_copy (Z := Z) (L := L) hF IsS_22 IsS_19 (by omega) h6 k.S
        have hC1 := k.C.offS hc IsS_22 o1
        have hS1 := k.S.offS IsS_22 IsS_19 (by omega) o1
        have key := loop_all (P := fun i => ∀ J v q, OffS I J 22 → XS J 22 (g 0) (shW (g 1) 1 h v) → ∃ J', ex Z 0 0 97 81 [some (.ref 0), some (.int (nI h)), some (.int (nI n)), some (.int (nI w)), some (.int (nI (mk (nearf (g 0) (g 1) h) (g 0 0 3)))), some (.int (nI (hcn (hrP g h n) i))), some (.int (nI (hal (2 ^ g 0 0 3 - 1) (hrP g h n) i))), some (.int (nI (hno (2 ^ g 0 0 3 - 1) (hrP g h n) i))), some (.int (nI i)), q] [] J R L = some (some (.int (hrV g h n w)), J', R, L) ∧ OffS I J' 22) (2 ^ g 0 0 3) (fun i hi ih J v q oJ SJ => ?_) (fun J v q oJ SJ => ?_) 0 (Nat.zero_le _)
        · rw [← shW_i (sh := g 1) (h := h)] at S1
          obtain ⟨J', e, o'⟩ := key J1 _ none o1 S1
          refine ⟨c, J', R, L, ?_, k.tri (fun p a b d _ _ _ => o' p a b d), o'.fx IsS_22, rfl⟩
          rw [n97]
          simp only [e97_0, e97_1, e97_4, e97_5, e97_8, e97_11, e97_12, e97_13, e97_14, e97_17, e97_20, e97_21, e97_24, e97_25, e97_26, e97_29, e97_31, e97_32, e97_33, e97_36, e97_37, e97_40, e97_43, e97_44, e97_47, e97_48, e97_51, e97_52, e97_55, e97_57, e97_58, e97_60, e97_61, e97_64, e97_67, e97_69, e97_70, e97_73, e97_76, e97_78, e97_79, e97_83, e97_84, e97_87, e97_90, e97_93, e97_94, e97_97, e97_100, e97_101, e97_103, e97_104, e97_106, e97_108, e97_109, e97_110, e97_111, e97_114, e97_116, e97_119, e97_120, e97_123, e97_126, e97_127, e97_128, e97_131, e97_132, e97_135, e97_136, e97_138, e97_140, e97_143, e97_144, e97_145, e97_148, e97_149, e97_152, e97_155, e97_158, e97_160, e97_162, e97_163, e97_165, e97_167, e97_169, e97_170, e97_171, e97_172, e97_174, e97_177, e97_180, e97_181, e97_184, e97_186, e97_187, e97_189, e97_192, e97_194, e97_195, e97_196, e97_197, e97_200, e97_202, e97_205, e97_207, bI_s, bL_s, bV_s, rv_s1, nl_i, nl_a, nl_n, w8_0, w8_i, w8_a, w8_l, ct_i, ct_a, b01_0, b01_1, b01_b, hF.x0, hF.x2, hF.x5, hF.x6, hF.x7, hF.x10, hF.x12, hF.x13, hF.x15, hF.k0, hF.k1, hF.k2, hF.m4, hF.m5, hF.m6, hF.m7, hF.m8, hF.m9, hF.m10, hF.m16, hF.m17, hF.m18, hF.m19, hF.m20, hF.m21, hF.m22, hF.m23, hF.m29, hF.m30, hF.m35, hF.m37, hF.m38, hF.m40, hF.m41, hF.m43, hF.m44, hF.q0, hF.q1, kd_0, kd_2, kd_3, kd_11, kd_19, kd_22, kd_27, kd_87, al_1, al_4, al_5, al_6, al_7, al_8, al_9, al_10, al_12, al_13, al_14, al_15, al_16, al_17, al_18, al_20, al_21, al_23, al_24, al_28, al_29, al_30, al_31, al_32, al_1001, al_1002, ql_25, ql_26, Nat.reduceLT, k.r3, kdC hc, s_hasHouse hc k.C hw, hx, Bool.toNat_true, nI10, if_false, s_isNumberOfBlows, hy, nI_ltI (show w < 2 ^ 31 by omega) (show 0 < 2 ^ 31 by decide), Nat.not_lt_zero, nI_leI (show w < 2 ^ 31 by omega) (show 2 < 2 ^ 31 by decide), show w ≤ 2 by omega, if_true, e1, s_near hF hc IsS_19 hC1 hS1 hw hv hh, s_allThings hc hC1 hw]
          exact e
        · have S2 := SJ.w1 (h := h) (v := i) (by omega)
          rw [shW_w] at S2
          have oJ2 : OffS I (wI J 24 h (nI i)) 22 := oJ.tr (OffS.w (by omega))
          have hCJ := k.C.offS hc IsS_22 oJ
          have hCJ2 := k.C.offS hc IsS_22 oJ2
          have hs := x_isAsSeen (Z := Z) hp k (show n < 100 by omega) (show i < 64 by omega) oJ2 S2
          have hlo : i ^^^ (i &&& mk (nearf (g 0) (g 1) h) (g 0 0 3)) < 2 ^ 6 := andn_lt (by omega)
          have hp6 := pc_le i 6
          have ea := s_allThings (Z := Z) (R := R) (L := L) hc hCJ hw
          have ea2 := hCJ2.a2 hh
          have r22 : R 22 1 = 25 := hF.s1 IsS_22
          rw [e97_81]
          simp only [e97_0, e97_1, e97_4, e97_5, e97_8, e97_11, e97_12, e97_13, e97_14, e97_17, e97_20, e97_21, e97_24, e97_25, e97_26, e97_29, e97_31, e97_32, e97_33, e97_36, e97_37, e97_40, e97_43, e97_44, e97_47, e97_48, e97_51, e97_52, e97_55, e97_57, e97_58, e97_60, e97_61, e97_64, e97_67, e97_69, e97_70, e97_73, e97_76, e97_78, e97_79, e97_83, e97_84, e97_87, e97_90, e97_93, e97_94, e97_97, e97_100, e97_101, e97_103, e97_104, e97_106, e97_108, e97_109, e97_110, e97_111, e97_114, e97_116, e97_119, e97_120, e97_123, e97_126, e97_127, e97_128, e97_131, e97_132, e97_135, e97_136, e97_138, e97_140, e97_143, e97_144, e97_145, e97_148, e97_149, e97_152, e97_155, e97_158, e97_160, e97_162, e97_163, e97_165, e97_167, e97_169, e97_170, e97_171, e97_172, e97_174, e97_177, e97_180, e97_181, e97_184, e97_186, e97_187, e97_189, e97_192, e97_194, e97_195, e97_196, e97_197, e97_200, e97_202, e97_205, e97_207, bI_s, bL_s, bV_s, rv_s1, nl_i, nl_a, nl_n, w8_0, w8_i, w8_a, w8_l, ct_i, ct_a, b01_0, b01_1, b01_b, hF.x0, hF.x2, hF.x5, hF.x6, hF.x7, hF.x10, hF.x12, hF.x13, hF.x15, hF.k0, hF.k1, hF.k2, hF.m4, hF.m5, hF.m6, hF.m7, hF.m8, hF.m9, hF.m10, hF.m16, hF.m17, hF.m18, hF.m19, hF.m20, hF.m21, hF.m22, hF.m23, hF.m29, hF.m30, hF.m35, hF.m37, hF.m38, hF.m40, hF.m41, hF.m43, hF.m44, hF.q0, hF.q1, kd_0, kd_2, kd_3, kd_11, kd_19, kd_22, kd_27, kd_87, al_1, al_4, al_5, al_6, al_7, al_8, al_9, al_10, al_12, al_13, al_14, al_15, al_16, al_17, al_18, al_20, al_21, al_23, al_24, al_28, al_29, al_30, al_31, al_32, al_1001, al_1002, ql_25, ql_26, Nat.reduceLT, k.r3, kdC hc, ea, r22, nI_ltI (show 2 ^ g 0 0 3 - 1 < 2 ^ 31 by omega) (show i < 2 ^ 31 by omega), show ¬ 2 ^ g 0 0 3 - 1 < i by omega, if_false, ab_ixN (show h < 4 by omega) (show 4 < 2 ^ 31 by decide), nI_clamp (show h < 2 ^ 31 by omega), nI_andn, nI_eq (show i ^^^ (i &&& mk (nearf (g 0) (g 1) h) (g 0 0 3)) < 2 ^ 31 by omega) (show 0 < 2 ^ 31 by decide), s_ones (show i < 64 by omega), kdC hc, hF.c0 hc, hF.c1 hc, hF.c2 hc, hF.c3 hc, hF.c4 hc, hF.c5 hc, hF.c6 hc, alC1 hc, ltC1 hc, alC2 hc, ltC2 hc, alC3 hc, ltC3 hc, alC4 hc, ltC4 hc, alC5 hc, ltC5 hc, alC6 hc, ltC6 hc, alC7 hc, ltC7 hc, ea2, nI_ltI (show g 0 2 h < 2 ^ 31 by omega) (show pc i 6 < 2 ^ 31 by omega), hs, nI_b, nI_add, nI10, if_true, nx_and']
          by_cases c0 : i ^^^ (i &&& mk (nearf (g 0) (g 1) h) (g 0 0 3)) = 0
          · by_cases c1 : g 0 2 h < pc i 6
            · have eP : hrP g h n i = false := by
                unfold hrP
                rw [decide_eq_false (show ¬ pc i 6 ≤ g 0 2 h by omega), Bool.false_and, Bool.and_false]
              obtain ⟨J', e, o'⟩ := ih _ i (some (.int (nI 0))) oJ2 S2
              simp only [hcn, hal, hno, eP, Bool.toNat_false, Nat.add_zero, Bool.false_eq_true, if_false] at e
              refine ⟨J', ?_, o'⟩
              simp only [c0, c1, if_true]
              exact e
            · cases ha : allf (fun i_1 => seef (g 0 0 3) (lastf (g 0) (shW (g 1) 1 h i) n) (g 2 3 i_1)) (g 2 1 5) with
              | false =>
                have eP : hrP g h n i = false := by
                  unfold hrP
                  rw [ha, Bool.and_false, Bool.and_false]
                obtain ⟨J', e, o'⟩ := ih _ i (some (.int (nI 1))) oJ2 S2
                simp only [hcn, hal, hno, eP, Bool.toNat_false, Nat.add_zero, Bool.false_eq_true, if_false] at e
                refine ⟨J', ?_, o'⟩
                simp only [c0, c1, if_true, if_false]
                exact e
              | true =>
                have eP : hrP g h n i = true := by
                  unfold hrP
                  rw [ha, decide_eq_true c0, decide_eq_true (show pc i 6 ≤ g 0 2 h by omega)]
                  rfl
                obtain ⟨J', e, o'⟩ := ih _ i (some (.int (nI 1))) oJ2 S2
                simp only [hcn, hal, hno, eP, Bool.toNat_true, if_true] at e
                refine ⟨J', ?_, o'⟩
                simp only [c0, c1, if_true, if_false, Bool.true_eq_false]
                exact e
          · have eP : hrP g h n i = false := by
              unfold hrP
              rw [decide_eq_false c0, Bool.false_and]
            obtain ⟨J', e, o'⟩ := ih _ i (some (.int (nI 0))) oJ2 S2
            simp only [hcn, hal, hno, eP, Bool.toNat_false, Nat.add_zero, Bool.false_eq_true, if_false] at e
            refine ⟨J', ?_, o'⟩
            simp only [c0, if_false]
            exact e
        · have hCJ := k.C.offS hc IsS_22 oJ
          have ea := s_allThings (Z := Z) (R := R) (L := L) hc hCJ hw
          have hc2 := hcnt (2 ^ g 0 0 3)
          refine ⟨J, ?_, oJ⟩
          rw [e97_81]
          simp only [e97_0, e97_1, e97_4, e97_5, e97_8, e97_11, e97_12, e97_13, e97_14, e97_17, e97_20, e97_21, e97_24, e97_25, e97_26, e97_29, e97_31, e97_32, e97_33, e97_36, e97_37, e97_40, e97_43, e97_44, e97_47, e97_48, e97_51, e97_52, e97_55, e97_57, e97_58, e97_60, e97_61, e97_64, e97_67, e97_69, e97_70, e97_73, e97_76, e97_78, e97_79, e97_83, e97_84, e97_87, e97_90, e97_93, e97_94, e97_97, e97_100, e97_101, e97_103, e97_104, e97_106, e97_108, e97_109, e97_110, e97_111, e97_114, e97_116, e97_119, e97_120, e97_123, e97_126, e97_127, e97_128, e97_131, e97_132, e97_135, e97_136, e97_138, e97_140, e97_143, e97_144, e97_145, e97_148, e97_149, e97_152, e97_155, e97_158, e97_160, e97_162, e97_163, e97_165, e97_167, e97_169, e97_170, e97_171, e97_172, e97_174, e97_177, e97_180, e97_181, e97_184, e97_186, e97_187, e97_189, e97_192, e97_194, e97_195, e97_196, e97_197, e97_200, e97_202, e97_205, e97_207, bI_s, bL_s, bV_s, rv_s1, nl_i, nl_a, nl_n, w8_0, w8_i, w8_a, w8_l, ct_i, ct_a, b01_0, b01_1, b01_b, hF.x0, hF.x2, hF.x5, hF.x6, hF.x7, hF.x10, hF.x12, hF.x13, hF.x15, hF.k0, hF.k1, hF.k2, hF.m4, hF.m5, hF.m6, hF.m7, hF.m8, hF.m9, hF.m10, hF.m16, hF.m17, hF.m18, hF.m19, hF.m20, hF.m21, hF.m22, hF.m23, hF.m29, hF.m30, hF.m35, hF.m37, hF.m38, hF.m40, hF.m41, hF.m43, hF.m44, hF.q0, hF.q1, kd_0, kd_2, kd_3, kd_11, kd_19, kd_22, kd_27, kd_87, al_1, al_4, al_5, al_6, al_7, al_8, al_9, al_10, al_12, al_13, al_14, al_15, al_16, al_17, al_18, al_20, al_21, al_23, al_24, al_28, al_29, al_30, al_31, al_32, al_1001, al_1002, ql_25, ql_26, Nat.reduceLT, k.r3, kdC hc, ea, nI_ltI (show 2 ^ g 0 0 3 - 1 < 2 ^ 31 by omega) (show 2 ^ g 0 0 3 < 2 ^ 31 by omega), show 2 ^ g 0 0 3 - 1 < 2 ^ g 0 0 3 by omega, if_true, nI_eq (show w < 2 ^ 31 by omega) (show 0 < 2 ^ 31 by decide), nI_eq (show w < 2 ^ 31 by omega) (show 1 < 2 ^ 31 by decide), nI_eq (show hcn (hrP g h n) (2 ^ g 0 0 3) < 2 ^ 31 by omega) (show 0 < 2 ^ 31 by decide)]
          unfold hrV
          by_cases w0 : w = 0
          · simp [w0]
          · by_cases w1 : hcn (hrP g h n) (2 ^ g 0 0 3) = 0
            · simp [w0, w1]
            · by_cases w2 : w = 1
              · simp [w1, w2]
              · simp [w0, w1, w2]
      · have hF := k.F
        have key := loop_all (P := fun i => ∀ J, OffL I J 13 → ∃ J', ex Z 0 0 180 56 [some (.ref 87), some (.int (nI h)), some (.int (nI n)), some (.int (nI w)), some (.int (nI (hcn (hrP g h n) i))), some (.int (nI (hal (2 ^ g 0 0 3 - 1) (hrP g h n) i))), some (.int (nI (hsm (hrP g h n) i))), some (.int (nI i))] [] J R L = some (some (.int (hrV g h n w)), J', R, L) ∧ OffL I J' 13) (2 ^ g 0 0 3) (fun i hi ih J oJ => ?_) (fun J oJ => ?_) 0 (Nat.zero_le _)
        · obtain ⟨J', e, o'⟩ := key I OffL.rf
          refine ⟨J', L, ?_, k.tri (fun p a _ _ _ => o'.1 p a) (fun k' _ => by rw [o'.1 87 (by decide)]) (fun j hj => o'.2 j (Or.inl hj)) h6, o'.fm, rfl⟩
          rw [n180]
          simp only [e180_0, e180_1, e180_2, e180_5, e180_8, e180_9, e180_10, e180_11, e180_12, e180_13, e180_16, e180_19, e180_22, e180_23, e180_24, e180_25, e180_28, e180_31, e180_34, e180_36, e180_37, e180_38, e180_40, e180_41, e180_42, e180_45, e180_46, e180_47, e180_48, e180_50, e180_51, e180_53, e180_54, e180_58, e180_59, e180_60, e180_63, e180_64, e180_67, e180_69, e180_70, e180_71, e180_74, e180_75, e180_76, e180_77, e180_80, e180_82, e180_85, e180_86, e180_89, e180_90, e180_91, e180_94, e180_95, e180_96, e180_98, e180_99, e180_102, e180_105, e180_108, e180_110, e180_112, e180_113, e180_115, e180_117, e180_119, e180_120, e180_122, e180_125, e180_128, e180_129, e180_132, e180_134, e180_137, e180_139, e180_142, e180_144, e180_147, e180_148, e180_149, e180_152, e180_154, e180_157, e180_158, e180_159, e180_162, e180_163, e180_164, e180_165, e180_167, e180_168, e180_169, e180_170, bI_s, bL_s, bV_s, rv_s1, nl_i, nl_a, nl_n, w8_0, w8_i, w8_a, w8_l, ct_i, ct_a, b01_0, b01_1, b01_b, hF.m4, hF.m5, hF.m6, hF.m7, hF.m8, hF.m9, hF.m10, hF.m16, hF.m17, hF.m18, hF.m19, hF.m20, hF.m21, hF.m22, hF.m23, hF.m29, hF.m30, hF.m35, hF.m37, hF.m38, hF.m40, hF.m41, hF.m43, hF.m44, kd_87, al_88, al_89, al_90, al_91, al_92, al_93, al_94, al_95, al_96, al_97, al_98, al_99, al_100, al_101, al_102, al_103, al_104, al_105, al_106, al_108, al_111, zl_107, zl_109, zl_110, Nat.reduceLT, m_isHouse k.C hw, hx, Bool.toNat_true, nI10, if_false, s_in, in_c (show 9 < 2 ^ 31 by decide), in_c (show 2 < 2 ^ 31 by decide), hy, hz, k.C.th, nI_1shl (show g 0 0 3 < 31 by omega), pk_sub (show 1 ≤ 2 ^ g 0 0 3 by omega)]
          exact e
        · have hCJ := k.C.off oJ.1
          have hSJ : MS (J 94) 0 (g 0) (g 1) := k.S.off h6 oJ.2 (Or.inl (by decide))
          obtain ⟨J2, e2, o2⟩ := m_isSeen (Z := Z) hp k hh (show n < 100 by omega) (show i < 64 by omega) oJ
          have hlo : i ^^^ (i &&& mk (nearf (g 0) (g 1) h) (g 0 0 3)) < 2 ^ 6 := andn_lt (by omega)
          have hp6 := pc_le i 6
          have ea2 := hCJ.a2 hh
          rw [e180_56]
          simp only [e180_0, e180_1, e180_2, e180_5, e180_8, e180_9, e180_10, e180_11, e180_12, e180_13, e180_16, e180_19, e180_22, e180_23, e180_24, e180_25, e180_28, e180_31, e180_34, e180_36, e180_37, e180_38, e180_40, e180_41, e180_42, e180_45, e180_46, e180_47, e180_48, e180_50, e180_51, e180_53, e180_54, e180_58, e180_59, e180_60, e180_63, e180_64, e180_67, e180_69, e180_70, e180_71, e180_74, e180_75, e180_76, e180_77, e180_80, e180_82, e180_85, e180_86, e180_89, e180_90, e180_91, e180_94, e180_95, e180_96, e180_98, e180_99, e180_102, e180_105, e180_108, e180_110, e180_112, e180_113, e180_115, e180_117, e180_119, e180_120, e180_122, e180_125, e180_128, e180_129, e180_132, e180_134, e180_137, e180_139, e180_142, e180_144, e180_147, e180_148, e180_149, e180_152, e180_154, e180_157, e180_158, e180_159, e180_162, e180_163, e180_164, e180_165, e180_167, e180_168, e180_169, e180_170, bI_s, bL_s, bV_s, rv_s1, nl_i, nl_a, nl_n, w8_0, w8_i, w8_a, w8_l, ct_i, ct_a, b01_0, b01_1, b01_b, hF.m4, hF.m5, hF.m6, hF.m7, hF.m8, hF.m9, hF.m10, hF.m16, hF.m17, hF.m18, hF.m19, hF.m20, hF.m21, hF.m22, hF.m23, hF.m29, hF.m30, hF.m35, hF.m37, hF.m38, hF.m40, hF.m41, hF.m43, hF.m44, kd_87, al_88, al_89, al_90, al_91, al_92, al_93, al_94, al_95, al_96, al_97, al_98, al_99, al_100, al_101, al_102, al_103, al_104, al_105, al_106, al_108, al_111, zl_107, zl_109, zl_110, Nat.reduceLT, hCJ.th, nI_1shl (show g 0 0 3 < 31 by omega), nI_leI (show 2 ^ g 0 0 3 < 2 ^ 31 by omega) (show i < 2 ^ 31 by omega), show ¬ 2 ^ g 0 0 3 ≤ i by omega, if_false, m_nearOf hF hCJ hSJ hw hv hh, nI_andn, nI_eq (show i ^^^ (i &&& mk (nearf (g 0) (g 1) h) (g 0 0 3)) < 2 ^ 31 by omega) (show 0 < 2 ^ 31 by decide), m_ones (show i < 2 ^ 31 by omega), ab_ixN (show h < 4 by omega) (show 4 < 2 ^ 31 by decide), nI_clamp (show h < 2 ^ 31 by omega), ea2, nI_ltI (show g 0 2 h < 2 ^ 31 by omega) (show pc i 6 < 2 ^ 31 by omega), e2, nI_b, nI_add, nx_and', nx_or']
          by_cases c0 : i ^^^ (i &&& mk (nearf (g 0) (g 1) h) (g 0 0 3)) = 0
          · by_cases c1 : g 0 2 h < pc i 6
            · have eP : hrP g h n i = false := by
                unfold hrP
                rw [decide_eq_false (show ¬ pc i 6 ≤ g 0 2 h by omega), Bool.false_and, Bool.and_false]
              obtain ⟨J', e, o'⟩ := ih J oJ
              simp only [hcn, hal, hsm, eP, Bool.toNat_false, Nat.add_zero, Bool.false_eq_true, if_false] at e
              refine ⟨J', ?_, o'⟩
              simp only [c0, c1, if_true]
              exact e
            · cases ha : allf (fun i_1 => seef (g 0 0 3) (lastf (g 0) (shW (g 1) 1 h i) n) (g 2 3 i_1)) (g 2 1 5) with
              | false =>
                have eP : hrP g h n i = false := by
                  unfold hrP
                  rw [ha, Bool.and_false, Bool.and_false]
                obtain ⟨J', e, o'⟩ := ih J2 o2
                simp only [hcn, hal, hsm, eP, Bool.toNat_false, Nat.add_zero, Bool.false_eq_true, if_false] at e
                refine ⟨J', ?_, o'⟩
                simp only [c0, c1, if_true, if_false]
                exact e
              | true =>
                have eP : hrP g h n i = true := by
                  unfold hrP
                  rw [ha, decide_eq_true c0, decide_eq_true (show pc i 6 ≤ g 0 2 h by omega)]
                  rfl
                obtain ⟨J', e, o'⟩ := ih J2 o2
                simp only [hcn, hal, hsm, eP, Bool.toNat_true, if_true] at e
                refine ⟨J', ?_, o'⟩
                simp only [c0, c1, if_true, if_false, Bool.true_eq_false]
                exact e
          · have eP : hrP g h n i = false := by
              unfold hrP
              rw [decide_eq_false c0, Bool.false_and]
            obtain ⟨J', e, o'⟩ := ih J oJ
            simp only [hcn, hal, hsm, eP, Bool.toNat_false, Nat.add_zero, Bool.false_eq_true, if_false] at e
            refine ⟨J', ?_, o'⟩
            simp only [c0, if_false]
            exact e
        · have hCJ := k.C.off oJ.1
          have hc2 := hcnt (2 ^ g 0 0 3)
          refine ⟨J, ?_, oJ⟩
          rw [e180_56]
          simp only [e180_0, e180_1, e180_2, e180_5, e180_8, e180_9, e180_10, e180_11, e180_12, e180_13, e180_16, e180_19, e180_22, e180_23, e180_24, e180_25, e180_28, e180_31, e180_34, e180_36, e180_37, e180_38, e180_40, e180_41, e180_42, e180_45, e180_46, e180_47, e180_48, e180_50, e180_51, e180_53, e180_54, e180_58, e180_59, e180_60, e180_63, e180_64, e180_67, e180_69, e180_70, e180_71, e180_74, e180_75, e180_76, e180_77, e180_80, e180_82, e180_85, e180_86, e180_89, e180_90, e180_91, e180_94, e180_95, e180_96, e180_98, e180_99, e180_102, e180_105, e180_108, e180_110, e180_112, e180_113, e180_115, e180_117, e180_119, e180_120, e180_122, e180_125, e180_128, e180_129, e180_132, e180_134, e180_137, e180_139, e180_142, e180_144, e180_147, e180_148, e180_149, e180_152, e180_154, e180_157, e180_158, e180_159, e180_162, e180_163, e180_164, e180_165, e180_167, e180_168, e180_169, e180_170, bI_s, bL_s, bV_s, rv_s1, nl_i, nl_a, nl_n, w8_0, w8_i, w8_a, w8_l, ct_i, ct_a, b01_0, b01_1, b01_b, hF.m4, hF.m5, hF.m6, hF.m7, hF.m8, hF.m9, hF.m10, hF.m16, hF.m17, hF.m18, hF.m19, hF.m20, hF.m21, hF.m22, hF.m23, hF.m29, hF.m30, hF.m35, hF.m37, hF.m38, hF.m40, hF.m41, hF.m43, hF.m44, kd_87, al_88, al_89, al_90, al_91, al_92, al_93, al_94, al_95, al_96, al_97, al_98, al_99, al_100, al_101, al_102, al_103, al_104, al_105, al_106, al_108, al_111, zl_107, zl_109, zl_110, Nat.reduceLT, hCJ.th, nI_1shl (show g 0 0 3 < 31 by omega), Int32.le_refl, if_true, nI_eq (show w < 2 ^ 31 by omega) (show 0 < 2 ^ 31 by decide), nI_eq (show w < 2 ^ 31 by omega) (show 1 < 2 ^ 31 by decide), nI_eq (show hcn (hrP g h n) (2 ^ g 0 0 3) < 2 ^ 31 by omega) (show 0 < 2 ^ 31 by decide), pk_sub (show 1 ≤ 2 ^ g 0 0 3 by omega), nI_andn, ← hno_s]
          unfold hrV
          by_cases w0 : w = 0
          · simp [w0]
          · by_cases w1 : hcn (hrP g h n) (2 ^ g 0 0 3) = 0
            · simp [w0, w1]
            · by_cases w2 : w = 1
              · simp [w1, w2]
              · simp [w0, w1, w2]
    · refine Both.tell (v := .int (iI (-2))) hp (fun c I R L k => ?_) (fun I R L k => ?_)
      · have hc := k.cc
        rw [n97]
        simp only [e97_0, e97_1, e97_4, e97_5, e97_8, e97_11, e97_12, e97_13, e97_14, e97_17, e97_20, e97_21, e97_24, e97_25, e97_26, e97_29, e97_31, e97_32, e97_33, e97_36, e97_37, e97_40, e97_43, e97_44, e97_47, e97_48, e97_51, e97_52, e97_55, e97_57, e97_58, e97_60, e97_61, e97_64, e97_67, e97_69, e97_70, e97_73, e97_76, e97_78, e97_79, e97_83, e97_84, e97_87, e97_90, e97_93, e97_94, e97_97, e97_100, e97_101, e97_103, e97_104, e97_106, e97_108, e97_109, e97_110, e97_111, e97_114, e97_116, e97_119, e97_120, e97_123, e97_126, e97_127, e97_128, e97_131, e97_132, e97_135, e97_136, e97_138, e97_140, e97_143, e97_144, e97_145, e97_148, e97_149, e97_152, e97_155, e97_158, e97_160, e97_162, e97_163, e97_165, e97_167, e97_169, e97_170, e97_171, e97_172, e97_174, e97_177, e97_180, e97_181, e97_184, e97_186, e97_187, e97_189, e97_192, e97_194, e97_195, e97_196, e97_197, e97_200, e97_202, e97_205, e97_207, bI_s, bL_s, bV_s, rv_s1, nl_i, nl_a, nl_n, w8_0, w8_i, w8_a, w8_l, ct_i, ct_a, b01_0, b01_1, b01_b, kd_0, k.r3, kdC hc, s_hasHouse hc k.C hw, hx, Bool.toNat_true, nI10, if_false, s_isNumberOfBlows, nI_b, lt0_iff, nle_iffR (show 2 < 2 ^ 31 by decide)]
        cases hy : hasI y 10 with
        | false => simp
        | true =>
          cases hz : hasI z 3 with
          | true => exact absurd ⟨hy, hz⟩ hyz
          | false =>
            rcases hasI_f hz with h1 | h1
            · simp [h1]
            · simp [show ¬ z.toInt ≤ 2 by omega]
      · rw [n180]
        simp only [e180_0, e180_1, e180_2, e180_5, e180_8, e180_9, e180_10, e180_11, e180_12, e180_13, e180_16, e180_19, e180_22, e180_23, e180_24, e180_25, e180_28, e180_31, e180_34, e180_36, e180_37, e180_38, e180_40, e180_41, e180_42, e180_45, e180_46, e180_47, e180_48, e180_50, e180_51, e180_53, e180_54, e180_58, e180_59, e180_60, e180_63, e180_64, e180_67, e180_69, e180_70, e180_71, e180_74, e180_75, e180_76, e180_77, e180_80, e180_82, e180_85, e180_86, e180_89, e180_90, e180_91, e180_94, e180_95, e180_96, e180_98, e180_99, e180_102, e180_105, e180_108, e180_110, e180_112, e180_113, e180_115, e180_117, e180_119, e180_120, e180_122, e180_125, e180_128, e180_129, e180_132, e180_134, e180_137, e180_139, e180_142, e180_144, e180_147, e180_148, e180_149, e180_152, e180_154, e180_157, e180_158, e180_159, e180_162, e180_163, e180_164, e180_165, e180_167, e180_168, e180_169, e180_170, bI_s, bL_s, bV_s, rv_s1, nl_i, nl_a, nl_n, w8_0, w8_i, w8_a, w8_l, ct_i, ct_a, b01_0, b01_1, b01_b, kd_87, m_isHouse k.C hw, hx, Bool.toNat_true, nI10, if_false, s_in, in_c (show 9 < 2 ^ 31 by decide), in_c (show 2 < 2 ^ 31 by decide), nI_b]
        cases hy : hasI y 10 <;> cases hz : hasI z 3 <;> simp [hy, hz] at hyz ⊢
end HEARD
