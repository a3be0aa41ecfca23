/-! forgotten -/
theorem xor_z {a b : Nat} (h : a ^^^ b = 0) : a = b := by
  apply Nat.eq_of_testBit_eq
  intro i
  have e := congrArg (fun x => x.testBit i) h
  simp only [Nat.testBit_xor, Nat.zero_testBit] at e
  revert e
  cases a.testBit i <;> cases b.testBit i <;> decide
def fw (x c s : Nat) : Nat → Nat
  | 0 => 1
  | n + 1 => fw x c s n * (if c.testBit n = true then (if s.testBit n = true then 10 - x else x) else 1)
def fpt (x c : Nat) (P : Nat → Bool) : Nat → Nat
  | 0 => 0
  | n + 1 => fpt x c P n + (if n ^^^ (n &&& c) = 0 then (if P n = true then fw x c n 4 else 0) else 0)
theorem sub_bit {s c : Nat} (h : s ^^^ (s &&& c) = 0) (j : Nat) (hj : s.testBit j = true) : c.testBit j = true := by
  have := andn_bit s c j
  rw [h, Nat.zero_testBit, hj, Bool.true_and] at this
  cases hc : c.testBit j
  · rw [hc] at this
    exact absurd this (by decide)
  · rfl
theorem fw_pow {x c s : Nat} (h : ∀ j, s.testBit j = true → c.testBit j = true) : ∀ n, fw x c s n = (10 - x) ^ (pc s n) * x ^ (pc (c ^^^ (c &&& s)) n)
  | 0 => by simp [fw, pc]
  | n + 1 => by
    rw [fw, fw_pow h n, pc, pc, andn_bit]
    cases hs : s.testBit n
    · cases hc : c.testBit n
      · simp
      · simp [Nat.pow_succ, Nat.mul_assoc]
    · have hc := h n hs
      simp [hc, Nat.pow_succ]
      rw [Nat.mul_assoc, Nat.mul_assoc]
      congr 1
      exact Nat.mul_comm _ _
theorem fpt_hi {x c H : Nat} {P : Nat → Bool} (hc : c < 2 ^ H) : ∀ d, fpt x c P (2 ^ H + d) = fpt x c P (2 ^ H)
  | 0 => rfl
  | d + 1 => by
    have h : ¬ (2 ^ H + d) ^^^ ((2 ^ H + d) &&& c) = 0 := fun w => by
      have e : (2 ^ H + d) &&& c = 2 ^ H + d := (xor_z w).symm
      have : (2 ^ H + d) &&& c ≤ c := Nat.and_le_right
      omega
    rw [← Nat.add_assoc, fpt, if_neg h, fpt_hi hc d, Nat.add_zero]
theorem fpt_rng : ∀ x, x < 11 → ∀ c, c < 16 → 0 < fpt x c (fun _ => true) 16 ∧ fpt x c (fun _ => true) 16 < 2 ^ 20 := by decide +kernel
section FORG
variable {Z : Nat}
theorem x_power {b n : Nat} {I : ab_I} {R : ab_R} {L : ab_L} (hn : n < 100) : cl Z 100 [.int (nI b), .int (nI n)] I R L = some (some (.int (nI (b ^ n))), I, R, L) := by
  rw [n100]
  simp only [e100_0, e100_1, e100_2, e100_3, e100_5, e100_6, e100_9, e100_10, e100_11, e100_12, e100_13, e100_16, e100_19, e100_20, bI_s, bL_s, bV_s, rv_s1, nl_i, nl_a, nl_n, w8_0, w8_i, w8_a, w8_l, ct_i, ct_a, b01_0, b01_1, b01_b]
  refine loop_up (F := fun i => ex Z 0 0 100 4 [some (.int (nI b)), some (.int (nI n)), some (.int (nI (b ^ i))), some (.int (nI i))] [] I R L) n (fun i hi => ?_) ?_ 0 (Nat.zero_le _)
  · rw [e100_4]
    simp only [e100_0, e100_1, e100_2, e100_3, e100_5, e100_6, e100_9, e100_10, e100_11, e100_12, e100_13, e100_16, e100_19, e100_20, bI_s, bL_s, bV_s, rv_s1, nl_i, nl_a, nl_n, w8_0, w8_i, w8_a, w8_l, ct_i, ct_a, b01_0, b01_1, b01_b, nI_leI (show n < 2 ^ 31 by omega) (show i < 2 ^ 31 by omega), show ¬ n ≤ i by omega, if_false, pk_mul, nI_add, Nat.pow_succ]
  · rw [e100_4]
    simp only [e100_0, e100_1, e100_2, e100_3, e100_5, e100_6, e100_9, e100_10, e100_11, e100_12, e100_13, e100_16, e100_19, e100_20, bI_s, bL_s, bV_s, rv_s1, nl_i, nl_a, nl_n, w8_0, w8_i, w8_a, w8_l, ct_i, ct_a, b01_0, b01_1, b01_b, Int32.le_refl, if_true]
theorem x_forgL {c x C tp : Nat} {t u : Int32} {sb : Bool} {P : Nat → Bool} {co sh : Co} {I : ab_I} {R : ab_R} {L : ab_L} (hF : Fx R) (h3 : R 0 3 = c + 1) (hc : IsC c) (hC : XC I c co) (hS : XS I 19 co sh) (hw : WF co) (hv : WS co sh) (hx : x < 11) (hcl : C < 16) (htp : tp < co 0 3) (hsb : (sh 2 0).testBit tp = sb) (hP : ∀ s, P s = (sb || heldf co tp s)) : ∀ i, i ≤ 2 ^ co 0 2 → ∀ y, ∃ y', ex Z 0 0 99 60 [some (.ref 0), some (.int t), some (.int (nI x)), some (.int u), some (.int (nI tp)), some (.int (nI C)), some (.int (nI (fpt x C P i))), some (.int (nI (fpt x C (fun _ => true) i))), some (.int (nI i)), y] [] I R L = ex Z 0 0 99 165 [some (.ref 0), some (.int t), some (.int (nI x)), some (.int u), some (.int (nI tp)), some (.int (nI C)), some (.int (nI (fpt x C P (2 ^ co 0 2)))), some (.int (nI (fpt x C (fun _ => true) (2 ^ co 0 2)))), some (.int (nI (2 ^ co 0 2))), y'] [] I R L := by
  have h4 := hw.h4
  have h6 := hw.t6
  have hst := hv.2.2.1
  have hH : 2 ^ co 0 2 ≤ 16 := Nat.pow_le_pow_right (n := 2) (by decide) h4
  have hH1 := Nat.two_pow_pos (co 0 2)
  have s19 : I 19 2 = nI (sh 2 0) := hS.st
  refine loop_all (2 ^ co 0 2) (fun i hi ih y => ?_) (fun y => ?_)
  · have hlo : i ^^^ (i &&& C) < 2 ^ 4 := andn_lt (by omega)
    have hlo2 : C ^^^ (C &&& i) < 2 ^ 4 := andn_lt (by omega)
    by_cases hsub : i ^^^ (i &&& C) = 0
    · have ef := fw_pow (x := x) (c := C) (s := i) (sub_bit hsub) 4
      have p1 := pc_k (s := i) 4 6 (by decide) (by omega)
      have p2 := pc_k (s := C ^^^ (C &&& i)) 4 6 (by decide) hlo2
      have p3 := pc_le i 4
      have p4 := pc_le (C ^^^ (C &&& i)) 4
      obtain ⟨y', e⟩ := ih (some (.int (nI (fw x C i 4))))
      refine ⟨y', ?_⟩
      simp only [fpt, hsub, if_true, hP] at e
      rw [e99_60]
      simp only [e99_0, e99_1, e99_4, e99_5, e99_8, e99_11, e99_12, e99_13, e99_14, e99_17, e99_18, e99_20, e99_23, e99_25, e99_26, e99_27, e99_30, e99_31, e99_34, e99_36, e99_37, e99_40, e99_41, e99_44, e99_46, e99_49, e99_51, e99_52, e99_54, e99_55, e99_57, e99_58, e99_62, e99_63, e99_66, e99_69, e99_72, e99_74, e99_76, e99_77, e99_78, e99_79, e99_82, e99_84, e99_85, e99_86, e99_88, e99_91, e99_94, e99_95, e99_97, e99_99, e99_100, e99_101, e99_102, e99_105, e99_108, e99_109, e99_111, e99_113, e99_115, e99_116, e99_118, e99_120, e99_121, e99_124, e99_127, e99_129, e99_132, e99_133, e99_136, e99_137, e99_140, e99_142, e99_144, e99_147, e99_150, e99_152, e99_155, e99_156, e99_157, e99_159, e99_162, e99_167, e99_169, e99_170, e99_173, bI_s, bL_s, bV_s, rv_s1, nl_i, nl_a, nl_n, w8_0, w8_i, w8_a, w8_l, ct_i, ct_a, b01_0, b01_1, b01_b, hF.x0, hF.x2, hF.x5, hF.x6, hF.x7, hF.x10, hF.x12, hF.x13, hF.x15, hF.k0, hF.k1, hF.k2, hF.m4, hF.m5, hF.m6, hF.m7, hF.m8, hF.m9, hF.m10, hF.m16, hF.m17, hF.m18, hF.m19, hF.m20, hF.m21, hF.m22, hF.m23, hF.m29, hF.m30, hF.m35, hF.m37, hF.m38, hF.m40, hF.m41, hF.m43, hF.m44, hF.q0, hF.q1, kd_0, kd_2, kd_3, kd_11, kd_19, kd_22, kd_27, kd_87, al_1, al_4, al_5, al_6, al_7, al_8, al_9, al_10, al_12, al_13, al_14, al_15, al_16, al_17, al_18, al_20, al_21, al_23, al_24, al_28, al_29, al_30, al_31, al_32, al_1001, al_1002, ql_25, ql_26, Nat.reduceLT, h3, kdC hc, s_allHouses hc hC hw, nI_ltI (show 2 ^ co 0 2 - 1 < 2 ^ 31 by omega) (show i < 2 ^ 31 by omega), show ¬ 2 ^ co 0 2 - 1 < i by omega, if_false, nI_andn, hsub, if_true, pk_sub (show x ≤ 10 by omega), s_ones (show i < 64 by omega), s_ones (show C ^^^ (C &&& i) < 64 by omega), p1, p2, x_power (show pc i 4 < 100 by omega), x_power (show pc (C ^^^ (C &&& i)) 4 < 100 by omega), pk_mul, ← ef, nI_add, s19, s_bit (show sh 2 0 < 2 ^ 31 by omega) (show tp < 31 by omega), hsb, nI_bt, s_held hF hc hC hw htp (show i < 64 by omega), nI_b]
      rw [← e]
      cases sb <;> cases heldf co tp i <;> simp
    · obtain ⟨y', e⟩ := ih y
      refine ⟨y', ?_⟩
      simp only [fpt, hsub, if_false, Nat.add_zero] at e
      rw [e99_60]
      simp only [e99_0, e99_1, e99_4, e99_5, e99_8, e99_11, e99_12, e99_13, e99_14, e99_17, e99_18, e99_20, e99_23, e99_25, e99_26, e99_27, e99_30, e99_31, e99_34, e99_36, e99_37, e99_40, e99_41, e99_44, e99_46, e99_49, e99_51, e99_52, e99_54, e99_55, e99_57, e99_58, e99_62, e99_63, e99_66, e99_69, e99_72, e99_74, e99_76, e99_77, e99_78, e99_79, e99_82, e99_84, e99_85, e99_86, e99_88, e99_91, e99_94, e99_95, e99_97, e99_99, e99_100, e99_101, e99_102, e99_105, e99_108, e99_109, e99_111, e99_113, e99_115, e99_116, e99_118, e99_120, e99_121, e99_124, e99_127, e99_129, e99_132, e99_133, e99_136, e99_137, e99_140, e99_142, e99_144, e99_147, e99_150, e99_152, e99_155, e99_156, e99_157, e99_159, e99_162, e99_167, e99_169, e99_170, e99_173, bI_s, bL_s, bV_s, rv_s1, nl_i, nl_a, nl_n, w8_0, w8_i, w8_a, w8_l, ct_i, ct_a, b01_0, b01_1, b01_b, hF.x0, hF.x2, hF.x5, hF.x6, hF.x7, hF.x10, hF.x12, hF.x13, hF.x15, hF.k0, hF.k1, hF.k2, hF.m4, hF.m5, hF.m6, hF.m7, hF.m8, hF.m9, hF.m10, hF.m16, hF.m17, hF.m18, hF.m19, hF.m20, hF.m21, hF.m22, hF.m23, hF.m29, hF.m30, hF.m35, hF.m37, hF.m38, hF.m40, hF.m41, hF.m43, hF.m44, hF.q0, hF.q1, kd_0, kd_2, kd_3, kd_11, kd_19, kd_22, kd_27, kd_87, al_1, al_4, al_5, al_6, al_7, al_8, al_9, al_10, al_12, al_13, al_14, al_15, al_16, al_17, al_18, al_20, al_21, al_23, al_24, al_28, al_29, al_30, al_31, al_32, al_1001, al_1002, ql_25, ql_26, Nat.reduceLT, h3, kdC hc, s_allHouses hc hC hw, nI_ltI (show 2 ^ co 0 2 - 1 < 2 ^ 31 by omega) (show i < 2 ^ 31 by omega), show ¬ 2 ^ co 0 2 - 1 < i by omega, if_false, nI_andn, nI_eq (show i ^^^ (i &&& C) < 2 ^ 31 by omega) (show 0 < 2 ^ 31 by decide), hsub, nI_add]
      exact e
  · refine ⟨y, ?_⟩
    rw [e99_60]
    simp only [e99_0, e99_1, e99_4, e99_5, e99_8, e99_11, e99_12, e99_13, e99_14, e99_17, e99_18, e99_20, e99_23, e99_25, e99_26, e99_27, e99_30, e99_31, e99_34, e99_36, e99_37, e99_40, e99_41, e99_44, e99_46, e99_49, e99_51, e99_52, e99_54, e99_55, e99_57, e99_58, e99_62, e99_63, e99_66, e99_69, e99_72, e99_74, e99_76, e99_77, e99_78, e99_79, e99_82, e99_84, e99_85, e99_86, e99_88, e99_91, e99_94, e99_95, e99_97, e99_99, e99_100, e99_101, e99_102, e99_105, e99_108, e99_109, e99_111, e99_113, e99_115, e99_116, e99_118, e99_120, e99_121, e99_124, e99_127, e99_129, e99_132, e99_133, e99_136, e99_137, e99_140, e99_142, e99_144, e99_147, e99_150, e99_152, e99_155, e99_156, e99_157, e99_159, e99_162, e99_167, e99_169, e99_170, e99_173, bI_s, bL_s, bV_s, rv_s1, nl_i, nl_a, nl_n, w8_0, w8_i, w8_a, w8_l, ct_i, ct_a, b01_0, b01_1, b01_b, hF.x0, hF.x2, hF.x5, hF.x6, hF.x7, hF.x10, hF.x12, hF.x13, hF.x15, hF.k0, hF.k1, hF.k2, hF.m4, hF.m5, hF.m6, hF.m7, hF.m8, hF.m9, hF.m10, hF.m16, hF.m17, hF.m18, hF.m19, hF.m20, hF.m21, hF.m22, hF.m23, hF.m29, hF.m30, hF.m35, hF.m37, hF.m38, hF.m40, hF.m41, hF.m43, hF.m44, hF.q0, hF.q1, kd_0, kd_2, kd_3, kd_11, kd_19, kd_22, kd_27, kd_87, al_1, al_4, al_5, al_6, al_7, al_8, al_9, al_10, al_12, al_13, al_14, al_15, al_16, al_17, al_18, al_20, al_21, al_23, al_24, al_28, al_29, al_30, al_31, al_32, al_1001, al_1002, ql_25, ql_26, Nat.reduceLT, h3, kdC hc, s_allHouses hc hC hw, nI_ltI (show 2 ^ co 0 2 - 1 < 2 ^ 31 by omega) (show 2 ^ co 0 2 < 2 ^ 31 by omega), show 2 ^ co 0 2 - 1 < 2 ^ co 0 2 by omega, if_true]
theorem m_forgL {x C tp : Nat} {t u : Int32} {sb : Bool} {P : Nat → Bool} {co sh : Co} {I : ab_I} {R : ab_R} {L : ab_L} (hF : Fx R) (hC : MC I co) (hS : MS (I 94) 0 co sh) (hw : WF co) (hv : WS co sh) (hx : x < 11) (hcl : C < 16) (htp : tp < co 0 3) (hsb : (sh 2 0).testBit tp = sb) (hP : ∀ s, P s = (sb || heldf co tp s)) : ∀ i, i ≤ 16 → ∀ y z, ∃ y' z', ex Z 0 0 182 50 [some (.ref 87), some (.int t), some (.int (nI x)), some (.int u), some (.int (nI tp)), some (.int (nI C)), some (.int (nI (fpt x C P i))), some (.int (nI (fpt x C (fun _ => true) i))), some (.int (nI i)), y, z] [] I R L = ex Z 0 0 182 172 [some (.ref 87), some (.int t), some (.int (nI x)), some (.int u), some (.int (nI tp)), some (.int (nI C)), some (.int (nI (fpt x C P 16))), some (.int (nI (fpt x C (fun _ => true) 16))), some (.int (nI 16)), y', z'] [] I R L := by
  have h6 := hw.t6
  have hst := hv.2.2.1
  have s10 : I 94 10 = nI (sh 2 0) := hS.st
  refine loop_all 16 (fun i hi ih y z => ?_) (fun y z => ?_)
  · have hlo : i ^^^ (i &&& C) < 2 ^ 4 := andn_lt (by omega)
    by_cases hsub : i ^^^ (i &&& C) = 0
    · obtain ⟨y', z', e⟩ := ih (some (.int (nI (fw x C i 4)))) (some (.int (nI 4)))
      refine ⟨y', z', ?_⟩
      have f1 : fpt x C P (i + 1) = fpt x C P i + (if (sb || heldf co tp i) = true then fw x C i 4 else 0) := by rw [fpt, if_pos hsub, hP]
      have f2 : fpt x C (fun _ => true) (i + 1) = fpt x C (fun _ => true) i + fw x C i 4 := by rw [fpt, if_pos hsub, if_pos rfl]
      rw [f1, f2] at e
      rw [e182_50]
      simp only [e182_0, e182_1, e182_2, e182_5, e182_8, e182_9, e182_10, e182_11, e182_12, e182_13, e182_16, e182_19, e182_22, e182_24, e182_25, e182_26, e182_27, e182_30, e182_32, e182_33, e182_34, e182_36, e182_39, e182_41, e182_42, e182_44, e182_45, e182_47, e182_48, e182_52, e182_54, e182_57, e182_59, e182_61, e182_62, e182_63, e182_64, e182_67, e182_68, e182_70, e182_71, e182_75, e182_76, e182_79, e182_81, e182_83, e182_85, e182_88, e182_91, e182_92, e182_95, e182_97, e182_99, e182_102, e182_105, e182_107, e182_108, e182_109, e182_112, e182_113, e182_114, e182_116, e182_119, e182_122, e182_124, e182_126, e182_127, e182_129, e182_131, e182_132, e182_135, e182_137, e182_138, e182_140, e182_143, e182_146, e182_147, e182_149, e182_151, e182_154, e182_157, e182_159, e182_162, e182_163, e182_164, e182_166, e182_169, e182_174, e182_176, e182_179, e182_181, e182_182, e182_185, e182_187, e182_189, e182_190, e182_193, e182_195, e182_197, e182_198, bI_s, bL_s, bV_s, rv_s1, nl_i, nl_a, nl_n, w8_0, w8_i, w8_a, w8_l, ct_i, ct_a, b01_0, b01_1, b01_b, nI_leI (show 16 < 2 ^ 31 by decide) (show i < 2 ^ 31 by omega), show ¬ 16 ≤ i by omega, if_false, nI_andn, hsub, if_true]
      refine loop_up (F := fun j => ex Z 0 0 182 73 [some (.ref 87), some (.int t), some (.int (nI x)), some (.int u), some (.int (nI tp)), some (.int (nI C)), some (.int (nI (fpt x C P i))), some (.int (nI (fpt x C (fun _ => true) i))), some (.int (nI i)), some (.int (nI (fw x C i j))), some (.int (nI j))] [] I R L) 4 (fun j hj => ?_) ?_ 0 (Nat.zero_le _)
      · rw [e182_73]
        simp only [e182_0, e182_1, e182_2, e182_5, e182_8, e182_9, e182_10, e182_11, e182_12, e182_13, e182_16, e182_19, e182_22, e182_24, e182_25, e182_26, e182_27, e182_30, e182_32, e182_33, e182_34, e182_36, e182_39, e182_41, e182_42, e182_44, e182_45, e182_47, e182_48, e182_52, e182_54, e182_57, e182_59, e182_61, e182_62, e182_63, e182_64, e182_67, e182_68, e182_70, e182_71, e182_75, e182_76, e182_79, e182_81, e182_83, e182_85, e182_88, e182_91, e182_92, e182_95, e182_97, e182_99, e182_102, e182_105, e182_107, e182_108, e182_109, e182_112, e182_113, e182_114, e182_116, e182_119, e182_122, e182_124, e182_126, e182_127, e182_129, e182_131, e182_132, e182_135, e182_137, e182_138, e182_140, e182_143, e182_146, e182_147, e182_149, e182_151, e182_154, e182_157, e182_159, e182_162, e182_163, e182_164, e182_166, e182_169, e182_174, e182_176, e182_179, e182_181, e182_182, e182_185, e182_187, e182_189, e182_190, e182_193, e182_195, e182_197, e182_198, bI_s, bL_s, bV_s, rv_s1, nl_i, nl_a, nl_n, w8_0, w8_i, w8_a, w8_l, ct_i, ct_a, b01_0, b01_1, b01_b, nI_leI (show 4 < 2 ^ 31 by decide) (show j < 2 ^ 31 by omega), show ¬ 4 ≤ j by omega, if_false, s_has (show C < 2 ^ 31 by omega) (show j < 31 by omega), s_has (show i < 2 ^ 31 by omega) (show j < 31 by omega), nI_b, pk_sub (show x ≤ 10 by omega), pk_mul, nI_add, fw]
        cases C.testBit j <;> cases i.testBit j <;> simp
      · rw [e182_73]
        simp only [e182_0, e182_1, e182_2, e182_5, e182_8, e182_9, e182_10, e182_11, e182_12, e182_13, e182_16, e182_19, e182_22, e182_24, e182_25, e182_26, e182_27, e182_30, e182_32, e182_33, e182_34, e182_36, e182_39, e182_41, e182_42, e182_44, e182_45, e182_47, e182_48, e182_52, e182_54, e182_57, e182_59, e182_61, e182_62, e182_63, e182_64, e182_67, e182_68, e182_70, e182_71, e182_75, e182_76, e182_79, e182_81, e182_83, e182_85, e182_88, e182_91, e182_92, e182_95, e182_97, e182_99, e182_102, e182_105, e182_107, e182_108, e182_109, e182_112, e182_113, e182_114, e182_116, e182_119, e182_122, e182_124, e182_126, e182_127, e182_129, e182_131, e182_132, e182_135, e182_137, e182_138, e182_140, e182_143, e182_146, e182_147, e182_149, e182_151, e182_154, e182_157, e182_159, e182_162, e182_163, e182_164, e182_166, e182_169, e182_174, e182_176, e182_179, e182_181, e182_182, e182_185, e182_187, e182_189, e182_190, e182_193, e182_195, e182_197, e182_198, bI_s, bL_s, bV_s, rv_s1, nl_i, nl_a, nl_n, w8_0, w8_i, w8_a, w8_l, ct_i, ct_a, b01_0, b01_1, b01_b, hF.m4, hF.m5, hF.m6, hF.m7, hF.m8, hF.m9, hF.m10, hF.m16, hF.m17, hF.m18, hF.m19, hF.m20, hF.m21, hF.m22, hF.m23, hF.m29, hF.m30, hF.m35, hF.m37, hF.m38, hF.m40, hF.m41, hF.m43, hF.m44, kd_87, al_88, al_89, al_90, al_91, al_92, al_93, al_94, al_95, al_96, al_97, al_98, al_99, al_100, al_101, al_102, al_103, al_104, al_105, al_106, al_108, al_111, zl_107, zl_109, zl_110, Nat.reduceLT, Int32.le_refl, if_true, nI_add, ab_ixN (show 10 < 26 by decide) (show 26 < 2 ^ 31 by decide), nI_clamp (show 10 < 2 ^ 31 by decide), s10, s_has (show sh 2 0 < 2 ^ 31 by omega) (show tp < 31 by omega), hsb, m_isHeld hF hC hw htp (show i < 2 ^ 31 by omega), nI_b]
        rw [← e]
        cases sb <;> cases heldf co tp i <;> simp
    · obtain ⟨y', z', e⟩ := ih y z
      refine ⟨y', z', ?_⟩
      have f1 : ∀ P, fpt x C P (i + 1) = fpt x C P i := fun P => by rw [fpt, if_neg hsub, Nat.add_zero]
      rw [f1, f1] at e
      rw [e182_50]
      simp only [e182_0, e182_1, e182_2, e182_5, e182_8, e182_9, e182_10, e182_11, e182_12, e182_13, e182_16, e182_19, e182_22, e182_24, e182_25, e182_26, e182_27, e182_30, e182_32, e182_33, e182_34, e182_36, e182_39, e182_41, e182_42, e182_44, e182_45, e182_47, e182_48, e182_52, e182_54, e182_57, e182_59, e182_61, e182_62, e182_63, e182_64, e182_67, e182_68, e182_70, e182_71, e182_75, e182_76, e182_79, e182_81, e182_83, e182_85, e182_88, e182_91, e182_92, e182_95, e182_97, e182_99, e182_102, e182_105, e182_107, e182_108, e182_109, e182_112, e182_113, e182_114, e182_116, e182_119, e182_122, e182_124, e182_126, e182_127, e182_129, e182_131, e182_132, e182_135, e182_137, e182_138, e182_140, e182_143, e182_146, e182_147, e182_149, e182_151, e182_154, e182_157, e182_159, e182_162, e182_163, e182_164, e182_166, e182_169, e182_174, e182_176, e182_179, e182_181, e182_182, e182_185, e182_187, e182_189, e182_190, e182_193, e182_195, e182_197, e182_198, bI_s, bL_s, bV_s, rv_s1, nl_i, nl_a, nl_n, w8_0, w8_i, w8_a, w8_l, ct_i, ct_a, b01_0, b01_1, b01_b, nI_leI (show 16 < 2 ^ 31 by decide) (show i < 2 ^ 31 by omega), show ¬ 16 ≤ i by omega, if_false, nI_andn, nI_eq (show i ^^^ (i &&& C) < 2 ^ 31 by omega) (show 0 < 2 ^ 31 by decide), hsub, nI_add]
      exact e
  · refine ⟨y, z, ?_⟩
    rw [e182_50]
    simp only [e182_0, e182_1, e182_2, e182_5, e182_8, e182_9, e182_10, e182_11, e182_12, e182_13, e182_16, e182_19, e182_22, e182_24, e182_25, e182_26, e182_27, e182_30, e182_32, e182_33, e182_34, e182_36, e182_39, e182_41, e182_42, e182_44, e182_45, e182_47, e182_48, e182_52, e182_54, e182_57, e182_59, e182_61, e182_62, e182_63, e182_64, e182_67, e182_68, e182_70, e182_71, e182_75, e182_76, e182_79, e182_81, e182_83, e182_85, e182_88, e182_91, e182_92, e182_95, e182_97, e182_99, e182_102, e182_105, e182_107, e182_108, e182_109, e182_112, e182_113, e182_114, e182_116, e182_119, e182_122, e182_124, e182_126, e182_127, e182_129, e182_131, e182_132, e182_135, e182_137, e182_138, e182_140, e182_143, e182_146, e182_147, e182_149, e182_151, e182_154, e182_157, e182_159, e182_162, e182_163, e182_164, e182_166, e182_169, e182_174, e182_176, e182_179, e182_181, e182_182, e182_185, e182_187, e182_189, e182_190, e182_193, e182_195, e182_197, e182_198, bI_s, bL_s, bV_s, rv_s1, nl_i, nl_a, nl_n, w8_0, w8_i, w8_a, w8_l, ct_i, ct_a, b01_0, b01_1, b01_b, Int32.le_refl, if_true]
theorem B_forgotten (a b : Int32) (u : Bool) : Both Z 99 182 [.int a, .int b, .int (nI u.toNat)] := by
  intro g sd hp
  have hw := hp.wf
  have hv := hp.ws
  have h4 := hw.h4
  have h6 := hw.t6
  cases hx : hasI a (g 0 0 3) with
  | false =>
    refine Both.tell (v := .int (iI (-1))) hp (fun c I R L h => ?_) (fun I R L h => ?_)
    · have hc := h.cc
      rw [n99]
      simp only [e99_0, e99_1, e99_4, e99_5, e99_8, e99_11, e99_12, e99_13, e99_14, e99_17, e99_18, e99_20, e99_23, e99_25, e99_26, e99_27, e99_30, e99_31, e99_34, e99_36, e99_37, e99_40, e99_41, e99_44, e99_46, e99_49, e99_51, e99_52, e99_54, e99_55, e99_57, e99_58, e99_62, e99_63, e99_66, e99_69, e99_72, e99_74, e99_76, e99_77, e99_78, e99_79, e99_82, e99_84, e99_85, e99_86, e99_88, e99_91, e99_94, e99_95, e99_97, e99_99, e99_100, e99_101, e99_102, e99_105, e99_108, e99_109, e99_111, e99_113, e99_115, e99_116, e99_118, e99_120, e99_121, e99_124, e99_127, e99_129, e99_132, e99_133, e99_136, e99_137, e99_140, e99_142, e99_144, e99_147, e99_150, e99_152, e99_155, e99_156, e99_157, e99_159, e99_162, e99_165, e99_167, e99_169, e99_170, e99_173, bI_s, bL_s, bV_s, rv_s1, nl_i, nl_a, nl_n, w8_0, w8_i, w8_a, w8_l, ct_i, ct_a, b01_0, b01_1, b01_b, kd_0, h.r3, kdC hc, s_hasThing hc h.C hw, hx, Bool.toNat_false, if_true]
    · rw [n182]
      simp only [e182_0, e182_1, e182_2, e182_5, e182_8, e182_9, e182_10, e182_11, e182_12, e182_13, e182_16, e182_19, e182_22, e182_24, e182_25, e182_26, e182_27, e182_30, e182_32, e182_33, e182_34, e182_36, e182_39, e182_41, e182_42, e182_44, e182_45, e182_47, e182_48, e182_52, e182_54, e182_57, e182_59, e182_61, e182_62, e182_63, e182_64, e182_67, e182_68, e182_70, e182_71, e182_75, e182_76, e182_79, e182_81, e182_83, e182_85, e182_88, e182_91, e182_92, e182_95, e182_97, e182_99, e182_102, e182_105, e182_107, e182_108, e182_109, e182_112, e182_113, e182_114, e182_116, e182_119, e182_122, e182_124, e182_126, e182_127, e182_129, e182_131, e182_132, e182_135, e182_137, e182_138, e182_140, e182_143, e182_146, e182_147, e182_149, e182_151, e182_154, e182_157, e182_159, e182_162, e182_163, e182_164, e182_166, e182_169, e182_172, e182_174, e182_176, e182_179, e182_181, e182_182, e182_185, e182_187, e182_189, e182_190, e182_193, e182_195, e182_197, e182_198, bI_s, bL_s, bV_s, rv_s1, nl_i, nl_a, nl_n, w8_0, w8_i, w8_a, w8_l, ct_i, ct_a, b01_0, b01_1, b01_b, kd_87, m_isThing h.C hw, hx, Bool.toNat_false, if_true]
  | true =>
    obtain ⟨t, ht, rfl⟩ := hasI_t (by omega) hx
    cases hy : hasI b 11 with
    | false =>
      refine Both.tell (v := .int (iI (-2))) hp (fun c I R L h => ?_) (fun I R L h => ?_)
      · have hc := h.cc
        rw [n99]
        simp only [e99_0, e99_1, e99_4, e99_5, e99_8, e99_11, e99_12, e99_13, e99_14, e99_17, e99_18, e99_20, e99_23, e99_25, e99_26, e99_27, e99_30, e99_31, e99_34, e99_36, e99_37, e99_40, e99_41, e99_44, e99_46, e99_49, e99_51, e99_52, e99_54, e99_55, e99_57, e99_58, e99_62, e99_63, e99_66, e99_69, e99_72, e99_74, e99_76, e99_77, e99_78, e99_79, e99_82, e99_84, e99_85, e99_86, e99_88, e99_91, e99_94, e99_95, e99_97, e99_99, e99_100, e99_101, e99_102, e99_105, e99_108, e99_109, e99_111, e99_113, e99_115, e99_116, e99_118, e99_120, e99_121, e99_124, e99_127, e99_129, e99_132, e99_133, e99_136, e99_137, e99_140, e99_142, e99_144, e99_147, e99_150, e99_152, e99_155, e99_156, e99_157, e99_159, e99_162, e99_165, e99_167, e99_169, e99_170, e99_173, bI_s, bL_s, bV_s, rv_s1, nl_i, nl_a, nl_n, w8_0, w8_i, w8_a, w8_l, ct_i, ct_a, b01_0, b01_1, b01_b, kd_0, h.r3, kdC hc, s_hasThing hc h.C hw, hx, Bool.toNat_true, nI10, if_false, lt0_iff, nle_iffR (show 10 < 2 ^ 31 by decide)]
        rcases hasI_f hy with h1 | h1
        · simp [h1]
        · simp [show ¬ b.toInt ≤ 10 by omega]
      · rw [n182]
        simp only [e182_0, e182_1, e182_2, e182_5, e182_8, e182_9, e182_10, e182_11, e182_12, e182_13, e182_16, e182_19, e182_22, e182_24, e182_25, e182_26, e182_27, e182_30, e182_32, e182_33, e182_34, e182_36, e182_39, e182_41, e182_42, e182_44, e182_45, e182_47, e182_48, e182_52, e182_54, e182_57, e182_59, e182_61, e182_62, e182_63, e182_64, e182_67, e182_68, e182_70, e182_71, e182_75, e182_76, e182_79, e182_81, e182_83, e182_85, e182_88, e182_91, e182_92, e182_95, e182_97, e182_99, e182_102, e182_105, e182_107, e182_108, e182_109, e182_112, e182_113, e182_114, e182_116, e182_119, e182_122, e182_124, e182_126, e182_127, e182_129, e182_131, e182_132, e182_135, e182_137, e182_138, e182_140, e182_143, e182_146, e182_147, e182_149, e182_151, e182_154, e182_157, e182_159, e182_162, e182_163, e182_164, e182_166, e182_169, e182_172, e182_174, e182_176, e182_179, e182_181, e182_182, e182_185, e182_187, e182_189, e182_190, e182_193, e182_195, e182_197, e182_198, bI_s, bL_s, bV_s, rv_s1, nl_i, nl_a, nl_n, w8_0, w8_i, w8_a, w8_l, ct_i, ct_a, b01_0, b01_1, b01_b, kd_87, m_isThing h.C hw, hx, Bool.toNat_true, nI10, if_false, s_in, in_c (show 10 < 2 ^ 31 by decide), hy, Bool.toNat_false, if_true]
    | true =>
      obtain ⟨x, hx11, rfl⟩ := hasI_t (by omega) hy
      have htp := top_lt hw ht
      have hc16 := cntf_16 hw (g 1) (top (g 0) t)
      have hcH := cntf_lt (g 0) (g 1) (top (g 0) t)
      obtain ⟨r1, r2⟩ := fpt_rng x hx11 _ hc16
      have hst := hv.2.2.1
      have hH : 2 ^ g 0 0 2 ≤ 16 := Nat.pow_le_pow_right (n := 2) (by decide) h4
      have e16 : ∀ P, fpt x (cntf (g 0) (g 1) (top (g 0) t)) P 16 = fpt x (cntf (g 0) (g 1) (top (g 0) t)) P (2 ^ g 0 0 2) := fun P => by
        have := fpt_hi (x := x) (P := P) hcH (16 - 2 ^ g 0 0 2)
        rwa [show 2 ^ g 0 0 2 + (16 - 2 ^ g 0 0 2) = 16 by omega] at this
      have hy0 : ¬ nI (fpt x (cntf (g 0) (g 1) (top (g 0) t)) (fun _ => true) 16) = nI 0 := by
        rw [nI_eq (by omega) (by decide)]
        omega
      have hy1 : (nI (fpt x (cntf (g 0) (g 1) (top (g 0) t)) (fun _ => true) 16)).toInt.natAbs < 2 ^ 30 := by
        rw [nI_toInt (by omega)]
        omega
      refine Both.tell (v := .int ((if u = true then nI (fpt x (cntf (g 0) (g 1) (top (g 0) t)) (fun s => (g 1 2 0).testBit (top (g 0) t) || heldf (g 0) (top (g 0) t) s) 16) else nI (fpt x (cntf (g 0) (g 1) (top (g 0) t)) (fun _ => true) 16)) / gcd32 (nI (fpt x (cntf (g 0) (g 1) (top (g 0) t)) (fun s => (g 1 2 0).testBit (top (g 0) t) || heldf (g 0) (top (g 0) t) s) 16)) (nI (fpt x (cntf (g 0) (g 1) (top (g 0) t)) (fun _ => true) 16)))) hp (fun c I R L h => ?_) (fun I R L h => ?_)
      · have hc := h.cc
        have hF := h.F
        obtain ⟨y', e⟩ := x_forgL (Z := Z) (L := L) (t := nI t) (u := nI u.toNat) (sb := (g 1 2 0).testBit (top (g 0) t)) (P := fun s => (g 1 2 0).testBit (top (g 0) t) || heldf (g 0) (top (g 0) t) s) hF h.r3 hc h.C h.S hw hv hx11 hc16 htp rfl (fun _ => rfl) 0 (Nat.zero_le _) none
        rw [n99]
        simp only [e99_0, e99_1, e99_4, e99_5, e99_8, e99_11, e99_12, e99_13, e99_14, e99_17, e99_18, e99_20, e99_23, e99_25, e99_26, e99_27, e99_30, e99_31, e99_34, e99_36, e99_37, e99_40, e99_41, e99_44, e99_46, e99_49, e99_51, e99_52, e99_54, e99_55, e99_57, e99_58, e99_62, e99_63, e99_66, e99_69, e99_72, e99_74, e99_76, e99_77, e99_78, e99_79, e99_82, e99_84, e99_85, e99_86, e99_88, e99_91, e99_94, e99_95, e99_97, e99_99, e99_100, e99_101, e99_102, e99_105, e99_108, e99_109, e99_111, e99_113, e99_115, e99_116, e99_118, e99_120, e99_121, e99_124, e99_127, e99_129, e99_132, e99_133, e99_136, e99_137, e99_140, e99_142, e99_144, e99_147, e99_150, e99_152, e99_155, e99_156, e99_157, e99_159, e99_162, e99_167, e99_169, e99_170, e99_173, bI_s, bL_s, bV_s, rv_s1, nl_i, nl_a, nl_n, w8_0, w8_i, w8_a, w8_l, ct_i, ct_a, b01_0, b01_1, b01_b, hF.x0, hF.x2, hF.x5, hF.x6, hF.x7, hF.x10, hF.x12, hF.x13, hF.x15, hF.k0, hF.k1, hF.k2, hF.m4, hF.m5, hF.m6, hF.m7, hF.m8, hF.m9, hF.m10, hF.m16, hF.m17, hF.m18, hF.m19, hF.m20, hF.m21, hF.m22, hF.m23, hF.m29, hF.m30, hF.m35, hF.m37, hF.m38, hF.m40, hF.m41, hF.m43, hF.m44, hF.q0, hF.q1, kd_0, kd_2, kd_3, kd_11, kd_19, kd_22, kd_27, kd_87, al_1, al_4, al_5, al_6, al_7, al_8, al_9, al_10, al_12, al_13, al_14, al_15, al_16, al_17, al_18, al_20, al_21, al_23, al_24, al_28, al_29, al_30, al_31, al_32, al_1001, al_1002, ql_25, ql_26, Nat.reduceLT, h.r3, kdC hc, s_hasThing hc h.C hw, hx, Bool.toNat_true, nI10, if_false, nI_ltI (show x < 2 ^ 31 by omega) (show 0 < 2 ^ 31 by decide), Nat.not_lt_zero, nI_leI (show x < 2 ^ 31 by omega) (show 10 < 2 ^ 31 by decide), show x ≤ 10 by omega, if_true, s_top hF hc h.C hw ht, s_counted hF hc IsS_19 h.C h.S hw hv htp]
        refine e.trans ?_
        rw [← e16, ← e16]
        simp only [e99_0, e99_1, e99_4, e99_5, e99_8, e99_11, e99_12, e99_13, e99_14, e99_17, e99_18, e99_20, e99_23, e99_25, e99_26, e99_27, e99_30, e99_31, e99_34, e99_36, e99_37, e99_40, e99_41, e99_44, e99_46, e99_49, e99_51, e99_52, e99_54, e99_55, e99_57, e99_58, e99_62, e99_63, e99_66, e99_69, e99_72, e99_74, e99_76, e99_77, e99_78, e99_79, e99_82, e99_84, e99_85, e99_86, e99_88, e99_91, e99_94, e99_95, e99_97, e99_99, e99_100, e99_101, e99_102, e99_105, e99_108, e99_109, e99_111, e99_113, e99_115, e99_116, e99_118, e99_120, e99_121, e99_124, e99_127, e99_129, e99_132, e99_133, e99_136, e99_137, e99_140, e99_142, e99_144, e99_147, e99_150, e99_152, e99_155, e99_156, e99_157, e99_159, e99_162, e99_165, e99_167, e99_169, e99_170, e99_173, bI_s, bL_s, bV_s, rv_s1, nl_i, nl_a, nl_n, w8_0, w8_i, w8_a, w8_l, ct_i, ct_a, b01_0, b01_1, b01_b, (x_fraction (Z := Z) (I := I) (R := R) (L := L) (u := u) hy1 hy0).1]
      · have hF := h.F
        obtain ⟨y', z', e⟩ := m_forgL (Z := Z) (R := R) (L := L) (t := nI t) (u := nI u.toNat) (sb := (g 1 2 0).testBit (top (g 0) t)) (P := fun s => (g 1 2 0).testBit (top (g 0) t) || heldf (g 0) (top (g 0) t) s) hF h.C h.S hw hv hx11 hc16 htp rfl (fun _ => rfl) 0 (Nat.zero_le _) none none
        have hgz : ∀ a, ¬ gcd32 a (nI (fpt x (cntf (g 0) (g 1) (top (g 0) t)) (fun _ => true) 16)) = 0 := fun a => (x_fraction (Z := Z) (x := a) (u := u) (I := I) (R := R) (L := L) hy1 hy0).2
        rw [n182]
        simp only [e182_0, e182_1, e182_2, e182_5, e182_8, e182_9, e182_10, e182_11, e182_12, e182_13, e182_16, e182_19, e182_22, e182_24, e182_25, e182_26, e182_27, e182_30, e182_32, e182_33, e182_34, e182_36, e182_39, e182_41, e182_42, e182_44, e182_45, e182_47, e182_48, e182_52, e182_54, e182_57, e182_59, e182_61, e182_62, e182_63, e182_64, e182_67, e182_68, e182_70, e182_71, e182_75, e182_76, e182_79, e182_81, e182_83, e182_85, e182_88, e182_91, e182_92, e182_95, e182_97, e182_99, e182_102, e182_105, e182_107, e182_108, e182_109, e182_112, e182_113, e182_114, e182_116, e182_119, e182_122, e182_124, e182_126, e182_127, e182_129, e182_131, e182_132, e182_135, e182_137, e182_138, e182_140, e182_143, e182_146, e182_147, e182_149, e182_151, e182_154, e182_157, e182_159, e182_162, e182_163, e182_164, e182_166, e182_169, e182_174, e182_176, e182_179, e182_181, e182_182, e182_185, e182_187, e182_189, e182_190, e182_193, e182_195, e182_197, e182_198, bI_s, bL_s, bV_s, rv_s1, nl_i, nl_a, nl_n, w8_0, w8_i, w8_a, w8_l, ct_i, ct_a, b01_0, b01_1, b01_b, hF.m4, hF.m5, hF.m6, hF.m7, hF.m8, hF.m9, hF.m10, hF.m16, hF.m17, hF.m18, hF.m19, hF.m20, hF.m21, hF.m22, hF.m23, hF.m29, hF.m30, hF.m35, hF.m37, hF.m38, hF.m40, hF.m41, hF.m43, hF.m44, kd_87, al_88, al_89, al_90, al_91, al_92, al_93, al_94, al_95, al_96, al_97, al_98, al_99, al_100, al_101, al_102, al_103, al_104, al_105, al_106, al_108, al_111, zl_107, zl_109, zl_110, Nat.reduceLT, m_isThing h.C hw, hx, Bool.toNat_true, nI10, if_false, s_in, in_c (show 10 < 2 ^ 31 by decide), hy, m_outermost hF h.C hw ht, m_counted hF h.C (show 0 ≤ 1 by decide) h.S hw hv htp]
        refine e.trans ?_
        simp only [e182_0, e182_1, e182_2, e182_5, e182_8, e182_9, e182_10, e182_11, e182_12, e182_13, e182_16, e182_19, e182_22, e182_24, e182_25, e182_26, e182_27, e182_30, e182_32, e182_33, e182_34, e182_36, e182_39, e182_41, e182_42, e182_44, e182_45, e182_47, e182_48, e182_52, e182_54, e182_57, e182_59, e182_61, e182_62, e182_63, e182_64, e182_67, e182_68, e182_70, e182_71, e182_75, e182_76, e182_79, e182_81, e182_83, e182_85, e182_88, e182_91, e182_92, e182_95, e182_97, e182_99, e182_102, e182_105, e182_107, e182_108, e182_109, e182_112, e182_113, e182_114, e182_116, e182_119, e182_122, e182_124, e182_126, e182_127, e182_129, e182_131, e182_132, e182_135, e182_137, e182_138, e182_140, e182_143, e182_146, e182_147, e182_149, e182_151, e182_154, e182_157, e182_159, e182_162, e182_163, e182_164, e182_166, e182_169, e182_172, e182_174, e182_176, e182_179, e182_181, e182_182, e182_185, e182_187, e182_189, e182_190, e182_193, e182_195, e182_197, e182_198, bI_s, bL_s, bV_s, rv_s1, nl_i, nl_a, nl_n, w8_0, w8_i, w8_a, w8_l, ct_i, ct_a, b01_0, b01_1, b01_b, m_common hy1, nI_b, hgz, not_false_eq_true]
        cases u <;> simp
end FORG
