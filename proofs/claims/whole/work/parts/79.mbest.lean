/-! the reference's keeping: its choice -/
theorem s0_WS {co sh : Co} {anew : Bool} (hv : WS co sh) : WS co (s0f sh anew) := by
  unfold s0f
  split
  · exact shU_WS hv
  · exact hv
theorem s0_0 {sh : Co} {anew : Bool} {t : Nat} : s0f sh anew 0 t = sh 0 t := by
  unfold s0f
  split <;> rfl
theorem s0_2 {sh : Co} {anew : Bool} {t : Nat} : s0f sh anew 2 t = sh 2 t := by
  unfold s0f
  split <;> rfl
theorem s0_near {co sh : Co} {anew : Bool} {h t : Nat} : nearf co (s0f sh anew) h t = nearf co sh h t := by
  unfold nearf
  rw [s0_0]
theorem said_U {co sh : Co} {t : Nat} : saidf co (shU sh) t = 0 := by
  apply Nat.eq_of_testBit_eq
  intro j
  unfold saidf
  rw [mk_bit, Nat.zero_testBit, show shU sh 1 j = 0 from rfl, Nat.zero_testBit, Bool.and_false]
theorem chm_b {cnt : Bool} {co s : Co} (hw : WF co) {wm : Nat → Bool} {rest : Nat → Nat} {t p x B : Nat} (h : ∀ q, rest q ≤ B) : chm cnt co s wm rest t p x ≤ B + 60 := by
  have h1 := h (p - prc x)
  have h2 := wwf_54 hw t
  have h3 := pc_le x 6
  unfold chm
  split
  · split
    · omega
    · split
      · split <;> omega
      · omega
  · omega
theorem Bm_b {cnt : Bool} {co s : Co} (hw : WF co) {wm : Nat → Bool} : ∀ d p, Bm cnt co s wm d p ≤ 1 + 60 * d
  | 0, _ => Nat.le_refl _
  | d + 1, p => by
    have ih := fun x => chm_b (cnt := cnt) (co := co) (s := s) hw (wm := wm) (rest := Bm cnt co s wm d) (t := co 0 3 - 1 - d) (p := p) (x := x) (Bm_b hw d)
    rw [Bm]
    split
    · exact Nat.le_trans (mx_le 16 fun x _ => ih x) (by omega)
    · by_cases h : mn (chm cnt co s wm (Bm cnt co s wm d) (co 0 3 - 1 - d) p) 16 = 0
      · rw [h]
        omega
      · obtain ⟨x, -, e⟩ := mn_in 16 h
        have := ih x
        omega
section MBEST
variable {Z t who W : Nat} {co sh : Co} {cnt anew : Bool} {I : ab_I} {R : ab_R} {L : ab_L}
theorem m_leftNow (hF : Fx R) (hM : KM I co sh cnt W who anew) (hw : WF co) (hv : WS co sh) (hn : WN co sh) (hwho : who < 16) : cl Z 152 [.ref 87] I R L = some (some (.int (nI (pu co (s0f sh anew) who (co 0 2)))), I, R, L) := by
  have h4 := hw.h4
  obtain ⟨⟨hC, hS⟩, k31, k32, k33, k34⟩ := hM
  have key := loop_all (P := fun j => ∀ y, ex Z 0 0 152 9 [some (.ref 87), some (.int (nI (hrf co (s0f sh anew) who j))), some (.int (iI ((co 0 2 : Int) - 1 - j))), y] [] I R L = some (some (.int (nI (pu co (s0f sh anew) who (co 0 2)))), I, R, L)) (co 0 2) (fun j hj ih y => ?_) (fun y => ?_) 0 (Nat.zero_le _)
  · have e5 : nI (co 0 2) - nI 1 = iI ((co 0 2 : Int) - 1 - (0 : Nat)) := by
      rw [nI_iI, nI_iI, iI_sub]
      congr 1
      omega
    rw [n152]
    simp only [e152_0, e152_1, e152_2, e152_3, e152_6, e152_7, e152_8, e152_10, e152_13, e152_14, e152_17, e152_18, e152_21, e152_24, e152_25, e152_28, e152_29, e152_32, e152_35, e152_36, e152_39, e152_40, e152_41, e152_44, e152_45, e152_46, e152_49, e152_50, e152_51, e152_52, e152_53, e152_54, e152_55, e152_56, e152_59, e152_62, e152_63, bI_s, bL_s, bV_s, rv_s1, nl_i, nl_a, nl_n, w8_0, w8_i, w8_a, w8_l, ct_i, ct_a, b01_0, b01_1, b01_b, kd_87, hC.hs, e5]
    exact key none
  · have hlt : co 0 2 - 1 - j < co 0 2 := by omega
    have ed : iI ((co 0 2 : Int) - 1 - j) = nI (co 0 2 - 1 - j) := by
      rw [nI_iI]
      congr 1
      omega
    have e5 : nI (co 0 2 - 1 - j) + iI (-1) = iI ((co 0 2 : Int) - 1 - (j + 1 : Nat)) := by
      rw [nI_iI, iI_add]
      congr 1
      omega
    have ih2 := ih (some (.int (nI (ddf co (s0f sh anew) who (co 0 2 - 1 - j)))))
    rw [hrf] at ih2
    have hpc := hn.1 _ hlt
    rw [e152_9]
    simp only [e152_0, e152_1, e152_2, e152_3, e152_6, e152_7, e152_8, e152_10, e152_13, e152_14, e152_17, e152_18, e152_21, e152_24, e152_25, e152_28, e152_29, e152_32, e152_35, e152_36, e152_39, e152_40, e152_41, e152_44, e152_45, e152_46, e152_49, e152_50, e152_51, e152_52, e152_53, e152_54, e152_55, e152_56, e152_59, e152_62, e152_63, bI_s, bL_s, bV_s, rv_s1, nl_i, nl_a, nl_n, w8_0, w8_i, w8_a, w8_l, ct_i, ct_a, b01_0, b01_1, b01_b, hF.m4, hF.m5, hF.m6, hF.m7, hF.m8, hF.m9, hF.m10, hF.m16, hF.m17, hF.m18, hF.m19, hF.m20, hF.m21, hF.m22, hF.m23, hF.m29, hF.m30, hF.m35, hF.m37, hF.m38, hF.m40, hF.m41, hF.m43, hF.m44, kd_87, al_88, al_89, al_90, al_91, al_92, al_93, al_94, al_95, al_96, al_97, al_98, al_99, al_100, al_101, al_102, al_103, al_104, al_105, al_106, al_108, al_111, zl_107, zl_109, zl_110, Nat.reduceLT, ed, nI_ltI (show co 0 2 - 1 - j < 2 ^ 31 by omega) (show 0 < 2 ^ 31 by decide), Nat.not_lt_zero, if_false, k33, k34, s_has (show who < 2 ^ 31 by omega) (show co 0 2 - 1 - j < 31 by omega), nI_b, ab_ixN (show co 0 2 - 1 - j < 4 by omega) (show 4 < 2 ^ 31 by decide), nI_clamp (show co 0 2 - 1 - j < 2 ^ 31 by omega), hC.a2 hlt, m_leftOf hF hC hS hw hv hlt, pk_sub hpc, e5, pk_mul, nI_add]
    unfold ddf s0f at ih2
    cases hb : who.testBit (co 0 2 - 1 - j) <;> cases anew
    · simp [hb] at ih2 ⊢
      exact ih2
    · simp [hb] at ih2 ⊢
      exact ih2
    · simp [hb] at ih2 ⊢
      exact ih2
    · simp [hb, shU, pc_0] at ih2 ⊢
      exact ih2
  · have hneg : iI ((co 0 2 : Int) - 1 - (co 0 2 : Nat)) < nI 0 := by
      rw [lt0_iff, iI_toInt (by omega) (by omega)]
      omega
    rw [e152_9]
    simp only [e152_0, e152_1, e152_2, e152_3, e152_6, e152_7, e152_8, e152_10, e152_13, e152_14, e152_17, e152_18, e152_21, e152_24, e152_25, e152_28, e152_29, e152_32, e152_35, e152_36, e152_39, e152_40, e152_41, e152_44, e152_45, e152_46, e152_49, e152_50, e152_51, e152_52, e152_53, e152_54, e152_55, e152_56, e152_59, e152_62, e152_63, bI_s, bL_s, bV_s, rv_s1, nl_i, nl_a, nl_n, w8_0, w8_i, w8_a, w8_l, ct_i, ct_a, b01_0, b01_1, b01_b, hneg, if_true, hrf_pu hw]
theorem m_maySay (hF : Fx R) (hM : KM I co sh cnt W who anew) (hw : WF co) (hv : WS co sh) (hwho : who < 16) (ht : t < co 0 3) {p x : Nat} (hp : p < 2 ^ 31) (hx : x < 16) : cl Z 156 [.ref 87, .int (nI x), .int (nI t), .int (nI p)] I R L = some (some (.int (nI (msf co (s0f sh anew) who t p x 4).toNat)), I, R, L) := by
  have h4 := hw.h4
  have h6 := hw.t6
  obtain ⟨⟨hC, hS⟩, k31, k32, k33, k34⟩ := hM
  have key := loop_all (P := fun i => ∀ y, ex Z 0 0 156 6 [some (.ref 87), some (.int (nI x)), some (.int (nI t)), some (.int (nI p)), some (.int (nI (msf co (s0f sh anew) who t p x i).toNat)), some (.int (nI i)), y] [] I R L = some (some (.int (nI (msf co (s0f sh anew) who t p x 4).toNat)), I, R, L)) 4 (fun i hi ih y => ?_) (fun y => ?_) 0 (Nat.zero_le _)
  · rw [n156]
    simp only [e156_0, e156_1, e156_3, e156_4, e156_8, e156_9, e156_12, e156_13, e156_16, e156_19, e156_21, e156_22, e156_25, e156_28, e156_29, e156_32, e156_34, e156_36, e156_37, e156_38, e156_39, e156_42, e156_45, e156_46, e156_49, e156_50, e156_52, e156_54, e156_57, e156_58, e156_60, e156_63, e156_66, e156_68, e156_69, e156_72, e156_75, e156_76, e156_79, e156_81, e156_84, e156_87, e156_88, e156_90, e156_91, e156_94, e156_97, e156_99, e156_102, e156_103, e156_105, e156_108, e156_111, e156_112, e156_115, e156_116, e156_118, e156_121, e156_124, e156_126, bI_s, bL_s, bV_s, rv_s1, nl_i, nl_a, nl_n, w8_0, w8_i, w8_a, w8_l, ct_i, ct_a, b01_0, b01_1, b01_b]
    exact key none
  · have h5 := dig_lt p i
    have m1 : msf co (s0f sh anew) who t p x (i + 1) = (msf co (s0f sh anew) who t p x i && (!x.testBit i || (decide (i < co 0 2) && (who.testBit i && (nearf co (s0f sh anew) i t && (!(decide (i < co 0 2) && (s0f sh anew 1 i).testBit t) && decide (0 < dig p i))))))) := rfl
    by_cases hH : i < co 0 2
    · have hb := hv.2.1 i hi
      have s6 : I 94 (6 + i) = nI (sh 1 i) := by
        have := hS.sd (show i < 4 from hi)
        rwa [Nat.zero_add] at this
      have ih2 := fun b : Bool => ih (some (.int (nI b.toNat)))
      rw [m1, s0_near, decide_eq_true hH] at ih2
      have it := ih2 true
      have iff := ih2 false
      rw [Bool.toNat_true] at it
      rw [Bool.toNat_false] at iff
      rw [e156_6]
      simp only [e156_0, e156_1, e156_3, e156_4, e156_8, e156_9, e156_12, e156_13, e156_16, e156_19, e156_21, e156_22, e156_25, e156_28, e156_29, e156_32, e156_34, e156_36, e156_37, e156_38, e156_39, e156_42, e156_45, e156_46, e156_49, e156_50, e156_52, e156_54, e156_57, e156_58, e156_60, e156_63, e156_66, e156_68, e156_69, e156_72, e156_75, e156_76, e156_79, e156_81, e156_84, e156_87, e156_88, e156_90, e156_91, e156_94, e156_97, e156_99, e156_102, e156_103, e156_105, e156_108, e156_111, e156_112, e156_115, e156_116, e156_118, e156_121, e156_124, e156_126, bI_s, bL_s, bV_s, rv_s1, nl_i, nl_a, nl_n, w8_0, w8_i, w8_a, w8_l, ct_i, ct_a, b01_0, b01_1, b01_b, hF.m4, hF.m5, hF.m6, hF.m7, hF.m8, hF.m9, hF.m10, hF.m16, hF.m17, hF.m18, hF.m19, hF.m20, hF.m21, hF.m22, hF.m23, hF.m29, hF.m30, hF.m35, hF.m37, hF.m38, hF.m40, hF.m41, hF.m43, hF.m44, kd_87, al_88, al_89, al_90, al_91, al_92, al_93, al_94, al_95, al_96, al_97, al_98, al_99, al_100, al_101, al_102, al_103, al_104, al_105, al_106, al_108, al_111, zl_107, zl_109, zl_110, Nat.reduceLT, nI_leI (show 4 < 2 ^ 31 by decide) (show i < 2 ^ 31 by omega), show ¬ 4 ≤ i by omega, if_false, k33, k34, nI_b, hC.hs, nI_leI (show co 0 2 < 2 ^ 31 by omega) (show i < 2 ^ 31 by omega), show ¬ co 0 2 ≤ i by omega, nI_add, ab_ixN (show 6 + i < 26 by omega) (show 26 < 2 ^ 31 by decide), nI_clamp (show 6 + i < 2 ^ 31 by omega), s6, s_has (show sh 1 i < 2 ^ 31 by omega) (show t < 31 by omega), s_has (show x < 2 ^ 31 by omega) (show i < 31 by omega), s_has (show who < 2 ^ 31 by omega) (show i < 31 by omega), m_isNear hF hC hS hw hv hH ht, m_breathOf hp hi, nI_leI (show dig p i < 2 ^ 31 by omega) (show 0 < 2 ^ 31 by decide), nI10, if_true]
      have es : (s0f sh anew 1 i).testBit t = (!anew && (sh 1 i).testBit t) := by
        unfold s0f
        cases anew
        · rfl
        · rw [if_pos rfl]
          show (0 : Nat).testBit t = _
          rw [Nat.zero_testBit]
          rfl
      rw [es] at it iff
      clear ih2 ih m1 es
      generalize s0f sh anew = s0 at it iff ⊢
      cases q1 : msf co s0 who t p x i <;> cases q2 : x.testBit i <;> cases q3 : who.testBit i <;> cases q4 : nearf co sh i t <;> cases hsb : (sh 1 i).testBit t <;> by_cases hd : dig p i = 0 <;> cases q5 : anew
      all_goals
        simp [hd, hsb, q1, q2, q3, q4, q5, Nat.pos_of_ne_zero] at it iff ⊢
        first
        | exact it
        | exact iff
    · have ih2 := ih (some (.int (nI 0)))
      rw [m1, decide_eq_false hH] at ih2
      rw [e156_6]
      simp only [e156_0, e156_1, e156_3, e156_4, e156_8, e156_9, e156_12, e156_13, e156_16, e156_19, e156_21, e156_22, e156_25, e156_28, e156_29, e156_32, e156_34, e156_36, e156_37, e156_38, e156_39, e156_42, e156_45, e156_46, e156_49, e156_50, e156_52, e156_54, e156_57, e156_58, e156_60, e156_63, e156_66, e156_68, e156_69, e156_72, e156_75, e156_76, e156_79, e156_81, e156_84, e156_87, e156_88, e156_90, e156_91, e156_94, e156_97, e156_99, e156_102, e156_103, e156_105, e156_108, e156_111, e156_112, e156_115, e156_116, e156_118, e156_121, e156_124, e156_126, bI_s, bL_s, bV_s, rv_s1, nl_i, nl_a, nl_n, w8_0, w8_i, w8_a, w8_l, ct_i, ct_a, b01_0, b01_1, b01_b, hF.m4, hF.m5, hF.m6, hF.m7, hF.m8, hF.m9, hF.m10, hF.m16, hF.m17, hF.m18, hF.m19, hF.m20, hF.m21, hF.m22, hF.m23, hF.m29, hF.m30, hF.m35, hF.m37, hF.m38, hF.m40, hF.m41, hF.m43, hF.m44, kd_87, al_88, al_89, al_90, al_91, al_92, al_93, al_94, al_95, al_96, al_97, al_98, al_99, al_100, al_101, al_102, al_103, al_104, al_105, al_106, al_108, al_111, zl_107, zl_109, zl_110, Nat.reduceLT, nI_leI (show 4 < 2 ^ 31 by decide) (show i < 2 ^ 31 by omega), show ¬ 4 ≤ i by omega, if_false, k33, k34, nI_b, hC.hs, nI_leI (show co 0 2 < 2 ^ 31 by omega) (show i < 2 ^ 31 by omega), show co 0 2 ≤ i by omega, if_true, s_has (show x < 2 ^ 31 by omega) (show i < 31 by omega), nI_add, ite_self]
      cases hm : msf co (s0f sh anew) who t p x i <;> cases hxb : x.testBit i
      all_goals
        simp [hm, hxb] at ih2 ⊢
        exact ih2
  · rw [e156_6]
    simp only [e156_0, e156_1, e156_3, e156_4, e156_8, e156_9, e156_12, e156_13, e156_16, e156_19, e156_21, e156_22, e156_25, e156_28, e156_29, e156_32, e156_34, e156_36, e156_37, e156_38, e156_39, e156_42, e156_45, e156_46, e156_49, e156_50, e156_52, e156_54, e156_57, e156_58, e156_60, e156_63, e156_66, e156_68, e156_69, e156_72, e156_75, e156_76, e156_79, e156_81, e156_84, e156_87, e156_88, e156_90, e156_91, e156_94, e156_97, e156_99, e156_102, e156_103, e156_105, e156_108, e156_111, e156_112, e156_115, e156_116, e156_118, e156_121, e156_124, e156_126, bI_s, bL_s, bV_s, rv_s1, nl_i, nl_a, nl_n, w8_0, w8_i, w8_a, w8_l, ct_i, ct_a, b01_0, b01_1, b01_b, Int32.le_refl, if_true]
theorem m_staysWith (hF : Fx R) (hM : KM I co sh cnt W who anew) (hw : WF co) (hv : WS co sh) (ht : t < co 0 3) {x : Nat} (hx : x < 16) : cl Z 157 [.ref 87, .int (nI t), .int (nI x)] I R L = some (some (.int (nI (isf co (s0f sh anew) t x).toNat)), I, R, L) := by
  have h4 := hw.h4
  have h6 := hw.t6
  obtain ⟨⟨hC, hS⟩, k31, k32, k33, k34⟩ := hM
  have hst := hv.2.2.1
  have s10 : I 94 10 = nI (sh 2 0) := hS.st
  have s11 : I 94 11 = nI (sh 2 1) := hS.ow
  have b1 : saidf co (s0f sh anew) t < 2 ^ 4 := Nat.lt_of_lt_of_le (mk_lt _ _) (Nat.pow_le_pow_right (n := 2) (by decide) h4)
  have b2 : (saidf co (s0f sh anew) t ||| x) ^^^ ((saidf co (s0f sh anew) t ||| x) &&& sh 2 1) < 2 ^ 4 := andn_lt (Nat.or_lt_two_pow b1 (by omega))
  have em : ∀ b : Bool, anew = b → nI (saidf co (s0f sh anew) t) = if b = false then nI (saidf co sh t) else nI 0 := fun b hb => by
    rw [hb]
    cases b
    · rfl
    · rw [if_neg (by decide)]
      unfold s0f
      rw [if_pos rfl, said_U]
  have e2 := em anew rfl
  unfold isf
  rw [s0_2, s0_2]
  generalize hq : saidf co (s0f sh anew) t = q at *
  rw [n157]
  cases anew
  · rw [if_pos rfl] at e2
    simp only [e157_0, e157_1, e157_4, e157_7, e157_8, e157_11, e157_12, e157_13, e157_14, e157_17, e157_18, e157_19, e157_20, e157_21, e157_24, e157_26, e157_27, e157_28, e157_31, e157_34, e157_35, e157_36, e157_37, e157_38, e157_41, e157_43, e157_44, e157_45, e157_46, e157_47, e157_50, e157_53, e157_54, e157_57, e157_58, bI_s, bL_s, bV_s, rv_s1, nl_i, nl_a, nl_n, w8_0, w8_i, w8_a, w8_l, ct_i, ct_a, b01_0, b01_1, b01_b, hF.m4, hF.m5, hF.m6, hF.m7, hF.m8, hF.m9, hF.m10, hF.m16, hF.m17, hF.m18, hF.m19, hF.m20, hF.m21, hF.m22, hF.m23, hF.m29, hF.m30, hF.m35, hF.m37, hF.m38, hF.m40, hF.m41, hF.m43, hF.m44, kd_87, al_88, al_89, al_90, al_91, al_92, al_93, al_94, al_95, al_96, al_97, al_98, al_99, al_100, al_101, al_102, al_103, al_104, al_105, al_106, al_108, al_111, zl_107, zl_109, zl_110, Nat.reduceLT, k34, Bool.toNat_false, if_true, m_saidTo hF hC (show 0 ≤ 1 by decide) hS hw hv (show t < 31 by omega), ← e2, nx_or', ab_ixN (show 10 < 26 by decide) (show 26 < 2 ^ 31 by decide), ab_ixN (show 11 < 26 by decide) (show 26 < 2 ^ 31 by decide), nI_clamp (show 10 < 2 ^ 31 by decide), nI_clamp (show 11 < 2 ^ 31 by decide), s10, s11, s_has (show sh 2 0 < 2 ^ 31 by omega) (show t < 31 by omega), nI_b, nI_andn, m_isHeld hF hC hw ht (show (q ||| x) ^^^ ((q ||| x) &&& sh 2 1) < 2 ^ 31 by omega)]
    cases (sh 2 0).testBit t <;> cases heldf co t ((q ||| x) ^^^ ((q ||| x) &&& sh 2 1)) <;> simp
  · rw [if_neg (by decide), nI_eq (by omega) (by decide)] at e2
    subst e2
    simp only [e157_0, e157_1, e157_4, e157_7, e157_8, e157_11, e157_12, e157_13, e157_14, e157_17, e157_18, e157_19, e157_20, e157_21, e157_24, e157_26, e157_27, e157_28, e157_31, e157_34, e157_35, e157_36, e157_37, e157_38, e157_41, e157_43, e157_44, e157_45, e157_46, e157_47, e157_50, e157_53, e157_54, e157_57, e157_58, bI_s, bL_s, bV_s, rv_s1, nl_i, nl_a, nl_n, w8_0, w8_i, w8_a, w8_l, ct_i, ct_a, b01_0, b01_1, b01_b, hF.m4, hF.m5, hF.m6, hF.m7, hF.m8, hF.m9, hF.m10, hF.m16, hF.m17, hF.m18, hF.m19, hF.m20, hF.m21, hF.m22, hF.m23, hF.m29, hF.m30, hF.m35, hF.m37, hF.m38, hF.m40, hF.m41, hF.m43, hF.m44, kd_87, al_88, al_89, al_90, al_91, al_92, al_93, al_94, al_95, al_96, al_97, al_98, al_99, al_100, al_101, al_102, al_103, al_104, al_105, al_106, al_108, al_111, zl_107, zl_109, zl_110, Nat.reduceLT, k34, Bool.toNat_true, nI10, if_false, nx_or', ab_ixN (show 10 < 26 by decide) (show 26 < 2 ^ 31 by decide), ab_ixN (show 11 < 26 by decide) (show 26 < 2 ^ 31 by decide), nI_clamp (show 10 < 2 ^ 31 by decide), nI_clamp (show 11 < 2 ^ 31 by decide), s10, s11, s_has (show sh 2 0 < 2 ^ 31 by omega) (show t < 31 by omega), nI_b, nI_andn, m_isHeld hF hC hw ht (show (0 ||| x) ^^^ ((0 ||| x) &&& sh 2 1) < 2 ^ 31 by omega)]
    cases (sh 2 0).testBit t <;> cases heldf co t ((0 ||| x) ^^^ ((0 ||| x) &&& sh 2 1)) <;> simp
theorem m_worthIn (hF : Fx R) (hM : KM I co sh cnt W who anew) (hw : WF co) {τ : Nat} (hτ : τ < 2 ^ 31) : cl Z 159 [.ref 87, .int (nI τ)] I R L = some (some (.int (nI (wwf co τ))), I, R, L) := by
  have h6 := hw.t6
  have hC := hM.1.1
  rw [n159]
  simp only [e159_0, e159_1, e159_2, e159_3, e159_5, e159_6, e159_9, e159_12, e159_13, e159_14, e159_15, e159_18, e159_19, e159_22, e159_23, e159_26, e159_27, e159_28, e159_31, e159_32, e159_33, e159_34, e159_37, e159_40, e159_41, bI_s, bL_s, bV_s, rv_s1, nl_i, nl_a, nl_n, w8_0, w8_i, w8_a, w8_l, ct_i, ct_a, b01_0, b01_1, b01_b]
  refine loop_up (F := fun i => ex Z 0 0 159 4 [some (.ref 87), some (.int (nI τ)), some (.int (nI (wwn co τ i))), some (.int (nI i))] [] I R L) (co 0 3) (fun i hi => ?_) ?_ 0 (Nat.zero_le _)
  · have ht := top_lt hw hi
    rw [e159_4]
    simp only [e159_0, e159_1, e159_2, e159_3, e159_5, e159_6, e159_9, e159_12, e159_13, e159_14, e159_15, e159_18, e159_19, e159_22, e159_23, e159_26, e159_27, e159_28, e159_31, e159_32, e159_33, e159_34, e159_37, e159_40, e159_41, bI_s, bL_s, bV_s, rv_s1, nl_i, nl_a, nl_n, w8_0, w8_i, w8_a, w8_l, ct_i, ct_a, b01_0, b01_1, b01_b, hF.m4, hF.m5, hF.m6, hF.m7, hF.m8, hF.m9, hF.m10, hF.m16, hF.m17, hF.m18, hF.m19, hF.m20, hF.m21, hF.m22, hF.m23, hF.m29, hF.m30, hF.m35, hF.m37, hF.m38, hF.m40, hF.m41, hF.m43, hF.m44, kd_87, al_88, al_89, al_90, al_91, al_92, al_93, al_94, al_95, al_96, al_97, al_98, al_99, al_100, al_101, al_102, al_103, al_104, al_105, al_106, al_108, al_111, zl_107, zl_109, zl_110, Nat.reduceLT, hC.th, nI_leI (show co 0 3 < 2 ^ 31 by omega) (show i < 2 ^ 31 by omega), show ¬ co 0 3 ≤ i by omega, if_false, m_outermost hF hC hw hi, nI_eq (show top co i < 2 ^ 31 by omega) hτ, ab_ixN (show i < 6 by omega) (show 6 < 2 ^ 31 by decide), nI_clamp (show i < 2 ^ 31 by omega), hC.a5 hi, nI_add, wwn]
    by_cases e : top co i = τ <;> simp [e]
  · rw [e159_4]
    simp only [e159_0, e159_1, e159_2, e159_3, e159_5, e159_6, e159_9, e159_12, e159_13, e159_14, e159_15, e159_18, e159_19, e159_22, e159_23, e159_26, e159_27, e159_28, e159_31, e159_32, e159_33, e159_34, e159_37, e159_40, e159_41, bI_s, bL_s, bV_s, rv_s1, nl_i, nl_a, nl_n, w8_0, w8_i, w8_a, w8_l, ct_i, ct_a, b01_0, b01_1, b01_b, kd_87, hC.th, Int32.le_refl, if_true]
    rfl
theorem nB_neg {v : Nat} (h : v < 2 ^ 31) : (nB v < nI 0) = (v = 0) := by
  cases v with
  | zero => exact propext ⟨fun _ => rfl, fun _ => by decide⟩
  | succ v =>
    rw [nB, nI_ltI (by omega) (by decide)]
    exact propext ⟨fun w => by omega, fun w => by omega⟩
theorem m_isBetter (hM : KM I co sh cnt W who anew) {c v : Nat} (hc : c < 2 ^ 30) (hv : v < 2 ^ 30) : cl Z 160 [.ref 87, .int (nB c), .int (nB v)] I R L = some (some (.int (nI (decide (c ≠ 0 ∧ (v = 0 ∨ (if cnt = true then v < c else c < v)))).toNat)), I, R, L) := by
  have k32 := hM.2.2.1
  rw [n160]
  simp only [e160_0, e160_1, e160_4, e160_5, e160_8, e160_9, e160_12, e160_15, e160_16, e160_17, e160_20, e160_23, e160_24, e160_25, e160_28, e160_29, e160_32, e160_33, bI_s, bL_s, bV_s, rv_s1, nl_i, nl_a, nl_n, w8_0, w8_i, w8_a, w8_l, ct_i, ct_a, b01_0, b01_1, b01_b, kd_87, k32, nI_b, nB_neg (show c < 2 ^ 31 by omega), nB_neg (show v < 2 ^ 31 by omega)]
  cases c with
  | zero => simp
  | succ c =>
    cases v with
    | zero => simp
    | succ v =>
      simp only [nB, nI_leI (show c < 2 ^ 31 by omega) (show v < 2 ^ 31 by omega), nI_leI (show v < 2 ^ 31 by omega) (show c < 2 ^ 31 by omega)]
      cases cnt
      · by_cases h : v ≤ c
        · simp [h, show ¬ c < v by omega]
        · simp [h, show c < v by omega]
      · by_cases h : c ≤ v
        · simp [h, show ¬ v < c by omega]
        · simp [h, show v < c by omega]
def wiP (co s : Co) (who p : Nat) : Prop := ∀ n, n < 4 → dig p n ≤ dig (pu co s who (co 0 2)) n
theorem wiP_sub {s : Co} {p x : Nat} (hx : x < 16) (h : wiP co s who p) (hf : fit p x = true) : wiP co s who (p - prc x) := fun n hn => by
  rw [dig_sub hx hf hn]
  have := h n hn
  omega
theorem m_choice (hF : Fx R) (hM : KM I co sh cnt W who anew) (hw : WF co) (hv : WS co sh) (hwho : who < 16) (hW : W < 2 ^ 31) (ht : t < co 0 3) {p x : Nat} (hp : p < 625) (hx : x < 16) (hwi : wiP co (s0f sh anew) who p) {rest : Nat → Nat} (hrb : ∀ q, rest q < 2 ^ 29) (hr : ∀ q, q < 625 → wiP co (s0f sh anew) who q → I 104 (625 * (t + 1) + q) = nB (rest q)) : cl Z 155 [.ref 87, .int (nI t), .int (nI p), .int (nI x)] I R L = some (some (.int (nB (chm cnt co (s0f sh anew) (wbt W) rest t p x))), I, R, L) := by
  have h6 := hw.t6
  have hC := hM.1.1
  have k31 := hM.2.1
  have k32 := hM.2.2.1
  have hms := msf_eq (s := s0f sh anew) (who := who) (t := t) hw hx hwi
  have em := m_maySay (Z := Z) (L := L) hF hM hw hv hwho ht (show p < 2 ^ 31 by omega) hx
  have es := m_staysWith (Z := Z) (L := L) hF hM hw hv ht hx
  have h7 := (hw.2.2.2.2.2.2 t ht).2.2.2.2.2.1
  have hww := wwf_54 hw t
  have hpx := pc_le x 6
  rw [n155]
  unfold chm
  cases hm : msf co (s0f sh anew) who t p x 4 with
  | false =>
    rw [hm] at em hms
    rw [if_neg (fun w => Bool.false_ne_true (hms.mpr w))]
    simp only [e155_0, e155_1, e155_2, e155_3, e155_4, e155_7, e155_10, e155_11, e155_12, e155_13, e155_16, e155_17, e155_18, e155_20, e155_23, e155_24, e155_27, e155_28, e155_30, e155_32, e155_35, e155_36, e155_37, e155_38, e155_41, e155_44, e155_45, e155_48, e155_49, e155_51, e155_52, e155_55, e155_58, e155_59, e155_60, e155_61, e155_62, e155_63, e155_64, e155_65, e155_68, e155_69, e155_70, e155_72, e155_74, e155_77, e155_78, e155_81, e155_84, e155_85, e155_88, e155_89, e155_92, e155_95, e155_97, e155_100, e155_101, e155_102, e155_103, e155_106, e155_109, e155_111, e155_113, e155_116, e155_117, e155_118, e155_121, e155_124, e155_125, e155_126, e155_129, e155_131, e155_132, e155_135, e155_136, bI_s, bL_s, bV_s, rv_s1, nl_i, nl_a, nl_n, w8_0, w8_i, w8_a, w8_l, ct_i, ct_a, b01_0, b01_1, b01_b, kd_87, em, Bool.toNat_false, if_true]
    rfl
  | true =>
    rw [hm] at em hms
    have hfit := hms.mp rfl
    have hpl := prc_le hx hfit.2
    have hrest := hr (p - prc x) (by omega) (wiP_sub hx hwi hfit.2)
    have hb1 := hrb (p - prc x)
    rw [if_pos hfit]
    have eix : nI 625 * nI (t + 1) + nI p - nI (prc x) = nI (625 * (t + 1) + (p - prc x)) := by
      rw [pk_mul, nI_add, pk_sub (by omega)]
      congr 1
      omega
    have e70 : ex Z 0 0 155 0 [some (.ref 87), some (.int (nI t)), some (.int (nI p)), some (.int (nI x)), none, none, none] [] I R L = ex Z 0 0 155 72 [some (.ref 87), some (.int (nI t)), some (.int (nI p)), some (.int (nI x)), some (.int (nI (tpf co t).toNat)), some (.int (nI (tpf co t && isf co (s0f sh anew) t x).toNat)), some (.int (nB (rest (p - prc x))))] [] I R L := by
      by_cases h0 : co 7 t = 0
      · have et : tpf co t = true := decide_eq_true h0
        rw [et]
        simp only [e155_0, e155_1, e155_2, e155_3, e155_4, e155_7, e155_10, e155_11, e155_12, e155_13, e155_16, e155_17, e155_18, e155_20, e155_23, e155_24, e155_27, e155_28, e155_30, e155_32, e155_35, e155_36, e155_37, e155_38, e155_41, e155_44, e155_45, e155_48, e155_49, e155_51, e155_52, e155_55, e155_58, e155_59, e155_60, e155_61, e155_62, e155_63, e155_64, e155_65, e155_68, e155_69, e155_70, e155_74, e155_77, e155_78, e155_81, e155_84, e155_85, e155_88, e155_89, e155_92, e155_95, e155_97, e155_100, e155_101, e155_102, e155_103, e155_106, e155_109, e155_111, e155_113, e155_116, e155_117, e155_118, e155_121, e155_124, e155_125, e155_126, e155_129, e155_131, e155_132, e155_135, e155_136, bI_s, bL_s, bV_s, rv_s1, nl_i, nl_a, nl_n, w8_0, w8_i, w8_a, w8_l, ct_i, ct_a, b01_0, b01_1, b01_b, hF.m4, hF.m5, hF.m6, hF.m7, hF.m8, hF.m9, hF.m10, hF.m16, hF.m17, hF.m18, hF.m19, hF.m20, hF.m21, hF.m22, hF.m23, hF.m29, hF.m30, hF.m35, hF.m37, hF.m38, hF.m40, hF.m41, hF.m43, hF.m44, kd_87, al_88, al_89, al_90, al_91, al_92, al_93, al_94, al_95, al_96, al_97, al_98, al_99, al_100, al_101, al_102, al_103, al_104, al_105, al_106, al_108, al_111, zl_107, zl_109, zl_110, Nat.reduceLT, em, Bool.toNat_true, nI10, if_false, ab_ixN (show t < 6 by omega) (show 6 < 2 ^ 31 by decide), nI_clamp (show t < 2 ^ 31 by omega), hC.a7 ht, h0, nN, if_true, es, nI_b, nI_add, m_lessBy hx, eix, ab_ixN (show 625 * (t + 1) + (p - prc x) < 4375 by omega) (show 4375 < 2 ^ 31 by decide), nI_clamp (show 625 * (t + 1) + (p - prc x) < 2 ^ 31 by omega), hrest]
        cases isf co (s0f sh anew) t x <;> simp
      · have et : tpf co t = false := decide_eq_false h0
        rw [et]
        simp only [e155_0, e155_1, e155_2, e155_3, e155_4, e155_7, e155_10, e155_11, e155_12, e155_13, e155_16, e155_17, e155_18, e155_20, e155_23, e155_24, e155_27, e155_28, e155_30, e155_32, e155_35, e155_36, e155_37, e155_38, e155_41, e155_44, e155_45, e155_48, e155_49, e155_51, e155_52, e155_55, e155_58, e155_59, e155_60, e155_61, e155_62, e155_63, e155_64, e155_65, e155_68, e155_69, e155_70, e155_74, e155_77, e155_78, e155_81, e155_84, e155_85, e155_88, e155_89, e155_92, e155_95, e155_97, e155_100, e155_101, e155_102, e155_103, e155_106, e155_109, e155_111, e155_113, e155_116, e155_117, e155_118, e155_121, e155_124, e155_125, e155_126, e155_129, e155_131, e155_132, e155_135, e155_136, bI_s, bL_s, bV_s, rv_s1, nl_i, nl_a, nl_n, w8_0, w8_i, w8_a, w8_l, ct_i, ct_a, b01_0, b01_1, b01_b, hF.m4, hF.m5, hF.m6, hF.m7, hF.m8, hF.m9, hF.m10, hF.m16, hF.m17, hF.m18, hF.m19, hF.m20, hF.m21, hF.m22, hF.m23, hF.m29, hF.m30, hF.m35, hF.m37, hF.m38, hF.m40, hF.m41, hF.m43, hF.m44, kd_87, al_88, al_89, al_90, al_91, al_92, al_93, al_94, al_95, al_96, al_97, al_98, al_99, al_100, al_101, al_102, al_103, al_104, al_105, al_106, al_108, al_111, zl_107, zl_109, zl_110, Nat.reduceLT, em, Bool.toNat_true, nI10, if_false, ab_ixN (show t < 6 by omega) (show 6 < 2 ^ 31 by decide), nI_clamp (show t < 2 ^ 31 by omega), hC.a7 ht, nN_pos h0, nI_9 (show co 7 t - 1 ≤ 100 by omega), if_true, nI_add, m_lessBy hx, eix, ab_ixN (show 625 * (t + 1) + (p - prc x) < 4375 by omega) (show 4375 < 2 ^ 31 by decide), nI_clamp (show 625 * (t + 1) + (p - prc x) < 2 ^ 31 by omega), hrest, Bool.false_and, Bool.toNat_false]
    rw [e70]
    generalize (tpf co t && isf co (s0f sh anew) t x) = is
    generalize tpf co t = tp
    simp only [e155_0, e155_1, e155_2, e155_3, e155_4, e155_7, e155_10, e155_11, e155_12, e155_13, e155_16, e155_17, e155_18, e155_20, e155_23, e155_24, e155_27, e155_28, e155_30, e155_32, e155_35, e155_36, e155_37, e155_38, e155_41, e155_44, e155_45, e155_48, e155_49, e155_51, e155_52, e155_55, e155_58, e155_59, e155_60, e155_61, e155_62, e155_63, e155_64, e155_65, e155_68, e155_69, e155_70, e155_72, e155_74, e155_77, e155_78, e155_81, e155_84, e155_85, e155_88, e155_89, e155_92, e155_95, e155_97, e155_100, e155_101, e155_102, e155_103, e155_106, e155_109, e155_111, e155_113, e155_116, e155_117, e155_118, e155_121, e155_124, e155_125, e155_126, e155_129, e155_131, e155_132, e155_135, e155_136, bI_s, bL_s, bV_s, rv_s1, nl_i, nl_a, nl_n, w8_0, w8_i, w8_a, w8_l, ct_i, ct_a, b01_0, b01_1, b01_b, hF.m4, hF.m5, hF.m6, hF.m7, hF.m8, hF.m9, hF.m10, hF.m16, hF.m17, hF.m18, hF.m19, hF.m20, hF.m21, hF.m22, hF.m23, hF.m29, hF.m30, hF.m35, hF.m37, hF.m38, hF.m40, hF.m41, hF.m43, hF.m44, kd_87, al_88, al_89, al_90, al_91, al_92, al_93, al_94, al_95, al_96, al_97, al_98, al_99, al_100, al_101, al_102, al_103, al_104, al_105, al_106, al_108, al_111, zl_107, zl_109, zl_110, Nat.reduceLT, nB_neg (show rest (p - prc x) < 2 ^ 31 by omega), k31, k32, nI_b, s_has hW (show t < 31 by omega), m_worthIn hF hM hw (show t < 2 ^ 31 by omega), m_ones (show x < 2 ^ 31 by omega)]
    unfold wbt
    cases hq : rest (p - prc x) with
    | zero => simp [nB]
    | succ v =>
      simp only [nB, nI_add]
      cases cnt <;> cases W.testBit t <;> cases is <;> simp [nB, show ∀ a b, a + 1 + b = (a + b) + 1 by omega]
end MBEST
