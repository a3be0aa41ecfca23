/-! house, thing, count -/
section TELLS
variable {Z : Nat}
theorem ret_ite (w k : Int32) (a b : Value) (I : ab_I) (R : ab_R) (L : ab_L) : (some (some (if w = k then a else b), I, R, L) : ab_Rm) = if w = k then some (some a, I, R, L) else some (some b, I, R, L) := by split <;> rfl
theorem Both.tell {Z MX MM' : Nat} {av : List Value} {g : Gs} {sd : Int64} {v : Value} (hp : PG g) (h1 : ∀ c I R L, XX g sd c I R L → cl Z MX (.ref 0 :: av) I R L = some (some v, I, R, L)) (h2 : ∀ I R L, MM g sd I R L → cl Z MM' (.ref 87 :: av) I R L = some (some v, I, R, L)) : ∃ v g' sd', PG g' ∧ XK Z MX av v g g' sd sd' ∧ MK Z MM' av v g g' sd sd' := ⟨v, g, sd, hp, XK.tell h1, MK.tell h2⟩
theorem B_house (x w : Int32) : Both Z 63 119 [.int x, .int w] := by
  intro g sd hp
  have hw := hp.wf
  have hv := hp.ws
  have h4 := hw.h4
  cases hx : hasI x (g 0 0 2) with
  | false =>
    refine Both.tell (v := .int (iI (-1))) hp (fun c I R L h => ?_) (fun I R L h => ?_)
    · have hc := h.cc
      rw [n63]
      simp only [e63_0, e63_1, e63_4, e63_5, e63_8, e63_11, e63_12, e63_13, e63_14, e63_48, e63_49, e63_52, e63_55, e63_56, e63_57, e63_58, e63_59, e63_62, e63_63, e63_66, e63_67, e63_70, e63_71, e63_72, e63_75, e63_78, e63_79, e63_80, e63_81, e63_82, e63_85, e63_88, e63_89, e63_92, e63_93, e63_94, e63_97, e63_98, e63_101, e63_102, e63_105, e63_106, e63_108, bI_s, bL_s, bV_s, rv_s1, nl_i, nl_a, nl_n, w8_0, w8_i, w8_a, w8_l, ct_i, ct_a, b01_0, b01_1, b01_b, kd_0, h.r3, kdC hc, s_hasHouse hc h.C hw, hx]
      simp
    · rw [n119]
      simp only [e119_0, e119_1, e119_2, e119_5, e119_8, e119_9, e119_10, e119_11, e119_44, e119_45, e119_48, e119_49, e119_50, e119_51, e119_52, e119_53, e119_56, e119_57, e119_58, e119_61, e119_63, e119_64, e119_65, e119_66, e119_67, e119_68, e119_71, e119_73, e119_74, e119_75, e119_76, e119_77, e119_78, e119_79, e119_80, e119_81, e119_84, e119_85, e119_87, bI_s, bL_s, bV_s, rv_s1, nl_i, nl_a, nl_n, w8_0, w8_i, w8_a, w8_l, ct_i, ct_a, b01_0, b01_1, b01_b, kd_87, m_isHouse h.C hw, hx]
      simp
  | true =>
    obtain ⟨l, hl, rfl⟩ := hasI_t (by omega) hx
    have hl4 : l < 4 := by omega
    have h2 := hv.2.1 l hl4
    have h16 := hv.2.2.2
    have hn := hp.wn.1 l hl
    refine Both.tell (v := if w = nI 0 then .int (nI (g 0 1 l)) else if w = nI 1 then .int (nI (g 0 2 l - pc (g 1 1 l) 6)) else if w = nI 2 then .int (nI (g 1 1 l)) else if w = nI 3 then .int (nI ((g 1 2 1).testBit l).toNat) else if w = nI 4 then .int (nI (mk (nearf (g 0) (g 1) l) (g 0 0 3))) else .int (iI (-2))) hp (fun c I R L h => ?_) (fun I R L h => ?_)
    · have hc := h.cc
      have hF := h.F
      have s21 : I 21 l = nI (g 1 1 l) := h.S.sd hl4
      rw [n63]
      simp only [e63_0, e63_1, e63_4, e63_5, e63_8, e63_11, e63_12, e63_13, e63_14, e63_48, e63_49, e63_52, e63_55, e63_56, e63_57, e63_58, e63_59, e63_62, e63_63, e63_66, e63_67, e63_70, e63_71, e63_72, e63_75, e63_78, e63_79, e63_80, e63_81, e63_82, e63_85, e63_88, e63_89, e63_92, e63_93, e63_94, e63_97, e63_98, e63_101, e63_102, e63_105, e63_106, e63_108, bI_s, bL_s, bV_s, rv_s1, nl_i, nl_a, nl_n, w8_0, w8_i, w8_a, w8_l, ct_i, ct_a, b01_0, b01_1, b01_b, hF.x0, hF.x2, hF.x5, hF.x6, hF.x7, hF.x10, hF.x12, hF.x13, hF.x15, hF.k0, hF.k1, hF.k2, hF.m4, hF.m5, hF.m6, hF.m7, hF.m8, hF.m9, hF.m10, hF.m16, hF.m17, hF.m18, hF.m19, hF.m20, hF.m21, hF.m22, hF.m23, hF.m29, hF.m30, hF.m35, hF.m37, hF.m38, hF.m40, hF.m41, hF.m43, hF.m44, hF.q0, hF.q1, kd_0, kd_2, kd_3, kd_11, kd_19, kd_22, kd_27, kd_87, al_1, al_4, al_5, al_6, al_7, al_8, al_9, al_10, al_12, al_13, al_14, al_15, al_16, al_17, al_18, al_20, al_21, al_23, al_24, al_28, al_29, al_30, al_31, al_32, al_1001, al_1002, ql_25, ql_26, Nat.reduceLT, kdC hc, hF.c0 hc, hF.c1 hc, hF.c2 hc, hF.c3 hc, hF.c4 hc, hF.c5 hc, hF.c6 hc, alC1 hc, ltC1 hc, alC2 hc, ltC2 hc, alC3 hc, ltC3 hc, alC4 hc, ltC4 hc, alC5 hc, ltC5 hc, alC6 hc, ltC6 hc, alC7 hc, ltC7 hc, h.r3, s_hasHouse hc h.C hw, hx, Bool.toNat_true, nI10, if_false, ab_ixN hl4 (show 4 < 2 ^ 31 by decide), nI_clamp (show l < 2 ^ 31 by omega), h.C.a1 hl, s_breathsLeft hF hc IsS_19 h.C h.S hw hv hl, hF.s1 IsS_19, Nat.reduceAdd, s21, h.S.ow, s_bit (show g 1 2 1 < 2 ^ 31 by omega) (show l < 31 by omega), s_near hF hc IsS_19 h.C h.S hw hv hl]
      simp only [ret_ite]
    · have hF := h.F
      have s1 := h.S.sd hl4
      have s2 := h.S.ow
      rw [Nat.zero_add] at s1 s2
      rw [n119]
      simp only [e119_0, e119_1, e119_2, e119_5, e119_8, e119_9, e119_10, e119_11, e119_44, e119_45, e119_48, e119_49, e119_50, e119_51, e119_52, e119_53, e119_56, e119_57, e119_58, e119_61, e119_63, e119_64, e119_65, e119_66, e119_67, e119_68, e119_71, e119_73, e119_74, e119_75, e119_76, e119_77, e119_78, e119_79, e119_80, e119_81, e119_84, e119_85, e119_87, bI_s, bL_s, bV_s, rv_s1, nl_i, nl_a, nl_n, w8_0, w8_i, w8_a, w8_l, ct_i, ct_a, b01_0, b01_1, b01_b, hF.m4, hF.m5, hF.m6, hF.m7, hF.m8, hF.m9, hF.m10, hF.m16, hF.m17, hF.m18, hF.m19, hF.m20, hF.m21, hF.m22, hF.m23, hF.m29, hF.m30, hF.m35, hF.m37, hF.m38, hF.m40, hF.m41, hF.m43, hF.m44, kd_87, al_88, al_89, al_90, al_91, al_92, al_93, al_94, al_95, al_96, al_97, al_98, al_99, al_100, al_101, al_102, al_103, al_104, al_105, al_106, al_108, al_111, zl_107, zl_109, zl_110, Nat.reduceLT, m_isHouse h.C hw, hx, Bool.toNat_true, nI10, if_false, ab_ixN hl4 (show 4 < 2 ^ 31 by decide), nI_clamp (show l < 2 ^ 31 by omega), h.C.a1 hl, m_leftOf hF h.C h.S hw hv hl, nI_add, ab_ixN (show 6 + l < 26 by omega) (show 26 < 2 ^ 31 by decide), nI_clamp (show 6 + l < 2 ^ 31 by omega), s1, ab_ixN (show 11 < 26 by decide) (show 26 < 2 ^ 31 by decide), nI_clamp (show 11 < 2 ^ 31 by omega), s2, nI_bit (show g 1 2 1 < 2 ^ 31 by omega) (show l < 31 by omega), m_nearOf hF h.C h.S hw hv hl, pk_sub hn]
      simp only [ret_ite]
theorem B_thing (x w : Int32) : Both Z 64 125 [.int x, .int w] := by
  intro g sd hp
  have hw := hp.wf
  have hv := hp.ws
  have h6 := hw.t6
  cases hx : hasI x (g 0 0 3) with
  | false =>
    refine Both.tell (v := .int (iI (-1))) hp (fun c I R L h => ?_) (fun I R L h => ?_)
    · have hc := h.cc
      rw [n64]
      simp only [e64_0, e64_1, e64_4, e64_5, e64_8, e64_11, e64_12, e64_13, e64_14, e64_60, e64_61, e64_64, e64_67, e64_68, e64_69, e64_70, e64_71, e64_74, e64_77, e64_78, e64_79, e64_80, e64_81, e64_84, e64_87, e64_88, e64_89, e64_90, e64_91, e64_94, e64_97, e64_98, e64_99, e64_100, e64_101, e64_104, e64_107, e64_108, e64_109, e64_110, e64_111, e64_114, e64_115, e64_118, e64_119, e64_122, e64_123, e64_124, e64_127, e64_130, e64_131, e64_134, e64_135, e64_136, e64_139, e64_140, e64_143, e64_144, e64_147, e64_150, e64_151, e64_154, e64_155, e64_156, e64_158, bI_s, bL_s, bV_s, rv_s1, nl_i, nl_a, nl_n, w8_0, w8_i, w8_a, w8_l, ct_i, ct_a, b01_0, b01_1, b01_b, kd_0, h.r3, kdC hc, s_hasThing hc h.C hw, hx]
      simp
    · rw [n125]
      simp only [e125_0, e125_1, e125_2, e125_5, e125_8, e125_9, e125_10, e125_11, e125_56, e125_57, e125_60, e125_61, e125_62, e125_63, e125_64, e125_67, e125_68, e125_69, e125_70, e125_71, e125_74, e125_75, e125_76, e125_77, e125_78, e125_81, e125_82, e125_83, e125_84, e125_85, e125_88, e125_89, e125_90, e125_91, e125_92, e125_93, e125_94, e125_97, e125_98, e125_99, e125_102, e125_104, e125_105, e125_106, e125_107, e125_108, e125_109, e125_110, e125_111, e125_112, e125_113, e125_116, e125_119, e125_120, e125_123, e125_124, e125_125, e125_127, bI_s, bL_s, bV_s, rv_s1, nl_i, nl_a, nl_n, w8_0, w8_i, w8_a, w8_l, ct_i, ct_a, b01_0, b01_1, b01_b, kd_87, m_isThing h.C hw, hx]
      simp
  | true =>
    obtain ⟨l, hl, rfl⟩ := hasI_t (by omega) hx
    have hl4 : l < 6 := by omega
    have h64 := hv.2.2.1
    refine Both.tell (v := if w = nI 0 then .int (nI (g 1 0 l)) else if w = nI 1 then .int (nI (g 0 4 l)) else if w = nI 2 then .int (nI (g 0 5 l)) else if w = nI 3 then .int (nN (g 0 6 l)) else if w = nI 4 then .int (nN (g 0 7 l)) else if w = nI 5 then .int (nI (cntf (g 0) (g 1) l)) else if w = nI 6 then .int (nI ((g 1 2 0).testBit l).toNat) else if w = nI 7 then .int (nI (stayf (g 0) (g 1) l).toNat) else .int (iI (-2))) hp (fun c I R L h => ?_) (fun I R L h => ?_)
    · have hc := h.cc
      have hF := h.F
      have s20 : I 20 l = nI (g 1 0 l) := h.S.pl hl
      rw [n64]
      simp only [e64_0, e64_1, e64_4, e64_5, e64_8, e64_11, e64_12, e64_13, e64_14, e64_60, e64_61, e64_64, e64_67, e64_68, e64_69, e64_70, e64_71, e64_74, e64_77, e64_78, e64_79, e64_80, e64_81, e64_84, e64_87, e64_88, e64_89, e64_90, e64_91, e64_94, e64_97, e64_98, e64_99, e64_100, e64_101, e64_104, e64_107, e64_108, e64_109, e64_110, e64_111, e64_114, e64_115, e64_118, e64_119, e64_122, e64_123, e64_124, e64_127, e64_130, e64_131, e64_134, e64_135, e64_136, e64_139, e64_140, e64_143, e64_144, e64_147, e64_150, e64_151, e64_154, e64_155, e64_156, e64_158, bI_s, bL_s, bV_s, rv_s1, nl_i, nl_a, nl_n, w8_0, w8_i, w8_a, w8_l, ct_i, ct_a, b01_0, b01_1, b01_b, hF.x0, hF.x2, hF.x5, hF.x6, hF.x7, hF.x10, hF.x12, hF.x13, hF.x15, hF.k0, hF.k1, hF.k2, hF.m4, hF.m5, hF.m6, hF.m7, hF.m8, hF.m9, hF.m10, hF.m16, hF.m17, hF.m18, hF.m19, hF.m20, hF.m21, hF.m22, hF.m23, hF.m29, hF.m30, hF.m35, hF.m37, hF.m38, hF.m40, hF.m41, hF.m43, hF.m44, hF.q0, hF.q1, kd_0, kd_2, kd_3, kd_11, kd_19, kd_22, kd_27, kd_87, al_1, al_4, al_5, al_6, al_7, al_8, al_9, al_10, al_12, al_13, al_14, al_15, al_16, al_17, al_18, al_20, al_21, al_23, al_24, al_28, al_29, al_30, al_31, al_32, al_1001, al_1002, ql_25, ql_26, Nat.reduceLT, kdC hc, hF.c0 hc, hF.c1 hc, hF.c2 hc, hF.c3 hc, hF.c4 hc, hF.c5 hc, hF.c6 hc, alC1 hc, ltC1 hc, alC2 hc, ltC2 hc, alC3 hc, ltC3 hc, alC4 hc, ltC4 hc, alC5 hc, ltC5 hc, alC6 hc, ltC6 hc, alC7 hc, ltC7 hc, h.r3, s_hasThing hc h.C hw, hx, Bool.toNat_true, nI10, if_false, ab_ixN hl4 (show 6 < 2 ^ 31 by decide), nI_clamp (show l < 2 ^ 31 by omega), hF.s0 IsS_19, Nat.reduceAdd, s20, h.C.a4 hl, h.C.a5 hl, h.C.a6 hl, h.C.a7 hl, s_counted hF hc IsS_19 h.C h.S hw hv hl, h.S.st, s_bit (show g 1 2 0 < 2 ^ 31 by omega) (show l < 31 by omega), s_stays hF hc IsS_19 h.C h.S hw hv hl]
      simp only [ret_ite]
      cases stayf (g 0) (g 1) l <;> simp [nI10]
    · have hF := h.F
      have s1 := h.S.pl hl
      have s2 := h.S.st
      rw [Nat.zero_add] at s1 s2
      rw [n125]
      simp only [e125_0, e125_1, e125_2, e125_5, e125_8, e125_9, e125_10, e125_11, e125_56, e125_57, e125_60, e125_61, e125_62, e125_63, e125_64, e125_67, e125_68, e125_69, e125_70, e125_71, e125_74, e125_75, e125_76, e125_77, e125_78, e125_81, e125_82, e125_83, e125_84, e125_85, e125_88, e125_89, e125_90, e125_91, e125_92, e125_93, e125_94, e125_97, e125_98, e125_99, e125_102, e125_104, e125_105, e125_106, e125_107, e125_108, e125_109, e125_110, e125_111, e125_112, e125_113, e125_116, e125_119, e125_120, e125_123, e125_124, e125_125, e125_127, bI_s, bL_s, bV_s, rv_s1, nl_i, nl_a, nl_n, w8_0, w8_i, w8_a, w8_l, ct_i, ct_a, b01_0, b01_1, b01_b, hF.m4, hF.m5, hF.m6, hF.m7, hF.m8, hF.m9, hF.m10, hF.m16, hF.m17, hF.m18, hF.m19, hF.m20, hF.m21, hF.m22, hF.m23, hF.m29, hF.m30, hF.m35, hF.m37, hF.m38, hF.m40, hF.m41, hF.m43, hF.m44, kd_87, al_88, al_89, al_90, al_91, al_92, al_93, al_94, al_95, al_96, al_97, al_98, al_99, al_100, al_101, al_102, al_103, al_104, al_105, al_106, al_108, al_111, zl_107, zl_109, zl_110, Nat.reduceLT, m_isThing h.C hw, hx, Bool.toNat_true, nI10, if_false, ab_ixN hl4 (show 6 < 2 ^ 31 by decide), ab_ixN (show l < 26 by omega) (show 26 < 2 ^ 31 by decide), nI_clamp (show l < 2 ^ 31 by omega), s1, h.C.a4 hl, h.C.a5 hl, h.C.a6 hl, h.C.a7 hl, m_counted (l := 0) hF h.C (by decide) h.S hw hv hl, ab_ixN (show 10 < 26 by decide) (show 26 < 2 ^ 31 by decide), nI_clamp (show 10 < 2 ^ 31 by omega), s2, nI_bit (show g 1 2 0 < 2 ^ 31 by omega) (show l < 31 by omega), m_stays (l := 0) hF h.C (by decide) h.S hw hv hl]
      simp only [ret_ite]
      cases stayf (g 0) (g 1) l <;> simp [nI10]
theorem B_count (w : Int32) : Both Z 105 187 [.int w] := by
  intro g sd hp
  have hw := hp.wf
  have hv := hp.ws
  refine Both.tell (v := if w = nI 0 then .int (nI (g 2 1 0)) else if w = nI 1 then .int (nI (g 0 0 0)) else if w = nI 2 then .int (nI (g 0 0 1)) else if w = nI 3 then .int (nI (g 0 0 2)) else if w = nI 4 then .int (nI (g 0 0 3)) else if w = nI 5 then .int (nI (g 1 2 2)) else if w = nI 6 then .int (nI (mk (stayf (g 0) (g 1)) (g 0 0 3))) else if w = nI 7 then .int (nI (lastf (g 0) (g 1) 0)) else if w = nI 8 then .int (nI (cntS (g 1))) else if w = nI 9 then .int (nI (g 1 2 1)) else if w = nI 10 then .int (nI (g 2 1 2)) else if w = nI 11 then .int (nI (g 2 1 4)) else if w = nI 12 then .int (nI (g 2 1 5)) else .int (iI (-2))) hp (fun c I R L h => ?_) (fun I R L h => ?_)
  · have hc := h.cc
    have hF := h.F
    rw [n105]
    simp only [e105_0, e105_1, e105_68, e105_69, e105_72, e105_73, e105_74, e105_77, e105_80, e105_81, e105_82, e105_85, e105_88, e105_89, e105_90, e105_93, e105_96, e105_97, e105_98, e105_101, e105_104, e105_105, e105_106, e105_109, e105_112, e105_113, e105_114, e105_117, e105_118, e105_121, e105_124, e105_125, e105_126, e105_129, e105_130, e105_133, e105_134, e105_137, e105_138, e105_139, e105_142, e105_145, e105_146, e105_147, e105_150, e105_153, e105_154, e105_155, e105_158, e105_159, e105_160, e105_163, e105_164, e105_165, e105_168, e105_169, e105_171, bI_s, bL_s, bV_s, rv_s1, nl_i, nl_a, nl_n, w8_0, w8_i, w8_a, w8_l, ct_i, ct_a, b01_0, b01_1, b01_b, hF.x0, hF.x2, hF.x5, hF.x6, hF.x7, hF.x10, hF.x12, hF.x13, hF.x15, hF.k0, hF.k1, hF.k2, hF.m4, hF.m5, hF.m6, hF.m7, hF.m8, hF.m9, hF.m10, hF.m16, hF.m17, hF.m18, hF.m19, hF.m20, hF.m21, hF.m22, hF.m23, hF.m29, hF.m30, hF.m35, hF.m37, hF.m38, hF.m40, hF.m41, hF.m43, hF.m44, hF.q0, hF.q1, kd_0, kd_2, kd_3, kd_11, kd_19, kd_22, kd_27, kd_87, al_1, al_4, al_5, al_6, al_7, al_8, al_9, al_10, al_12, al_13, al_14, al_15, al_16, al_17, al_18, al_20, al_21, al_23, al_24, al_28, al_29, al_30, al_31, al_32, al_1001, al_1002, ql_25, ql_26, Nat.reduceLT, kdC hc, h.r3, h.tn, h.C.lw, h.C.la, h.C.hs, h.C.th, h.S.bl, s_staying hF hc IsS_19 h.C h.S hw hv, s_atLastBehind hF hc IsS_19 h.C h.S hw hv (show 0 < 100 by decide), s_saidCount hF IsS_19 h.S hv, h.S.ow, h.ac, h.ln, h.sn]
    simp only [ret_ite]
  · have hF := h.F
    have s1 := h.S.bl
    have s2 := h.S.ow
    rw [Nat.zero_add] at s1 s2
    rw [n187]
    simp only [e187_0, e187_1, e187_68, e187_69, e187_72, e187_73, e187_74, e187_77, e187_78, e187_79, e187_82, e187_83, e187_84, e187_87, e187_88, e187_89, e187_92, e187_93, e187_94, e187_97, e187_99, e187_100, e187_101, e187_102, e187_103, e187_106, e187_107, e187_108, e187_109, e187_112, e187_113, e187_114, e187_117, e187_118, e187_119, e187_122, e187_124, e187_125, e187_126, e187_127, e187_130, e187_131, e187_132, e187_135, e187_136, e187_137, e187_140, e187_141, e187_143, bI_s, bL_s, bV_s, rv_s1, nl_i, nl_a, nl_n, w8_0, w8_i, w8_a, w8_l, ct_i, ct_a, b01_0, b01_1, b01_b, hF.m4, hF.m5, hF.m6, hF.m7, hF.m8, hF.m9, hF.m10, hF.m16, hF.m17, hF.m18, hF.m19, hF.m20, hF.m21, hF.m22, hF.m23, hF.m29, hF.m30, hF.m35, hF.m37, hF.m38, hF.m40, hF.m41, hF.m43, hF.m44, kd_87, al_88, al_89, al_90, al_91, al_92, al_93, al_94, al_95, al_96, al_97, al_98, al_99, al_100, al_101, al_102, al_103, al_104, al_105, al_106, al_108, al_111, zl_107, zl_109, zl_110, Nat.reduceLT, h.tn, h.C.lw, h.C.la, h.C.hs, h.C.th, ab_ixN (show 12 < 26 by decide) (show 26 < 2 ^ 31 by decide), nI_clamp (show 12 < 2 ^ 31 by omega), s1, ab_ixN (show 11 < 26 by decide) (show 26 < 2 ^ 31 by decide), nI_clamp (show 11 < 2 ^ 31 by omega), s2, m_staying (l := 0) hF h.C (by decide) h.S hw hv, m_atLast (l := 0) hF h.C (by decide) h.S hw hv, m_allSaid hF h.C h.S hw hv hp.wn, h.ac, h.ln, h.sn]
    simp only [ret_ite]
end TELLS
