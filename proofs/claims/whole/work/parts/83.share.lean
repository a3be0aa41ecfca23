/-! share -/
def FB2 (I J : ab_I) : Prop := (∀ o, o ≠ 104 → o ≠ 105 → o ≠ 87 → J o = I o) ∧ ∀ k, ¬ (31 ≤ k ∧ k ≤ 34) → J 87 k = I 87 k
theorem FB2.tr {I J K : ab_I} (h1 : FB2 I J) (h2 : FB2 J K) : FB2 I K := ⟨fun o a b c => (h2.1 o a b c).trans (h1.1 o a b c), fun k a => (h2.2 k a).trans (h1.2 k a)⟩
theorem FB.b2 {I J : ab_I} (h : FB I J) : FB2 I J := ⟨fun o a _ c => h.1 o a c, h.2⟩
theorem FB2.w {I : ab_I} {k : Nat} {v : Int32} : FB2 I (wI I 105 k v) := ⟨fun o _ b _ => by funext j; rw [wI_o b], fun k _ => by rw [wI_o (by decide)]⟩
theorem orf_b {H x h : Nat} (hH : H < 5) (hx : x < 2 ^ H) (hh : h < H) (hb : x.testBit h = false) : pc x 6 + 1 ≤ H := pc_ord H hH x hx h hh hb
section SHARE
variable {Z : Nat} {g : Gs} {sd : Int64} {c : Nat} {I J : ab_I} {R : ab_R} {L : ab_L}
theorem MM.fb2 (hp : PG g) (h : MM g sd I R L) (o : FB2 I J) : MM g sd J R L := h.tri (fun x _ a a2 b => o.1 x a a2 b) (fun k hk => o.2 k (by omega)) (fun j _ => by rw [o.1 94 (by decide) (by decide) (by decide)]) hp.wf.t6
theorem m_factorial {n : Nat} (hn : n < 5) : cl Z 165 [.int (nI n)] I R L = some (some (.int (nI (fct n))), I, R, L) := by
  have st : ∀ k v, 2 ≤ k → k ≤ n → ex Z 0 0 165 4 [some (.int (nI n)), some (.int (nI v)), some (.int (nI k))] [] I R L = ex Z 0 0 165 4 [some (.int (nI n)), some (.int (nI (v * k))), some (.int (nI (k + 1)))] [] I R L := by
    intro k v hk hkn
    rw [e165_4]
    simp only [e165_0, e165_1, e165_2, e165_3, e165_5, e165_6, e165_9, e165_10, e165_11, e165_12, e165_13, e165_16, e165_19, e165_20, bI_s, bL_s, bV_s, rv_s1, nl_i, nl_a, nl_n, w8_0, w8_i, w8_a, w8_l, ct_i, ct_a, b01_0, b01_1, b01_b, nI_ltI (show n < 2 ^ 31 by omega) (show k < 2 ^ 31 by omega), show ¬ n < k by omega, if_false, pk_mul, nI_add]
  have fi : ∀ k v, n < k → k < 10 → ex Z 0 0 165 4 [some (.int (nI n)), some (.int (nI v)), some (.int (nI k))] [] I R L = some (some (.int (nI v)), I, R, L) := by
    intro k v hk hk10
    rw [e165_4]
    simp only [e165_0, e165_1, e165_2, e165_3, e165_5, e165_6, e165_9, e165_10, e165_11, e165_12, e165_13, e165_16, e165_19, e165_20, bI_s, bL_s, bV_s, rv_s1, nl_i, nl_a, nl_n, w8_0, w8_i, w8_a, w8_l, ct_i, ct_a, b01_0, b01_1, b01_b, nI_ltI (show n < 2 ^ 31 by omega) (show k < 2 ^ 31 by omega), hk, if_true]
  rw [n165]
  simp only [e165_0, e165_1, e165_2, e165_3, e165_5, e165_6, e165_9, e165_10, e165_11, e165_12, e165_13, e165_16, e165_19, e165_20, bI_s, bL_s, bV_s, rv_s1, nl_i, nl_a, nl_n, w8_0, w8_i, w8_a, w8_l, ct_i, ct_a, b01_0, b01_1, b01_b]
  rcases (show n = 0 ∨ n = 1 ∨ n = 2 ∨ n = 3 ∨ n = 4 by omega) with rfl | rfl | rfl | rfl | rfl
  · rw [fi 2 1 (by decide) (by decide)]
    rfl
  · rw [fi 2 1 (by decide) (by decide)]
    rfl
  · rw [st 2 1 (by decide) (by decide), fi (2 + 1) _ (by decide) (by decide)]
    rfl
  · rw [st 2 1 (by decide) (by decide), st (2 + 1) _ (by decide) (by decide), fi (2 + 1 + 1) _ (by decide) (by decide)]
    rfl
  · rw [st 2 1 (by decide) (by decide), st (2 + 1) _ (by decide) (by decide), st (2 + 1 + 1) _ (by decide) (by decide), fi (2 + 1 + 1 + 1) _ (by decide) (by decide)]
    rfl
theorem B_share (x : Int32) (u : Bool) : Both Z 80 164 [.int x, .int (nI u.toNat)] := by
  intro g sd hp
  have hw := hp.wf
  have hv := hp.ws
  have h4 := hw.h4
  have h6 := hw.t6
  have hH : 2 ^ g 0 0 2 ≤ 16 := Nat.pow_le_pow_right (n := 2) (by decide) h4
  have hH1 := Nat.two_pow_pos (g 0 0 2)
  cases hx : hasI x (g 0 0 2) with
  | false =>
    refine Both.tell (v := .int (iI (-1))) hp (fun c I R L k => ?_) (fun I R L k => ?_)
    · have hc := k.cc
      rw [n80]
      simp only [e80_0, e80_1, e80_4, e80_5, e80_8, e80_11, e80_12, e80_13, e80_14, e80_17, e80_18, e80_21, e80_24, e80_25, e80_28, e80_31, e80_32, e80_35, e80_36, e80_39, e80_40, e80_43, e80_46, e80_47, e80_48, e80_49, e80_53, e80_54, e80_57, e80_60, e80_63, e80_65, e80_66, e80_69, e80_72, e80_73, e80_76, e80_77, e80_80, e80_81, e80_84, e80_86, e80_87, e80_88, e80_89, e80_90, e80_93, e80_94, e80_97, e80_98, e80_101, e80_102, e80_105, e80_107, e80_110, e80_111, e80_113, e80_114, e80_116, e80_117, e80_119, e80_122, e80_125, e80_126, e80_127, e80_128, e80_131, e80_134, e80_135, e80_138, e80_139, e80_142, e80_145, e80_146, e80_147, e80_150, bI_s, bL_s, bV_s, rv_s1, nl_i, nl_a, nl_n, w8_0, w8_i, w8_a, w8_l, ct_i, ct_a, b01_0, b01_1, b01_b, kd_0, k.r3, kdC hc, s_hasHouse hc k.C hw, hx, Bool.toNat_false, if_true]
    · rw [n164]
      simp only [e164_0, e164_1, e164_2, e164_5, e164_8, e164_9, e164_10, e164_11, e164_12, e164_13, e164_17, e164_18, e164_19, e164_22, e164_23, e164_26, e164_27, e164_30, e164_32, e164_33, e164_35, e164_36, e164_39, e164_40, e164_43, e164_46, e164_47, e164_51, e164_52, e164_53, e164_56, e164_57, e164_60, e164_62, e164_63, e164_66, e164_69, e164_71, e164_74, e164_77, e164_78, e164_81, e164_82, e164_83, e164_85, e164_88, e164_89, e164_92, e164_93, e164_95, e164_96, e164_98, e164_99, e164_102, e164_104, e164_105, e164_106, e164_107, e164_108, e164_109, e164_110, e164_113, e164_115, e164_116, e164_117, e164_118, e164_119, e164_120, e164_123, e164_126, e164_127, e164_128, e164_131, e164_134, e164_137, e164_139, e164_140, e164_143, e164_144, e164_146, e164_147, e164_150, e164_151, e164_154, e164_157, e164_159, e164_160, bI_s, bL_s, bV_s, rv_s1, nl_i, nl_a, nl_n, w8_0, w8_i, w8_a, w8_l, ct_i, ct_a, b01_0, b01_1, b01_b, kd_87, m_isHouse k.C hw, hx, Bool.toNat_false, if_true]
  | true =>
    obtain ⟨h, hh, rfl⟩ := hasI_t (by omega) hx
    have hf24 := fct_24 (g 0 0 2) (by omega)
    have hy1 : (nI (fct (g 0 0 2))).toInt.natAbs < 2 ^ 30 := by
      rw [nI_toInt (by omega)]
      omega
    have hy0 : ¬ nI (fct (g 0 0 2)) = nI 0 := by
      rw [nI_eq (by omega) (by decide)]
      omega
    have hor : ∀ i, i < 2 ^ g 0 0 2 → i ||| 2 ^ h < 2 ^ g 0 0 2 := fun i hi => Nat.or_lt_two_pow hi (Nat.pow_lt_pow_right (by decide) hh)
    refine ⟨.int ((if u = true then shs (g 0) (shU (g 1)) h (2 ^ g 0 0 2) else nI (fct (g 0 0 2))) / gcd32 (shs (g 0) (shU (g 1)) h (2 ^ g 0 0 2)) (nI (fct (g 0 0 2)))), g, sd, hp, fun c I R L k => ?_, fun I R L k => ?_⟩
    · have hc := k.cc
      have hF := k.F
      obtain ⟨I1, e1, o1, S1⟩ := s_copy (Z := Z) (L := L) hF IsS_22 IsS_19 (by omega) h6 k.S
      obtain ⟨I2, e2, o2, S2⟩ := s_unsay (Z := Z) (L := L) hF IsS_22 S1
      have o12 := o1.tr o2
      have hC2 := k.C.offS hc IsS_22 o12
      have hK2 : KC I2 c 22 (g 0) (shU (g 1)) := by
        refine ⟨⟨hC2, S2⟩, fun p hp' => ?_, fun j hj => ?_⟩
        · rw [o12 28 (by decide) (by decide) (by decide)]
          exact k.br hp'
        · rw [o12 1001 (by decide) (by decide) (by decide)]
          exact k.pr hj
      have hvU := shU_WS hv
      obtain ⟨I3, e3, o3, t3⟩ := k_fillWorth (Z := Z) (L := L) hF hc IsS_22 hK2 hw hvU
      have hK3 := hK2.off hc IsS_22 o3
      have f3 : ∀ j, j < 5 → I3 1002 j = nI (fct j) := fun j hj => by
        rw [o3 1002 (by decide) (by decide) (by decide), o12 1002 (by decide) (by decide) (by decide)]
        exact k.fc hj
      have hw3 := fun {x : Nat} (hx : x < 16) => k_worthBy (Z := Z) (L := L) hF hc IsS_22 hK3 hw hvU t3 hx
      have key := loop_all (P := fun i => ∀ y, ex Z 0 0 80 51 [some (.ref 0), some (.int (nI h)), some (.int (nI u.toNat)), some (.int (shs (g 0) (shU (g 1)) h i)), some (.int (nI i)), y] [] I3 R L = some (some (.int ((if u = true then shs (g 0) (shU (g 1)) h (2 ^ g 0 0 2) else nI (fct (g 0 0 2))) / gcd32 (shs (g 0) (shU (g 1)) h (2 ^ g 0 0 2)) (nI (fct (g 0 0 2))))), I3, R, L)) (2 ^ g 0 0 2) (fun i hi ih y => ?_) (fun y => ?_) 0 (Nat.zero_le _)
      · refine ⟨c, I3, R, L, ?_, k.tri (fun p a b d e f q => (o3 p q e f).trans (o12 p a b d)), fun p a b => (o3 p (by omega) (by omega) (by omega)).trans (o12 p (by omega) (by omega) (by omega)), rfl⟩
        rw [n80]
        simp only [e80_0, e80_1, e80_4, e80_5, e80_8, e80_11, e80_12, e80_13, e80_14, e80_17, e80_18, e80_21, e80_24, e80_25, e80_28, e80_31, e80_32, e80_35, e80_36, e80_39, e80_40, e80_43, e80_46, e80_47, e80_48, e80_49, e80_53, e80_54, e80_57, e80_60, e80_63, e80_65, e80_66, e80_69, e80_72, e80_73, e80_76, e80_77, e80_80, e80_81, e80_84, e80_86, e80_87, e80_88, e80_89, e80_90, e80_93, e80_94, e80_97, e80_98, e80_101, e80_102, e80_105, e80_107, e80_110, e80_111, e80_113, e80_114, e80_116, e80_117, e80_119, e80_122, e80_125, e80_126, e80_127, e80_128, e80_131, e80_134, e80_135, e80_138, e80_139, e80_142, e80_145, e80_146, e80_147, e80_150, bI_s, bL_s, bV_s, rv_s1, nl_i, nl_a, nl_n, w8_0, w8_i, w8_a, w8_l, ct_i, ct_a, b01_0, b01_1, b01_b, hF.x0, hF.x2, hF.x5, hF.x6, hF.x7, hF.x10, hF.x12, hF.x13, hF.x15, hF.k0, hF.k1, hF.k2, hF.m4, hF.m5, hF.m6, hF.m7, hF.m8, hF.m9, hF.m10, hF.m16, hF.m17, hF.m18, hF.m19, hF.m20, hF.m21, hF.m22, hF.m23, hF.m29, hF.m30, hF.m35, hF.m37, hF.m38, hF.m40, hF.m41, hF.m43, hF.m44, hF.q0, hF.q1, kd_0, kd_2, kd_3, kd_11, kd_19, kd_22, kd_27, kd_87, al_1, al_4, al_5, al_6, al_7, al_8, al_9, al_10, al_12, al_13, al_14, al_15, al_16, al_17, al_18, al_20, al_21, al_23, al_24, al_28, al_29, al_30, al_31, al_32, al_1001, al_1002, ql_25, ql_26, Nat.reduceLT, k.r3, kdC hc, s_hasHouse hc k.C hw, hx, Bool.toNat_true, nI10, if_false, e1, e2, e3]
        exact key none
      · have ea := s_allHouses (Z := Z) (R := R) (L := L) hc hK3.1.1 hw
        rw [e80_51]
        cases hb : i.testBit h with
        | true =>
          have ih2 := ih y
          rw [shs, if_pos hb] at ih2
          simp only [e80_0, e80_1, e80_4, e80_5, e80_8, e80_11, e80_12, e80_13, e80_14, e80_17, e80_18, e80_21, e80_24, e80_25, e80_28, e80_31, e80_32, e80_35, e80_36, e80_39, e80_40, e80_43, e80_46, e80_47, e80_48, e80_49, e80_53, e80_54, e80_57, e80_60, e80_63, e80_65, e80_66, e80_69, e80_72, e80_73, e80_76, e80_77, e80_80, e80_81, e80_84, e80_86, e80_87, e80_88, e80_89, e80_90, e80_93, e80_94, e80_97, e80_98, e80_101, e80_102, e80_105, e80_107, e80_110, e80_111, e80_113, e80_114, e80_116, e80_117, e80_119, e80_122, e80_125, e80_126, e80_127, e80_128, e80_131, e80_134, e80_135, e80_138, e80_139, e80_142, e80_145, e80_146, e80_147, e80_150, bI_s, bL_s, bV_s, rv_s1, nl_i, nl_a, nl_n, w8_0, w8_i, w8_a, w8_l, ct_i, ct_a, b01_0, b01_1, b01_b, hF.x0, hF.x2, hF.x5, hF.x6, hF.x7, hF.x10, hF.x12, hF.x13, hF.x15, hF.k0, hF.k1, hF.k2, hF.m4, hF.m5, hF.m6, hF.m7, hF.m8, hF.m9, hF.m10, hF.m16, hF.m17, hF.m18, hF.m19, hF.m20, hF.m21, hF.m22, hF.m23, hF.m29, hF.m30, hF.m35, hF.m37, hF.m38, hF.m40, hF.m41, hF.m43, hF.m44, hF.q0, hF.q1, kd_0, kd_2, kd_3, kd_11, kd_19, kd_22, kd_27, kd_87, al_1, al_4, al_5, al_6, al_7, al_8, al_9, al_10, al_12, al_13, al_14, al_15, al_16, al_17, al_18, al_20, al_21, al_23, al_24, al_28, al_29, al_30, al_31, al_32, al_1001, al_1002, ql_25, ql_26, Nat.reduceLT, k.r3, kdC hc, ea, nI_ltI (show 2 ^ g 0 0 2 - 1 < 2 ^ 31 by omega) (show i < 2 ^ 31 by omega), show ¬ 2 ^ g 0 0 2 - 1 < i by omega, if_false, s_bit (show i < 2 ^ 31 by omega) (show h < 31 by omega), hb, Bool.toNat_true, nI10, nI_add]
          exact ih2
        | false =>
          have hpo := orf_b (show g 0 0 2 < 5 by omega) hi hh hb
          have ih2 := ih (some (.int (nI (Ck (g 0) (shU (g 1)) (g 0 0 3) (pu (g 0) (shU (g 1)) (i ||| 2 ^ h) (g 0 0 2))) - nI (Ck (g 0) (shU (g 1)) (g 0 0 3) (pu (g 0) (shU (g 1)) i (g 0 0 2))))))
          rw [shs, if_neg (by rw [hb]; decide)] at ih2
          have ho := hor i hi
          have eor : cl Z 81 [.ref 0, .int (nI (pc i 6))] I3 R L = some (some (.int (nI (orf (g 0 0 2) i))), I3, R, L) := by
            rw [n81]
            simp only [e81_0, e81_1, e81_4, e81_7, e81_8, e81_9, e81_10, e81_11, e81_12, e81_13, e81_16, e81_17, e81_20, e81_21, e81_24, e81_27, e81_28, e81_29, e81_32, e81_33, e81_34, e81_35, bI_s, bL_s, bV_s, rv_s1, nl_i, nl_a, nl_n, w8_0, w8_i, w8_a, w8_l, ct_i, ct_a, b01_0, b01_1, b01_b, hF.x0, hF.x2, hF.x5, hF.x6, hF.x7, hF.x10, hF.x12, hF.x13, hF.x15, hF.k0, hF.k1, hF.k2, hF.m4, hF.m5, hF.m6, hF.m7, hF.m8, hF.m9, hF.m10, hF.m16, hF.m17, hF.m18, hF.m19, hF.m20, hF.m21, hF.m22, hF.m23, hF.m29, hF.m30, hF.m35, hF.m37, hF.m38, hF.m40, hF.m41, hF.m43, hF.m44, hF.q0, hF.q1, kd_0, kd_2, kd_3, kd_11, kd_19, kd_22, kd_27, kd_87, al_1, al_4, al_5, al_6, al_7, al_8, al_9, al_10, al_12, al_13, al_14, al_15, al_16, al_17, al_18, al_20, al_21, al_23, al_24, al_28, al_29, al_30, al_31, al_32, al_1001, al_1002, ql_25, ql_26, Nat.reduceLT, k.r3, kdC hc, hK3.1.1.hs, pk_sub (show 1 ≤ g 0 0 2 by omega), pk_sub (show pc i 6 ≤ g 0 0 2 - 1 by omega), nI_ltI (show pc i 6 < 2 ^ 31 by omega) (show 0 < 2 ^ 31 by decide), Nat.not_lt_zero, if_false, nI_leI (show 0 < 2 ^ 31 by decide) (show g 0 0 2 - 1 - pc i 6 < 2 ^ 31 by omega), Nat.zero_le, if_true, ab_ixN (show pc i 6 < 5 by omega) (show 5 < 2 ^ 31 by decide), ab_ixN (show g 0 0 2 - 1 - pc i 6 < 5 by omega) (show 5 < 2 ^ 31 by decide), nI_clamp (show pc i 6 < 2 ^ 31 by omega), nI_clamp (show g 0 0 2 - 1 - pc i 6 < 2 ^ 31 by omega), f3 _ (show pc i 6 < 5 by omega), f3 _ (show g 0 0 2 - 1 - pc i 6 < 5 by omega), pk_mul]
            rfl
          simp only [e80_0, e80_1, e80_4, e80_5, e80_8, e80_11, e80_12, e80_13, e80_14, e80_17, e80_18, e80_21, e80_24, e80_25, e80_28, e80_31, e80_32, e80_35, e80_36, e80_39, e80_40, e80_43, e80_46, e80_47, e80_48, e80_49, e80_53, e80_54, e80_57, e80_60, e80_63, e80_65, e80_66, e80_69, e80_72, e80_73, e80_76, e80_77, e80_80, e80_81, e80_84, e80_86, e80_87, e80_88, e80_89, e80_90, e80_93, e80_94, e80_97, e80_98, e80_101, e80_102, e80_105, e80_107, e80_110, e80_111, e80_113, e80_114, e80_116, e80_117, e80_119, e80_122, e80_125, e80_126, e80_127, e80_128, e80_131, e80_134, e80_135, e80_138, e80_139, e80_142, e80_145, e80_146, e80_147, e80_150, bI_s, bL_s, bV_s, rv_s1, nl_i, nl_a, nl_n, w8_0, w8_i, w8_a, w8_l, ct_i, ct_a, b01_0, b01_1, b01_b, hF.x0, hF.x2, hF.x5, hF.x6, hF.x7, hF.x10, hF.x12, hF.x13, hF.x15, hF.k0, hF.k1, hF.k2, hF.m4, hF.m5, hF.m6, hF.m7, hF.m8, hF.m9, hF.m10, hF.m16, hF.m17, hF.m18, hF.m19, hF.m20, hF.m21, hF.m22, hF.m23, hF.m29, hF.m30, hF.m35, hF.m37, hF.m38, hF.m40, hF.m41, hF.m43, hF.m44, hF.q0, hF.q1, kd_0, kd_2, kd_3, kd_11, kd_19, kd_22, kd_27, kd_87, al_1, al_4, al_5, al_6, al_7, al_8, al_9, al_10, al_12, al_13, al_14, al_15, al_16, al_17, al_18, al_20, al_21, al_23, al_24, al_28, al_29, al_30, al_31, al_32, al_1001, al_1002, ql_25, ql_26, Nat.reduceLT, k.r3, kdC hc, ea, nI_ltI (show 2 ^ g 0 0 2 - 1 < 2 ^ 31 by omega) (show i < 2 ^ 31 by omega), show ¬ 2 ^ g 0 0 2 - 1 < i by omega, if_false, s_bit (show i < 2 ^ 31 by omega) (show h < 31 by omega), hb, Bool.toNat_false, if_true, nI_1shl (show h < 31 by omega), nx_or', hw3 (show i ||| 2 ^ h < 16 by omega), hw3 (show i < 16 by omega), s_ones (show i < 64 by omega), eor, nI_add]
          exact ih2
      · have ea := s_allHouses (Z := Z) (R := R) (L := L) hc hK3.1.1 hw
        rw [e80_51]
        simp only [e80_0, e80_1, e80_4, e80_5, e80_8, e80_11, e80_12, e80_13, e80_14, e80_17, e80_18, e80_21, e80_24, e80_25, e80_28, e80_31, e80_32, e80_35, e80_36, e80_39, e80_40, e80_43, e80_46, e80_47, e80_48, e80_49, e80_53, e80_54, e80_57, e80_60, e80_63, e80_65, e80_66, e80_69, e80_72, e80_73, e80_76, e80_77, e80_80, e80_81, e80_84, e80_86, e80_87, e80_88, e80_89, e80_90, e80_93, e80_94, e80_97, e80_98, e80_101, e80_102, e80_105, e80_107, e80_110, e80_111, e80_113, e80_114, e80_116, e80_117, e80_119, e80_122, e80_125, e80_126, e80_127, e80_128, e80_131, e80_134, e80_135, e80_138, e80_139, e80_142, e80_145, e80_146, e80_147, e80_150, bI_s, bL_s, bV_s, rv_s1, nl_i, nl_a, nl_n, w8_0, w8_i, w8_a, w8_l, ct_i, ct_a, b01_0, b01_1, b01_b, hF.x0, hF.x2, hF.x5, hF.x6, hF.x7, hF.x10, hF.x12, hF.x13, hF.x15, hF.k0, hF.k1, hF.k2, hF.m4, hF.m5, hF.m6, hF.m7, hF.m8, hF.m9, hF.m10, hF.m16, hF.m17, hF.m18, hF.m19, hF.m20, hF.m21, hF.m22, hF.m23, hF.m29, hF.m30, hF.m35, hF.m37, hF.m38, hF.m40, hF.m41, hF.m43, hF.m44, hF.q0, hF.q1, kd_0, kd_2, kd_3, kd_11, kd_19, kd_22, kd_27, kd_87, al_1, al_4, al_5, al_6, al_7, al_8, al_9, al_10, al_12, al_13, al_14, al_15, al_16, al_17, al_18, al_20, al_21, al_23, al_24, al_28, al_29, al_30, al_31, al_32, al_1001, al_1002, ql_25, ql_26, Nat.reduceLT, k.r3, kdC hc, ea, nI_ltI (show 2 ^ g 0 0 2 - 1 < 2 ^ 31 by omega) (show 2 ^ g 0 0 2 < 2 ^ 31 by omega), show 2 ^ g 0 0 2 - 1 < 2 ^ g 0 0 2 by omega, if_true, hK3.1.1.hs, ab_ixN (show g 0 0 2 < 5 by omega) (show 5 < 2 ^ 31 by decide), nI_clamp (show g 0 0 2 < 2 ^ 31 by omega), f3 _ (show g 0 0 2 < 5 by omega), (x_fraction (Z := Z) (I := I3) (R := R) (L := L) (u := u) (x := shs (g 0) (shU (g 1)) h (2 ^ g 0 0 2)) hy1 hy0).1]
    · have hF := k.F
      have hgz : ¬ gcd32 (shs (g 0) (shU (g 1)) h (2 ^ g 0 0 2)) (nI (fct (g 0 0 2))) = 0 := (x_fraction (Z := Z) (u := u) (I := I) (R := R) (L := L) hy1 hy0).2
      have key2 : ∀ J, FB2 I J → (∀ x, x < 2 ^ g 0 0 2 → J 105 x = nI (Ck (g 0) (shU (g 1)) (g 0 0 3) (pu (g 0) (shU (g 1)) x (g 0 0 2)) + Sk (g 0) (shU (g 1)) (g 0 0 3))) → ∀ i, i ≤ 2 ^ g 0 0 2 → ∀ y, ex Z 0 0 164 49 [some (.ref 87), some (.int (nI h)), some (.int (nI u.toNat)), some (.int (shs (g 0) (shU (g 1)) h i)), some (.int (nI i)), y] [] J R L = some (some (.int ((if u = true then shs (g 0) (shU (g 1)) h (2 ^ g 0 0 2) else nI (fct (g 0 0 2))) / gcd32 (shs (g 0) (shU (g 1)) h (2 ^ g 0 0 2)) (nI (fct (g 0 0 2))))), J, R, L) := by
        intro J oJ hJ
        have kJ := k.fb2 hp oJ
        have hs := kJ.C.hs
        refine loop_all (2 ^ g 0 0 2) (fun i hi ih y => ?_) (fun y => ?_)
        · rw [e164_49]
          cases hb : i.testBit h with
          | true =>
            have ih2 := ih y
            rw [shs, if_pos hb] at ih2
            simp only [e164_0, e164_1, e164_2, e164_5, e164_8, e164_9, e164_10, e164_11, e164_12, e164_13, e164_17, e164_18, e164_19, e164_22, e164_23, e164_26, e164_27, e164_30, e164_32, e164_33, e164_35, e164_36, e164_39, e164_40, e164_43, e164_46, e164_47, e164_51, e164_52, e164_53, e164_56, e164_57, e164_60, e164_62, e164_63, e164_66, e164_69, e164_71, e164_74, e164_77, e164_78, e164_81, e164_82, e164_83, e164_85, e164_88, e164_89, e164_92, e164_93, e164_95, e164_96, e164_98, e164_99, e164_102, e164_104, e164_105, e164_106, e164_107, e164_108, e164_109, e164_110, e164_113, e164_115, e164_116, e164_117, e164_118, e164_119, e164_120, e164_123, e164_126, e164_127, e164_128, e164_131, e164_134, e164_137, e164_139, e164_140, e164_143, e164_144, e164_146, e164_147, e164_150, e164_151, e164_154, e164_157, e164_159, e164_160, bI_s, bL_s, bV_s, rv_s1, nl_i, nl_a, nl_n, w8_0, w8_i, w8_a, w8_l, ct_i, ct_a, b01_0, b01_1, b01_b, hF.m4, hF.m5, hF.m6, hF.m7, hF.m8, hF.m9, hF.m10, hF.m16, hF.m17, hF.m18, hF.m19, hF.m20, hF.m21, hF.m22, hF.m23, hF.m29, hF.m30, hF.m35, hF.m37, hF.m38, hF.m40, hF.m41, hF.m43, hF.m44, kd_87, al_88, al_89, al_90, al_91, al_92, al_93, al_94, al_95, al_96, al_97, al_98, al_99, al_100, al_101, al_102, al_103, al_104, al_105, al_106, al_108, al_111, zl_107, zl_109, zl_110, Nat.reduceLT, hs, nI_1shl (show g 0 0 2 < 31 by omega), nI_leI (show 2 ^ g 0 0 2 < 2 ^ 31 by omega) (show i < 2 ^ 31 by omega), show ¬ 2 ^ g 0 0 2 ≤ i by omega, if_false, s_has (show i < 2 ^ 31 by omega) (show h < 31 by omega), hb, Bool.toNat_true, nI10, nI_add]
            exact ih2
          | false =>
            have hpo := orf_b (show g 0 0 2 < 5 by omega) hi hh hb
            have ih2 := ih (some (.int (nI (orf (g 0 0 2) i))))
            rw [shs, if_neg (by rw [hb]; decide), Int32.mul_comm, ← sub_c _ _ (Sk (g 0) (shU (g 1)) (g 0 0 3))] at ih2
            have ho := hor i hi
            simp only [e164_0, e164_1, e164_2, e164_5, e164_8, e164_9, e164_10, e164_11, e164_12, e164_13, e164_17, e164_18, e164_19, e164_22, e164_23, e164_26, e164_27, e164_30, e164_32, e164_33, e164_35, e164_36, e164_39, e164_40, e164_43, e164_46, e164_47, e164_51, e164_52, e164_53, e164_56, e164_57, e164_60, e164_62, e164_63, e164_66, e164_69, e164_71, e164_74, e164_77, e164_78, e164_81, e164_82, e164_83, e164_85, e164_88, e164_89, e164_92, e164_93, e164_95, e164_96, e164_98, e164_99, e164_102, e164_104, e164_105, e164_106, e164_107, e164_108, e164_109, e164_110, e164_113, e164_115, e164_116, e164_117, e164_118, e164_119, e164_120, e164_123, e164_126, e164_127, e164_128, e164_131, e164_134, e164_137, e164_139, e164_140, e164_143, e164_144, e164_146, e164_147, e164_150, e164_151, e164_154, e164_157, e164_159, e164_160, bI_s, bL_s, bV_s, rv_s1, nl_i, nl_a, nl_n, w8_0, w8_i, w8_a, w8_l, ct_i, ct_a, b01_0, b01_1, b01_b, hF.m4, hF.m5, hF.m6, hF.m7, hF.m8, hF.m9, hF.m10, hF.m16, hF.m17, hF.m18, hF.m19, hF.m20, hF.m21, hF.m22, hF.m23, hF.m29, hF.m30, hF.m35, hF.m37, hF.m38, hF.m40, hF.m41, hF.m43, hF.m44, kd_87, al_88, al_89, al_90, al_91, al_92, al_93, al_94, al_95, al_96, al_97, al_98, al_99, al_100, al_101, al_102, al_103, al_104, al_105, al_106, al_108, al_111, zl_107, zl_109, zl_110, Nat.reduceLT, hs, nI_1shl (show g 0 0 2 < 31 by omega), nI_leI (show 2 ^ g 0 0 2 < 2 ^ 31 by omega) (show i < 2 ^ 31 by omega), show ¬ 2 ^ g 0 0 2 ≤ i by omega, if_false, s_has (show i < 2 ^ 31 by omega) (show h < 31 by omega), hb, Bool.toNat_false, if_true, m_ones (show i < 2 ^ 31 by omega), m_factorial (show pc i 6 < 5 by omega), pk_sub (show 1 ≤ g 0 0 2 by omega), pk_sub (show pc i 6 ≤ g 0 0 2 - 1 by omega), m_factorial (show g 0 0 2 - 1 - pc i 6 < 5 by omega), pk_mul, nI_1shl (show h < 31 by omega), nx_or', ab_ixN (show i ||| 2 ^ h < 16 by omega) (show 16 < 2 ^ 31 by decide), ab_ixN (show i < 16 by omega) (show 16 < 2 ^ 31 by decide), nI_clamp (show i ||| 2 ^ h < 2 ^ 31 by omega), nI_clamp (show i < 2 ^ 31 by omega), hJ _ ho, hJ _ hi, nI_add]
            exact ih2
        · rw [e164_49]
          simp only [e164_0, e164_1, e164_2, e164_5, e164_8, e164_9, e164_10, e164_11, e164_12, e164_13, e164_17, e164_18, e164_19, e164_22, e164_23, e164_26, e164_27, e164_30, e164_32, e164_33, e164_35, e164_36, e164_39, e164_40, e164_43, e164_46, e164_47, e164_51, e164_52, e164_53, e164_56, e164_57, e164_60, e164_62, e164_63, e164_66, e164_69, e164_71, e164_74, e164_77, e164_78, e164_81, e164_82, e164_83, e164_85, e164_88, e164_89, e164_92, e164_93, e164_95, e164_96, e164_98, e164_99, e164_102, e164_104, e164_105, e164_106, e164_107, e164_108, e164_109, e164_110, e164_113, e164_115, e164_116, e164_117, e164_118, e164_119, e164_120, e164_123, e164_126, e164_127, e164_128, e164_131, e164_134, e164_137, e164_139, e164_140, e164_143, e164_144, e164_146, e164_147, e164_150, e164_151, e164_154, e164_157, e164_159, e164_160, bI_s, bL_s, bV_s, rv_s1, nl_i, nl_a, nl_n, w8_0, w8_i, w8_a, w8_l, ct_i, ct_a, b01_0, b01_1, b01_b, hF.m4, hF.m5, hF.m6, hF.m7, hF.m8, hF.m9, hF.m10, hF.m16, hF.m17, hF.m18, hF.m19, hF.m20, hF.m21, hF.m22, hF.m23, hF.m29, hF.m30, hF.m35, hF.m37, hF.m38, hF.m40, hF.m41, hF.m43, hF.m44, kd_87, al_88, al_89, al_90, al_91, al_92, al_93, al_94, al_95, al_96, al_97, al_98, al_99, al_100, al_101, al_102, al_103, al_104, al_105, al_106, al_108, al_111, zl_107, zl_109, zl_110, Nat.reduceLT, hs, nI_1shl (show g 0 0 2 < 31 by omega), Int32.le_refl, if_true, m_factorial (show g 0 0 2 < 5 by omega), m_common hy1, nI_b, hgz, not_false_eq_true]
          cases u <;> simp
      have key := loop_all (P := fun i => ∀ J, FB2 I J → (∀ x, x < i → J 105 x = nI (Ck (g 0) (shU (g 1)) (g 0 0 3) (pu (g 0) (shU (g 1)) x (g 0 0 2)) + Sk (g 0) (shU (g 1)) (g 0 0 3))) → ∃ J', ex Z 0 0 164 15 [some (.ref 87), some (.int (nI h)), some (.int (nI u.toNat)), some (.int (nI 0)), some (.int (nI i)), none] [] J R L = some (some (.int ((if u = true then shs (g 0) (shU (g 1)) h (2 ^ g 0 0 2) else nI (fct (g 0 0 2))) / gcd32 (shs (g 0) (shU (g 1)) h (2 ^ g 0 0 2)) (nI (fct (g 0 0 2))))), J', R, L) ∧ FB2 I J') (2 ^ g 0 0 2) (fun i hi ih J oJ hJ => ?_) (fun J oJ hJ => ?_) 0 (Nat.zero_le _)
      · obtain ⟨J', e, o⟩ := key I ⟨fun _ _ _ _ => rfl, fun _ _ => rfl⟩ (fun x hx => by omega)
        refine ⟨J', L, ?_, k.fb2 hp o, fun x hx => o.1 x (by omega) (by omega) (by omega), rfl⟩
        rw [n164]
        simp only [e164_0, e164_1, e164_2, e164_5, e164_8, e164_9, e164_10, e164_11, e164_12, e164_13, e164_17, e164_18, e164_19, e164_22, e164_23, e164_26, e164_27, e164_30, e164_32, e164_33, e164_35, e164_36, e164_39, e164_40, e164_43, e164_46, e164_47, e164_51, e164_52, e164_53, e164_56, e164_57, e164_60, e164_62, e164_63, e164_66, e164_69, e164_71, e164_74, e164_77, e164_78, e164_81, e164_82, e164_83, e164_85, e164_88, e164_89, e164_92, e164_93, e164_95, e164_96, e164_98, e164_99, e164_102, e164_104, e164_105, e164_106, e164_107, e164_108, e164_109, e164_110, e164_113, e164_115, e164_116, e164_117, e164_118, e164_119, e164_120, e164_123, e164_126, e164_127, e164_128, e164_131, e164_134, e164_137, e164_139, e164_140, e164_143, e164_144, e164_146, e164_147, e164_150, e164_151, e164_154, e164_157, e164_159, e164_160, bI_s, bL_s, bV_s, rv_s1, nl_i, nl_a, nl_n, w8_0, w8_i, w8_a, w8_l, ct_i, ct_a, b01_0, b01_1, b01_b, kd_87, m_isHouse k.C hw, hx, Bool.toNat_true, nI10, if_false]
        exact e
      · have kJ := k.fb2 hp oJ
        have hs := kJ.C.hs
        obtain ⟨J1, e1, o1, hM, r⟩ := m_begin (Z := Z) hp kJ (cnt := true) (anew := true) (K := 0) (who := i) (by decide) (by omega)
        have e' : cl Z 149 [.ref 87, .int (nI 1), .int (nI 0), .int (nI i), .int (nI 1)] J R L = some (none, J1, R, L) := e1
        have el := m_leftNow (Z := Z) (L := L) hF hM hw hv hp.wn (by omega)
        have es : s0f (g 1) true = shU (g 1) := rfl
        rw [es] at el r
        have hpl : pu (g 0) (shU (g 1)) i (g 0 0 2) < 625 := pu_625 hw _
        have hr := r (g 0 0 3) (Nat.le_refl _) (pu (g 0) (shU (g 1)) i (g 0 0 2)) hpl (fun n hn => Nat.le_refl _)
        rw [Nat.sub_self, Nat.mul_zero, Nat.zero_add, Bm_t hw _ (Nat.le_refl _), Mv_k] at hr
        obtain ⟨J', e, o⟩ := ih (wI J1 105 i (nI (Ck (g 0) (shU (g 1)) (g 0 0 3) (pu (g 0) (shU (g 1)) i (g 0 0 2)) + Sk (g 0) (shU (g 1)) (g 0 0 3)))) ((oJ.tr o1.b2).tr FB2.w) (fun x hx => by
          by_cases hxi : x = i
          · rw [hxi, wI_self]
          · rw [wI_k hxi, o1.1 105 (by decide) (by decide)]
            exact hJ x (by omega))
        refine ⟨J', ?_, o⟩
        rw [e164_15]
        simp only [e164_0, e164_1, e164_2, e164_5, e164_8, e164_9, e164_10, e164_11, e164_12, e164_13, e164_17, e164_18, e164_19, e164_22, e164_23, e164_26, e164_27, e164_30, e164_32, e164_33, e164_35, e164_36, e164_39, e164_40, e164_43, e164_46, e164_47, e164_51, e164_52, e164_53, e164_56, e164_57, e164_60, e164_62, e164_63, e164_66, e164_69, e164_71, e164_74, e164_77, e164_78, e164_81, e164_82, e164_83, e164_85, e164_88, e164_89, e164_92, e164_93, e164_95, e164_96, e164_98, e164_99, e164_102, e164_104, e164_105, e164_106, e164_107, e164_108, e164_109, e164_110, e164_113, e164_115, e164_116, e164_117, e164_118, e164_119, e164_120, e164_123, e164_126, e164_127, e164_128, e164_131, e164_134, e164_137, e164_139, e164_140, e164_143, e164_144, e164_146, e164_147, e164_150, e164_151, e164_154, e164_157, e164_159, e164_160, e163_0, e163_1, e163_2, e163_3, e163_4, e163_5, e163_8, e163_9, e163_12, e163_13, e163_16, e163_17, n163, bI_s, bL_s, bV_s, rv_s1, nl_i, nl_a, nl_n, w8_0, w8_i, w8_a, w8_l, ct_i, ct_a, b01_0, b01_1, b01_b, hF.m4, hF.m5, hF.m6, hF.m7, hF.m8, hF.m9, hF.m10, hF.m16, hF.m17, hF.m18, hF.m19, hF.m20, hF.m21, hF.m22, hF.m23, hF.m29, hF.m30, hF.m35, hF.m37, hF.m38, hF.m40, hF.m41, hF.m43, hF.m44, kd_87, al_88, al_89, al_90, al_91, al_92, al_93, al_94, al_95, al_96, al_97, al_98, al_99, al_100, al_101, al_102, al_103, al_104, al_105, al_106, al_108, al_111, zl_107, zl_109, zl_110, Nat.reduceLT, hs, nI_1shl (show g 0 0 2 < 31 by omega), nI_leI (show 2 ^ g 0 0 2 < 2 ^ 31 by omega) (show i < 2 ^ 31 by omega), show ¬ 2 ^ g 0 0 2 ≤ i by omega, if_false, e', el, ab_ixN (show pu (g 0) (shU (g 1)) i (g 0 0 2) < 4375 by omega) (show 4375 < 2 ^ 31 by decide), nI_clamp (show pu (g 0) (shU (g 1)) i (g 0 0 2) < 2 ^ 31 by omega), hr, nB, ab_ixN (show i < 16 by omega) (show 16 < 2 ^ 31 by decide), nI_clamp (show i < 2 ^ 31 by omega), nI_add]
        exact e
      · have kJ := k.fb2 hp oJ
        have hs := kJ.C.hs
        refine ⟨J, ?_, oJ⟩
        rw [e164_15]
        simp only [e164_0, e164_1, e164_2, e164_5, e164_8, e164_9, e164_10, e164_11, e164_12, e164_13, e164_17, e164_18, e164_19, e164_22, e164_23, e164_26, e164_27, e164_30, e164_32, e164_33, e164_35, e164_36, e164_39, e164_40, e164_43, e164_46, e164_47, e164_51, e164_52, e164_53, e164_56, e164_57, e164_60, e164_62, e164_63, e164_66, e164_69, e164_71, e164_74, e164_77, e164_78, e164_81, e164_82, e164_83, e164_85, e164_88, e164_89, e164_92, e164_93, e164_95, e164_96, e164_98, e164_99, e164_102, e164_104, e164_105, e164_106, e164_107, e164_108, e164_109, e164_110, e164_113, e164_115, e164_116, e164_117, e164_118, e164_119, e164_120, e164_123, e164_126, e164_127, e164_128, e164_131, e164_134, e164_137, e164_139, e164_140, e164_143, e164_144, e164_146, e164_147, e164_150, e164_151, e164_154, e164_157, e164_159, e164_160, bI_s, bL_s, bV_s, rv_s1, nl_i, nl_a, nl_n, w8_0, w8_i, w8_a, w8_l, ct_i, ct_a, b01_0, b01_1, b01_b, kd_87, hs, nI_1shl (show g 0 0 2 < 31 by omega), Int32.le_refl, if_true]
        exact key2 J oJ hJ 0 (Nat.zero_le _) none
end SHARE
