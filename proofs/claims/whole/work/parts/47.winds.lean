/-! winds -/
def wnd (s : Int64) : Int32 := ((s.toUInt64 >>> ((nI 33).toInt64.toUInt64 &&& Int64.toUInt64 63)).toInt64 - (s.toUInt64 >>> ((nI 33).toInt64.toUInt64 &&& Int64.toUInt64 63)).toInt64 / lN 8 * lN 8).toInt32
theorem shr33 (u : UInt64) : (u >>> ((nI 33).toInt64.toUInt64 &&& Int64.toUInt64 63)).toInt64 = lN (u.toNat / 2 ^ 33) := by
  rw [show (nI 33).toInt64.toUInt64 &&& Int64.toUInt64 63 = 33 by decide]
  apply Int64.toBitVec_inj.mp
  apply BitVec.eq_of_toNat_eq
  have h := u.toNat_lt
  show (u >>> 33).toNat = (BitVec.ofNat 64 (u.toNat / 2 ^ 33)).toNat
  rw [BitVec.toNat_ofNat, Nat.mod_eq_of_lt (by omega), UInt64.toNat_shiftRight]
  rw [Nat.shiftRight_eq_div_pow]
  rfl
theorem wnd_8 (s : Int64) : ∃ t, t < 8 ∧ wnd s = nI t := by
  have h := s.toUInt64.toNat_lt
  refine ⟨s.toUInt64.toNat / 2 ^ 33 % 8, Nat.mod_lt _ (by decide), ?_⟩
  unfold wnd
  rw [shr33, pk_lRem (by omega) (by decide) (by decide), lN_i]
def wsd (sd : Int64) : Nat → Int64
  | 0 => sd
  | n + 1 => wsd sd n * lN 6364136223846793005 + lN 1442695040888963407
def wtr (co sh : Co) (x : Int32) : Co := if hasI x (co 0 3) = true then shW sh 2 0 (sh 2 0 ^^^ 2 ^ x.toNatClampNeg) else sh
def wsh (co : Co) (sd : Int64) (sh : Co) : Nat → Co
  | 0 => sh
  | n + 1 => shd co (wtr co (wsh co sd sh n) (wnd (wsd sd (n + 1))))
theorem wtr_WS {co sh : Co} (hw : WF co) (hv : WS co sh) (x : Int32) : WS co (wtr co sh x) := by
  have h6 := hw.t6
  unfold wtr
  split
  · rename_i h
    obtain ⟨t, ht, rfl⟩ := hasI_t (by omega) h
    rw [nI_clamp (by omega)]
    exact shW2_WS hv (Or.inl ⟨rfl, xor_64 hv.2.2.1 (by omega)⟩)
  · exact hv
theorem wsh_WS {co sh : Co} (hw : WF co) (hv : WS co sh) (sd : Int64) : ∀ n, WS co (wsh co sd sh n)
  | 0 => hv
  | n + 1 => shd_WS (wtr_WS hw (wsh_WS hw hv sd n) _)
theorem rngm {x : Int32} {a b : Nat} (hb : b < 2 ^ 31) (ha : a < 2 ^ 31) : (x < nI a ↔ x.toInt < a) ∧ (nI b < x ↔ (b : Int) < x.toInt) := by
  rw [Int32.lt_iff_toInt_lt, Int32.lt_iff_toInt_lt, nI_toInt ha, nI_toInt hb]
  exact ⟨Iff.rfl, Iff.rfl⟩
theorem in_1 {n : Nat} (h : n < 2 ^ 31) (x : Int32) : decide ((lN 1).toInt ≤ x.toInt64.toInt ∧ x.toInt64.toInt ≤ (lN n).toInt) = decide (1 ≤ x.toInt ∧ x.toInt ≤ n) := by
  rw [lN_toInt (show 1 < 2 ^ 31 by decide), Int32.toInt_toInt64, lN_toInt h]
  rfl
section WINDS
variable {Z : Nat}
theorem B_winds (x : Int32) : Both Z 102 184 [.int x] := by
  intro g sd hp
  have hw := hp.wf
  have hv := hp.ws
  have h6 := hw.t6
  by_cases hr : 1 ≤ x.toInt ∧ x.toInt ≤ 20
  · obtain ⟨n, hn, rfl⟩ : ∃ n : Nat, (1 ≤ n ∧ n ≤ 20) ∧ x = nI n := by
      refine ⟨x.toInt.toNat, by omega, ?_⟩
      rw [nI_iI, show (x.toInt.toNat : Int) = x.toInt by omega]
      exact iI_of x
    refine ⟨.int (nI (sumw (g 0) (lastf (g 0) (wsh (g 0) sd (g 1) n) 0) (g 0 0 3))), g, wsd sd n, hp, fun c I R L k => ?_, fun I R L k => ?_⟩
    · have hc := k.cc
      have hF := k.F
      have hsd := k.sed
      obtain ⟨I1, e1, o1, S1⟩ := s_copy (Z := Z) (L := L) hF IsS_22 IsS_19 (by omega) h6 k.S
      have key := loop_all (P := fun i => ∀ J L' y, OffS I J 22 → XS J 22 (g 0) (wsh (g 0) sd (g 1) i) → L' 0 17 = wsd sd i → L' 87 = L 87 → ∃ I' L'', ex Z 0 0 102 27 [some (.ref 0), some (.int (nI n)), some (.int (nI i)), y] [] J R L' = some (some (.int (nI (sumw (g 0) (lastf (g 0) (wsh (g 0) sd (g 1) n) 0) (g 0 0 3)))), I', R, L'') ∧ OffS I I' 22 ∧ L'' 0 17 = wsd sd n ∧ L'' 87 = L 87) n (fun i hi ih J L' y o S l1 l2 => ?_) (fun J L' y o S l1 l2 => ?_) 0 (Nat.zero_le _)
      · obtain ⟨I', L'', e, o, l1, l2⟩ := key I1 L none o1 S1 hsd rfl
        refine ⟨c, I', R, L'', ?_, ?_, o.fx IsS_22, l2⟩
        · rw [n102]
          simp only [e102_0, e102_1, e102_2, e102_5, e102_6, e102_8, e102_11, e102_13, e102_14, e102_15, e102_18, e102_19, e102_22, e102_25, e102_26, e102_28, e102_29, e102_32, e102_33, e102_34, e102_37, e102_40, e102_41, e102_44, e102_45, e102_48, e102_49, e102_52, e102_54, e102_55, e102_58, e102_59, e102_60, e102_61, e102_62, e102_65, e102_66, e102_69, e102_72, e102_73, e102_76, e102_77, e102_80, e102_81, e102_82, e102_83, e102_84, e102_87, e102_88, e102_91, e102_92, e102_95, e102_98, e102_99, e102_102, e102_105, e102_106, e102_109, e102_110, e102_113, e102_114, e102_117, e102_118, e102_121, e102_124, bI_s, bL_s, bV_s, rv_s1, nl_i, nl_a, nl_n, w8_0, w8_i, w8_a, w8_l, ct_i, ct_a, b01_0, b01_1, b01_b, hF.x0, hF.x2, hF.x5, hF.x6, hF.x7, hF.x10, hF.x12, hF.x13, hF.x15, hF.k0, hF.k1, hF.k2, hF.m4, hF.m5, hF.m6, hF.m7, hF.m8, hF.m9, hF.m10, hF.m16, hF.m17, hF.m18, hF.m19, hF.m20, hF.m21, hF.m22, hF.m23, hF.m29, hF.m30, hF.m35, hF.m37, hF.m38, hF.m40, hF.m41, hF.m43, hF.m44, hF.q0, hF.q1, kd_0, kd_2, kd_3, kd_11, kd_19, kd_22, kd_27, kd_87, al_1, al_4, al_5, al_6, al_7, al_8, al_9, al_10, al_12, al_13, al_14, al_15, al_16, al_17, al_18, al_20, al_21, al_23, al_24, al_28, al_29, al_30, al_31, al_32, al_1001, al_1002, ql_25, ql_26, Nat.reduceLT, nI_ltI (show n < 2 ^ 31 by omega) (show 1 < 2 ^ 31 by decide), show ¬ n < 1 by omega, if_false, nI_leI (show n < 2 ^ 31 by omega) (show 20 < 2 ^ 31 by decide), hn.2, if_true, e1]
          exact e
        · have x1 := k.tri (I' := I') (fun o' a b d _ _ _ => o o' a b d)
          exact ⟨x1.1, x1.2.1, x1.2.2.1, x1.2.2.2.1, x1.2.2.2.2.1, x1.2.2.2.2.2.1, x1.2.2.2.2.2.2.1, x1.2.2.2.2.2.2.2.1, x1.2.2.2.2.2.2.2.2.1, x1.2.2.2.2.2.2.2.2.2.1, l1⟩
      · have hvi := wsh_WS hw hv sd i
        have hvt := wtr_WS hw hvi (wnd (wsd sd (i + 1)))
        have hCJ := k.C.offS hc IsS_22 o
        obtain ⟨t, ht, et⟩ := wnd_8 (wsd sd (i + 1))
        have w1 : ∀ v, wL L' 0 17 v 0 17 = v := fun v => by simp [wL]
        have w2 : ∀ v, wL L' 0 17 v 87 = L 87 := fun v => by rw [← l2]; funext j; simp [wL]
        rw [e102_27]
        cases hh : hasI (nI t) (g 0 0 3) with
        | true =>
          have htt : t < g 0 0 3 := by
            rw [hasI_nI (by omega)] at hh
            exact of_decide_eq_true hh
          have ew : wtr (g 0) (wsh (g 0) sd (g 1) i) (wnd (wsd sd (i + 1))) = shW (wsh (g 0) sd (g 1) i) 2 0 (wsh (g 0) sd (g 1) i 2 0 ^^^ 2 ^ t) := by
            unfold wtr
            rw [et, if_pos hh, nI_clamp (by omega)]
          have o2 : OffS J (wI J 22 2 (nI (wsh (g 0) sd (g 1) i 2 0 ^^^ 2 ^ t))) 22 := OffS.w (Or.inl rfl)
          have S2 := S.w2 (v := wsh (g 0) sd (g 1) i 2 0 ^^^ 2 ^ t)
          rw [← ew] at S2
          obtain ⟨J3, e3, o3, S3⟩ := s_drift (Z := Z) (L := wL L' 0 17 (wsd sd (i + 1))) hF hc IsS_22 (hCJ.offS hc IsS_22 o2) S2 hw hvt
          obtain ⟨I', L'', e, q⟩ := ih J3 (wL L' 0 17 (wsd sd (i + 1))) (some (.int (nI t))) ((o.tr o2).tr o3) S3 (w1 _) (w2 _)
          refine ⟨I', L'', ?_, q⟩
          have ed : wsd sd i * lN 6364136223846793005 + lN 1442695040888963407 = wsd sd (i + 1) := rfl
          have en := et
          unfold wnd at en
          simp only [e102_0, e102_1, e102_2, e102_5, e102_6, e102_8, e102_11, e102_13, e102_14, e102_15, e102_18, e102_19, e102_22, e102_25, e102_26, e102_28, e102_29, e102_32, e102_33, e102_34, e102_37, e102_40, e102_41, e102_44, e102_45, e102_48, e102_49, e102_52, e102_54, e102_55, e102_58, e102_59, e102_60, e102_61, e102_62, e102_65, e102_66, e102_69, e102_72, e102_73, e102_76, e102_77, e102_80, e102_81, e102_82, e102_83, e102_84, e102_87, e102_88, e102_91, e102_92, e102_95, e102_98, e102_99, e102_102, e102_105, e102_106, e102_109, e102_110, e102_113, e102_114, e102_117, e102_118, e102_121, e102_124, bI_s, bL_s, bV_s, rv_s1, nl_i, nl_a, nl_n, w8_0, w8_i, w8_a, w8_l, ct_i, ct_a, b01_0, b01_1, b01_b, hF.x0, hF.x2, hF.x5, hF.x6, hF.x7, hF.x10, hF.x12, hF.x13, hF.x15, hF.k0, hF.k1, hF.k2, hF.m4, hF.m5, hF.m6, hF.m7, hF.m8, hF.m9, hF.m10, hF.m16, hF.m17, hF.m18, hF.m19, hF.m20, hF.m21, hF.m22, hF.m23, hF.m29, hF.m30, hF.m35, hF.m37, hF.m38, hF.m40, hF.m41, hF.m43, hF.m44, hF.q0, hF.q1, kd_0, kd_2, kd_3, kd_11, kd_19, kd_22, kd_27, kd_87, al_1, al_4, al_5, al_6, al_7, al_8, al_9, al_10, al_12, al_13, al_14, al_15, al_16, al_17, al_18, al_20, al_21, al_23, al_24, al_28, al_29, al_30, al_31, al_32, al_1001, al_1002, ql_25, ql_26, Nat.reduceLT, k.r3, kdC hc, nI_leI (show n < 2 ^ 31 by omega) (show i < 2 ^ 31 by omega), show ¬ n ≤ i by omega, if_false, l1, ed, w1, show ¬ lN 8 = 0 by decide, not_false_eq_true, en, s_hasThing hc hCJ hw, hh, Bool.toNat_true, nI10, S.st, nI_1shl (show t < 31 by omega), nx_xor', e3, nI_add]
          exact e
        | false =>
          have ew : wtr (g 0) (wsh (g 0) sd (g 1) i) (wnd (wsd sd (i + 1))) = wsh (g 0) sd (g 1) i := by
            unfold wtr
            rw [et, if_neg (by rw [hh]; decide)]
          have S2 := S
          rw [← ew] at S2
          obtain ⟨J3, e3, o3, S3⟩ := s_drift (Z := Z) (L := wL L' 0 17 (wsd sd (i + 1))) hF hc IsS_22 hCJ S2 hw hvt
          obtain ⟨I', L'', e, q⟩ := ih J3 (wL L' 0 17 (wsd sd (i + 1))) (some (.int (nI t))) (o.tr o3) S3 (w1 _) (w2 _)
          refine ⟨I', L'', ?_, q⟩
          have ed : wsd sd i * lN 6364136223846793005 + lN 1442695040888963407 = wsd sd (i + 1) := rfl
          have en := et
          unfold wnd at en
          simp only [e102_0, e102_1, e102_2, e102_5, e102_6, e102_8, e102_11, e102_13, e102_14, e102_15, e102_18, e102_19, e102_22, e102_25, e102_26, e102_28, e102_29, e102_32, e102_33, e102_34, e102_37, e102_40, e102_41, e102_44, e102_45, e102_48, e102_49, e102_52, e102_54, e102_55, e102_58, e102_59, e102_60, e102_61, e102_62, e102_65, e102_66, e102_69, e102_72, e102_73, e102_76, e102_77, e102_80, e102_81, e102_82, e102_83, e102_84, e102_87, e102_88, e102_91, e102_92, e102_95, e102_98, e102_99, e102_102, e102_105, e102_106, e102_109, e102_110, e102_113, e102_114, e102_117, e102_118, e102_121, e102_124, bI_s, bL_s, bV_s, rv_s1, nl_i, nl_a, nl_n, w8_0, w8_i, w8_a, w8_l, ct_i, ct_a, b01_0, b01_1, b01_b, hF.x0, hF.x2, hF.x5, hF.x6, hF.x7, hF.x10, hF.x12, hF.x13, hF.x15, hF.k0, hF.k1, hF.k2, hF.m4, hF.m5, hF.m6, hF.m7, hF.m8, hF.m9, hF.m10, hF.m16, hF.m17, hF.m18, hF.m19, hF.m20, hF.m21, hF.m22, hF.m23, hF.m29, hF.m30, hF.m35, hF.m37, hF.m38, hF.m40, hF.m41, hF.m43, hF.m44, hF.q0, hF.q1, kd_0, kd_2, kd_3, kd_11, kd_19, kd_22, kd_27, kd_87, al_1, al_4, al_5, al_6, al_7, al_8, al_9, al_10, al_12, al_13, al_14, al_15, al_16, al_17, al_18, al_20, al_21, al_23, al_24, al_28, al_29, al_30, al_31, al_32, al_1001, al_1002, ql_25, ql_26, Nat.reduceLT, k.r3, kdC hc, nI_leI (show n < 2 ^ 31 by omega) (show i < 2 ^ 31 by omega), show ¬ n ≤ i by omega, if_false, l1, ed, w1, show ¬ lN 8 = 0 by decide, not_false_eq_true, en, s_hasThing hc hCJ hw, hh, Bool.toNat_false, if_true, e3, nI_add]
          exact e
      · have hCJ := k.C.offS hc IsS_22 o
        have hlt : lastf (g 0) (wsh (g 0) sd (g 1) n) 0 < 2 ^ 31 := Nat.lt_of_lt_of_le (mk_lt _ _) (Nat.pow_le_pow_right (by decide) (by omega))
        refine ⟨J, L', ?_, o, l1, l2⟩
        rw [e102_27]
        simp only [e102_0, e102_1, e102_2, e102_5, e102_6, e102_8, e102_11, e102_13, e102_14, e102_15, e102_18, e102_19, e102_22, e102_25, e102_26, e102_28, e102_29, e102_32, e102_33, e102_34, e102_37, e102_40, e102_41, e102_44, e102_45, e102_48, e102_49, e102_52, e102_54, e102_55, e102_58, e102_59, e102_60, e102_61, e102_62, e102_65, e102_66, e102_69, e102_72, e102_73, e102_76, e102_77, e102_80, e102_81, e102_82, e102_83, e102_84, e102_87, e102_88, e102_91, e102_92, e102_95, e102_98, e102_99, e102_102, e102_105, e102_106, e102_109, e102_110, e102_113, e102_114, e102_117, e102_118, e102_121, e102_124, bI_s, bL_s, bV_s, rv_s1, nl_i, nl_a, nl_n, w8_0, w8_i, w8_a, w8_l, ct_i, ct_a, b01_0, b01_1, b01_b, hF.x0, hF.x2, hF.x5, hF.x6, hF.x7, hF.x10, hF.x12, hF.x13, hF.x15, hF.k0, hF.k1, hF.k2, hF.m4, hF.m5, hF.m6, hF.m7, hF.m8, hF.m9, hF.m10, hF.m16, hF.m17, hF.m18, hF.m19, hF.m20, hF.m21, hF.m22, hF.m23, hF.m29, hF.m30, hF.m35, hF.m37, hF.m38, hF.m40, hF.m41, hF.m43, hF.m44, hF.q0, hF.q1, kd_0, kd_2, kd_3, kd_11, kd_19, kd_22, kd_27, kd_87, al_1, al_4, al_5, al_6, al_7, al_8, al_9, al_10, al_12, al_13, al_14, al_15, al_16, al_17, al_18, al_20, al_21, al_23, al_24, al_28, al_29, al_30, al_31, al_32, al_1001, al_1002, ql_25, ql_26, Nat.reduceLT, k.r3, kdC hc, Int32.le_refl, if_true, s_atLastBehind hF hc IsS_22 hCJ S hw (wsh_WS hw hv sd n) (show 0 < 100 by decide), s_worthOf hF hc hCJ hw hlt]
    · have hF := k.F
      have hsd := k.sed
      obtain ⟨I1, e1, o1, S1⟩ := m_layTrial (Z := Z) (L := L) hF k.S h6
      have key := loop_all (P := fun i => ∀ J L' y, OffL I J 13 → MS (J 94) 13 (g 0) (wsh (g 0) sd (g 1) i) → L' 87 42 = wsd sd i → L' 0 = L 0 → ∃ I' L'', ex Z 0 0 184 21 [some (.ref 87), some (.int (nI n)), some (.int (nI i)), y] [] J R L' = some (some (.int (nI (sumw (g 0) (lastf (g 0) (wsh (g 0) sd (g 1) n) 0) (g 0 0 3)))), I', R, L'') ∧ OffL I I' 13 ∧ L'' 87 42 = wsd sd n ∧ L'' 0 = L 0) n (fun i hi ih J L' y o S l1 l2 => ?_) (fun J L' y o S l1 l2 => ?_) 0 (Nat.zero_le _)
      · obtain ⟨I', L'', e, o, l1, l2⟩ := key I1 L none o1 S1 hsd rfl
        refine ⟨I', L'', ?_, ?_, o.fm, l2⟩
        · rw [n184]
          simp only [e184_0, e184_1, e184_2, e184_3, e184_6, e184_9, e184_12, e184_14, e184_15, e184_16, e184_19, e184_20, e184_22, e184_23, e184_26, e184_27, e184_28, e184_31, e184_34, e184_35, e184_38, e184_39, e184_42, e184_43, e184_46, e184_48, e184_49, e184_52, e184_53, e184_54, e184_55, e184_56, e184_59, e184_61, e184_62, e184_63, e184_64, e184_65, e184_68, e184_71, e184_72, e184_73, e184_74, e184_77, e184_78, e184_79, e184_80, e184_81, e184_82, e184_85, e184_86, e184_89, e184_92, e184_93, e184_96, bI_s, bL_s, bV_s, rv_s1, nl_i, nl_a, nl_n, w8_0, w8_i, w8_a, w8_l, ct_i, ct_a, b01_0, b01_1, b01_b, hF.m4, hF.m5, hF.m6, hF.m7, hF.m8, hF.m9, hF.m10, hF.m16, hF.m17, hF.m18, hF.m19, hF.m20, hF.m21, hF.m22, hF.m23, hF.m29, hF.m30, hF.m35, hF.m37, hF.m38, hF.m40, hF.m41, hF.m43, hF.m44, kd_87, al_88, al_89, al_90, al_91, al_92, al_93, al_94, al_95, al_96, al_97, al_98, al_99, al_100, al_101, al_102, al_103, al_104, al_105, al_106, al_108, al_111, zl_107, zl_109, zl_110, Nat.reduceLT, s_in, in_1 (show 20 < 2 ^ 31 by decide), decide_eq_true (show 1 ≤ (nI n).toInt ∧ (nI n).toInt ≤ (20 : Nat) from hr), Bool.toNat_true, nI10, if_false, e1]
          exact e
        · have x1 := k.tri (I' := I') (fun o' a _ _ _ => o.1 o' a) (fun k' _ => by rw [o.1 87 (by decide)]) (fun j hj => o.2 j (Or.inl hj)) h6
          exact ⟨x1.1, x1.2.1, x1.2.2.1, x1.2.2.2.1, x1.2.2.2.2.1, x1.2.2.2.2.2.1, x1.2.2.2.2.2.2.1, x1.2.2.2.2.2.2.2.1, x1.2.2.2.2.2.2.2.2.1, l1⟩
      · have hvi := wsh_WS hw hv sd i
        have hvt := wtr_WS hw hvi (wnd (wsd sd (i + 1)))
        have hCJ := k.C.off o.1
        obtain ⟨t, ht, et⟩ := wnd_8 (wsd sd (i + 1))
        have w1 : ∀ v, wL L' 87 42 v 87 42 = v := fun v => by simp [wL]
        have w2 : ∀ v, wL L' 87 42 v 0 = L 0 := fun v => by rw [← l2]; funext j; simp [wL]
        have s9 : J 94 23 = nI (wsh (g 0) sd (g 1) i 2 0) := S.st
        have ed : wsd sd i * lN 6364136223846793005 + lN 1442695040888963407 = wsd sd (i + 1) := rfl
        have en := et
        unfold wnd at en
        rw [e184_21]
        cases hh : hasI (nI t) (g 0 0 3) with
        | true =>
          have htt : t < g 0 0 3 := by
            rw [hasI_nI (by omega)] at hh
            exact of_decide_eq_true hh
          have ew : wtr (g 0) (wsh (g 0) sd (g 1) i) (wnd (wsd sd (i + 1))) = shW (wsh (g 0) sd (g 1) i) 2 0 (wsh (g 0) sd (g 1) i 2 0 ^^^ 2 ^ t) := by
            unfold wtr
            rw [et, if_pos hh, nI_clamp (by omega)]
          have o2 : OffL J (wI J 94 23 (nI (wsh (g 0) sd (g 1) i 2 0 ^^^ 2 ^ t))) 13 := OffL.w ⟨by omega, by omega⟩
          have S2 : MS (wI J 94 23 (nI (wsh (g 0) sd (g 1) i 2 0 ^^^ 2 ^ t)) 94) 13 (g 0) (shW (wsh (g 0) sd (g 1) i) 2 0 (wsh (g 0) sd (g 1) i 2 0 ^^^ 2 ^ t)) := S.w2 (k := 0) h6 (by decide)
          rw [← ew] at S2
          obtain ⟨J3, e3, o3, S3⟩ := m_pass (Z := Z) (L := wL L' 87 42 (wsd sd (i + 1))) (l := 1) hF (hCJ.off o2.1) (by decide) S2 hw hvt
          obtain ⟨I', L'', e, q⟩ := ih J3 (wL L' 87 42 (wsd sd (i + 1))) (some (.int (nI t))) ((o.tr o2).tr o3) S3 (w1 _) (w2 _)
          refine ⟨I', L'', ?_, q⟩
          simp only [e184_0, e184_1, e184_2, e184_3, e184_6, e184_9, e184_12, e184_14, e184_15, e184_16, e184_19, e184_20, e184_22, e184_23, e184_26, e184_27, e184_28, e184_31, e184_34, e184_35, e184_38, e184_39, e184_42, e184_43, e184_46, e184_48, e184_49, e184_52, e184_53, e184_54, e184_55, e184_56, e184_59, e184_61, e184_62, e184_63, e184_64, e184_65, e184_68, e184_71, e184_72, e184_73, e184_74, e184_77, e184_78, e184_79, e184_80, e184_81, e184_82, e184_85, e184_86, e184_89, e184_92, e184_93, e184_96, bI_s, bL_s, bV_s, rv_s1, nl_i, nl_a, nl_n, w8_0, w8_i, w8_a, w8_l, ct_i, ct_a, b01_0, b01_1, b01_b, hF.m4, hF.m5, hF.m6, hF.m7, hF.m8, hF.m9, hF.m10, hF.m16, hF.m17, hF.m18, hF.m19, hF.m20, hF.m21, hF.m22, hF.m23, hF.m29, hF.m30, hF.m35, hF.m37, hF.m38, hF.m40, hF.m41, hF.m43, hF.m44, kd_87, al_88, al_89, al_90, al_91, al_92, al_93, al_94, al_95, al_96, al_97, al_98, al_99, al_100, al_101, al_102, al_103, al_104, al_105, al_106, al_108, al_111, zl_107, zl_109, zl_110, Nat.reduceLT, nI_leI (show n < 2 ^ 31 by omega) (show i < 2 ^ 31 by omega), show ¬ n ≤ i by omega, if_false, l1, ed, w1, show ¬ lN 8 = 0 by decide, not_false_eq_true, en, m_isThing hCJ hw, hh, Bool.toNat_true, nI10, ab_ixN (show 23 < 26 by omega) (show 26 < 2 ^ 31 by decide), nI_clamp (show 23 < 2 ^ 31 by omega), s9, nI_1shl (show t < 31 by omega), nx_xor', e3, nI_add]
          exact e
        | false =>
          have ew : wtr (g 0) (wsh (g 0) sd (g 1) i) (wnd (wsd sd (i + 1))) = wsh (g 0) sd (g 1) i := by
            unfold wtr
            rw [et, if_neg (by rw [hh]; decide)]
          have S2 := S
          rw [← ew] at S2
          obtain ⟨J3, e3, o3, S3⟩ := m_pass (Z := Z) (L := wL L' 87 42 (wsd sd (i + 1))) (l := 1) hF hCJ (by decide) S2 hw hvt
          obtain ⟨I', L'', e, q⟩ := ih J3 (wL L' 87 42 (wsd sd (i + 1))) (some (.int (nI t))) (o.tr o3) S3 (w1 _) (w2 _)
          refine ⟨I', L'', ?_, q⟩
          simp only [e184_0, e184_1, e184_2, e184_3, e184_6, e184_9, e184_12, e184_14, e184_15, e184_16, e184_19, e184_20, e184_22, e184_23, e184_26, e184_27, e184_28, e184_31, e184_34, e184_35, e184_38, e184_39, e184_42, e184_43, e184_46, e184_48, e184_49, e184_52, e184_53, e184_54, e184_55, e184_56, e184_59, e184_61, e184_62, e184_63, e184_64, e184_65, e184_68, e184_71, e184_72, e184_73, e184_74, e184_77, e184_78, e184_79, e184_80, e184_81, e184_82, e184_85, e184_86, e184_89, e184_92, e184_93, e184_96, bI_s, bL_s, bV_s, rv_s1, nl_i, nl_a, nl_n, w8_0, w8_i, w8_a, w8_l, ct_i, ct_a, b01_0, b01_1, b01_b, hF.m4, hF.m5, hF.m6, hF.m7, hF.m8, hF.m9, hF.m10, hF.m16, hF.m17, hF.m18, hF.m19, hF.m20, hF.m21, hF.m22, hF.m23, hF.m29, hF.m30, hF.m35, hF.m37, hF.m38, hF.m40, hF.m41, hF.m43, hF.m44, kd_87, al_88, al_89, al_90, al_91, al_92, al_93, al_94, al_95, al_96, al_97, al_98, al_99, al_100, al_101, al_102, al_103, al_104, al_105, al_106, al_108, al_111, zl_107, zl_109, zl_110, Nat.reduceLT, nI_leI (show n < 2 ^ 31 by omega) (show i < 2 ^ 31 by omega), show ¬ n ≤ i by omega, if_false, l1, ed, w1, show ¬ lN 8 = 0 by decide, not_false_eq_true, en, m_isThing hCJ hw, hh, Bool.toNat_false, if_true, ab_ixN (show 23 < 26 by omega) (show 26 < 2 ^ 31 by decide), nI_clamp (show 23 < 2 ^ 31 by omega), s9, nx_xor', Nat.xor_zero, wI_id s9, e3, nI_add]
          exact e
      · refine ⟨J, L', ?_, o, l1, l2⟩
        rw [e184_21]
        simp only [e184_0, e184_1, e184_2, e184_3, e184_6, e184_9, e184_12, e184_14, e184_15, e184_16, e184_19, e184_20, e184_22, e184_23, e184_26, e184_27, e184_28, e184_31, e184_34, e184_35, e184_38, e184_39, e184_42, e184_43, e184_46, e184_48, e184_49, e184_52, e184_53, e184_54, e184_55, e184_56, e184_59, e184_61, e184_62, e184_63, e184_64, e184_65, e184_68, e184_71, e184_72, e184_73, e184_74, e184_77, e184_78, e184_79, e184_80, e184_81, e184_82, e184_85, e184_86, e184_89, e184_92, e184_93, e184_96, bI_s, bL_s, bV_s, rv_s1, nl_i, nl_a, nl_n, w8_0, w8_i, w8_a, w8_l, ct_i, ct_a, b01_0, b01_1, b01_b, hF.m4, hF.m5, hF.m6, hF.m7, hF.m8, hF.m9, hF.m10, hF.m16, hF.m17, hF.m18, hF.m19, hF.m20, hF.m21, hF.m22, hF.m23, hF.m29, hF.m30, hF.m35, hF.m37, hF.m38, hF.m40, hF.m41, hF.m43, hF.m44, kd_87, al_88, al_89, al_90, al_91, al_92, al_93, al_94, al_95, al_96, al_97, al_98, al_99, al_100, al_101, al_102, al_103, al_104, al_105, al_106, al_108, al_111, zl_107, zl_109, zl_110, Nat.reduceLT, Int32.le_refl, if_true, m_quayOf hF (k.C.off o.1) S hw (wsh_WS hw hv sd n)]
  · refine Both.tell (v := .int (iI (-2))) hp (fun c I R L h => ?_) (fun I R L h => ?_)
    · rw [n102]
      simp only [e102_0, e102_1, e102_2, e102_5, e102_6, e102_8, e102_11, e102_13, e102_14, e102_15, e102_18, e102_19, e102_22, e102_25, e102_26, e102_28, e102_29, e102_32, e102_33, e102_34, e102_37, e102_40, e102_41, e102_44, e102_45, e102_48, e102_49, e102_52, e102_54, e102_55, e102_58, e102_59, e102_60, e102_61, e102_62, e102_65, e102_66, e102_69, e102_72, e102_73, e102_76, e102_77, e102_80, e102_81, e102_82, e102_83, e102_84, e102_87, e102_88, e102_91, e102_92, e102_95, e102_98, e102_99, e102_102, e102_105, e102_106, e102_109, e102_110, e102_113, e102_114, e102_117, e102_118, e102_121, e102_124, bI_s, bL_s, bV_s, rv_s1, nl_i, nl_a, nl_n, w8_0, w8_i, w8_a, w8_l, ct_i, ct_a, b01_0, b01_1, b01_b, Int32.lt_iff_toInt_lt, nI_toInt (show 1 < 2 ^ 31 by decide), nle_iffR (show 20 < 2 ^ 31 by decide)]
      by_cases h1 : x.toInt < 1
      · simp [h1]
      · simp [h1, show ¬ x.toInt ≤ 20 by omega]
    · rw [n184]
      simp only [e184_0, e184_1, e184_2, e184_3, e184_6, e184_9, e184_12, e184_14, e184_15, e184_16, e184_19, e184_20, e184_22, e184_23, e184_26, e184_27, e184_28, e184_31, e184_34, e184_35, e184_38, e184_39, e184_42, e184_43, e184_46, e184_48, e184_49, e184_52, e184_53, e184_54, e184_55, e184_56, e184_59, e184_61, e184_62, e184_63, e184_64, e184_65, e184_68, e184_71, e184_72, e184_73, e184_74, e184_77, e184_78, e184_79, e184_80, e184_81, e184_82, e184_85, e184_86, e184_89, e184_92, e184_93, e184_96, bI_s, bL_s, bV_s, rv_s1, nl_i, nl_a, nl_n, w8_0, w8_i, w8_a, w8_l, ct_i, ct_a, b01_0, b01_1, b01_b, s_in, in_1 (show 20 < 2 ^ 31 by decide), decide_eq_false (show ¬ (1 ≤ x.toInt ∧ x.toInt ≤ (20 : Nat)) from hr), Bool.toNat_false, if_true]
end WINDS
