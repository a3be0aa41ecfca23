/-! fault, coast -/
theorem IsC_o {c : Nat} (h : IsC c) : IsC (14 - c) := by
  unfold IsC at *
  omega
section FAULT
variable {Z : Nat} {g : Gs} {sd : Int64} {c : Nat} {I J : ab_I} {R R' : ab_R} {L : ab_L}
theorem XX.rd (h : XX g sd c I R L) (o : OffD I J (14 - c)) (hF : Fx R') (h3 : R' 0 3 = R 0 3) (h4 : R' 0 4 = R 0 4) : XX g sd c J R' L := by
  have hc := h.cc
  unfold IsC at hc
  have e : ∀ x, x ≠ 2 ∧ ¬ (14 - c ≤ x ∧ x ≤ 14 - c + 7) → J x = I x := fun x w => o x w.1 w.2
  refine ⟨⟨h.cc, h3.trans h.r3, h4.trans h.r4, hF⟩, ⟨h.C.off fun k hk => e _ (by omega), h.S.off fun k hk => e _ (by omega)⟩, ?_, ?_, fun j hj hr => (h.ri hj hr).off fun k hk => e _ (by omega), fun j hj hr => (h.sl hj hr).off fun k hk => e _ (by omega), ?_, ?_, ?_, ?_, h.sed⟩
  · rw [e 0 (by omega), e 1 (by omega)]
    exact h.2.2.1
  · rw [e 0 (by omega)]
    exact h.2.2.2.1
  · rw [e 0 (by omega)]
    exact h.2.2.2.2.2.2.1
  · rw [e 31 (by omega)]
    exact h.2.2.2.2.2.2.2.1
  · rw [e 32 (by omega)]
    exact h.2.2.2.2.2.2.2.2.1
  · rw [e 28 (by omega), e 1001 (by omega), e 1002 (by omega)]
    exact h.2.2.2.2.2.2.2.2.2.1
theorem Fx.w20 (h : Fx R) {v : Nat} : Fx (wR R 2 0 v) := by
  obtain ⟨a, b, cc, d⟩ := h
  refine ⟨fun x hx k hk => ?_, fun s hs => ?_, fun i hi => ?_, ?_⟩
  · rw [wR_o (by unfold IsC at hx; omega)]
    exact a x hx k hk
  · rw [wR_o (by unfold IsS at hs; omega), wR_o (by unfold IsS at hs; omega)]
    exact b s hs
  · rw [wR_o (by omega)]
    exact cc i hi
  · simpa [wR] using d
theorem Fx.w0 (h : Fx R) {v k : Nat} (hk : k = 3 ∨ k = 4) : Fx (wR R 0 k v) := by
  obtain ⟨a, b, cc, d⟩ := h
  refine ⟨fun x hx k hk => ?_, fun s hs => ?_, fun i hi => ?_, ?_⟩
  · rw [wR_o (by unfold IsC at hx; omega)]
    exact a x hx k hk
  · rw [wR_o (by unfold IsS at hs; omega), wR_o (by unfold IsS at hs; omega)]
    exact b s hs
  · rw [wR_o (by omega)]
    exact cc i hi
  · rcases hk with rfl | rfl <;> simpa [wR] using d
theorem XX.tx9 (hp : PG g) (h : XX g sd c I R L) : TXx I (g 2 0) (g 2 1 0) := ⟨⟨hp.tn, fun _ hi => hp.tx hi⟩, fun _ hi => h.tx hi⟩
theorem OffD.fx {D : Nat} (hc : IsC D) (o : OffD I J D) : FX I J := fun x a b => o x (by omega) (by unfold IsC at hc; omega)
theorem B_fault : Both Z 60 110 [] := fun g sd hp => ⟨_, g, sd, hp, fun c I R L h => by
  have hc2 := IsC_o h.cc
  have hF := h.F
  obtain ⟨J, e, o, -⟩ := x_read (Z := Z) (D := 14 - c) (L := L) hF hc2 (h.tx9 hp)
  refine ⟨c, J, wR R 2 0 (14 - c + 1), L, ?_, h.rd o hF.w20 (by simp [wR]) (by simp [wR]), o.fx hc2, rfl⟩
  have h4 := h.r4
  have htn := h.tn
  rw [n60]
  simp only [e60_0, e60_1, e60_4, e60_5, e60_8, e60_9, e60_12, e60_13, e60_16, e60_19, bI_s, bL_s, bV_s, rv_s1, nl_i, nl_a, nl_n, w8_0, w8_i, w8_a, w8_l, ct_i, ct_a, b01_0, b01_1, b01_b, kd_0, kd_2, hF.x0, hF.x2, h4, htn, e], m_fault hp⟩
def gC (g : Gs) (co : Co) : Gs := fun x => if x = 0 then co else if x = 1 then shB co else if x = 2 then (fun b d => if b = 1 ∧ (d = 2 ∨ d = 3) then 0 else g 2 b d) else g x
theorem gC_r {co : Co} {j : Nat} (h : 3 ≤ j) : gC g co j = g j := by
  unfold gC
  rw [if_neg (by omega), if_neg (by omega), if_neg (by omega)]
theorem gC_2 {co : Co} {b d : Nat} : gC g co 2 b d = if b = 1 ∧ (d = 2 ∨ d = 3) then 0 else g 2 b d := rfl
theorem gC_PG {co : Co} (hp : PG g) (hW : WP co) : PG (gC g co) := by
  refine ⟨hW.wf, shB_WS hW.wf, shB_WN, ?_, ?_, ?_, ?_, ?_, ?_, ?_⟩
  · simpa [gC_2] using hp.2.2.2.1
  · simp only [gC_2]
    simpa using hp.pe
  · simpa [gC_2] using hp.2.2.2.2.2.1
  · simpa [gC_2] using hp.2.2.2.2.2.2.1
  · simpa [gC_2] using hp.2.2.2.2.2.2.2.1
  · intro j hj hr
    unfold inR at hr
    simp [gC_2] at hr
  · intro k hk hb
    simp [gC_2] at hb
/-- the reference's copies -/
def mc1 (J : ab_I) : Nat → ab_I
  | 0 => J
  | n + 1 => wI (wI (wI (wI (wI (mc1 J n) 90 n (J 98 n)) 91 n (J 99 n)) 92 n (J 100 n)) 93 n (J 101 n)) 94 n (J 97 n)
theorem mc1_o {o : Nat} (h : o < 90 ∨ 94 < o) : ∀ n, mc1 J n o = J o
  | 0 => rfl
  | n + 1 => by
    funext j
    rw [mc1, wI_o (by omega), wI_o (by omega), wI_o (by omega), wI_o (by omega), wI_o (by omega), mc1_o h n]
theorem mc1_at {a b : Nat} (h : (a = 90 ∧ b = 98) ∨ (a = 91 ∧ b = 99) ∨ (a = 92 ∧ b = 100) ∨ (a = 93 ∧ b = 101) ∨ (a = 94 ∧ b = 97)) {k : Nat} : ∀ n, k < n → mc1 J n a k = J b k
  | n + 1, hk => by
    rw [mc1]
    by_cases e : k = n
    · subst e
      rcases h with ⟨rfl, rfl⟩ | ⟨rfl, rfl⟩ | ⟨rfl, rfl⟩ | ⟨rfl, rfl⟩ | ⟨rfl, rfl⟩ <;> simp [wI_app]
    · have ih := mc1_at (k := k) h n (by omega)
      simp [wI_app, e, ih]
def mc2 (J : ab_I) : Nat → ab_I
  | 0 => J
  | n + 1 => wI (wI (wI (mc2 J n) 88 n (J 95 n)) 89 n (J 96 n)) 94 (6 + n) (nI 0)
theorem mc2_o {o : Nat} (h : o ≠ 88 ∧ o ≠ 89 ∧ o ≠ 94) : ∀ n, mc2 J n o = J o
  | 0 => rfl
  | n + 1 => by
    funext j
    rw [mc2, wI_o (by omega), wI_o (by omega), wI_o (by omega), mc2_o h n]
theorem mc2_94 {k : Nat} (h : k < 6) : ∀ n, mc2 J n 94 k = J 94 k
  | 0 => rfl
  | n + 1 => by rw [mc2, wI_k (by omega), wI_o (by decide), wI_o (by decide), mc2_94 h n]
theorem mc2_at {a b : Nat} (h : (a = 88 ∧ b = 95) ∨ (a = 89 ∧ b = 96)) {k : Nat} : ∀ n, k < n → mc2 J n a k = J b k
  | n + 1, hk => by
    rw [mc2]
    by_cases e : k = n
    · subst e
      rcases h with ⟨rfl, rfl⟩ | ⟨rfl, rfl⟩ <;> simp [wI_app]
    · have ih := mc2_at (k := k) h n (by omega)
      rcases h with ⟨rfl, rfl⟩ | ⟨rfl, rfl⟩ <;> simp [wI_app, e, ih]
theorem mc2_0 {k : Nat} : ∀ n, k < n → mc2 J n 94 (6 + k) = nI 0
  | n + 1, hk => by
    rw [mc2]
    by_cases e : k = n
    · subst e
      rw [wI_self]
    · rw [wI_k (by omega), wI_o (by decide), wI_o (by decide), mc2_0 n (by omega)]
theorem mc1_94 {k : Nat} (h : 6 ≤ k) : ∀ n, n ≤ 6 → mc1 J n 94 k = J 94 k
  | 0, _ => rfl
  | n + 1, hn => by rw [mc1, wI_k (by omega), wI_o (by decide), wI_o (by decide), wI_o (by decide), wI_o (by decide), mc1_94 h n (by omega)]
theorem mc2_94h {k : Nat} (h : 10 ≤ k) : ∀ n, n ≤ 4 → mc2 J n 94 k = J 94 k
  | 0, _ => rfl
  | n + 1, hn => by rw [mc2, wI_k (by omega), wI_o (by decide), wI_o (by decide), mc2_94h h n (by omega)]
theorem m_coast {co : Co} (hp : PG g) (hr : rdt (g 2 0) (g 2 1 0) = (true, (rdt (g 2 0) (g 2 1 0)).2.1, co)) : MK Z 118 [] (.int (nI (10 * co 0 2 + co 0 3))) g (gC g co) sd sd := fun I R L h => by
  have hF := h.F
  obtain ⟨J, e, o, s⟩ := m_readText (Z := Z) (L := L) hF (h.tx9 hp)
  have h1 : (rdt (g 2 0) (g 2 1 0)).1 = true := by rw [hr]
  have h2 : (rdt (g 2 0) (g 2 1 0)).2.2 = co := by rw [hr]
  obtain ⟨hM, hW⟩ := s h1
  rw [h2] at hM hW
  have h4 := hW.1
  have h6 := hW.2.1
  have hv : rdv (rdt (g 2 0) (g 2 1 0)) = iI (-9) := by
    unfold rdv
    rw [if_pos h1]
  rw [hv] at e
  obtain ⟨⟨m0, m1, m2, m3, m4⟩, m5, m6, m7, m8, m9, m10, m11⟩ := hM
  have h9 := h.rd o
  generalize hK : wI (wI (wI (wI J 87 0 (nI (co 0 0))) 87 1 (nI (co 0 1))) 87 2 (nI (co 0 2))) 87 3 (nI (co 0 3)) = K
  have Ko : ∀ x, x ≠ 87 → K x = J x := fun x hx => by
    funext j
    rw [← hK, wI_o hx, wI_o hx, wI_o hx, wI_o hx]
  have K8 : ∀ k, 4 ≤ k → K 87 k = J 87 k := fun k hk => by rw [← hK, wI_k (by omega), wI_k (by omega), wI_k (by omega), wI_k (by omega)]
  have K0 : K 87 0 = nI (co 0 0) ∧ K 87 1 = nI (co 0 1) ∧ K 87 2 = nI (co 0 2) ∧ K 87 3 = nI (co 0 3) := by
    rw [← hK]
    simp [wI_app]
  generalize hM1 : mc1 K 6 = M1
  have M1o : ∀ x, x < 90 ∨ 94 < x → M1 x = K x := fun x hx => by rw [← hM1, mc1_o hx]
  generalize hM2 : mc2 M1 4 = M2
  have M2o : ∀ x, (x ≠ 88 ∧ x ≠ 89 ∧ x ≠ 94) → M2 x = M1 x := fun x hx => by rw [← hM2, mc2_o hx]
  have F87 : M2 87 = K 87 := by rw [M2o 87 (by decide), M1o 87 (by decide)]
  have e46 : ex Z 0 0 118 46 [some (.ref 87), some (.int (nI 0))] [] K R L = ex Z 0 0 118 118 [some (.ref 87), some (.int (nI 6))] [] M1 R L := by
    rw [← hM1]
    refine loop_up (F := fun i => ex Z 0 0 118 46 [some (.ref 87), some (.int (nI i))] [] (mc1 K i) R L) 6 (fun i hi => ?_) ?_ 0 (Nat.zero_le _)
    · have x98 : mc1 K i 98 = K 98 := mc1_o (by decide) i
      have x99 : mc1 K i 99 = K 99 := mc1_o (by decide) i
      have x100 : mc1 K i 100 = K 100 := mc1_o (by decide) i
      have x101 : mc1 K i 101 = K 101 := mc1_o (by decide) i
      have x97 : mc1 K i 97 = K 97 := mc1_o (by decide) i
      rw [e118_46]
      simp only [e118_0, e118_1, e118_4, e118_6, e118_9, e118_11, e118_12, e118_13, e118_14, e118_17, e118_20, e118_21, e118_22, e118_25, e118_28, e118_29, e118_30, e118_33, e118_36, e118_37, e118_38, e118_41, e118_44, e118_45, e118_47, e118_49, e118_52, e118_53, e118_56, e118_57, e118_58, e118_61, e118_62, e118_63, e118_64, e118_65, e118_68, e118_69, e118_70, e118_73, e118_74, e118_75, e118_76, e118_77, e118_80, e118_81, e118_82, e118_85, e118_86, e118_87, e118_88, e118_89, e118_92, e118_93, e118_94, e118_97, e118_98, e118_99, e118_100, e118_101, e118_104, e118_105, e118_106, e118_109, e118_110, e118_111, e118_112, e118_115, e118_119, e118_121, e118_122, e118_125, e118_126, e118_129, e118_130, e118_131, e118_134, e118_135, e118_136, e118_137, e118_138, e118_141, e118_142, e118_143, e118_146, e118_147, e118_148, e118_149, e118_150, e118_153, e118_155, e118_156, e118_157, e118_158, e118_159, e118_162, e118_165, e118_166, e118_169, e118_171, e118_172, e118_173, e118_174, e118_177, e118_179, e118_180, e118_183, e118_184, e118_185, e118_188, e118_190, e118_191, e118_192, e118_193, e118_194, e118_197, e118_198, e118_201, e118_202, e118_203, e118_204, e118_205, e118_208, e118_209, e118_210, e118_211, e118_213, e118_214, e118_217, e118_218, e118_219, e118_222, e118_223, bI_s, bL_s, bV_s, rv_s1, nl_i, nl_a, nl_n, w8_0, w8_i, w8_a, w8_l, ct_i, ct_a, b01_0, b01_1, b01_b, hF.m4, hF.m5, hF.m6, hF.m7, hF.m8, hF.m9, hF.m10, hF.m16, hF.m17, hF.m18, hF.m19, hF.m20, hF.m21, hF.m22, hF.m23, hF.m29, hF.m30, hF.m35, hF.m37, hF.m38, hF.m40, hF.m41, hF.m43, hF.m44, kd_87, al_88, al_89, al_90, al_91, al_92, al_93, al_94, al_95, al_96, al_97, al_98, al_99, al_100, al_101, al_102, al_103, al_104, al_105, al_106, al_108, al_111, zl_107, zl_109, zl_110, Nat.reduceLT, nI_leI (show 6 < 2 ^ 31 by decide) (show i < 2 ^ 31 by omega), show ¬ 6 ≤ i by omega, if_false, ab_ixN (show i < 6 by omega) (show 6 < 2 ^ 31 by decide), ab_ixN (show i < 26 by omega) (show 26 < 2 ^ 31 by decide), nI_clamp (show i < 2 ^ 31 by omega), wI_app, Nat.reduceEqDiff, x98, x99, x100, x101, x97, nI_add, mc1]
    · rw [e118_46]
      simp only [e118_0, e118_1, e118_4, e118_6, e118_9, e118_11, e118_12, e118_13, e118_14, e118_17, e118_20, e118_21, e118_22, e118_25, e118_28, e118_29, e118_30, e118_33, e118_36, e118_37, e118_38, e118_41, e118_44, e118_45, e118_47, e118_49, e118_52, e118_53, e118_56, e118_57, e118_58, e118_61, e118_62, e118_63, e118_64, e118_65, e118_68, e118_69, e118_70, e118_73, e118_74, e118_75, e118_76, e118_77, e118_80, e118_81, e118_82, e118_85, e118_86, e118_87, e118_88, e118_89, e118_92, e118_93, e118_94, e118_97, e118_98, e118_99, e118_100, e118_101, e118_104, e118_105, e118_106, e118_109, e118_110, e118_111, e118_112, e118_115, e118_119, e118_121, e118_122, e118_125, e118_126, e118_129, e118_130, e118_131, e118_134, e118_135, e118_136, e118_137, e118_138, e118_141, e118_142, e118_143, e118_146, e118_147, e118_148, e118_149, e118_150, e118_153, e118_155, e118_156, e118_157, e118_158, e118_159, e118_162, e118_165, e118_166, e118_169, e118_171, e118_172, e118_173, e118_174, e118_177, e118_179, e118_180, e118_183, e118_184, e118_185, e118_188, e118_190, e118_191, e118_192, e118_193, e118_194, e118_197, e118_198, e118_201, e118_202, e118_203, e118_204, e118_205, e118_208, e118_209, e118_210, e118_211, e118_213, e118_214, e118_217, e118_218, e118_219, e118_222, e118_223, bI_s, bL_s, bV_s, rv_s1, nl_i, nl_a, nl_n, w8_0, w8_i, w8_a, w8_l, ct_i, ct_a, b01_0, b01_1, b01_b, Int32.le_refl, if_true]
  have e120 : ex Z 0 0 118 120 [some (.ref 87), some (.int (nI 0))] [] M1 R L = ex Z 0 0 118 165 [some (.ref 87), some (.int (nI 4))] [] M2 R L := by
    rw [← hM2]
    refine loop_up (F := fun i => ex Z 0 0 118 120 [some (.ref 87), some (.int (nI i))] [] (mc2 M1 i) R L) 4 (fun i hi => ?_) ?_ 0 (Nat.zero_le _)
    · have x95 : mc2 M1 i 95 = M1 95 := mc2_o (by decide) i
      have x96 : mc2 M1 i 96 = M1 96 := mc2_o (by decide) i
      rw [e118_120]
      simp only [e118_0, e118_1, e118_4, e118_6, e118_9, e118_11, e118_12, e118_13, e118_14, e118_17, e118_20, e118_21, e118_22, e118_25, e118_28, e118_29, e118_30, e118_33, e118_36, e118_37, e118_38, e118_41, e118_44, e118_45, e118_47, e118_49, e118_52, e118_53, e118_56, e118_57, e118_58, e118_61, e118_62, e118_63, e118_64, e118_65, e118_68, e118_69, e118_70, e118_73, e118_74, e118_75, e118_76, e118_77, e118_80, e118_81, e118_82, e118_85, e118_86, e118_87, e118_88, e118_89, e118_92, e118_93, e118_94, e118_97, e118_98, e118_99, e118_100, e118_101, e118_104, e118_105, e118_106, e118_109, e118_110, e118_111, e118_112, e118_115, e118_118, e118_119, e118_121, e118_122, e118_125, e118_126, e118_129, e118_130, e118_131, e118_134, e118_135, e118_136, e118_137, e118_138, e118_141, e118_142, e118_143, e118_146, e118_147, e118_148, e118_149, e118_150, e118_153, e118_155, e118_156, e118_157, e118_158, e118_159, e118_162, e118_166, e118_169, e118_171, e118_172, e118_173, e118_174, e118_177, e118_179, e118_180, e118_183, e118_184, e118_185, e118_188, e118_190, e118_191, e118_192, e118_193, e118_194, e118_197, e118_198, e118_201, e118_202, e118_203, e118_204, e118_205, e118_208, e118_209, e118_210, e118_211, e118_213, e118_214, e118_217, e118_218, e118_219, e118_222, e118_223, bI_s, bL_s, bV_s, rv_s1, nl_i, nl_a, nl_n, w8_0, w8_i, w8_a, w8_l, ct_i, ct_a, b01_0, b01_1, b01_b, hF.m4, hF.m5, hF.m6, hF.m7, hF.m8, hF.m9, hF.m10, hF.m16, hF.m17, hF.m18, hF.m19, hF.m20, hF.m21, hF.m22, hF.m23, hF.m29, hF.m30, hF.m35, hF.m37, hF.m38, hF.m40, hF.m41, hF.m43, hF.m44, kd_87, al_88, al_89, al_90, al_91, al_92, al_93, al_94, al_95, al_96, al_97, al_98, al_99, al_100, al_101, al_102, al_103, al_104, al_105, al_106, al_108, al_111, zl_107, zl_109, zl_110, Nat.reduceLT, nI_leI (show 4 < 2 ^ 31 by decide) (show i < 2 ^ 31 by omega), show ¬ 4 ≤ i by omega, if_false, ab_ixN (show i < 4 by omega) (show 4 < 2 ^ 31 by decide), ab_ixN (show 6 + i < 26 by omega) (show 26 < 2 ^ 31 by decide), nI_clamp (show i < 2 ^ 31 by omega), nI_clamp (show 6 + i < 2 ^ 31 by omega), wI_app, Nat.reduceEqDiff, x95, x96, nI_add, mc2]
    · rw [e118_120]
      simp only [e118_0, e118_1, e118_4, e118_6, e118_9, e118_11, e118_12, e118_13, e118_14, e118_17, e118_20, e118_21, e118_22, e118_25, e118_28, e118_29, e118_30, e118_33, e118_36, e118_37, e118_38, e118_41, e118_44, e118_45, e118_47, e118_49, e118_52, e118_53, e118_56, e118_57, e118_58, e118_61, e118_62, e118_63, e118_64, e118_65, e118_68, e118_69, e118_70, e118_73, e118_74, e118_75, e118_76, e118_77, e118_80, e118_81, e118_82, e118_85, e118_86, e118_87, e118_88, e118_89, e118_92, e118_93, e118_94, e118_97, e118_98, e118_99, e118_100, e118_101, e118_104, e118_105, e118_106, e118_109, e118_110, e118_111, e118_112, e118_115, e118_118, e118_119, e118_121, e118_122, e118_125, e118_126, e118_129, e118_130, e118_131, e118_134, e118_135, e118_136, e118_137, e118_138, e118_141, e118_142, e118_143, e118_146, e118_147, e118_148, e118_149, e118_150, e118_153, e118_155, e118_156, e118_157, e118_158, e118_159, e118_162, e118_166, e118_169, e118_171, e118_172, e118_173, e118_174, e118_177, e118_179, e118_180, e118_183, e118_184, e118_185, e118_188, e118_190, e118_191, e118_192, e118_193, e118_194, e118_197, e118_198, e118_201, e118_202, e118_203, e118_204, e118_205, e118_208, e118_209, e118_210, e118_211, e118_213, e118_214, e118_217, e118_218, e118_219, e118_222, e118_223, bI_s, bL_s, bV_s, rv_s1, nl_i, nl_a, nl_n, w8_0, w8_i, w8_a, w8_l, ct_i, ct_a, b01_0, b01_1, b01_b, Int32.le_refl, if_true]
  generalize hN : wI (wI (wI (wI (wI (wI M2 94 10 (nI 0)) 94 11 (nI (co 0 4))) 94 12 (nI 0)) 87 27 (nI 0)) 110 0 (nI 0)) 110 1 (nI 0) = N
  have No : ∀ x, x ≠ 87 → x ≠ 94 → x ≠ 110 → N x = M2 x := fun x a b d => by
    funext j
    rw [← hN, wI_o d, wI_o d, wI_o a, wI_o b, wI_o b, wI_o b]
  have N87 : ∀ k, k ≠ 27 → N 87 k = K 87 k := fun k hk => by rw [← hN, wI_o (by decide), wI_o (by decide), wI_k hk, wI_o (by decide), wI_o (by decide), wI_o (by decide), F87]
  have Nf : ∀ x, x ≠ 87 → x ≠ 94 → x ≠ 110 → (x < 88 ∨ 94 < x) → N x = J x := fun x a b d w => by rw [No x a b d, M2o x (by omega), M1o x (by omega), Ko x a]
  have n2 : N 87 2 = nI (co 0 2) := (N87 2 (by decide)).trans K0.2.2.1
  have n3 : N 87 3 = nI (co 0 3) := (N87 3 (by decide)).trans K0.2.2.2
  refine ⟨N, L, ?_, ?_, fun x hx => ?_, rfl⟩
  · rw [n118]
    simp only [e118_0, e118_1, e118_4, e118_6, e118_9, e118_11, e118_12, e118_13, e118_14, e118_17, e118_20, e118_21, e118_22, e118_25, e118_28, e118_29, e118_30, e118_33, e118_36, e118_37, e118_38, e118_41, e118_44, e118_45, e118_47, e118_49, e118_52, e118_53, e118_56, e118_57, e118_58, e118_61, e118_62, e118_63, e118_64, e118_65, e118_68, e118_69, e118_70, e118_73, e118_74, e118_75, e118_76, e118_77, e118_80, e118_81, e118_82, e118_85, e118_86, e118_87, e118_88, e118_89, e118_92, e118_93, e118_94, e118_97, e118_98, e118_99, e118_100, e118_101, e118_104, e118_105, e118_106, e118_109, e118_110, e118_111, e118_112, e118_115, e118_119, e118_121, e118_122, e118_125, e118_126, e118_129, e118_130, e118_131, e118_134, e118_135, e118_136, e118_137, e118_138, e118_141, e118_142, e118_143, e118_146, e118_147, e118_148, e118_149, e118_150, e118_153, e118_155, e118_156, e118_157, e118_158, e118_159, e118_162, e118_166, e118_169, e118_171, e118_172, e118_173, e118_174, e118_177, e118_179, e118_180, e118_183, e118_184, e118_185, e118_188, e118_190, e118_191, e118_192, e118_193, e118_194, e118_197, e118_198, e118_201, e118_202, e118_203, e118_204, e118_205, e118_208, e118_209, e118_210, e118_211, e118_213, e118_214, e118_217, e118_218, e118_219, e118_222, e118_223, bI_s, bL_s, bV_s, rv_s1, nl_i, nl_a, nl_n, w8_0, w8_i, w8_a, w8_l, ct_i, ct_a, b01_0, b01_1, b01_b, kd_87, e, if_true, wI_app, Nat.reduceEqDiff, if_false, m0, m1, m2, m3, hK]
    rw [e46]
    simp only [e118_0, e118_1, e118_4, e118_6, e118_9, e118_11, e118_12, e118_13, e118_14, e118_17, e118_20, e118_21, e118_22, e118_25, e118_28, e118_29, e118_30, e118_33, e118_36, e118_37, e118_38, e118_41, e118_44, e118_45, e118_47, e118_49, e118_52, e118_53, e118_56, e118_57, e118_58, e118_61, e118_62, e118_63, e118_64, e118_65, e118_68, e118_69, e118_70, e118_73, e118_74, e118_75, e118_76, e118_77, e118_80, e118_81, e118_82, e118_85, e118_86, e118_87, e118_88, e118_89, e118_92, e118_93, e118_94, e118_97, e118_98, e118_99, e118_100, e118_101, e118_104, e118_105, e118_106, e118_109, e118_110, e118_111, e118_112, e118_115, e118_118, e118_119, e118_121, e118_122, e118_125, e118_126, e118_129, e118_130, e118_131, e118_134, e118_135, e118_136, e118_137, e118_138, e118_141, e118_142, e118_143, e118_146, e118_147, e118_148, e118_149, e118_150, e118_153, e118_155, e118_156, e118_157, e118_158, e118_159, e118_162, e118_166, e118_169, e118_171, e118_172, e118_173, e118_174, e118_177, e118_179, e118_180, e118_183, e118_184, e118_185, e118_188, e118_190, e118_191, e118_192, e118_193, e118_194, e118_197, e118_198, e118_201, e118_202, e118_203, e118_204, e118_205, e118_208, e118_209, e118_210, e118_211, e118_213, e118_214, e118_217, e118_218, e118_219, e118_222, e118_223, bI_s, bL_s, bV_s, rv_s1, nl_i, nl_a, nl_n, w8_0, w8_i, w8_a, w8_l, ct_i, ct_a, b01_0, b01_1, b01_b]
    rw [e120]
    have f15 : M2 87 15 = nI (co 0 4) := by rw [F87, K8 15 (by decide), m4]
    have f2 : M2 87 2 = nI (co 0 2) := by rw [F87, K0.2.2.1]
    have f3 : M2 87 3 = nI (co 0 3) := by rw [F87, K0.2.2.2]
    simp only [e118_0, e118_1, e118_4, e118_6, e118_9, e118_11, e118_12, e118_13, e118_14, e118_17, e118_20, e118_21, e118_22, e118_25, e118_28, e118_29, e118_30, e118_33, e118_36, e118_37, e118_38, e118_41, e118_44, e118_45, e118_47, e118_49, e118_52, e118_53, e118_56, e118_57, e118_58, e118_61, e118_62, e118_63, e118_64, e118_65, e118_68, e118_69, e118_70, e118_73, e118_74, e118_75, e118_76, e118_77, e118_80, e118_81, e118_82, e118_85, e118_86, e118_87, e118_88, e118_89, e118_92, e118_93, e118_94, e118_97, e118_98, e118_99, e118_100, e118_101, e118_104, e118_105, e118_106, e118_109, e118_110, e118_111, e118_112, e118_115, e118_118, e118_119, e118_121, e118_122, e118_125, e118_126, e118_129, e118_130, e118_131, e118_134, e118_135, e118_136, e118_137, e118_138, e118_141, e118_142, e118_143, e118_146, e118_147, e118_148, e118_149, e118_150, e118_153, e118_155, e118_156, e118_157, e118_158, e118_159, e118_162, e118_165, e118_166, e118_169, e118_171, e118_172, e118_173, e118_174, e118_177, e118_179, e118_180, e118_183, e118_184, e118_185, e118_188, e118_190, e118_191, e118_192, e118_193, e118_194, e118_197, e118_198, e118_201, e118_202, e118_203, e118_204, e118_205, e118_208, e118_209, e118_210, e118_211, e118_213, e118_214, e118_217, e118_218, e118_219, e118_222, e118_223, bI_s, bL_s, bV_s, rv_s1, nl_i, nl_a, nl_n, w8_0, w8_i, w8_a, w8_l, ct_i, ct_a, b01_0, b01_1, b01_b, hF.m4, hF.m5, hF.m6, hF.m7, hF.m8, hF.m9, hF.m10, hF.m16, hF.m17, hF.m18, hF.m19, hF.m20, hF.m21, hF.m22, hF.m23, hF.m29, hF.m30, hF.m35, hF.m37, hF.m38, hF.m40, hF.m41, hF.m43, hF.m44, kd_87, al_88, al_89, al_90, al_91, al_92, al_93, al_94, al_95, al_96, al_97, al_98, al_99, al_100, al_101, al_102, al_103, al_104, al_105, al_106, al_108, al_111, zl_107, zl_109, zl_110, Nat.reduceLT, ab_ixN (show 10 < 26 by decide) (show 26 < 2 ^ 31 by decide), ab_ixN (show 11 < 26 by decide) (show 26 < 2 ^ 31 by decide), ab_ixN (show 12 < 26 by decide) (show 26 < 2 ^ 31 by decide), ab_ixN (show 0 < 2 by decide) (show 2 < 2 ^ 31 by decide), ab_ixN (show 1 < 2 by decide) (show 2 < 2 ^ 31 by decide), nI_clamp (show 10 < 2 ^ 31 by decide), nI_clamp (show 11 < 2 ^ 31 by decide), nI_clamp (show 12 < 2 ^ 31 by decide), nI_clamp (show 0 < 2 ^ 31 by decide), nI_clamp (show 1 < 2 ^ 31 by decide), wI_app, Nat.reduceEqDiff, if_true, if_false, f15, f2, f3, hN, n2, n3, pk_mul, nI_add]
  · refine ⟨hF, ⟨?_, ?_⟩, ?_, ?_, fun j hj hr => ?_, fun j hj hb => ?_, ?_, ?_, ?_, ?_⟩
    · refine ⟨(N87 0 (by decide)).trans K0.1, (N87 1 (by decide)).trans K0.2.1, (N87 2 (by decide)).trans K0.2.2.1, (N87 3 (by decide)).trans K0.2.2.2, fun x hx => ?_, fun x hx => ?_, fun x hx => ?_, fun x hx => ?_, fun x hx => ?_, fun x hx => ?_⟩
      · have hx : x < co 0 2 := hx
        rw [No 88 (by decide) (by decide) (by decide), ← hM2, mc2_at (Or.inl ⟨rfl, rfl⟩) 4 (by omega), M1o 95 (by decide), Ko 95 (by decide)]
        exact m5 x hx
      · have hx : x < co 0 2 := hx
        rw [No 89 (by decide) (by decide) (by decide), ← hM2, mc2_at (Or.inr ⟨rfl, rfl⟩) 4 (by omega), M1o 96 (by decide), Ko 96 (by decide)]
        exact m6 x hx
      · have hx : x < co 0 3 := hx
        rw [No 90 (by decide) (by decide) (by decide), M2o 90 (by decide), ← hM1, mc1_at (Or.inl ⟨rfl, rfl⟩) 6 (by omega), Ko 98 (by decide)]
        exact m8 x hx
      · have hx : x < co 0 3 := hx
        rw [No 91 (by decide) (by decide) (by decide), M2o 91 (by decide), ← hM1, mc1_at (Or.inr (Or.inl ⟨rfl, rfl⟩)) 6 (by omega), Ko 99 (by decide)]
        exact m9 x hx
      · have hx : x < co 0 3 := hx
        rw [No 92 (by decide) (by decide) (by decide), M2o 92 (by decide), ← hM1, mc1_at (Or.inr (Or.inr (Or.inl ⟨rfl, rfl⟩))) 6 (by omega), Ko 100 (by decide)]
        exact m10 x hx
      · have hx : x < co 0 3 := hx
        rw [No 93 (by decide) (by decide) (by decide), M2o 93 (by decide), ← hM1, mc1_at (Or.inr (Or.inr (Or.inr (Or.inl ⟨rfl, rfl⟩)))) 6 (by omega), Ko 101 (by decide)]
        exact m11 x hx
    · have N94 : ∀ k, k < 10 → N 94 k = M2 94 k := fun k hk => by rw [← hN, wI_o (by decide), wI_o (by decide), wI_o (by decide), wI_k (by omega), wI_k (by omega), wI_k (by omega)]
      refine ⟨fun x hx => ?_, fun x hx => ?_, ?_, ?_, ?_⟩
      · have hx : x < co 0 3 := hx
        rw [Nat.zero_add, N94 x (by omega), ← hM2, mc2_94 (by omega), ← hM1, mc1_at (Or.inr (Or.inr (Or.inr (Or.inr ⟨rfl, rfl⟩)))) 6 (by omega), Ko 97 (by decide)]
        exact m7 x hx
      · rw [Nat.zero_add, N94 (6 + x) (by omega), ← hM2, mc2_0 4 (by omega)]
        rfl
      · rw [← hN]
        simp [wI_app]
        rfl
      · rw [← hN]
        simp [wI_app]
        rfl
      · rw [← hN]
        simp [wI_app]
        rfl
    · rw [N87 24 (by decide), K8 24 (by decide), Nf 102 (by decide) (by decide) (by decide) (by decide)]
      simpa [gC_2] using h9.2.2.1
    · refine ⟨?_, ?_, fun k hk => ?_⟩
      · rw [N87 28 (by decide), K8 28 (by decide)]
        simpa [gC_2] using h9.2.2.2.1.1
      · rw [← hN]
        simp [wI_app, gC_2]
      · rw [← hN]
        have : k = 0 ∨ k = 1 := by omega
        rcases this with rfl | rfl <;> simp [wI_app, gC_2]
    · unfold inR at hr
      simp [gC_2] at hr
    · simp [gC_2] at hb
    · rw [N87 36 (by decide), N87 39 (by decide), K8 36 (by decide), K8 39 (by decide)]
      simpa [gC_2] using h9.2.2.2.2.2.2.1
    · rw [Nf 106 (by decide) (by decide) (by decide) (by decide), Nf 107 (by decide) (by decide) (by decide) (by decide)]
      simpa [gC_2] using h9.2.2.2.2.2.2.2.1
    · rw [Nf 108 (by decide) (by decide) (by decide) (by decide), Nf 109 (by decide) (by decide) (by decide) (by decide)]
      simpa [gC_2] using h9.2.2.2.2.2.2.2.2.1
    · exact h.sed
  · rw [Nf x (by omega) (by omega) (by omega) (by omega), o.1 x (by omega) (by omega)]
theorem prs_le {tx : Nat → Nat} {n : Nat} : ∀ f p co, p ≤ n → (prs tx n f p co).2.1 ≤ n
  | 0, p, co, h => h
  | f + 1, p, co, h => by
    rw [prs]
    split
    · rename_i hp
      have := prt_le (tx := tx) (co := co) hp
      split
      · exact prs_le f _ _ this
      · exact this
    · exact h
theorem rdt_le {tx : Nat → Nat} {n : Nat} : (rdt tx n).2.1 ≤ n := by
  unfold rdt
  split
  · rename_i h
    split
    · rename_i h1
      have := (of_decide_eq_true h1).1
      split
      · rename_i h2
        have := (of_decide_eq_true h2).1
        exact prs_le _ _ _ (by omega)
      · show 2 ≤ n
        omega
    · show 1 ≤ n
      omega
  · exact Nat.zero_le _
theorem prs_WP {tx : Nat → Nat} {n : Nat} : ∀ f p co, WP co → (prs tx n f p co).1 = true → WP (prs tx n f p co).2.2
  | 0, p, co, h, _ => h
  | f + 1, p, co, h, hk => by
    rw [prs] at hk ⊢
    by_cases hp : p < n
    · rw [if_pos hp] at hk ⊢
      by_cases h1 : (prt tx n p co).1 = true
      · rw [if_pos h1] at hk ⊢
        exact prs_WP f _ _ (prt_WP h h1).1 hk
      · rw [if_neg h1] at hk
        exact absurd hk h1
    · rw [if_neg hp]
      exact h
theorem rdt_WP {tx : Nat → Nat} {n : Nat} (h : (rdt tx n).1 = true) : WP (rdt tx n).2.2 := by
  unfold rdt at h ⊢
  by_cases h0 : 0 < n ∧ tx 0 = 87
  · rw [if_pos h0] at h ⊢
    by_cases h1 : fin tx n 1 0 4 = true
    · rw [if_pos h1] at h ⊢
      by_cases h2 : fin tx n 2 1 6 = true
      · rw [if_pos h2] at h ⊢
        have q1 := of_decide_eq_true h1
        have q2 := of_decide_eq_true h2
        exact prs_WP _ _ _ (nilC_WP (by omega) (by omega)) h
      · rw [if_neg h2] at h
        exact (Bool.false_ne_true h).elim
    · rw [if_neg h1] at h
      exact (Bool.false_ne_true h).elim
  · rw [if_neg h0] at h
    exact (Bool.false_ne_true h).elim
theorem wR_app (R : ab_R) (o k v p j : Nat) : wR R o k v p j = if p = o then (if j = k then v else R p j) else R p j := rfl
theorem B_coast : Both Z 62 118 [] := by
  intro g sd hp
  cases h1 : (rdt (g 2 0) (g 2 1 0)).1 with
  | false =>
    have hv : ¬ rdv (rdt (g 2 0) (g 2 1 0)) = iI (-9) := by
      have h2 := rdt_le (tx := g 2 0) (n := g 2 1 0)
      have h3 := hp.tn
      unfold rdv
      rw [h1, if_neg (by decide), f9_n (by omega)]
      exact fun w => w
    refine ⟨.int (iI (-3)), g, sd, hp, fun c I R L h => ?_, fun I R L h => ?_⟩
    · have hc2 := IsC_o h.cc
      have hF := h.F
      obtain ⟨J, e, o, -⟩ := x_read (Z := Z) (D := 14 - c) (L := L) hF hc2 (h.tx9 hp)
      refine ⟨c, J, wR R 2 0 (14 - c + 1), L, ?_, h.rd o hF.w20 (by simp [wR]) (by simp [wR]), o.fx hc2, rfl⟩
      have h4 := h.r4
      have htn := h.tn
      rw [n62]
      simp only [e62_0, e62_1, e62_4, e62_5, e62_8, e62_9, e62_12, e62_13, e62_16, e62_19, e62_21, e62_24, e62_26, e62_27, e62_28, e62_31, e62_32, e62_33, e62_34, e62_37, e62_40, e62_41, e62_42, e62_45, e62_46, e62_49, e62_50, e62_53, e62_56, e62_57, e62_58, e62_61, e62_62, e62_63, e62_66, e62_68, e62_69, e62_72, e62_75, e62_76, e62_77, e62_80, e62_83, e62_84, bI_s, bL_s, bV_s, rv_s1, nl_i, nl_a, nl_n, w8_0, w8_i, w8_a, w8_l, ct_i, ct_a, b01_0, b01_1, b01_b, kd_0, kd_2, hF.x0, hF.x2, h4, htn, e, hv, if_false]
    · obtain ⟨J, e, o, -⟩ := m_readText (Z := Z) (L := L) h.F (h.tx9 hp)
      refine ⟨J, L, ?_, h.rd o, fun x hx => o.1 x (by omega) (by omega), rfl⟩
      rw [n118]
      simp only [e118_0, e118_1, e118_4, e118_6, e118_9, e118_11, e118_12, e118_13, e118_14, e118_17, e118_20, e118_21, e118_22, e118_25, e118_28, e118_29, e118_30, e118_33, e118_36, e118_37, e118_38, e118_41, e118_44, e118_45, e118_47, e118_49, e118_52, e118_53, e118_56, e118_57, e118_58, e118_61, e118_62, e118_63, e118_64, e118_65, e118_68, e118_69, e118_70, e118_73, e118_74, e118_75, e118_76, e118_77, e118_80, e118_81, e118_82, e118_85, e118_86, e118_87, e118_88, e118_89, e118_92, e118_93, e118_94, e118_97, e118_98, e118_99, e118_100, e118_101, e118_104, e118_105, e118_106, e118_109, e118_110, e118_111, e118_112, e118_115, e118_118, e118_119, e118_121, e118_122, e118_125, e118_126, e118_129, e118_130, e118_131, e118_134, e118_135, e118_136, e118_137, e118_138, e118_141, e118_142, e118_143, e118_146, e118_147, e118_148, e118_149, e118_150, e118_153, e118_155, e118_156, e118_157, e118_158, e118_159, e118_162, e118_165, e118_166, e118_169, e118_171, e118_172, e118_173, e118_174, e118_177, e118_179, e118_180, e118_183, e118_184, e118_185, e118_188, e118_190, e118_191, e118_192, e118_193, e118_194, e118_197, e118_198, e118_201, e118_202, e118_203, e118_204, e118_205, e118_208, e118_209, e118_210, e118_211, e118_213, e118_214, e118_217, e118_218, e118_219, e118_222, e118_223, bI_s, bL_s, bV_s, rv_s1, nl_i, nl_a, nl_n, w8_0, w8_i, w8_a, w8_l, ct_i, ct_a, b01_0, b01_1, b01_b, kd_87, e, hv, if_false]
  | true =>
    have hr : rdt (g 2 0) (g 2 1 0) = (true, (rdt (g 2 0) (g 2 1 0)).2.1, (rdt (g 2 0) (g 2 1 0)).2.2) := by rw [← h1]
    have hv : rdv (rdt (g 2 0) (g 2 1 0)) = iI (-9) := by
      unfold rdv
      rw [if_pos h1]
    generalize hco : (rdt (g 2 0) (g 2 1 0)).2.2 = co at hr
    have hW : WP co := by
      rw [← hco]
      exact rdt_WP h1
    refine ⟨.int (nI (10 * co 0 2 + co 0 3)), gC g co, sd, gC_PG hp hW, fun c I R L h => ?_, m_coast hp hr⟩
    have hcc := h.cc
    unfold IsC at hcc
    have hc2 := IsC_o h.cc
    have hF := h.F
    obtain ⟨J, e, o, s⟩ := x_read (Z := Z) (D := 14 - c) (L := L) hF hc2 (h.tx9 hp)
    obtain ⟨hC, -⟩ := s h1
    rw [hco] at hC
    rw [hv] at e
    have h3 := h.r3
    have h4 := h.r4
    have htn := h.tn
    have hF1 := hF.w20 (v := 14 - c + 1)
    have hF3 : Fx (wR (wR (wR R 2 0 (14 - c + 1)) 0 3 (14 - c + 1)) 0 4 (c + 1)) := (hF1.w0 (Or.inl rfl)).w0 (Or.inr rfl)
    have r5 : wR (wR (wR R 2 0 (14 - c + 1)) 0 3 (14 - c + 1)) 0 4 (c + 1) 0 5 = 20 := hF3.x5
    have r3 : wR (wR (wR R 2 0 (14 - c + 1)) 0 3 (14 - c + 1)) 0 4 (c + 1) 0 3 = 14 - c + 1 := by simp [wR_app]
    have r4 : wR (wR (wR R 2 0 (14 - c + 1)) 0 3 (14 - c + 1)) 0 4 (c + 1) 0 4 = c + 1 := by simp [wR_app]
    generalize hR3 : wR (wR (wR R 2 0 (14 - c + 1)) 0 3 (14 - c + 1)) 0 4 (c + 1) = R3 at hF3 r5 r3 r4
    obtain ⟨J2, e2, o2, S2⟩ := s_begin (Z := Z) (L := L) hF3 hc2 IsS_19 hC hW.2.1
    have hC2 := hC.offS hc2 IsS_19 o2
    have b0 : ∀ k, J2 0 k = I 0 k := fun k => by rw [o2 0 (by decide) (by decide) (by decide), o 0 (by decide) (by omega)]
    generalize hN : wI (wI J2 0 9 (nI 0)) 0 11 (nI 0) = N
    have No : ∀ x, x ≠ 0 → N x = J2 x := fun x hx => by
      funext j
      rw [← hN, wI_o hx, wI_o hx]
    have N0 : ∀ k, k ≠ 9 → k ≠ 11 → N 0 k = I 0 k := fun k a b => by rw [← hN, wI_k b, wI_k a, b0]
    have Nf : ∀ x, x ≠ 0 → x ≠ 2 → ¬ (14 - c ≤ x ∧ x ≤ 14 - c + 7) → x ≠ 19 → x ≠ 20 → x ≠ 21 → N x = I x := fun x a b d e f g => by rw [No x a, o2 x e f g, o x b d]
    refine ⟨14 - c, N, R3, L, ?_, ?_, fun x a b => Nf x (by omega) (by omega) (by omega) (by omega) (by omega) (by omega), rfl⟩
    · have n7 : N (14 - c) 7 = nI (co 0 2) := by rw [No _ (by omega), hC2.hs]
      have n8 : N (14 - c) 8 = nI (co 0 3) := by rw [No _ (by omega), hC2.th]
      rw [n62]
      simp only [e62_0, e62_1, e62_4, e62_5, e62_8, e62_9, e62_12, e62_13, e62_16, e62_19, e62_21, e62_24, e62_26, e62_27, e62_28, e62_31, e62_32, e62_33, e62_34, e62_37, e62_40, e62_41, e62_42, e62_45, e62_46, e62_49, e62_50, e62_53, e62_56, e62_57, e62_58, e62_61, e62_62, e62_63, e62_66, e62_68, e62_69, e62_72, e62_75, e62_76, e62_77, e62_80, e62_83, e62_84, bI_s, bL_s, bV_s, rv_s1, nl_i, nl_a, nl_n, w8_0, w8_i, w8_a, w8_l, ct_i, ct_a, b01_0, b01_1, b01_b, kd_0, kd_2, kd_19, hF.x0, hF.x2, h4, htn, e, if_true, wR_app, Nat.reduceEqDiff, if_false, h3, hR3, r5, r3, e2, hN, kdC hc2, n7, n8, pk_mul, nI_add]
    · refine ⟨⟨hc2, r3, by rw [r4]; omega, hF3⟩, ⟨hC2.off fun k hk => No _ (by omega), S2.off fun k hk => No _ (by omega)⟩, ⟨?_, ?_⟩, ⟨?_, ?_, ?_⟩, fun j hj hr => ?_, fun j hj hb => ?_, ?_, ?_, ?_, ?_, h.sed⟩
      · rw [N0 1 (by decide) (by decide)]
        exact h.2.2.1.1
      · rw [Nf 1 (by decide) (by decide) (by omega) (by decide) (by decide) (by decide)]
        exact h.2.2.1.2
      · rw [N0 8 (by decide) (by decide)]
        exact h.pe
      · rw [← hN]
        simp [wI_app, gC_2]
      · rw [← hN]
        simp [wI_app, gC_2]
      · unfold inR at hr
        simp [gC_2] at hr
      · simp [gC_2] at hb
      · rw [N0 14 (by decide) (by decide), N0 16 (by decide) (by decide)]
        exact h.2.2.2.2.2.2.1
      · rw [Nf 31 (by decide) (by decide) (by omega) (by decide) (by decide) (by decide)]
        exact h.2.2.2.2.2.2.2.1
      · rw [Nf 32 (by decide) (by decide) (by omega) (by decide) (by decide) (by decide)]
        exact h.2.2.2.2.2.2.2.2.1
      · rw [Nf 28 (by decide) (by decide) (by omega) (by decide) (by decide) (by decide), Nf 1001 (by decide) (by decide) (by omega) (by decide) (by decide) (by decide), Nf 1002 (by decide) (by decide) (by omega) (by decide) (by decide) (by decide)]
        exact h.2.2.2.2.2.2.2.2.2.1
end FAULT
