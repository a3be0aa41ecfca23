/-! an act is noted -/
def keepA (g : Gs) : Gs := gQ (gQ (gS g (10 + g 2 1 1) (g 1)) 1 ((g 2 1 1 + 1) % 16)) 2 (min (g 2 1 2 + 1) 16)
theorem keepA_0 {g : Gs} : keepA g 0 = g 0 := by
  unfold keepA gQ gS
  rw [if_neg (by decide), if_neg (by decide), if_neg (by omega)]
theorem keepA_1 {g : Gs} : keepA g 1 = g 1 := by
  unfold keepA gQ gS
  rw [if_neg (by decide), if_neg (by decide), if_neg (by omega)]
theorem keepA_2 {g : Gs} {b d : Nat} : keepA g 2 b d = if b = 1 ∧ d = 2 then min (g 2 1 2 + 1) 16 else if b = 1 ∧ d = 1 then (g 2 1 1 + 1) % 16 else g 2 b d := by
  unfold keepA gQ gS
  simp
  split
  · rfl
  · split
    · rfl
    · rw [if_neg (by omega)]
theorem keepA_r {g : Gs} {j : Nat} : keepA g (10 + j) = if j = g 2 1 1 then g 1 else g (10 + j) := by
  unfold keepA gQ gS
  rw [if_neg (by omega), if_neg (by omega)]
  by_cases h : j = g 2 1 1
  · rw [if_pos h, if_pos (by omega)]
  · rw [if_neg h, if_neg (by omega)]
theorem keepA_s {g : Gs} {k : Nat} (h : g 2 1 1 < 16) : keepA g (30 + k) = g (30 + k) := by
  unfold keepA gQ gS
  rw [if_neg (by omega), if_neg (by omega), if_neg (by omega)]
theorem inR_step {pe ac j : Nat} (hp : pe < 16) (hj : j < 16) (h : inR ((pe + 1) % 16) (min (ac + 1) 16) j) : j = pe ∨ inR pe ac j := by
  unfold inR at *
  omega
theorem keepA_PG {g : Gs} (h : PG g) : PG (keepA g) := by
  have hpe := h.pe
  refine ⟨?_, ?_, ?_, ?_, ?_, ?_, ?_, ?_, ?_, ?_⟩
  · rw [keepA_0]
    exact h.wf
  · rw [keepA_0, keepA_1]
    exact h.ws
  · rw [keepA_0, keepA_1]
    exact h.wn
  · simp only [keepA_2]
    simpa using h.2.2.2.1
  · simp only [keepA_2]
    have := h.kb
    simp
    omega
  · simp only [keepA_2]
    simpa using h.2.2.2.2.2.1
  · simp only [keepA_2]
    simpa using h.2.2.2.2.2.2.1
  · simp only [keepA_2]
    simpa using h.2.2.2.2.2.2.2.1
  · intro j hj hr
    simp only [keepA_2] at hr
    simp at hr
    rw [keepA_0, keepA_r]
    split
    · exact ⟨h.ws, h.wn⟩
    · rename_i hn
      exact h.ri hj ((inR_step hpe hj hr).resolve_left hn)
  · intro k hk hb
    simp only [keepA_2] at hb
    simp at hb
    rw [keepA_0, keepA_s hpe]
    exact h.sl hk hb
theorem IsS_19 : IsS 19 := Or.inl rfl
theorem IsS_22 : IsS 22 := Or.inr (Or.inl rfl)
theorem IsS_p {j : Nat} (h : j < 16) : IsS (33 + 3 * j) := by
  unfold IsS
  omega
theorem IsS_k {k : Nat} (h : k < 2) : IsS (81 + 3 * k) := by
  unfold IsS
  omega
section ACTS
variable {Z : Nat} {g : Gs} {sd : Int64} {c : Nat} {I : ab_I} {R : ab_R} {L : ab_L}
theorem x_noteAct (hp : PG g) (h : XX g sd c I R L) : ∃ I', cl Z 67 [.ref 0] I R L = some (none, I', R, L) ∧ XX (keepA g) sd c I' R L ∧ FX I I' := by
  have hF := h.F
  have hpe := hp.pe
  have hac := hp.ac
  have h6 := hp.wf.t6
  have hc := h.cc
  have hs := IsS_p hpe
  obtain ⟨I1, e1, f1, S1⟩ := s_copy (Z := Z) (L := L) hF hs IsS_19 (by omega) h6 h.S
  have k0 : ∀ j, I1 0 j = I 0 j := fun j => by rw [f1 0 (by omega) (by omega) (by omega)]
  have e : ∀ o, o ≠ 0 ∧ o ≠ 33 + 3 * g 2 1 1 ∧ o ≠ 33 + 3 * g 2 1 1 + 1 ∧ o ≠ 33 + 3 * g 2 1 1 + 2 → wI (wI I1 0 8 (nI ((g 2 1 1 + 1) % 16))) 0 9 (nI (min (g 2 1 2 + 1) 16)) o = I o := fun o w => by
    funext j
    rw [wI_o w.1, wI_o w.1, f1 o w.2.1 w.2.2.1 w.2.2.2]
  refine ⟨wI (wI I1 0 8 (nI ((g 2 1 1 + 1) % 16))) 0 9 (nI (min (g 2 1 2 + 1) 16)), ?_, ⟨h.1, ⟨?_, ?_⟩, ?_, ?_, fun j hj hr => ?_, fun j hj hr => ?_, ?_, ?_, ?_, ?_, ?_⟩, fun o a b => e o (by omega)⟩
  · have a8 := h.pe
    have a9 := h.ac
    rw [n67]
    simp only [e67_0, e67_1, e67_4, e67_5, e67_8, e67_9, e67_10, e67_13, e67_16, e67_17, e67_18, e67_21, e67_22, e67_23, e67_25, e67_26, e67_29, e67_30, e67_31, e67_34, e67_35, e67_36, e67_38, e67_41, e67_44, bI_s, bL_s, bV_s, rv_s1, nl_i, nl_a, nl_n, w8_0, w8_i, w8_a, w8_l, ct_i, ct_a, b01_0, b01_1, b01_b, hF.x0, hF.x2, hF.x5, hF.x6, hF.x7, hF.x10, hF.x12, hF.x13, hF.x15, hF.k0, hF.k1, hF.k2, hF.m4, hF.m5, hF.m6, hF.m7, hF.m8, hF.m9, hF.m10, hF.m16, hF.m17, hF.m18, hF.m19, hF.m20, hF.m21, hF.m22, hF.m23, hF.m29, hF.m30, hF.m35, hF.m37, hF.m38, hF.m40, hF.m41, hF.m43, hF.m44, hF.q0, hF.q1, kd_0, kd_2, kd_3, kd_11, kd_19, kd_22, kd_27, kd_87, al_1, al_4, al_5, al_6, al_7, al_8, al_9, al_10, al_12, al_13, al_14, al_15, al_16, al_17, al_18, al_20, al_21, al_23, al_24, al_28, al_29, al_30, al_31, al_32, al_1001, al_1002, ql_25, ql_26, Nat.reduceLT, a8, ab_ixN hpe (show 16 < 2 ^ 31 by decide), nI_clamp (show g 2 1 1 < 2 ^ 31 by omega), hF.p hpe, show 34 + 3 * g 2 1 1 = 33 + 3 * g 2 1 1 + 1 by omega, kdS hs, e1, k0, a9, nI_add, show ¬ nI 16 = 0 by decide, not_false_eq_true, pk_rem (show g 2 1 1 + 1 < 2 ^ 31 by omega) (show 0 < 16 by decide) (show 16 < 2 ^ 31 by decide), wI_k (show 9 ≠ 8 by decide), nI_min (show g 2 1 2 + 1 < 2 ^ 31 by omega) (show 16 < 2 ^ 31 by decide)]
  · rw [keepA_0]
    exact h.C.off fun k hk => e _ (by unfold IsC at hc; omega)
  · rw [keepA_0, keepA_1]
    exact h.S.off fun k hk => e _ (by omega)
  · simp only [keepA_2]
    rw [e 1 (by omega), wI_k (by decide), wI_k (by decide), k0]
    simpa using h.2.2.1
  · simp only [keepA_2, wI_self, wI_k (show 11 ≠ 9 by decide), wI_k (show 11 ≠ 8 by decide), wI_k (show 8 ≠ 9 by decide), k0]
    simpa using h.kb
  · simp only [keepA_2] at hr
    simp at hr
    rw [keepA_0, keepA_r]
    by_cases hj2 : j = g 2 1 1
    · rw [if_pos hj2, hj2]
      exact S1.off fun k hk => by
        funext i
        rw [wI_o (by omega), wI_o (by omega)]
    · rw [if_neg hj2]
      exact (h.ri hj ((inR_step hpe hj hr).resolve_left hj2)).off fun k hk => e _ (by omega)
  · simp only [keepA_2] at hr
    simp at hr
    rw [keepA_0, keepA_s hpe]
    exact (h.sl hj hr).off fun k hk => e _ (by omega)
  · simp only [keepA_2, wI_k (show 14 ≠ 9 by decide), wI_k (show 14 ≠ 8 by decide), wI_k (show 16 ≠ 9 by decide), wI_k (show 16 ≠ 8 by decide), k0]
    simpa using h.2.2.2.2.2.2.1
  · simp only [keepA_2]
    rw [e 31 (by omega)]
    simpa using h.2.2.2.2.2.2.2.1
  · simp only [keepA_2]
    rw [e 32 (by omega)]
    simpa using h.2.2.2.2.2.2.2.2.1
  · rw [e 28 (by omega), e 1001 (by omega), e 1002 (by omega)]
    exact h.2.2.2.2.2.2.2.2.2.1
  · exact h.sed
theorem nI_minlt {a : Nat} (ha : a < 2 ^ 30) : (if 16 ≤ a then nI 16 else nI (a + 1)) = nI (min (a + 1) 16) := by
  by_cases h : 16 ≤ a
  · rw [if_pos h, Nat.min_eq_right (by omega)]
  · rw [if_neg h, Nat.min_eq_left (by omega)]
theorem m_keepAct (hp : PG g) (h : MM g sd I R L) : ∃ I', cl Z 134 [.ref 87] I R L = some (none, I', R, L) ∧ MM (keepA g) sd I' R L ∧ FM I I' := by
  have hF := h.F
  have hpe := hp.pe
  have hac := hp.ac
  have h6 := hp.wf.t6
  have a8 := h.pe
  have a9 := h.ac
  have e : ∀ o, o ≠ 87 ∧ o ≠ 103 → wI (wI (cyI I 103 (13 * g 2 1 1) 94 0 13) 87 28 (nI ((g 2 1 1 + 1) % 16))) 87 27 (nI (min (g 2 1 2 + 1) 16)) o = I o := fun o w => by
    funext j
    rw [wI_o w.1, wI_o w.1, cyI_o w.2]
  have k87 : ∀ j, j ≠ 27 ∧ j ≠ 28 → wI (wI (cyI I 103 (13 * g 2 1 1) 94 0 13) 87 28 (nI ((g 2 1 1 + 1) % 16))) 87 27 (nI (min (g 2 1 2 + 1) 16)) 87 j = I 87 j := fun j w => by
    rw [wI_k w.1, wI_k w.2, cyI_o (by decide)]
  refine ⟨wI (wI (cyI I 103 (13 * g 2 1 1) 94 0 13) 87 28 (nI ((g 2 1 1 + 1) % 16))) 87 27 (nI (min (g 2 1 2 + 1) 16)), ?_, ⟨hF, ⟨?_, ?_⟩, ?_, ?_, fun j hj hr => ?_, fun j hj hr => ?_, ?_, ?_, ?_, ?_⟩, fun o a => e o (by omega)⟩
  · rw [n134]
    simp only [e134_0, e134_1, e134_3, e134_5, e134_8, e134_9, e134_12, e134_14, e134_15, e134_18, e134_19, e134_20, e134_21, e134_22, e134_25, e134_26, e134_27, e134_28, e134_31, e134_34, e134_35, e134_36, e134_39, e134_40, e134_41, e134_43, e134_44, e134_47, e134_48, e134_49, e134_52, e134_54, e134_57, e134_58, e134_61, e134_62, e134_63, e134_66, e134_68, e134_71, bI_s, bL_s, bV_s, rv_s1, nl_i, nl_a, nl_n, w8_0, w8_i, w8_a, w8_l, ct_i, ct_a, b01_0, b01_1, b01_b]
    have key := loop_up (F := fun i => ex Z 0 0 134 2 [some (.ref 87), some (.int (nI i))] [] (cyI I 103 (13 * g 2 1 1) 94 0 i) R L) (r := some (none, wI (wI (cyI I 103 (13 * g 2 1 1) 94 0 13) 87 28 (nI ((g 2 1 1 + 1) % 16))) 87 27 (nI (min (g 2 1 2 + 1) 16)), R, L)) 13 (fun i hi => ?_) ?_ 0 (Nat.zero_le _)
    · rw [cyI_0] at key
      exact key
    · have q := cyI_src (I := I) (d := 103) (b := 13 * g 2 1 1) (s := 94) (c := 0) (i := i) (Or.inl (by decide))
      have q2 := cyI_step (I := I) (d := 103) (b := 13 * g 2 1 1) (s := 94) (c := 0) (i := i)
      rw [Nat.zero_add] at q q2
      have q8 : cyI I 103 (13 * g 2 1 1) 94 0 i 87 28 = nI (g 2 1 1) := by rw [cyI_o (by decide), a8]
      rw [e134_2]
      simp only [e134_0, e134_1, e134_3, e134_5, e134_8, e134_9, e134_12, e134_14, e134_15, e134_18, e134_19, e134_20, e134_21, e134_22, e134_25, e134_26, e134_27, e134_28, e134_31, e134_34, e134_35, e134_36, e134_39, e134_40, e134_41, e134_43, e134_44, e134_47, e134_48, e134_49, e134_52, e134_54, e134_57, e134_58, e134_61, e134_62, e134_63, e134_66, e134_68, e134_71, bI_s, bL_s, bV_s, rv_s1, nl_i, nl_a, nl_n, w8_0, w8_i, w8_a, w8_l, ct_i, ct_a, b01_0, b01_1, b01_b, hF.m4, hF.m5, hF.m6, hF.m7, hF.m8, hF.m9, hF.m10, hF.m16, hF.m17, hF.m18, hF.m19, hF.m20, hF.m21, hF.m22, hF.m23, hF.m29, hF.m30, hF.m35, hF.m37, hF.m38, hF.m40, hF.m41, hF.m43, hF.m44, kd_87, al_88, al_89, al_90, al_91, al_92, al_93, al_94, al_95, al_96, al_97, al_98, al_99, al_100, al_101, al_102, al_103, al_104, al_105, al_106, al_108, al_111, zl_107, zl_109, zl_110, Nat.reduceLT, nI_leI (show 13 < 2 ^ 31 by decide) (show i < 2 ^ 31 by omega), show ¬ 13 ≤ i by omega, if_false, q8, pk_mul, nI_add, ab_ixN (show 13 * g 2 1 1 + i < 208 by omega) (by decide), ab_ixN (show i < 26 by omega) (by decide), nI_clamp (show 13 * g 2 1 1 + i < 2 ^ 31 by omega), nI_clamp (show i < 2 ^ 31 by omega), q, q2]
    · have q8 : cyI I 103 (13 * g 2 1 1) 94 0 13 87 28 = nI (g 2 1 1) := by rw [cyI_o (by decide), a8]
      have q9 : cyI I 103 (13 * g 2 1 1) 94 0 13 87 27 = nI (g 2 1 2) := by rw [cyI_o (by decide), a9]
      rw [e134_2]
      simp only [e134_0, e134_1, e134_3, e134_5, e134_8, e134_9, e134_12, e134_14, e134_15, e134_18, e134_19, e134_20, e134_21, e134_22, e134_25, e134_26, e134_27, e134_28, e134_31, e134_34, e134_35, e134_36, e134_39, e134_40, e134_41, e134_43, e134_44, e134_47, e134_48, e134_49, e134_52, e134_54, e134_57, e134_58, e134_61, e134_62, e134_63, e134_66, e134_68, e134_71, bI_s, bL_s, bV_s, rv_s1, nl_i, nl_a, nl_n, w8_0, w8_i, w8_a, w8_l, ct_i, ct_a, b01_0, b01_1, b01_b, hF.m4, hF.m5, hF.m6, hF.m7, hF.m8, hF.m9, hF.m10, hF.m16, hF.m17, hF.m18, hF.m19, hF.m20, hF.m21, hF.m22, hF.m23, hF.m29, hF.m30, hF.m35, hF.m37, hF.m38, hF.m40, hF.m41, hF.m43, hF.m44, kd_87, al_88, al_89, al_90, al_91, al_92, al_93, al_94, al_95, al_96, al_97, al_98, al_99, al_100, al_101, al_102, al_103, al_104, al_105, al_106, al_108, al_111, zl_107, zl_109, zl_110, Nat.reduceLT, Int32.le_refl, if_true, q8, nI_add, show ¬ nI 16 = 0 by decide, not_false_eq_true, pk_rem (show g 2 1 1 + 1 < 2 ^ 31 by omega) (show 0 < 16 by decide) (show 16 < 2 ^ 31 by decide), wI_k (show 27 ≠ 28 by decide), q9, nI_leI (show 16 < 2 ^ 31 by decide) (show g 2 1 2 < 2 ^ 31 by omega)]
      have := nI_minlt (show g 2 1 2 < 2 ^ 30 by omega)
      by_cases hh : 16 ≤ g 2 1 2
      · rw [if_pos hh] at this ⊢
        rw [this]
      · rw [if_neg hh] at this ⊢
        rw [this]
  · rw [keepA_0]
    unfold MC
    rw [k87 0 (by decide), k87 1 (by decide), k87 2 (by decide), k87 3 (by decide), e 88 (by decide), e 89 (by decide), e 90 (by decide), e 91 (by decide), e 92 (by decide), e 93 (by decide)]
    exact h.C
  · rw [keepA_0, keepA_1, e 94 (by decide)]
    exact h.S
  · simp only [keepA_2]
    rw [e 102 (by decide), k87 24 (by decide)]
    simpa using h.2.2.1
  · simp only [keepA_2, wI_self, wI_k (show 28 ≠ 27 by decide), e 110 (by decide)]
    simpa using h.2.2.2.1.2.2
  · simp only [keepA_2] at hr
    simp at hr
    rw [keepA_0, keepA_r]
    have e103 : ∀ i, wI (wI (cyI I 103 (13 * g 2 1 1) 94 0 13) 87 28 (nI ((g 2 1 1 + 1) % 16))) 87 27 (nI (min (g 2 1 2 + 1) 16)) 103 i = cyI I 103 (13 * g 2 1 1) 94 0 13 103 i := fun i => by rw [wI_o (by decide), wI_o (by decide)]
    have e103' : wI (wI (cyI I 103 (13 * g 2 1 1) 94 0 13) 87 28 (nI ((g 2 1 1 + 1) % 16))) 87 27 (nI (min (g 2 1 2 + 1) 16)) 103 = cyI I 103 (13 * g 2 1 1) 94 0 13 103 := funext e103
    rw [e103']
    by_cases hj2 : j = g 2 1 1
    · rw [if_pos hj2, hj2]
      exact cyI_MS h6 h.S
    · rw [if_neg hj2]
      exact (h.ri hj ((inR_step hpe hj hr).resolve_left hj2)).off h6 (fun i hi => cyI_out hi) (by omega)
  · simp only [keepA_2] at hr
    simp at hr
    rw [keepA_0, keepA_s hpe, e 111 (by decide)]
    exact h.sl hj hr
  · simp only [keepA_2]
    rw [k87 36 (by decide), k87 39 (by decide)]
    simpa using h.2.2.2.2.2.2.1
  · simp only [keepA_2]
    rw [e 106 (by decide), e 107 (by decide)]
    simpa using h.2.2.2.2.2.2.2.1
  · simp only [keepA_2]
    rw [e 108 (by decide), e 109 (by decide)]
    simpa using h.2.2.2.2.2.2.2.2.1
  · exact h.sed
end ACTS
