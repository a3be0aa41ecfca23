/-! undo, keep, again, behind, quay -/
theorem blwn_eq {co sh : Co} : ∀ n, (∀ h, blwn co n sh 1 h = sh 1 h) ∧ (blwn co n sh 2 0 = sh 2 0) ∧ (blwn co n sh 2 1 = sh 2 1)
  | 0 => ⟨fun _ => rfl, rfl, rfl⟩
  | n + 1 => by
    obtain ⟨a, b, c⟩ := blwn_eq (co := co) (sh := sh) n
    exact ⟨fun h => a h, b, c⟩
theorem stayf_cg2 {co sh sh' : Co} (h1 : ∀ h, sh' 1 h = sh 1 h) (h2 : sh' 2 0 = sh 2 0) (h3 : sh' 2 1 = sh 2 1) (t : Nat) : stayf co sh' t = stayf co sh t := by
  unfold stayf cntf saidf
  rw [h2, h3]
  simp only [h1]
theorem blwn_stay {co sh : Co} (n t : Nat) : stayf co (blwn co n sh) t = stayf co sh t := by
  obtain ⟨a, b, c⟩ := blwn_eq (co := co) (sh := sh) n
  exact stayf_cg2 a b c t
theorem blwn_at {co sh : Co} (hw : WF co) (hv : WS co sh) {t : Nat} (ht : t < co 0 3) : ∀ n, blwn co n sh 0 t = plbf co sh t n
  | 0 => (plbf_0 hv ht).symm
  | n + 1 => by
    have ih := blwn_at hw hv ht n
    have a2 := hv.1 t ht
    show plbf co (blwn co n sh) t 1 = plbf co sh t (n + 1)
    unfold plbf at ih ⊢
    rw [blwn_stay, ih]
    split
    · rfl
    · rw [Nat.add_mul, Nat.one_mul]
      generalize n * co 4 (top co t) = k
      omega
theorem blwn_last {co sh : Co} (hw : WF co) (hv : WS co sh) (n : Nat) : lastf co (blwn co n sh) 0 = lastf co sh n := by
  unfold lastf
  refine mk_congr _ fun t ht => ?_
  rw [plbf_0 (blwn_WS hv n) ht, blwn_at hw hv ht n]
theorem r26 {R : ab_R} (hF : Fx R) {k : Nat} (hk : k < 2) : R 26 k = 81 + 3 * k + 1 := by
  rcases (show k = 0 ∨ k = 1 by omega) with rfl | rfl
  · exact hF.q0
  · exact hF.q1
section BACK
variable {Z : Nat}
theorem B_undo : Both Z 72 142 [] := by
  intro g sd hp
  have hw := hp.wf
  have hv := hp.ws
  have h6 := hw.t6
  have hpe := hp.pe
  have hac := hp.ac
  by_cases h0 : g 2 1 2 = 0
  · refine Both.tell (v := .int (iI (-3))) hp (fun c I R L h => ?_) (fun I R L h => ?_)
    · have a := h.ac
      rw [n72]
      simp only [e72_0, e72_1, e72_4, e72_7, e72_9, e72_10, e72_11, e72_12, e72_15, e72_17, e72_18, e72_19, e72_20, e72_22, e72_23, e72_26, e72_27, e72_28, e72_31, e72_32, e72_33, e72_36, e72_37, e72_40, e72_41, e72_44, e72_45, e72_48, e72_49, e72_52, e72_53, e72_56, bI_s, bL_s, bV_s, rv_s1, nl_i, nl_a, nl_n, w8_0, w8_i, w8_a, w8_l, ct_i, ct_a, b01_0, b01_1, b01_b, kd_0, a, h0, Int32.lt_irrefl, if_false]
    · have a := h.ac
      rw [n142]
      simp only [e142_0, e142_1, e142_4, e142_7, e142_9, e142_10, e142_11, e142_12, e142_15, e142_16, e142_17, e142_20, e142_21, e142_22, e142_25, e142_27, e142_28, e142_30, e142_31, e142_34, e142_35, e142_37, e142_39, e142_42, e142_43, e142_46, e142_47, e142_48, e142_51, e142_53, e142_54, e142_57, e142_58, e142_59, e142_60, e142_61, e142_62, e142_65, e142_68, e142_69, e142_72, bI_s, bL_s, bV_s, rv_s1, nl_i, nl_a, nl_n, w8_0, w8_i, w8_a, w8_l, ct_i, ct_a, b01_0, b01_1, b01_b, kd_87, a, h0, if_true]
  · have hj : (g 2 1 1 + 15) % 16 < 16 := Nat.mod_lt _ (by decide)
    have hin : inR (g 2 1 1) (g 2 1 2) ((g 2 1 1 + 15) % 16) := by
      unfold inR
      omega
    obtain ⟨v1, v2⟩ := hp.ri hj hin
    have q1 : gA (gA g 1 1 ((g 2 1 1 + 15) % 16)) 1 2 (g 2 1 2 - 1) 2 1 1 = (g 2 1 1 + 15) % 16 := by simp [gA_2]
    have q2 : gA (gA g 1 1 ((g 2 1 1 + 15) % 16)) 1 2 (g 2 1 2 - 1) 2 1 2 = g 2 1 2 - 1 := by simp [gA_2]
    have er : ∀ j, j < 16 → inR (gA (gA g 1 1 ((g 2 1 1 + 15) % 16)) 1 2 (g 2 1 2 - 1) 2 1 1) (gA (gA g 1 1 ((g 2 1 1 + 15) % 16)) 1 2 (g 2 1 2 - 1) 2 1 2) j → inR (g 2 1 1) (g 2 1 2) j ∧ gA (gA g 1 1 ((g 2 1 1 + 15) % 16)) 1 2 (g 2 1 2 - 1) (10 + j) = g (10 + j) := by
      intro j hj hr
      rw [q1, q2] at hr
      refine ⟨?_, by simp only [gA_r]⟩
      unfold inR at *
      omega
    have hp1 : PG (gA (gA g 1 1 ((g 2 1 1 + 15) % 16)) 1 2 (g 2 1 2 - 1)) := by
      refine hp.up (by simp only [gA_0]) (by simp only [gA_1]) er (sameS (by simp [gA_2]) (by simp only [gA_s, implies_true])) (by simpa [gA_2] using hp.2.2.2.1) ⟨by rw [q1]; exact hj, by rw [q2]; omega, by simpa [gA_2] using hp.kb⟩ (by simpa [gA_2] using hp.2.2.2.2.2.1) (by simpa [gA_2] using hp.2.2.2.2.2.2.1) (by simpa [gA_2] using hp.2.2.2.2.2.2.2.1)
    refine ⟨.int (nI (g 2 1 2 - 1)), gS (gA (gA g 1 1 ((g 2 1 1 + 15) % 16)) 1 2 (g 2 1 2 - 1)) 1 (g (10 + (g 2 1 1 + 15) % 16)), sd, hp1.now (by simpa only [gA_0] using v1) (by simpa only [gA_0] using v2), fun c I R L h => ?_, fun I R L h => ?_⟩
    · have hF := h.F
      have a8 := h.pe
      have a9 := h.ac
      have x1 : XX (gA (gA g 1 1 ((g 2 1 1 + 15) % 16)) 1 2 (g 2 1 2 - 1)) sd c (wI (wI I 0 8 (nI ((g 2 1 1 + 15) % 16))) 0 9 (nI (g 2 1 2 - 1))) R L := by
        refine h.up (fun o h0 _ _ _ => ?_) (by simp only [gA_0]) (by simp only [gA_1]) er (sameS (by simp [gA_2]) (by simp only [gA_s, implies_true])) ?_ ⟨by rw [q1]; rfl, by rw [q2]; rfl, ?_⟩ ?_ ?_ ?_ h.sed
        · funext j
          rw [wI_o h0, wI_o h0]
        · simpa [gA_2, wI_app] using h.2.2.1
        · simpa [gA_2, wI_app] using h.kb
        · simpa [gA_2, wI_app] using h.2.2.2.2.2.2.1
        · simpa [gA_2, wI_app] using h.2.2.2.2.2.2.2.1
        · simpa [gA_2, wI_app] using h.2.2.2.2.2.2.2.2.1
      have S1 : XS (wI (wI I 0 8 (nI ((g 2 1 1 + 15) % 16))) 0 9 (nI (g 2 1 2 - 1))) (33 + 3 * ((g 2 1 1 + 15) % 16)) (g 0) (g (10 + (g 2 1 1 + 15) % 16)) := (h.ri hj hin).off fun k hk => by
        funext j
        rw [wI_o (by omega), wI_o (by omega)]
      obtain ⟨I2, e2, o2, S2⟩ := s_copy (Z := Z) (L := L) hF IsS_19 (IsS_p hj) (by omega) h6 S1
      have k0 : I2 0 9 = nI (g 2 1 2 - 1) := by rw [o2 0 (by decide) (by decide) (by decide), wI_self]
      refine ⟨c, I2, R, L, ?_, x1.now o2 (by simpa only [gA_0] using S2), FX.tr (fun o a b => ?_) (o2.fx IsS_19), rfl⟩
      · rw [n72]
        simp only [e72_0, e72_1, e72_4, e72_7, e72_9, e72_10, e72_11, e72_12, e72_15, e72_17, e72_18, e72_19, e72_20, e72_22, e72_23, e72_26, e72_27, e72_28, e72_31, e72_32, e72_33, e72_36, e72_37, e72_40, e72_41, e72_44, e72_45, e72_48, e72_49, e72_52, e72_53, e72_56, bI_s, bL_s, bV_s, rv_s1, nl_i, nl_a, nl_n, w8_0, w8_i, w8_a, w8_l, ct_i, ct_a, b01_0, b01_1, b01_b, hF.x0, hF.x2, hF.x5, hF.x6, hF.x7, hF.x10, hF.x12, hF.x13, hF.x15, hF.k0, hF.k1, hF.k2, hF.m4, hF.m5, hF.m6, hF.m7, hF.m8, hF.m9, hF.m10, hF.m16, hF.m17, hF.m18, hF.m19, hF.m20, hF.m21, hF.m22, hF.m23, hF.m29, hF.m30, hF.m35, hF.m37, hF.m38, hF.m40, hF.m41, hF.m43, hF.m44, hF.q0, hF.q1, kd_0, kd_2, kd_3, kd_11, kd_19, kd_22, kd_27, kd_87, al_1, al_4, al_5, al_6, al_7, al_8, al_9, al_10, al_12, al_13, al_14, al_15, al_16, al_17, al_18, al_20, al_21, al_23, al_24, al_28, al_29, al_30, al_31, al_32, al_1001, al_1002, ql_25, ql_26, Nat.reduceLT, a8, a9, nI_ltI (show 0 < 2 ^ 31 by decide) (show g 2 1 2 < 2 ^ 31 by omega), show 0 < g 2 1 2 by omega, if_true, nI_add, pk_sub (show 1 ≤ g 2 1 1 + 16 by omega), show g 2 1 1 + 16 - 1 = g 2 1 1 + 15 by omega, show ¬ nI 16 = 0 by decide, not_false_eq_true, pk_rem (show g 2 1 1 + 15 < 2 ^ 31 by omega) (show 0 < 16 by decide) (show 16 < 2 ^ 31 by decide), wI_k (show 9 ≠ 8 by decide), pk_sub (show 1 ≤ g 2 1 2 by omega), wI_k (show 8 ≠ 9 by decide), wI_self, ab_ixN hj (show 16 < 2 ^ 31 by decide), nI_clamp (show (g 2 1 1 + 15) % 16 < 2 ^ 31 by omega), hF.p hj, show 34 + 3 * ((g 2 1 1 + 15) % 16) = 33 + 3 * ((g 2 1 1 + 15) % 16) + 1 by omega, e2, k0]
      · funext j
        rw [wI_o (by omega), wI_o (by omega)]
    · have hF := h.F
      have a8 := h.pe
      have a9 := h.ac
      have x1 : MM (gA (gA g 1 1 ((g 2 1 1 + 15) % 16)) 1 2 (g 2 1 2 - 1)) sd (wI (wI I 87 27 (nI (g 2 1 2 - 1))) 87 28 (nI ((g 2 1 1 + 15) % 16))) R L := by
        refine h.up (fun o h0 _ _ _ _ _ _ => ?_) (fun k hk => ?_) (by simp only [gA_0]) (by simp only [gA_1]) er (sameS (by simp [gA_2]) (by simp only [gA_s, implies_true])) ?_ ⟨by rw [q1]; rfl, by rw [q2]; rfl, ?_⟩ ?_ ?_ ?_ h.sed
        · funext j
          rw [wI_o h0, wI_o h0]
        · rw [wI_k (by omega), wI_k (by omega)]
        · simpa [gA_2, wI_app] using h.2.2.1
        · simpa [gA_2, wI_app] using h.2.2.2.1.2.2
        · simpa [gA_2, wI_app] using h.2.2.2.2.2.2.1
        · simpa [gA_2, wI_app] using h.2.2.2.2.2.2.2.1
        · simpa [gA_2, wI_app] using h.2.2.2.2.2.2.2.2.1
      have S1 : MS (wI (wI I 87 27 (nI (g 2 1 2 - 1))) 87 28 (nI ((g 2 1 1 + 15) % 16)) 103) (13 * ((g 2 1 1 + 15) % 16)) (g 0) (g (10 + (g 2 1 1 + 15) % 16)) := h.ri hj hin
      have S2 := cyI_MS (d := 94) (b := 0) h6 S1
      have o2 : OffL (wI (wI I 87 27 (nI (g 2 1 2 - 1))) 87 28 (nI ((g 2 1 1 + 15) % 16))) (cyI (wI (wI I 87 27 (nI (g 2 1 2 - 1))) 87 28 (nI ((g 2 1 1 + 15) % 16))) 94 0 103 (13 * ((g 2 1 1 + 15) % 16)) 13) 0 := ⟨fun o ho => cyI_o ho, fun j hj => cyI_out hj⟩
      refine ⟨cyI (wI (wI I 87 27 (nI (g 2 1 2 - 1))) 87 28 (nI ((g 2 1 1 + 15) % 16))) 94 0 103 (13 * ((g 2 1 1 + 15) % 16)) 13, L, ?_, x1.now o2 (by simpa only [gA_0] using S2), FM.tr (fun o a => ?_) o2.fm, rfl⟩
      · rw [n142]
        simp only [e142_0, e142_1, e142_4, e142_7, e142_9, e142_10, e142_11, e142_12, e142_15, e142_16, e142_17, e142_20, e142_21, e142_22, e142_25, e142_27, e142_28, e142_30, e142_31, e142_34, e142_35, e142_37, e142_39, e142_42, e142_43, e142_46, e142_47, e142_48, e142_51, e142_53, e142_54, e142_57, e142_58, e142_59, e142_60, e142_61, e142_62, e142_65, e142_68, e142_69, e142_72, bI_s, bL_s, bV_s, rv_s1, nl_i, nl_a, nl_n, w8_0, w8_i, w8_a, w8_l, ct_i, ct_a, b01_0, b01_1, b01_b, hF.m4, hF.m5, hF.m6, hF.m7, hF.m8, hF.m9, hF.m10, hF.m16, hF.m17, hF.m18, hF.m19, hF.m20, hF.m21, hF.m22, hF.m23, hF.m29, hF.m30, hF.m35, hF.m37, hF.m38, hF.m40, hF.m41, hF.m43, hF.m44, kd_87, al_88, al_89, al_90, al_91, al_92, al_93, al_94, al_95, al_96, al_97, al_98, al_99, al_100, al_101, al_102, al_103, al_104, al_105, al_106, al_108, al_111, zl_107, zl_109, zl_110, Nat.reduceLT, a8, a9, nI_eq (show g 2 1 2 < 2 ^ 31 by omega) (show 0 < 2 ^ 31 by decide), h0, if_false, nI_add, show ¬ nI 16 = 0 by decide, not_false_eq_true, pk_rem (show g 2 1 1 + 15 < 2 ^ 31 by omega) (show 0 < 16 by decide) (show 16 < 2 ^ 31 by decide), wI_k (show 28 ≠ 27 by decide), pk_sub (show 1 ≤ g 2 1 2 by omega)]
        have key := loop_up (F := fun i => ex Z 0 0 142 36 [some (.ref 87), some (.int (nI i))] [] (cyI (wI (wI I 87 27 (nI (g 2 1 2 - 1))) 87 28 (nI ((g 2 1 1 + 15) % 16))) 94 0 103 (13 * ((g 2 1 1 + 15) % 16)) i) R L) (r := some (some (.int (nI (g 2 1 2 - 1))), cyI (wI (wI I 87 27 (nI (g 2 1 2 - 1))) 87 28 (nI ((g 2 1 1 + 15) % 16))) 94 0 103 (13 * ((g 2 1 1 + 15) % 16)) 13, R, L)) 13 (fun i hi => ?_) ?_ 0 (Nat.zero_le _)
        · rw [cyI_0] at key
          exact key
        · have q := cyI_src (I := wI (wI I 87 27 (nI (g 2 1 2 - 1))) 87 28 (nI ((g 2 1 1 + 15) % 16))) (d := 94) (b := 0) (s := 103) (c := 13 * ((g 2 1 1 + 15) % 16)) (i := i) (Or.inl (by decide))
          have q2 := cyI_step (I := wI (wI I 87 27 (nI (g 2 1 2 - 1))) 87 28 (nI ((g 2 1 1 + 15) % 16))) (d := 94) (b := 0) (s := 103) (c := 13 * ((g 2 1 1 + 15) % 16)) (i := i)
          rw [Nat.zero_add] at q2
          have q8 : cyI (wI (wI I 87 27 (nI (g 2 1 2 - 1))) 87 28 (nI ((g 2 1 1 + 15) % 16))) 94 0 103 (13 * ((g 2 1 1 + 15) % 16)) i 87 28 = nI ((g 2 1 1 + 15) % 16) := by rw [cyI_o (by decide), wI_self]
          rw [e142_36]
          simp only [e142_0, e142_1, e142_4, e142_7, e142_9, e142_10, e142_11, e142_12, e142_15, e142_16, e142_17, e142_20, e142_21, e142_22, e142_25, e142_27, e142_28, e142_30, e142_31, e142_34, e142_35, e142_37, e142_39, e142_42, e142_43, e142_46, e142_47, e142_48, e142_51, e142_53, e142_54, e142_57, e142_58, e142_59, e142_60, e142_61, e142_62, e142_65, e142_68, e142_69, e142_72, bI_s, bL_s, bV_s, rv_s1, nl_i, nl_a, nl_n, w8_0, w8_i, w8_a, w8_l, ct_i, ct_a, b01_0, b01_1, b01_b, hF.m4, hF.m5, hF.m6, hF.m7, hF.m8, hF.m9, hF.m10, hF.m16, hF.m17, hF.m18, hF.m19, hF.m20, hF.m21, hF.m22, hF.m23, hF.m29, hF.m30, hF.m35, hF.m37, hF.m38, hF.m40, hF.m41, hF.m43, hF.m44, kd_87, al_88, al_89, al_90, al_91, al_92, al_93, al_94, al_95, al_96, al_97, al_98, al_99, al_100, al_101, al_102, al_103, al_104, al_105, al_106, al_108, al_111, zl_107, zl_109, zl_110, Nat.reduceLT, nI_leI (show 13 < 2 ^ 31 by decide) (show i < 2 ^ 31 by omega), show ¬ 13 ≤ i by omega, if_false, q8, pk_mul, nI_add, ab_ixN (show 13 * ((g 2 1 1 + 15) % 16) + i < 208 by omega) (show 208 < 2 ^ 31 by decide), ab_ixN (show i < 26 by omega) (show 26 < 2 ^ 31 by decide), nI_clamp (show 13 * ((g 2 1 1 + 15) % 16) + i < 2 ^ 31 by omega), nI_clamp (show i < 2 ^ 31 by omega), q, q2]
        · have q9 : cyI (wI (wI I 87 27 (nI (g 2 1 2 - 1))) 87 28 (nI ((g 2 1 1 + 15) % 16))) 94 0 103 (13 * ((g 2 1 1 + 15) % 16)) 13 87 27 = nI (g 2 1 2 - 1) := by rw [cyI_o (by decide), wI_k (by decide), wI_self]
          rw [e142_36]
          simp only [e142_0, e142_1, e142_4, e142_7, e142_9, e142_10, e142_11, e142_12, e142_15, e142_16, e142_17, e142_20, e142_21, e142_22, e142_25, e142_27, e142_28, e142_30, e142_31, e142_34, e142_35, e142_37, e142_39, e142_42, e142_43, e142_46, e142_47, e142_48, e142_51, e142_53, e142_54, e142_57, e142_58, e142_59, e142_60, e142_61, e142_62, e142_65, e142_68, e142_69, e142_72, bI_s, bL_s, bV_s, rv_s1, nl_i, nl_a, nl_n, w8_0, w8_i, w8_a, w8_l, ct_i, ct_a, b01_0, b01_1, b01_b, hF.m4, hF.m5, hF.m6, hF.m7, hF.m8, hF.m9, hF.m10, hF.m16, hF.m17, hF.m18, hF.m19, hF.m20, hF.m21, hF.m22, hF.m23, hF.m29, hF.m30, hF.m35, hF.m37, hF.m38, hF.m40, hF.m41, hF.m43, hF.m44, kd_87, al_88, al_89, al_90, al_91, al_92, al_93, al_94, al_95, al_96, al_97, al_98, al_99, al_100, al_101, al_102, al_103, al_104, al_105, al_106, al_108, al_111, zl_107, zl_109, zl_110, Nat.reduceLT, Int32.le_refl, if_true, q9]
      · funext j
        rw [wI_o (by omega), wI_o (by omega)]
theorem slot_f {x : Int32} (h : hasI x 2 = false) : x < nI 0 ∨ ¬ x < nI 2 := by
  rcases hasI_f h with h | h
  · exact Or.inl ((lt0_iff x).mpr h)
  · refine Or.inr ?_
    rw [Int32.lt_iff_toInt_lt, nI_toInt (by decide)]
    exact fun w => by omega
theorem B_keep (x : Int32) : Both Z 103 185 [.int x] := by
  intro g sd hp
  have hw := hp.wf
  have hv := hp.ws
  have h6 := hw.t6
  have hkb := hp.kb
  cases hx : hasI x 2 with
  | false =>
    refine Both.tell (v := .int (iI (-1))) hp (fun c I R L h => ?_) (fun I R L h => ?_)
    · rw [n103]
      simp only [e103_0, e103_1, e103_4, e103_5, e103_6, e103_9, e103_10, e103_11, e103_12, e103_15, e103_16, e103_17, e103_18, e103_21, e103_24, e103_25, e103_26, e103_29, e103_30, e103_31, e103_32, e103_33, e103_36, e103_37, e103_40, e103_43, bI_s, bL_s, bV_s, rv_s1, nl_i, nl_a, nl_n, w8_0, w8_i, w8_a, w8_l, ct_i, ct_a, b01_0, b01_1, b01_b]
      rcases slot_f hx with h1 | h1
      · rw [if_pos h1]
      · rw [if_neg h1]
        split <;> rfl
    · rw [n185]
      simp only [e185_0, e185_1, e185_2, e185_3, e185_4, e185_7, e185_10, e185_11, e185_12, e185_13, e185_16, e185_17, e185_18, e185_19, e185_20, e185_22, e185_24, e185_27, e185_28, e185_31, e185_33, e185_34, e185_35, e185_36, e185_37, e185_38, e185_41, e185_42, e185_43, e185_44, e185_47, e185_50, e185_51, e185_54, e185_56, e185_57, bI_s, bL_s, bV_s, rv_s1, nl_i, nl_a, nl_n, w8_0, w8_i, w8_a, w8_l, ct_i, ct_a, b01_0, b01_1, b01_b, s_in, in_c (show 1 < 2 ^ 31 by decide), hx]
      simp
  | true =>
    obtain ⟨k, hk, rfl⟩ := hasI_t (by decide) hx
    have hs := IsS_k hk
    have kb2 : ∀ j, j < 2 → (g 2 1 3 ||| 2 ^ k).testBit j = ((g 2 1 3).testBit j || decide (k = j)) := fun j _ => by rw [Nat.testBit_or, Nat.testBit_two_pow]
    have e0 : gS (gA g 1 3 (g 2 1 3 ||| 2 ^ k)) (30 + k) (g 1) 0 = g 0 := by rw [gS, if_neg (by omega), gA_0]
    have e1 : gS (gA g 1 3 (g 2 1 3 ||| 2 ^ k)) (30 + k) (g 1) 1 = g 1 := by rw [gS, if_neg (by omega), gA_1]
    have e2 : ∀ b d, gS (gA g 1 3 (g 2 1 3 ||| 2 ^ k)) (30 + k) (g 1) 2 b d = if b = 1 ∧ d = 3 then g 2 1 3 ||| 2 ^ k else g 2 b d := fun b d => by rw [gS, if_neg (by omega), gA_2]
    have e10 : ∀ j, j < 16 → gS (gA g 1 3 (g 2 1 3 ||| 2 ^ k)) (30 + k) (g 1) (10 + j) = g (10 + j) := fun j hj => by rw [gS, if_neg (by omega), gA_r]
    have e30 : ∀ j, gS (gA g 1 3 (g 2 1 3 ||| 2 ^ k)) (30 + k) (g 1) (30 + j) = if j = k then g 1 else g (30 + j) := fun j => by
      rw [gS]
      by_cases h : j = k
      · rw [if_pos h, if_pos (by omega)]
      · rw [if_neg h, if_neg (by omega), gA_s]
    have old : ∀ j, j < 2 → ¬ j = k → (g 2 1 3 ||| 2 ^ k).testBit j = true → (g 2 1 3).testBit j = true := fun j hj hn hb => by
      rw [kb2 j hj, decide_eq_false (fun w => hn w.symm), Bool.or_false] at hb
      exact hb
    refine ⟨.int (nI (g 1 2 2)), gS (gA g 1 3 (g 2 1 3 ||| 2 ^ k)) (30 + k) (g 1), sd, ⟨?_, ?_, ?_, ?_, ?_, ?_, ?_, ?_, ?_, ?_⟩, fun c I R L h => ?_, fun I R L h => ?_⟩
    · rw [e0]
      exact hw
    · rw [e0, e1]
      exact hv
    · rw [e0, e1]
      exact hp.wn
    · simpa [e2] using hp.2.2.2.1
    · have : g 2 1 3 ||| 2 ^ k < 4 := Nat.or_lt_two_pow (n := 2) hkb (Nat.pow_lt_pow_right (by decide) hk)
      simp only [e2]
      simp [this, hp.pe, hp.ac]
    · simpa [e2] using hp.2.2.2.2.2.1
    · simpa [e2] using hp.2.2.2.2.2.2.1
    · simpa [e2] using hp.2.2.2.2.2.2.2.1
    · intro j hj hr
      rw [e0, e10 j hj]
      simp only [e2] at hr
      exact hp.ri hj (by simpa using hr)
    · intro j hj hb
      rw [e0, e30]
      simp only [e2] at hb
      by_cases h : j = k
      · rw [if_pos h]
        exact ⟨hv, hp.wn⟩
      · rw [if_neg h]
        exact hp.sl hj (old j hj h (by simpa using hb))
    · have hF := h.F
      have hc := h.cc
      have a := h.kb
      obtain ⟨I1, q1, f1, S1⟩ := s_copy (Z := Z) (L := L) hF hs IsS_19 (by omega) h6 h.S
      have k0 : ∀ j, I1 0 j = I 0 j := fun j => by rw [f1 0 (by omega) (by omega) (by omega)]
      have k4 : wI I1 0 11 (nI (g 2 1 3 ||| 2 ^ k)) 19 4 = nI (g 1 2 2) := by rw [wI_o (by decide), f1 19 (by omega) (by omega) (by omega), h.S.bl]
      have e : ∀ o, o ≠ 0 ∧ o ≠ 81 + 3 * k ∧ o ≠ 81 + 3 * k + 1 ∧ o ≠ 81 + 3 * k + 2 → wI I1 0 11 (nI (g 2 1 3 ||| 2 ^ k)) o = I o := fun o w => by
        funext j
        rw [wI_o w.1, f1 o w.2.1 w.2.2.1 w.2.2.2]
      refine ⟨c, wI I1 0 11 (nI (g 2 1 3 ||| 2 ^ k)), R, L, ?_, ⟨h.1, ⟨?_, ?_⟩, ?_, ?_, fun j hj hr => ?_, fun j hj hb => ?_, ?_, ?_, ?_, ?_, ?_⟩, fun o a b => e o (by omega), rfl⟩
      · rw [n103]
        simp only [e103_0, e103_1, e103_4, e103_5, e103_6, e103_9, e103_10, e103_11, e103_12, e103_15, e103_16, e103_17, e103_18, e103_21, e103_24, e103_25, e103_26, e103_29, e103_30, e103_31, e103_32, e103_33, e103_36, e103_37, e103_40, e103_43, bI_s, bL_s, bV_s, rv_s1, nl_i, nl_a, nl_n, w8_0, w8_i, w8_a, w8_l, ct_i, ct_a, b01_0, b01_1, b01_b, hF.x0, hF.x2, hF.x5, hF.x6, hF.x7, hF.x10, hF.x12, hF.x13, hF.x15, hF.k0, hF.k1, hF.k2, hF.m4, hF.m5, hF.m6, hF.m7, hF.m8, hF.m9, hF.m10, hF.m16, hF.m17, hF.m18, hF.m19, hF.m20, hF.m21, hF.m22, hF.m23, hF.m29, hF.m30, hF.m35, hF.m37, hF.m38, hF.m40, hF.m41, hF.m43, hF.m44, hF.q0, hF.q1, kd_0, kd_2, kd_3, kd_11, kd_19, kd_22, kd_27, kd_87, al_1, al_4, al_5, al_6, al_7, al_8, al_9, al_10, al_12, al_13, al_14, al_15, al_16, al_17, al_18, al_20, al_21, al_23, al_24, al_28, al_29, al_30, al_31, al_32, al_1001, al_1002, ql_25, ql_26, Nat.reduceLT, nI_ltI (show k < 2 ^ 31 by omega) (show 0 < 2 ^ 31 by decide), Nat.not_lt_zero, if_false, nI_ltI (show k < 2 ^ 31 by omega) (show 2 < 2 ^ 31 by decide), hk, if_true, ab_ixN hk (show 2 < 2 ^ 31 by decide), nI_clamp (show k < 2 ^ 31 by omega), r26 hF hk, kdS hs, q1, k0, a, nI_1shl (show k < 31 by omega), nx_or', k4]
      · rw [e0]
        exact h.C.off fun i hi => e _ (by unfold IsC at hc; omega)
      · rw [e0, e1]
        exact h.S.off fun i hi => e _ (by omega)
      · simp only [e2]
        rw [e 1 (by omega), wI_k (by decide), k0]
        simpa using h.2.2.1
      · simp only [e2, wI_self, wI_k (show 8 ≠ 11 by decide), wI_k (show 9 ≠ 11 by decide), k0]
        simp [h.pe, h.ac]
      · rw [e0, e10 j hj]
        simp only [e2] at hr
        exact (h.ri hj (by simpa using hr)).off fun i hi => e _ (by omega)
      · rw [e0, e30]
        simp only [e2] at hb
        by_cases hjk : j = k
        · rw [if_pos hjk, hjk]
          exact S1.off fun i hi => by
            funext j
            rw [wI_o (by omega)]
        · rw [if_neg hjk]
          exact (h.sl hj (old j hj hjk (by simpa using hb))).off fun i hi => e _ (by omega)
      · simp only [e2, wI_k (show 14 ≠ 11 by decide), wI_k (show 16 ≠ 11 by decide), k0]
        simpa using h.2.2.2.2.2.2.1
      · simp only [e2]
        rw [e 31 (by omega)]
        simpa using h.2.2.2.2.2.2.2.1
      · simp only [e2]
        rw [e 32 (by omega)]
        simpa using h.2.2.2.2.2.2.2.2.1
      · rw [e 28 (by omega), e 1001 (by omega), e 1002 (by omega)]
        exact h.2.2.2.2.2.2.2.2.2.1
      · exact h.sed
    · have hF := h.F
      have e : ∀ o, o ≠ 110 ∧ o ≠ 111 → cyI (wI I 110 k (nI 1)) 111 (13 * k) 94 0 13 o = I o := fun o w => by
        rw [cyI_o w.2]
        funext j
        rw [wI_o w.1]
      have b12 := h.S.bl
      rw [Nat.zero_add] at b12
      refine ⟨cyI (wI I 110 k (nI 1)) 111 (13 * k) 94 0 13, L, ?_, ⟨hF, ⟨?_, ?_⟩, ?_, ⟨?_, ?_, ?_⟩, fun j hj hr => ?_, fun j hj hb => ?_, ?_, ?_, ?_, ?_⟩, fun o a => e o (by omega), rfl⟩
      · rw [n185]
        simp only [e185_0, e185_1, e185_2, e185_3, e185_4, e185_7, e185_10, e185_11, e185_12, e185_13, e185_16, e185_17, e185_18, e185_19, e185_20, e185_22, e185_24, e185_27, e185_28, e185_31, e185_33, e185_34, e185_35, e185_36, e185_37, e185_38, e185_41, e185_42, e185_43, e185_44, e185_47, e185_50, e185_51, e185_54, e185_56, e185_57, bI_s, bL_s, bV_s, rv_s1, nl_i, nl_a, nl_n, w8_0, w8_i, w8_a, w8_l, ct_i, ct_a, b01_0, b01_1, b01_b, hF.m4, hF.m5, hF.m6, hF.m7, hF.m8, hF.m9, hF.m10, hF.m16, hF.m17, hF.m18, hF.m19, hF.m20, hF.m21, hF.m22, hF.m23, hF.m29, hF.m30, hF.m35, hF.m37, hF.m38, hF.m40, hF.m41, hF.m43, hF.m44, kd_87, al_88, al_89, al_90, al_91, al_92, al_93, al_94, al_95, al_96, al_97, al_98, al_99, al_100, al_101, al_102, al_103, al_104, al_105, al_106, al_108, al_111, zl_107, zl_109, zl_110, Nat.reduceLT, s_in, in_c (show 1 < 2 ^ 31 by decide), hx, Bool.toNat_true, nI10, if_false, ab_ixN hk (show 2 < 2 ^ 31 by decide), nI_clamp (show k < 2 ^ 31 by omega)]
        have key := loop_up (F := fun i => ex Z 0 0 185 21 [some (.ref 87), some (.int (nI k)), some (.int (nI i))] [] (cyI (wI I 110 k (nI 1)) 111 (13 * k) 94 0 i) R L) (r := some (some (.int (nI (g 1 2 2))), cyI (wI I 110 k (nI 1)) 111 (13 * k) 94 0 13, R, L)) 13 (fun i hi => ?_) ?_ 0 (Nat.zero_le _)
        · rw [cyI_0] at key
          exact key
        · have q := cyI_src (I := wI I 110 k (nI 1)) (d := 111) (b := 13 * k) (s := 94) (c := 0) (i := i) (Or.inl (by decide))
          have q2 := cyI_step (I := wI I 110 k (nI 1)) (d := 111) (b := 13 * k) (s := 94) (c := 0) (i := i)
          rw [Nat.zero_add] at q q2
          rw [e185_21]
          simp only [e185_0, e185_1, e185_2, e185_3, e185_4, e185_7, e185_10, e185_11, e185_12, e185_13, e185_16, e185_17, e185_18, e185_19, e185_20, e185_22, e185_24, e185_27, e185_28, e185_31, e185_33, e185_34, e185_35, e185_36, e185_37, e185_38, e185_41, e185_42, e185_43, e185_44, e185_47, e185_50, e185_51, e185_54, e185_56, e185_57, bI_s, bL_s, bV_s, rv_s1, nl_i, nl_a, nl_n, w8_0, w8_i, w8_a, w8_l, ct_i, ct_a, b01_0, b01_1, b01_b, hF.m4, hF.m5, hF.m6, hF.m7, hF.m8, hF.m9, hF.m10, hF.m16, hF.m17, hF.m18, hF.m19, hF.m20, hF.m21, hF.m22, hF.m23, hF.m29, hF.m30, hF.m35, hF.m37, hF.m38, hF.m40, hF.m41, hF.m43, hF.m44, kd_87, al_88, al_89, al_90, al_91, al_92, al_93, al_94, al_95, al_96, al_97, al_98, al_99, al_100, al_101, al_102, al_103, al_104, al_105, al_106, al_108, al_111, zl_107, zl_109, zl_110, Nat.reduceLT, nI_leI (show 13 < 2 ^ 31 by decide) (show i < 2 ^ 31 by omega), show ¬ 13 ≤ i by omega, if_false, pk_mul, nI_add, ab_ixN (show 13 * k + i < 26 by omega) (show 26 < 2 ^ 31 by decide), ab_ixN (show i < 26 by omega) (show 26 < 2 ^ 31 by decide), nI_clamp (show 13 * k + i < 2 ^ 31 by omega), nI_clamp (show i < 2 ^ 31 by omega), q, q2]
        · have q9 : cyI (wI I 110 k (nI 1)) 111 (13 * k) 94 0 13 94 12 = nI (g 1 2 2) := by rw [cyI_o (by decide), wI_o (by decide), b12]
          rw [e185_21]
          simp only [e185_0, e185_1, e185_2, e185_3, e185_4, e185_7, e185_10, e185_11, e185_12, e185_13, e185_16, e185_17, e185_18, e185_19, e185_20, e185_22, e185_24, e185_27, e185_28, e185_31, e185_33, e185_34, e185_35, e185_36, e185_37, e185_38, e185_41, e185_42, e185_43, e185_44, e185_47, e185_50, e185_51, e185_54, e185_56, e185_57, bI_s, bL_s, bV_s, rv_s1, nl_i, nl_a, nl_n, w8_0, w8_i, w8_a, w8_l, ct_i, ct_a, b01_0, b01_1, b01_b, hF.m4, hF.m5, hF.m6, hF.m7, hF.m8, hF.m9, hF.m10, hF.m16, hF.m17, hF.m18, hF.m19, hF.m20, hF.m21, hF.m22, hF.m23, hF.m29, hF.m30, hF.m35, hF.m37, hF.m38, hF.m40, hF.m41, hF.m43, hF.m44, kd_87, al_88, al_89, al_90, al_91, al_92, al_93, al_94, al_95, al_96, al_97, al_98, al_99, al_100, al_101, al_102, al_103, al_104, al_105, al_106, al_108, al_111, zl_107, zl_109, zl_110, Nat.reduceLT, Int32.le_refl, if_true, ab_ixN (show 12 < 26 by omega) (show 26 < 2 ^ 31 by decide), nI_clamp (show 12 < 2 ^ 31 by omega), q9]
      · rw [e0]
        unfold MC
        rw [e 87 (by decide), e 88 (by decide), e 89 (by decide), e 90 (by decide), e 91 (by decide), e 92 (by decide), e 93 (by decide)]
        exact h.C
      · rw [e0, e1, e 94 (by decide)]
        exact h.S
      · simp only [e2]
        rw [e 87 (by decide), e 102 (by decide)]
        simpa using h.2.2.1
      · simp only [e2]
        rw [e 87 (by decide)]
        simpa using h.pe
      · simp only [e2]
        rw [e 87 (by decide)]
        simpa using h.ac
      · intro j hj
        simp only [e2]
        rw [cyI_o (by decide)]
        by_cases hjk : j = k
        · rw [hjk, wI_self]
          simp [kb2 k hk]
        · rw [wI_k hjk, h.kb hj]
          simp [kb2 j hj, show ¬ k = j from fun w => hjk w.symm]
      · rw [e0, e10 j hj, e 103 (by decide)]
        simp only [e2] at hr
        exact h.ri hj (by simpa using hr)
      · rw [e0, e30]
        simp only [e2] at hb
        by_cases hjk : j = k
        · rw [if_pos hjk, hjk]
          exact cyI_MS h6 h.S
        · rw [if_neg hjk]
          exact (h.sl hj (old j hj hjk (by simpa using hb))).off h6 (fun i hi => by rw [cyI_out hi]; rfl) (by omega)
      · simp only [e2]
        rw [e 87 (by decide)]
        simpa using h.2.2.2.2.2.2.1
      · simp only [e2]
        rw [e 106 (by decide), e 107 (by decide)]
        simpa using h.2.2.2.2.2.2.2.1
      · simp only [e2]
        rw [e 108 (by decide), e 109 (by decide)]
        simpa using h.2.2.2.2.2.2.2.2.1
      · exact h.sed
end BACK
