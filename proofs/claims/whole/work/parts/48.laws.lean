/-! laws -/
def lesf (a l : Nat) : Bool := lawf l (a / 4) (a.testBit 1) == a.testBit 0
def agrf (le : Nat → Nat) (l : Nat) : Nat → Bool
  | 0 => true
  | n + 1 => agrf le l n && lesf (le n) l
theorem agrf_f {le : Nat → Nat} {l i : Nat} (h : agrf le l i = false) : ∀ d, agrf le l (i + d) = false
  | 0 => h
  | d + 1 => by rw [← Nat.add_assoc, agrf, agrf_f h d]; rfl
def lawsf (g : Gs) : Nat := mk (fun l => agrf (g 2 2) l (g 2 1 4)) 4
theorem lawsf_16 (g : Gs) : lawsf g < 16 := mk_lt _ 4
theorem nI_bt (b : Bool) : (nI b.toNat = nI 1) = (b = true) := propext (nI_b1 b)
theorem nI_bb (b d : Bool) : (nI b.toNat = nI d.toNat) = (b = d) := by cases b <;> cases d <;> decide
section LAWS
variable {Z : Nat} {g : Gs} {sd : Int64} {c : Nat} {I : ab_I} {R : ab_R} {L : ab_L}
theorem x_agrees (hp : PG g) (h : XX g sd c I R L) {l : Nat} (hl : l < 4) : cl Z 92 [.ref 0, .int (nI l)] I R L = some (some (.int (nI (agrf (g 2 2) l (g 2 1 4)).toNat)), I, R, L) := by
  have hln := hp.ln
  have hF := h.F
  have a := h.ln
  rw [n92]
  simp only [e92_0, e92_1, e92_3, e92_4, e92_7, e92_10, e92_11, e92_14, e92_15, e92_16, e92_17, e92_18, e92_19, e92_20, e92_21, e92_22, e92_23, e92_26, e92_27, e92_30, e92_31, e92_34, e92_35, e92_38, e92_39, e92_40, e92_43, e92_44, e92_47, e92_48, e92_51, e92_52, e92_55, e92_56, e92_57, e92_60, e92_63, e92_64, bI_s, bL_s, bV_s, rv_s1, nl_i, nl_a, nl_n, w8_0, w8_i, w8_a, w8_l, ct_i, ct_a, b01_0, b01_1, b01_b]
  have key := loop_all (P := fun i => ∀ y, agrf (g 2 2) l i = true → ex Z 0 0 92 2 [some (.ref 0), some (.int (nI l)), some (.int (nI i)), y] [] I R L = some (some (.int (nI (agrf (g 2 2) l (g 2 1 4)).toNat)), I, R, L)) (g 2 1 4) (fun i hi ih y ht => ?_) (fun y ht => ?_) 0 (Nat.zero_le _)
  · exact key none rfl
  · have hle := hp.le hi
    have hl2 := h.le hi
    have e : agrf (g 2 2) l (i + 1) = lesf (g 2 2 i) l := by rw [agrf, ht, Bool.true_and]
    rw [e92_2]
    simp only [e92_0, e92_1, e92_3, e92_4, e92_7, e92_10, e92_11, e92_14, e92_15, e92_16, e92_17, e92_18, e92_19, e92_20, e92_21, e92_22, e92_23, e92_26, e92_27, e92_30, e92_31, e92_34, e92_35, e92_38, e92_39, e92_40, e92_43, e92_44, e92_47, e92_48, e92_51, e92_52, e92_55, e92_56, e92_57, e92_60, e92_63, e92_64, bI_s, bL_s, bV_s, rv_s1, nl_i, nl_a, nl_n, w8_0, w8_i, w8_a, w8_l, ct_i, ct_a, b01_0, b01_1, b01_b, hF.x0, hF.x2, hF.x5, hF.x6, hF.x7, hF.x10, hF.x12, hF.x13, hF.x15, hF.k0, hF.k1, hF.k2, hF.m4, hF.m5, hF.m6, hF.m7, hF.m8, hF.m9, hF.m10, hF.m16, hF.m17, hF.m18, hF.m19, hF.m20, hF.m21, hF.m22, hF.m23, hF.m29, hF.m30, hF.m35, hF.m37, hF.m38, hF.m40, hF.m41, hF.m43, hF.m44, hF.q0, hF.q1, kd_0, kd_2, kd_3, kd_11, kd_19, kd_22, kd_27, kd_87, al_1, al_4, al_5, al_6, al_7, al_8, al_9, al_10, al_12, al_13, al_14, al_15, al_16, al_17, al_18, al_20, al_21, al_23, al_24, al_28, al_29, al_30, al_31, al_32, al_1001, al_1002, ql_25, ql_26, Nat.reduceLT, a, nI_leI (show g 2 1 4 < 2 ^ 31 by omega) (show i < 2 ^ 31 by omega), show ¬ g 2 1 4 ≤ i by omega, if_false, ab_ixN (show i < 6 by omega) (show 6 < 2 ^ 31 by decide), nI_clamp (show i < 2 ^ 31 by omega), hl2, show ¬ nI 4 = 0 by decide, not_false_eq_true, pk_div (show g 2 2 i < 2 ^ 31 by omega) (show 0 < 4 by decide) (show 4 < 2 ^ 31 by decide), s_bit (show g 2 2 i < 2 ^ 31 by omega) (show 1 < 31 by decide), s_bit (show g 2 2 i < 2 ^ 31 by omega) (show 0 < 31 by decide), nI_bt, s_holds1 (show l ≤ 3 by omega) (show g 2 2 i / 4 < 2 ^ 31 by omega), s_holds0 (show l ≤ 3 by omega) (show g 2 2 i / 4 < 2 ^ 31 by omega), nI_add, nI_b]
    have ih2 := fun h9 => ih (some (.int (nI (g 2 2 i)))) (e.trans h9)
    have hf : lesf (g 2 2 i) l = false → agrf (g 2 2) l (g 2 1 4) = false := fun h9 => by
      have := agrf_f (e.trans h9) (g 2 1 4 - (i + 1))
      rwa [show i + 1 + (g 2 1 4 - (i + 1)) = g 2 1 4 by omega] at this
    unfold lesf at ih2 hf
    cases b1 : (g 2 2 i).testBit 1 <;> cases b0 : (g 2 2 i).testBit 0 <;> simp only [b1, b0] at ih2 hf
    · cases b2 : lawf l (g 2 2 i / 4) false <;> simp [b2] at ih2 hf ⊢
      · exact ih2
      · simp [hf]
    · cases b2 : lawf l (g 2 2 i / 4) false <;> simp [b2] at ih2 hf ⊢
      · simp [hf]
      · exact ih2
    · cases b2 : lawf l (g 2 2 i / 4) true <;> simp [b2] at ih2 hf ⊢
      · exact ih2
      · simp [hf]
    · cases b2 : lawf l (g 2 2 i / 4) true <;> simp [b2] at ih2 hf ⊢
      · simp [hf]
      · exact ih2
  · rw [e92_2]
    simp only [e92_0, e92_1, e92_3, e92_4, e92_7, e92_10, e92_11, e92_14, e92_15, e92_16, e92_17, e92_18, e92_19, e92_20, e92_21, e92_22, e92_23, e92_26, e92_27, e92_30, e92_31, e92_34, e92_35, e92_38, e92_39, e92_40, e92_43, e92_44, e92_47, e92_48, e92_51, e92_52, e92_55, e92_56, e92_57, e92_60, e92_63, e92_64, bI_s, bL_s, bV_s, rv_s1, nl_i, nl_a, nl_n, w8_0, w8_i, w8_a, w8_l, ct_i, ct_a, b01_0, b01_1, b01_b, hF.x0, hF.x2, hF.x5, hF.x6, hF.x7, hF.x10, hF.x12, hF.x13, hF.x15, hF.k0, hF.k1, hF.k2, hF.m4, hF.m5, hF.m6, hF.m7, hF.m8, hF.m9, hF.m10, hF.m16, hF.m17, hF.m18, hF.m19, hF.m20, hF.m21, hF.m22, hF.m23, hF.m29, hF.m30, hF.m35, hF.m37, hF.m38, hF.m40, hF.m41, hF.m43, hF.m44, hF.q0, hF.q1, kd_0, kd_2, kd_3, kd_11, kd_19, kd_22, kd_27, kd_87, al_1, al_4, al_5, al_6, al_7, al_8, al_9, al_10, al_12, al_13, al_14, al_15, al_16, al_17, al_18, al_20, al_21, al_23, al_24, al_28, al_29, al_30, al_31, al_32, al_1001, al_1002, ql_25, ql_26, Nat.reduceLT, a, Int32.le_refl, if_true, ht, Bool.toNat_true]
theorem x_laws (hp : PG g) (h : XX g sd c I R L) : cl Z 91 [.ref 0] I R L = some (some (.int (nI (lawsf g))), I, R, L) := by
  rw [n91]
  simp only [e91_0, e91_1, e91_2, e91_3, e91_5, e91_6, e91_9, e91_10, e91_11, e91_14, e91_17, e91_18, e91_19, e91_20, e91_21, e91_22, e91_23, e91_26, e91_29, e91_30, bI_s, bL_s, bV_s, rv_s1, nl_i, nl_a, nl_n, w8_0, w8_i, w8_a, w8_l, ct_i, ct_a, b01_0, b01_1, b01_b]
  refine loop_up (F := fun i => ex Z 0 0 91 4 [some (.ref 0), some (.int (nI (mk (fun l => agrf (g 2 2) l (g 2 1 4)) i))), some (.int (nI i))] [] I R L) 4 (fun i hi => ?_) ?_ 0 (Nat.zero_le _)
  · rw [e91_4]
    simp only [e91_0, e91_1, e91_2, e91_3, e91_5, e91_6, e91_9, e91_10, e91_11, e91_14, e91_17, e91_18, e91_19, e91_20, e91_21, e91_22, e91_23, e91_26, e91_29, e91_30, bI_s, bL_s, bV_s, rv_s1, nl_i, nl_a, nl_n, w8_0, w8_i, w8_a, w8_l, ct_i, ct_a, b01_0, b01_1, b01_b, kd_0, kd_2, kd_3, kd_11, kd_19, kd_22, kd_27, kd_87, nI_leI (show 4 < 2 ^ 31 by decide) (show i < 2 ^ 31 by omega), show ¬ 4 ≤ i by omega, if_false, x_agrees hp h hi, nI_b, nI_1shl (show i < 31 by omega), nx_or', nI_add, mk]
    by_cases hag : agrf (g 2 2) i (g 2 1 4) = true <;> simp [hag]
  · rw [e91_4]
    simp only [e91_0, e91_1, e91_2, e91_3, e91_5, e91_6, e91_9, e91_10, e91_11, e91_14, e91_17, e91_18, e91_19, e91_20, e91_21, e91_22, e91_23, e91_26, e91_29, e91_30, bI_s, bL_s, bV_s, rv_s1, nl_i, nl_a, nl_n, w8_0, w8_i, w8_a, w8_l, ct_i, ct_a, b01_0, b01_1, b01_b, Int32.le_refl, if_true]
    rfl
theorem m_byLaw {l q : Nat} {b : Bool} (hl : l < 4) (hq : q < 100) : cl Z 176 [.int (nI l), .int (nI (10 * q + b.toNat))] I R L = some (some (.int (nI (lawf l q b).toNat)), I, R, L) := by
  have hb := Bool.toNat_le b
  rw [n176]
  simp only [e176_0, e176_1, e176_2, e176_4, e176_5, e176_6, e176_8, e176_9, e176_10, e176_13, e176_14, e176_17, e176_18, e176_21, bI_s, bL_s, bV_s, rv_s1, nl_i, nl_a, nl_n, w8_0, w8_i, w8_a, w8_l, ct_i, ct_a, b01_0, b01_1, b01_b, show ¬ nI 10 = 0 by decide, not_false_eq_true, pk_div (show 10 * q + b.toNat < 2 ^ 31 by omega) (show 0 < 10 by decide) (show 10 < 2 ^ 31 by decide), ↓pk_rem (show 10 * q + b.toNat < 2 ^ 31 by omega) (show 0 < 10 by decide) (show 10 < 2 ^ 31 by decide), show (10 * q + b.toNat) / 10 = q by omega, show (10 * q + b.toNat) % 10 = b.toNat by omega, nI_bt, m_lawful1 (show l ≤ 3 by omega) (show q < 2 ^ 31 by omega), m_lawful0 (show l ≤ 3 by omega) (show q < 2 ^ 31 by omega)]
  cases b <;> simp
theorem m_laws (hp : PG g) (h : MM g sd I R L) : cl Z 175 [.ref 87] I R L = some (some (.int (nI (lawsf g))), I, R, L) := by
  have hln := hp.ln
  have hF := h.F
  have a := h.ln
  rw [n175]
  simp only [e175_0, e175_1, e175_2, e175_3, e175_5, e175_6, e175_9, e175_10, e175_11, e175_12, e175_16, e175_17, e175_20, e175_23, e175_24, e175_27, e175_28, e175_29, e175_32, e175_34, e175_35, e175_38, e175_39, e175_42, e175_44, e175_45, e175_48, e175_49, e175_52, e175_53, e175_54, e175_57, e175_60, e175_61, e175_62, e175_65, e175_66, e175_67, e175_68, e175_71, e175_72, e175_73, e175_74, e175_77, e175_80, e175_81, bI_s, bL_s, bV_s, rv_s1, nl_i, nl_a, nl_n, w8_0, w8_i, w8_a, w8_l, ct_i, ct_a, b01_0, b01_1, b01_b]
  have key := loop_all (P := fun i => ∀ y z, ex Z 0 0 175 4 [some (.ref 87), some (.int (nI (mk (fun l => agrf (g 2 2) l (g 2 1 4)) i))), some (.int (nI i)), y, z] [] I R L = some (some (.int (nI (lawsf g))), I, R, L)) 4 (fun i hi ih y z => ?_) (fun y z => ?_) 0 (Nat.zero_le _)
  · exact key none none
  · rw [e175_4]
    simp only [e175_0, e175_1, e175_2, e175_3, e175_5, e175_6, e175_9, e175_10, e175_11, e175_12, e175_16, e175_17, e175_20, e175_23, e175_24, e175_27, e175_28, e175_29, e175_32, e175_34, e175_35, e175_38, e175_39, e175_42, e175_44, e175_45, e175_48, e175_49, e175_52, e175_53, e175_54, e175_57, e175_60, e175_61, e175_62, e175_65, e175_66, e175_67, e175_68, e175_71, e175_72, e175_73, e175_74, e175_77, e175_80, e175_81, bI_s, bL_s, bV_s, rv_s1, nl_i, nl_a, nl_n, w8_0, w8_i, w8_a, w8_l, ct_i, ct_a, b01_0, b01_1, b01_b, hF.m4, hF.m5, hF.m6, hF.m7, hF.m8, hF.m9, hF.m10, hF.m16, hF.m17, hF.m18, hF.m19, hF.m20, hF.m21, hF.m22, hF.m23, hF.m29, hF.m30, hF.m35, hF.m37, hF.m38, hF.m40, hF.m41, hF.m43, hF.m44, kd_87, al_88, al_89, al_90, al_91, al_92, al_93, al_94, al_95, al_96, al_97, al_98, al_99, al_100, al_101, al_102, al_103, al_104, al_105, al_106, al_108, al_111, zl_107, zl_109, zl_110, Nat.reduceLT, nI_leI (show 4 < 2 ^ 31 by decide) (show i < 2 ^ 31 by omega), show ¬ 4 ≤ i by omega, if_false]
    refine loop_up (F := fun j => ex Z 0 0 175 14 [some (.ref 87), some (.int (nI (mk (fun l => agrf (g 2 2) l (g 2 1 4)) i))), some (.int (nI i)), some (.int (nI (agrf (g 2 2) i j).toNat)), some (.int (nI j))] [] I R L) (g 2 1 4) (fun j hj => ?_) ?_ 0 (Nat.zero_le _)
    · obtain ⟨a1, a2⟩ := h.le hj
      have hle := hp.le hj
      have t1 := Nat.toNat_testBit (g 2 2 j) 1
      have t0 := Nat.toNat_testBit (g 2 2 j) 0
      rw [Nat.pow_one] at t1
      rw [Nat.pow_zero, Nat.div_one] at t0
      rw [← t1] at a1
      rw [← t0] at a2
      rw [e175_14]
      simp only [e175_0, e175_1, e175_2, e175_3, e175_5, e175_6, e175_9, e175_10, e175_11, e175_12, e175_16, e175_17, e175_20, e175_23, e175_24, e175_27, e175_28, e175_29, e175_32, e175_34, e175_35, e175_38, e175_39, e175_42, e175_44, e175_45, e175_48, e175_49, e175_52, e175_53, e175_54, e175_57, e175_60, e175_61, e175_62, e175_65, e175_66, e175_67, e175_68, e175_71, e175_72, e175_73, e175_74, e175_77, e175_80, e175_81, bI_s, bL_s, bV_s, rv_s1, nl_i, nl_a, nl_n, w8_0, w8_i, w8_a, w8_l, ct_i, ct_a, b01_0, b01_1, b01_b, hF.m4, hF.m5, hF.m6, hF.m7, hF.m8, hF.m9, hF.m10, hF.m16, hF.m17, hF.m18, hF.m19, hF.m20, hF.m21, hF.m22, hF.m23, hF.m29, hF.m30, hF.m35, hF.m37, hF.m38, hF.m40, hF.m41, hF.m43, hF.m44, kd_87, al_88, al_89, al_90, al_91, al_92, al_93, al_94, al_95, al_96, al_97, al_98, al_99, al_100, al_101, al_102, al_103, al_104, al_105, al_106, al_108, al_111, zl_107, zl_109, zl_110, Nat.reduceLT, a, nI_leI (show g 2 1 4 < 2 ^ 31 by omega) (show j < 2 ^ 31 by omega), show ¬ g 2 1 4 ≤ j by omega, if_false, ab_ixN (show j < 6 by omega) (show 6 < 2 ^ 31 by decide), nI_clamp (show j < 2 ^ 31 by omega), a1, a2, m_byLaw hi (show g 2 2 j / 4 < 100 by omega), nI_b, nI_bb, nI_add, agrf, lesf]
      cases agrf (g 2 2) i j <;> cases lawf i (g 2 2 j / 4) ((g 2 2 j).testBit 1) <;> cases (g 2 2 j).testBit 0 <;> simp
    · rw [e175_14]
      have ih2 := ih (some (.int (nI (agrf (g 2 2) i (g 2 1 4)).toNat))) (some (.int (nI (g 2 1 4))))
      simp only [mk] at ih2
      simp only [e175_0, e175_1, e175_2, e175_3, e175_5, e175_6, e175_9, e175_10, e175_11, e175_12, e175_16, e175_17, e175_20, e175_23, e175_24, e175_27, e175_28, e175_29, e175_32, e175_34, e175_35, e175_38, e175_39, e175_42, e175_44, e175_45, e175_48, e175_49, e175_52, e175_53, e175_54, e175_57, e175_60, e175_61, e175_62, e175_65, e175_66, e175_67, e175_68, e175_71, e175_72, e175_73, e175_74, e175_77, e175_80, e175_81, bI_s, bL_s, bV_s, rv_s1, nl_i, nl_a, nl_n, w8_0, w8_i, w8_a, w8_l, ct_i, ct_a, b01_0, b01_1, b01_b, hF.m4, hF.m5, hF.m6, hF.m7, hF.m8, hF.m9, hF.m10, hF.m16, hF.m17, hF.m18, hF.m19, hF.m20, hF.m21, hF.m22, hF.m23, hF.m29, hF.m30, hF.m35, hF.m37, hF.m38, hF.m40, hF.m41, hF.m43, hF.m44, kd_87, al_88, al_89, al_90, al_91, al_92, al_93, al_94, al_95, al_96, al_97, al_98, al_99, al_100, al_101, al_102, al_103, al_104, al_105, al_106, al_108, al_111, zl_107, zl_109, zl_110, Nat.reduceLT, a, Int32.le_refl, if_true, nI_b, nI_1shl (show i < 31 by omega), nx_or', nI_add]
      cases hag : agrf (g 2 2) i (g 2 1 4) <;> simp [hag] at ih2 ⊢ <;> exact ih2
  · rw [e175_4]
    simp only [e175_0, e175_1, e175_2, e175_3, e175_5, e175_6, e175_9, e175_10, e175_11, e175_12, e175_16, e175_17, e175_20, e175_23, e175_24, e175_27, e175_28, e175_29, e175_32, e175_34, e175_35, e175_38, e175_39, e175_42, e175_44, e175_45, e175_48, e175_49, e175_52, e175_53, e175_54, e175_57, e175_60, e175_61, e175_62, e175_65, e175_66, e175_67, e175_68, e175_71, e175_72, e175_73, e175_74, e175_77, e175_80, e175_81, bI_s, bL_s, bV_s, rv_s1, nl_i, nl_a, nl_n, w8_0, w8_i, w8_a, w8_l, ct_i, ct_a, b01_0, b01_1, b01_b, Int32.le_refl, if_true]
    rfl
theorem B_laws : Both Z 91 175 [] := fun _ _ hp => Both.tell hp (fun _ _ _ _ h => x_laws hp h) (fun _ _ _ h => m_laws hp h)
end LAWS
