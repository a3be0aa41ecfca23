/-! the reference's levels change -/
theorem loop_all {P : Nat → Prop} (n : Nat) (hs : ∀ i, i < n → P (i + 1) → P i) (he : P n) : ∀ i, i ≤ n → P i := by
  have key : ∀ d i, i + d = n → P i := by
    intro d
    induction d with
    | zero =>
      intro i hi
      rw [Nat.add_zero] at hi
      rw [hi]
      exact he
    | succ d ih =>
      intro i hi
      exact hs i (by omega) (ih (i + 1) (by omega))
  exact fun i hi => key (n - i) i (by omega)
theorem wI_id {I : ab_I} {o k : Nat} {v : Int32} (h : I o k = v) : wI I o k v = I := by
  funext p j
  rw [wI_app]
  split
  · rename_i hp
    split
    · rename_i hj
      rw [hp, hj, h]
    · rfl
  · rfl
def cyI (I : ab_I) (d b s c n : Nat) : ab_I := fun p j => if p = d ∧ b ≤ j ∧ j < b + n then I s (c + (j - b)) else I p j
theorem cyI_0 {I : ab_I} {d b s c : Nat} : cyI I d b s c 0 = I := by
  funext p j
  rw [cyI, if_neg (by omega)]
theorem cyI_o {I : ab_I} {d b s c n p : Nat} (h : p ≠ d) : cyI I d b s c n p = I p := by
  funext j
  rw [cyI, if_neg (fun w => h w.1)]
theorem cyI_out {I : ab_I} {d b s c n p j : Nat} (h : j < b ∨ b + n ≤ j) : cyI I d b s c n p j = I p j := by
  rw [cyI, if_neg (by omega)]
theorem cyI_src {I : ab_I} {d b s c i : Nat} (h : s ≠ d ∨ c + i < b) : cyI I d b s c i s (c + i) = I s (c + i) := by
  rw [cyI, if_neg (by omega)]
theorem cyI_step {I : ab_I} {d b s c i : Nat} : wI (cyI I d b s c i) d (b + i) (I s (c + i)) = cyI I d b s c (i + 1) := by
  funext p j
  rw [wI_app]
  by_cases hp : p = d
  · rw [if_pos hp]
    by_cases hj : j = b + i
    · rw [if_pos hj, cyI, if_pos (by omega), hj, show b + i - b = i by omega]
    · rw [if_neg hj, cyI, cyI]
      by_cases h2 : b ≤ j ∧ j < b + i
      · rw [if_pos (by omega), if_pos (by omega)]
      · rw [if_neg (by omega), if_neg (by omega)]
  · rw [if_neg hp, cyI, cyI, if_neg (fun w => hp w.1), if_neg (fun w => hp w.1)]
theorem cyI_at {I : ab_I} {d b s c n j : Nat} (h : j < n) : cyI I d b s c n d (b + j) = I s (c + j) := by
  rw [cyI, if_pos (by omega), show b + j - b = j by omega]
theorem cyI_MS {I : ab_I} {d b s c : Nat} {co sh : Co} (h6 : co 0 3 ≤ 6) (h : MS (I s) c co sh) : MS (cyI I d b s c 13 d) b co sh := by
  refine ⟨fun t ht => ?_, fun t ht => ?_, ?_, ?_, ?_⟩
  · rw [cyI_at (by omega), h.pl ht]
  · rw [Nat.add_assoc, cyI_at (by omega), ← h.sd ht, Nat.add_assoc]
  · rw [cyI_at (by omega), h.st]
  · rw [cyI_at (by omega), h.ow]
  · rw [cyI_at (by omega), h.bl]
theorem plbf_0 {co sh : Co} (hv : WS co sh) {t : Nat} (ht : t < co 0 3) : plbf co sh t 0 = sh 0 t := by
  have := hv.1 t ht
  unfold plbf
  split <;> omega
/-- what the acts keep beside: no house says more than it has breaths, none that isn't there says any -/
def WN (co sh : Co) : Prop := (∀ h, h < co 0 2 → pc (sh 1 h) 6 ≤ co 2 h) ∧ ∀ h, h < 4 → co 0 2 ≤ h → sh 1 h = 0
theorem pc_0 : ∀ n, pc 0 n = 0
  | 0 => rfl
  | n + 1 => by rw [pc, pc_0 n]; simp
theorem shd_WN {co sh : Co} (h : WN co sh) : WN co (shd co sh) := h
theorem shB_WN {co : Co} : WN co (shB co) := ⟨fun h _ => by rw [show shB co 1 h = 0 from rfl, pc_0]; exact Nat.zero_le _, fun _ _ _ => rfl⟩
theorem shU_WN {co sh : Co} : WN co (shU sh) := ⟨fun h _ => by rw [show shU sh 1 h = 0 from rfl, pc_0]; exact Nat.zero_le _, fun _ _ _ => rfl⟩
def cntH (sh : Co) : Nat → Nat
  | 0 => 0
  | n + 1 => cntH sh n + pc (sh 1 n) 6
theorem cntH_S {co sh : Co} (hw : WF co) (hn : WN co sh) : cntH sh (co 0 2) = cntS sh := by
  have h4 := hw.h4
  have h := hn.2
  unfold cntS
  rcases (show co 0 2 = 0 ∨ co 0 2 = 1 ∨ co 0 2 = 2 ∨ co 0 2 = 3 ∨ co 0 2 = 4 by omega) with e | e | e | e | e
  all_goals rw [e] at h ⊢
  · rw [h 0 (by decide) (by decide), h 1 (by decide) (by decide), h 2 (by decide) (by decide), h 3 (by decide) (by decide)]
    simp [cntH, pc_0]
  · rw [h 1 (by decide) (by decide), h 2 (by decide) (by decide), h 3 (by decide) (by decide)]
    simp [cntH, pc_0]
  · rw [h 2 (by decide) (by decide), h 3 (by decide) (by decide)]
    simp [cntH, pc_0]
  · rw [h 3 (by decide) (by decide)]
    simp [cntH, pc_0]
  · simp [cntH]
def paI (I : ab_I) (b : Nat) (f : Nat → Nat) : Nat → ab_I
  | 0 => I
  | n + 1 => wI (paI I b f n) 94 (b + n) (nI (f n))
theorem paI_o {I : ab_I} {b : Nat} {f : Nat → Nat} {o : Nat} (ho : o ≠ 94) : ∀ n, paI I b f n o = I o
  | 0 => rfl
  | n + 1 => by
    funext j
    rw [paI, wI_o ho, paI_o ho n]
theorem paI_at {I : ab_I} {b : Nat} {f : Nat → Nat} (j : Nat) : ∀ n, paI I b f n 94 (b + j) = if j < n then nI (f j) else I 94 (b + j)
  | 0 => by simp [paI]
  | n + 1 => by
    rw [paI]
    by_cases h : j = n
    · subst h
      rw [wI_self, if_pos (by omega)]
    · rw [wI_k (by omega), paI_at j n]
      by_cases h2 : j < n
      · rw [if_pos h2, if_pos (by omega)]
      · rw [if_neg h2, if_neg (by omega)]
theorem paI_out {I : ab_I} {b : Nat} {f : Nat → Nat} {j : Nat} : ∀ n, j < b ∨ b + n ≤ j → paI I b f n 94 j = I 94 j
  | 0, _ => rfl
  | n + 1, h => by rw [paI, wI_k (by omega), paI_out n (by omega)]
section MODEL2
variable {Z l t h : Nat} {co sh : Co} {I : ab_I} {R : ab_R} {L : ab_L}
theorem m_atLast (hF : Fx R) (hC : MC I co) (hl : l ≤ 1) (hS : MS (I 94) (13 * l) co sh) (hw : WF co) (hv : WS co sh) : cl Z 146 [.ref 87, .int (nI l)] I R L = some (some (.int (nI (lastf co sh 0))), I, R, L) := by
  have h6 := hw.t6
  have a3 := hw.2.2.2.1.2
  rw [n146]
  simp only [e146_0, e146_1, e146_2, e146_3, e146_5, e146_6, e146_9, e146_12, e146_13, e146_14, e146_17, e146_19, e146_20, e146_21, e146_22, e146_23, e146_24, e146_25, e146_28, e146_31, e146_32, e146_33, e146_34, e146_37, e146_38, e146_39, e146_40, e146_43, e146_46, e146_47, bI_s, bL_s, bV_s, rv_s1, nl_i, nl_a, nl_n, w8_0, w8_i, w8_a, w8_l, ct_i, ct_a, b01_0, b01_1, b01_b]
  refine loop_up (F := fun i => ex Z 0 0 146 4 [some (.ref 87), some (.int (nI l)), some (.int (nI (mk (fun t => decide (plbf co sh t 0 = co 0 1)) i))), some (.int (nI i))] [] I R L) (co 0 3) (fun i hi => ?_) ?_ 0 (Nat.zero_le _)
  · have a5 := plbf_le hv hi 0
    rw [e146_4]
    simp only [e146_0, e146_1, e146_2, e146_3, e146_5, e146_6, e146_9, e146_12, e146_13, e146_14, e146_17, e146_19, e146_20, e146_21, e146_22, e146_23, e146_24, e146_25, e146_28, e146_31, e146_32, e146_33, e146_34, e146_37, e146_38, e146_39, e146_40, e146_43, e146_46, e146_47, bI_s, bL_s, bV_s, rv_s1, nl_i, nl_a, nl_n, w8_0, w8_i, w8_a, w8_l, ct_i, ct_a, b01_0, b01_1, b01_b, hF.m4, hF.m5, hF.m6, hF.m7, hF.m8, hF.m9, hF.m10, hF.m16, hF.m17, hF.m18, hF.m19, hF.m20, hF.m21, hF.m22, hF.m23, hF.m29, hF.m30, hF.m35, hF.m37, hF.m38, hF.m40, hF.m41, hF.m43, hF.m44, kd_87, al_94, hC.th, hC.la, nI_leI (show co 0 3 < 2 ^ 31 by omega) (show i < 2 ^ 31 by omega), show ¬ co 0 3 ≤ i by omega, if_false, pk_mul, nI_add, ab_ixN (show 13 * l + i < 26 by omega) (by decide), nI_clamp (show 13 * l + i < 2 ^ 31 by omega), hS.pl hi, ← plbf_0 hv hi, nI_eq (show plbf co sh i 0 < 2 ^ 31 by omega) (show co 0 1 < 2 ^ 31 by omega), mk, nI_1shl (show i < 31 by omega), nx_or']
    by_cases hb : plbf co sh i 0 = co 0 1 <;> simp [hb]
  · rw [e146_4]
    simp only [e146_0, e146_1, e146_2, e146_3, e146_5, e146_6, e146_9, e146_12, e146_13, e146_14, e146_17, e146_19, e146_20, e146_21, e146_22, e146_23, e146_24, e146_25, e146_28, e146_31, e146_32, e146_33, e146_34, e146_37, e146_38, e146_39, e146_40, e146_43, e146_46, e146_47, bI_s, bL_s, bV_s, rv_s1, nl_i, nl_a, nl_n, w8_0, w8_i, w8_a, w8_l, ct_i, ct_a, b01_0, b01_1, b01_b, kd_87, hC.th, Int32.le_refl, if_true]
    rfl
theorem m_allSaid (hF : Fx R) (hC : MC I co) (hS : MS (I 94) 0 co sh) (hw : WF co) (hv : WS co sh) (hn : WN co sh) : cl Z 141 [.ref 87] I R L = some (some (.int (nI (cntS sh))), I, R, L) := by
  have h4 := hw.h4
  rw [n141, ← cntH_S hw hn]
  simp only [e141_0, e141_1, e141_2, e141_3, e141_5, e141_6, e141_9, e141_12, e141_13, e141_14, e141_17, e141_19, e141_20, e141_21, e141_22, e141_25, e141_26, e141_27, e141_30, e141_33, e141_34, bI_s, bL_s, bV_s, rv_s1, nl_i, nl_a, nl_n, w8_0, w8_i, w8_a, w8_l, ct_i, ct_a, b01_0, b01_1, b01_b]
  refine loop_up (F := fun i => ex Z 0 0 141 4 [some (.ref 87), some (.int (nI (cntH sh i))), some (.int (nI i))] [] I R L) (co 0 2) (fun i hi => ?_) ?_ 0 (Nat.zero_le _)
  · have hsd := hS.sd (show i < 4 by omega)
    have hb := hv.2.1 i (by omega)
    rw [Nat.zero_add] at hsd
    rw [e141_4]
    simp only [e141_0, e141_1, e141_2, e141_3, e141_5, e141_6, e141_9, e141_12, e141_13, e141_14, e141_17, e141_19, e141_20, e141_21, e141_22, e141_25, e141_26, e141_27, e141_30, e141_33, e141_34, bI_s, bL_s, bV_s, rv_s1, nl_i, nl_a, nl_n, w8_0, w8_i, w8_a, w8_l, ct_i, ct_a, b01_0, b01_1, b01_b, hF.m4, hF.m5, hF.m6, hF.m7, hF.m8, hF.m9, hF.m10, hF.m16, hF.m17, hF.m18, hF.m19, hF.m20, hF.m21, hF.m22, hF.m23, hF.m29, hF.m30, hF.m35, hF.m37, hF.m38, hF.m40, hF.m41, hF.m43, hF.m44, kd_87, al_94, hC.hs, nI_leI (show co 0 2 < 2 ^ 31 by omega) (show i < 2 ^ 31 by omega), show ¬ co 0 2 ≤ i by omega, if_false, nI_add, ab_ixN (show 6 + i < 26 by omega) (by decide), nI_clamp (show 6 + i < 2 ^ 31 by omega), hsd, m_ones (show sh 1 i < 2 ^ 31 by omega), cntH]
  · rw [e141_4]
    simp only [e141_0, e141_1, e141_2, e141_3, e141_5, e141_6, e141_9, e141_12, e141_13, e141_14, e141_17, e141_19, e141_20, e141_21, e141_22, e141_25, e141_26, e141_27, e141_30, e141_33, e141_34, bI_s, bL_s, bV_s, rv_s1, nl_i, nl_a, nl_n, w8_0, w8_i, w8_a, w8_l, ct_i, ct_a, b01_0, b01_1, b01_b, kd_87, hC.hs, Int32.le_refl, if_true]
theorem m_quayOf (hF : Fx R) (hC : MC I co) (hS : MS (I 94) 13 co sh) (hw : WF co) (hv : WS co sh) : cl Z 172 [.ref 87] I R L = some (some (.int (nI (sumw co (lastf co sh 0) (co 0 3)))), I, R, L) := by
  have h6 := hw.t6
  have a3 := hw.2.2.2.1.2
  rw [n172]
  simp only [e172_0, e172_1, e172_2, e172_3, e172_5, e172_6, e172_9, e172_12, e172_13, e172_14, e172_17, e172_19, e172_20, e172_21, e172_22, e172_23, e172_26, e172_29, e172_30, e172_33, e172_34, e172_35, e172_38, e172_39, e172_40, e172_41, e172_44, e172_47, e172_48, bI_s, bL_s, bV_s, rv_s1, nl_i, nl_a, nl_n, w8_0, w8_i, w8_a, w8_l, ct_i, ct_a, b01_0, b01_1, b01_b]
  refine loop_up (F := fun i => ex Z 0 0 172 4 [some (.ref 87), some (.int (nI (sumw co (lastf co sh 0) i))), some (.int (nI i))] [] I R L) (co 0 3) (fun i hi => ?_) ?_ 0 (Nat.zero_le _)
  · have a5 := plbf_le hv hi 0
    rw [e172_4]
    simp only [e172_0, e172_1, e172_2, e172_3, e172_5, e172_6, e172_9, e172_12, e172_13, e172_14, e172_17, e172_19, e172_20, e172_21, e172_22, e172_23, e172_26, e172_29, e172_30, e172_33, e172_34, e172_35, e172_38, e172_39, e172_40, e172_41, e172_44, e172_47, e172_48, bI_s, bL_s, bV_s, rv_s1, nl_i, nl_a, nl_n, w8_0, w8_i, w8_a, w8_l, ct_i, ct_a, b01_0, b01_1, b01_b, hF.m4, hF.m5, hF.m6, hF.m7, hF.m8, hF.m9, hF.m10, hF.m16, hF.m17, hF.m18, hF.m19, hF.m20, hF.m21, hF.m22, hF.m23, hF.m29, hF.m30, hF.m35, hF.m37, hF.m38, hF.m40, hF.m41, hF.m43, hF.m44, kd_87, al_94, al_91, hC.th, hC.la, nI_leI (show co 0 3 < 2 ^ 31 by omega) (show i < 2 ^ 31 by omega), show ¬ co 0 3 ≤ i by omega, if_false, nI_add, ab_ixN (show 13 + i < 26 by omega) (by decide), ab_ixN (show i < 6 by omega) (by decide), nI_clamp (show 13 + i < 2 ^ 31 by omega), nI_clamp (show i < 2 ^ 31 by omega), hS.pl hi, ← plbf_0 hv hi, nI_eq (show plbf co sh i 0 < 2 ^ 31 by omega) (show co 0 1 < 2 ^ 31 by omega), hC.a5 hi, sumw, lastf, mk_bit, hi, decide_true, Bool.true_and]
    by_cases hb : plbf co sh i 0 = co 0 1 <;> simp [hb]
  · rw [e172_4]
    simp only [e172_0, e172_1, e172_2, e172_3, e172_5, e172_6, e172_9, e172_12, e172_13, e172_14, e172_17, e172_19, e172_20, e172_21, e172_22, e172_23, e172_26, e172_29, e172_30, e172_33, e172_34, e172_35, e172_38, e172_39, e172_40, e172_41, e172_44, e172_47, e172_48, bI_s, bL_s, bV_s, rv_s1, nl_i, nl_a, nl_n, w8_0, w8_i, w8_a, w8_l, ct_i, ct_a, b01_0, b01_1, b01_b, kd_87, hC.th, Int32.le_refl, if_true]
theorem m_pass (hF : Fx R) (hC : MC I co) (hl : l ≤ 1) (hS : MS (I 94) (13 * l) co sh) (hw : WF co) (hv : WS co sh) : ∃ I', cl Z 139 [.ref 87, .int (nI l)] I R L = some (some (.int (nI (mk (fun t => decide (plbf co sh t 1 ≠ sh 0 t)) (co 0 3)))), I', R, L) ∧ OffL I I' (13 * l) ∧ MS (I' 94) (13 * l) co (shd co sh) := by
  have h6 := hw.t6
  have a3 := hw.2.2.2.1.2
  refine ⟨wI (paI I (13 * l) (fun t => plbf co sh t 1) (co 0 3)) 94 (13 * l + 12) (nI (sh 2 2 + 1)), ?_, ?_, ?_⟩
  · rw [n139]
    simp only [e139_0, e139_2, e139_3, e139_4, e139_5, e139_6, e139_7, e139_10, e139_11, e139_12, e139_14, e139_15, e139_19, e139_20, e139_23, e139_26, e139_27, e139_29, e139_32, e139_35, e139_36, e139_39, e139_40, e139_42, e139_43, e139_44, e139_45, e139_48, e139_51, e139_52, e139_55, e139_56, e139_58, e139_59, e139_60, e139_61, e139_64, e139_65, e139_67, e139_70, e139_71, e139_72, e139_74, e139_75, e139_78, e139_79, e139_81, e139_82, e139_84, e139_85, e139_88, e139_91, e139_93, e139_96, e139_97, e139_100, e139_101, e139_103, e139_104, e139_106, e139_107, e139_108, e139_110, e139_113, e139_116, e139_117, e139_120, e139_121, e139_123, e139_124, e139_125, e139_126, e139_127, e139_128, e139_129, e139_131, bI_s, bL_s, bV_s, rv_s1, nl_i, nl_a, nl_n, w8_0, w8_i, w8_a, w8_l, ct_i, ct_a, b01_0, b01_1, b01_b, kd_87, m_staying hF hC hl hS hw hv, pk_mul]
    have key := loop_all (P := fun i => ∀ x, ex Z 0 0 139 17 [some (.ref 87), some (.int (nI l)), some (.int (nI (13 * l))), some (.int (nI (mk (stayf co sh) (co 0 3)))), some (.int (nI (mk (fun t => decide (plbf co sh t 1 ≠ sh 0 t)) i))), some (.int (nI i)), x] [] (paI I (13 * l) (fun t => plbf co sh t 1) i) R L = some (some (.int (nI (mk (fun t => decide (plbf co sh t 1 ≠ sh 0 t)) (co 0 3)))), wI (paI I (13 * l) (fun t => plbf co sh t 1) (co 0 3)) 94 (13 * l + 12) (nI (sh 2 2 + 1)), R, L)) (co 0 3) (fun i hi ih x => ?_) (fun x => ?_) 0 (Nat.zero_le _)
    · exact key none
    · have htp := top_lt hw hi
      have hCi : MC (paI I (13 * l) (fun t => plbf co sh t 1) i) co := hC.off fun o ho => paI_o ho i
      have hpl : paI I (13 * l) (fun t => plbf co sh t 1) i 94 (13 * l + i) = nI (sh 0 i) := by rw [paI_at, if_neg (by omega), hS.pl hi]
      have a4 := (hw.2.2.2.2.2.2 _ htp).2.1
      have a5 := (hw.2.2.2.2.2.2 _ htp).2.2.1
      have a6 := hv.1 i hi
      have hmk := mk_lt (stayf co sh) (co 0 3)
      have hmk2 : 2 ^ co 0 3 ≤ 2 ^ 6 := Nat.pow_le_pow_right (by decide) h6
      have hb : (mk (stayf co sh) (co 0 3)).testBit i = stayf co sh i := by
        rw [mk_bit, decide_eq_true hi, Bool.true_and]
      rw [e139_17]
      simp only [e139_0, e139_2, e139_3, e139_4, e139_5, e139_6, e139_7, e139_10, e139_11, e139_12, e139_14, e139_15, e139_19, e139_20, e139_23, e139_26, e139_27, e139_29, e139_32, e139_35, e139_36, e139_39, e139_40, e139_42, e139_43, e139_44, e139_45, e139_48, e139_51, e139_52, e139_55, e139_56, e139_58, e139_59, e139_60, e139_61, e139_64, e139_65, e139_67, e139_70, e139_71, e139_72, e139_74, e139_75, e139_78, e139_79, e139_81, e139_82, e139_84, e139_85, e139_88, e139_91, e139_93, e139_96, e139_97, e139_100, e139_101, e139_103, e139_104, e139_106, e139_107, e139_108, e139_110, e139_113, e139_116, e139_117, e139_120, e139_121, e139_123, e139_124, e139_125, e139_126, e139_127, e139_128, e139_129, e139_131, bI_s, bL_s, bV_s, rv_s1, nl_i, nl_a, nl_n, w8_0, w8_i, w8_a, w8_l, ct_i, ct_a, b01_0, b01_1, b01_b, hF.m4, hF.m5, hF.m6, hF.m7, hF.m8, hF.m9, hF.m10, hF.m16, hF.m17, hF.m18, hF.m19, hF.m20, hF.m21, hF.m22, hF.m23, hF.m29, hF.m30, hF.m35, hF.m37, hF.m38, hF.m40, hF.m41, hF.m43, hF.m44, kd_87, al_88, al_89, al_90, al_91, al_92, al_93, al_94, al_95, al_96, al_97, al_98, al_99, al_100, al_101, al_102, al_103, al_104, al_105, al_106, al_108, al_111, zl_107, zl_109, zl_110, Nat.reduceLT, hCi.th, hCi.la, nI_leI (show co 0 3 < 2 ^ 31 by omega) (show i < 2 ^ 31 by omega), show ¬ co 0 3 ≤ i by omega, if_false, s_has (show mk (stayf co sh) (co 0 3) < 2 ^ 31 by omega) (show i < 31 by omega), hb, nI_add, ab_ixN (show 13 * l + i < 26 by omega) (by decide), nI_clamp (show 13 * l + i < 2 ^ 31 by omega), hpl, nI_leI (show co 0 1 < 2 ^ 31 by omega) (show sh 0 i < 2 ^ 31 by omega), m_outermost hF hCi hw hi, ab_ixN (show top co i < 6 by omega) (by decide), nI_clamp (show top co i < 2 ^ 31 by omega), hCi.a4 htp, nI_leI (show co 0 1 < 2 ^ 31 by omega) (show sh 0 i + co 4 (top co i) < 2 ^ 31 by omega), nI_1shl (show i < 31 by omega), nx_or', nI_b]
      simp only [mk, paI] at ih
      cases hs : stayf co sh i with
      | true =>
        have e : plbf co sh i 1 = sh 0 i := by unfold plbf; rw [if_pos hs]
        simp only [e, wI_id hpl] at ih
        simpa using ih x
      | false =>
        by_cases h1 : co 0 1 ≤ sh 0 i
        · have e : plbf co sh i 1 = sh 0 i := by unfold plbf; rw [if_neg (by rw [hs]; decide)]; omega
          simp only [e, wI_id hpl] at ih
          simpa [h1] using ih x
        · by_cases h2 : co 0 1 ≤ sh 0 i + co 4 (top co i)
          · have e : plbf co sh i 1 = co 0 1 := by unfold plbf; rw [if_neg (by rw [hs]; decide)]; omega
            have e2 : ¬ co 0 1 = sh 0 i := by omega
            simp only [e, e2, ne_eq, not_false_eq_true, decide_true, if_true] at ih
            simp only [h1, h2, if_true, if_false]
            exact ih _
          · have e : plbf co sh i 1 = sh 0 i + co 4 (top co i) := by unfold plbf; rw [if_neg (by rw [hs]; decide)]; omega
            have e2 : ¬ sh 0 i + co 4 (top co i) = sh 0 i := by omega
            simp only [e, e2, ne_eq, not_false_eq_true, decide_true, if_true] at ih
            simp only [h1, h2, if_true, if_false]
            exact ih _
    · have hb4 : paI I (13 * l) (fun t => plbf co sh t 1) (co 0 3) 94 (13 * l + 12) = nI (sh 2 2) := by rw [paI_out _ (by omega), hS.bl]
      have hth : paI I (13 * l) (fun t => plbf co sh t 1) (co 0 3) 87 3 = nI (co 0 3) := by rw [paI_o (by decide), hC.th]
      rw [e139_17]
      simp only [e139_0, e139_2, e139_3, e139_4, e139_5, e139_6, e139_7, e139_10, e139_11, e139_12, e139_14, e139_15, e139_19, e139_20, e139_23, e139_26, e139_27, e139_29, e139_32, e139_35, e139_36, e139_39, e139_40, e139_42, e139_43, e139_44, e139_45, e139_48, e139_51, e139_52, e139_55, e139_56, e139_58, e139_59, e139_60, e139_61, e139_64, e139_65, e139_67, e139_70, e139_71, e139_72, e139_74, e139_75, e139_78, e139_79, e139_81, e139_82, e139_84, e139_85, e139_88, e139_91, e139_93, e139_96, e139_97, e139_100, e139_101, e139_103, e139_104, e139_106, e139_107, e139_108, e139_110, e139_113, e139_116, e139_117, e139_120, e139_121, e139_123, e139_124, e139_125, e139_126, e139_127, e139_128, e139_129, e139_131, bI_s, bL_s, bV_s, rv_s1, nl_i, nl_a, nl_n, w8_0, w8_i, w8_a, w8_l, ct_i, ct_a, b01_0, b01_1, b01_b, hF.m4, hF.m5, hF.m6, hF.m7, hF.m8, hF.m9, hF.m10, hF.m16, hF.m17, hF.m18, hF.m19, hF.m20, hF.m21, hF.m22, hF.m23, hF.m29, hF.m30, hF.m35, hF.m37, hF.m38, hF.m40, hF.m41, hF.m43, hF.m44, kd_87, al_88, al_89, al_90, al_91, al_92, al_93, al_94, al_95, al_96, al_97, al_98, al_99, al_100, al_101, al_102, al_103, al_104, al_105, al_106, al_108, al_111, zl_107, zl_109, zl_110, Nat.reduceLT, hth, Int32.le_refl, if_true, nI_add, ab_ixN (show 13 * l + 12 < 26 by omega) (by decide), nI_clamp (show 13 * l + 12 < 2 ^ 31 by omega), hb4]
  · refine ⟨fun o ho => ?_, fun j hj => ?_⟩
    · funext j
      rw [wI_o ho, paI_o ho]
    · rw [wI_k (by omega), paI_out _ (by omega)]
  · refine ⟨fun t ht => ?_, fun h hh => ?_, ?_, ?_, ?_⟩
    · rw [wI_k (by omega), paI_at, if_pos ht]
      rfl
    · rw [wI_k (by omega), paI_out _ (by omega), hS.sd hh]
      rfl
    · rw [wI_k (by omega), paI_out _ (by omega), hS.st]
      rfl
    · rw [wI_k (by omega), paI_out _ (by omega), hS.ow]
      rfl
    · rw [wI_self]
      rfl
theorem m_layTrial (hF : Fx R) (hS : MS (I 94) 0 co sh) (h6 : co 0 3 ≤ 6) : ∃ I', cl Z 145 [.ref 87] I R L = some (none, I', R, L) ∧ OffL I I' 13 ∧ MS (I' 94) 13 co sh := by
  refine ⟨cyI I 94 13 94 0 13, ?_, ⟨fun o ho => cyI_o ho, fun j hj => cyI_out hj⟩, cyI_MS h6 hS⟩
  rw [n145]
  simp only [e145_0, e145_1, e145_3, e145_5, e145_8, e145_9, e145_12, e145_14, e145_15, e145_16, e145_17, e145_20, e145_21, e145_22, e145_23, e145_26, e145_29, bI_s, bL_s, bV_s, rv_s1, nl_i, nl_a, nl_n, w8_0, w8_i, w8_a, w8_l, ct_i, ct_a, b01_0, b01_1, b01_b]
  have key := loop_up (F := fun i => ex Z 0 0 145 2 [some (.ref 87), some (.int (nI i))] [] (cyI I 94 13 94 0 i) R L) (r := some (none, cyI I 94 13 94 0 13, R, L)) 13 (fun i hi => ?_) ?_ 0 (Nat.zero_le _)
  · rw [cyI_0] at key
    exact key
  · have e := cyI_src (I := I) (d := 94) (b := 13) (s := 94) (c := 0) (i := i) (Or.inr (by omega))
    have e2 := cyI_step (I := I) (d := 94) (b := 13) (s := 94) (c := 0) (i := i)
    rw [Nat.zero_add] at e e2
    rw [e145_2]
    simp only [e145_0, e145_1, e145_3, e145_5, e145_8, e145_9, e145_12, e145_14, e145_15, e145_16, e145_17, e145_20, e145_21, e145_22, e145_23, e145_26, e145_29, bI_s, bL_s, bV_s, rv_s1, nl_i, nl_a, nl_n, w8_0, w8_i, w8_a, w8_l, ct_i, ct_a, b01_0, b01_1, b01_b, hF.m4, hF.m5, hF.m6, hF.m7, hF.m8, hF.m9, hF.m10, hF.m16, hF.m17, hF.m18, hF.m19, hF.m20, hF.m21, hF.m22, hF.m23, hF.m29, hF.m30, hF.m35, hF.m37, hF.m38, hF.m40, hF.m41, hF.m43, hF.m44, kd_87, al_88, al_89, al_90, al_91, al_92, al_93, al_94, al_95, al_96, al_97, al_98, al_99, al_100, al_101, al_102, al_103, al_104, al_105, al_106, al_108, al_111, zl_107, zl_109, zl_110, Nat.reduceLT, nI_leI (show 13 < 2 ^ 31 by decide) (show i < 2 ^ 31 by omega), show ¬ 13 ≤ i by omega, if_false, nI_add, ab_ixN (show 13 + i < 26 by omega) (by decide), ab_ixN (show i < 26 by omega) (by decide), nI_clamp (show 13 + i < 2 ^ 31 by omega), nI_clamp (show i < 2 ^ 31 by omega), e, e2]
  · rw [e145_2]
    simp only [e145_0, e145_1, e145_3, e145_5, e145_8, e145_9, e145_12, e145_14, e145_15, e145_16, e145_17, e145_20, e145_21, e145_22, e145_23, e145_26, e145_29, bI_s, bL_s, bV_s, rv_s1, nl_i, nl_a, nl_n, w8_0, w8_i, w8_a, w8_l, ct_i, ct_a, b01_0, b01_1, b01_b, Int32.le_refl, if_true]
/-- n blows on -/
def blwn (co : Co) : Nat → Co → Co
  | 0, sh => sh
  | n + 1, sh => shd co (blwn co n sh)
theorem blwn_WS {co sh : Co} (hv : WS co sh) : ∀ n, WS co (blwn co n sh)
  | 0 => hv
  | n + 1 => shd_WS (blwn_WS hv n)
theorem m_passes (hF : Fx R) (hC : MC I co) (hS : MS (I 94) 0 co sh) (hw : WF co) (hv : WS co sh) {n : Nat} (hn : n < 100) : ∃ I', cl Z 170 [.ref 87, .int (nI n)] I R L = some (none, I', R, L) ∧ OffL I I' 13 ∧ MS (I' 94) 13 co (blwn co n sh) := by
  have h6 := hw.t6
  obtain ⟨I1, e1, f1, S1⟩ := m_layTrial (Z := Z) (L := L) hF hS h6
  rw [n170]
  simp only [e170_0, e170_1, e170_4, e170_5, e170_7, e170_8, e170_11, e170_12, e170_13, e170_16, e170_17, e170_20, e170_23, bI_s, bL_s, bV_s, rv_s1, nl_i, nl_a, nl_n, w8_0, w8_i, w8_a, w8_l, ct_i, ct_a, b01_0, b01_1, b01_b, kd_87, e1]
  have key := loop_all (P := fun i => ∀ J, OffL I J 13 → MS (J 94) 13 co (blwn co i sh) → ∃ I', ex Z 0 0 170 6 [some (.ref 87), some (.int (nI n)), some (.int (nI i))] [] J R L = some (none, I', R, L) ∧ OffL I I' 13 ∧ MS (I' 94) 13 co (blwn co n sh)) n (fun i hi ih J f S => ?_) (fun J f S => ?_) 0 (Nat.zero_le _)
  · exact key I1 f1 S1
  · obtain ⟨J2, e2, f2, S2⟩ := m_pass (Z := Z) (L := L) (l := 1) hF (hC.off f.1) (by decide) S hw (blwn_WS hv i)
    obtain ⟨J3, e3, f3, S3⟩ := ih J2 (f.tr f2) S2
    refine ⟨J3, ?_, f3, S3⟩
    rw [e170_6]
    simp only [e170_0, e170_1, e170_4, e170_5, e170_7, e170_8, e170_11, e170_12, e170_13, e170_16, e170_17, e170_20, e170_23, bI_s, bL_s, bV_s, rv_s1, nl_i, nl_a, nl_n, w8_0, w8_i, w8_a, w8_l, ct_i, ct_a, b01_0, b01_1, b01_b, kd_87, nI_leI (show n < 2 ^ 31 by omega) (show i < 2 ^ 31 by omega), show ¬ n ≤ i by omega, if_false, e2, nI_add, e3]
  · refine ⟨J, ?_, f, S⟩
    rw [e170_6]
    simp only [e170_0, e170_1, e170_4, e170_5, e170_7, e170_8, e170_11, e170_12, e170_13, e170_16, e170_17, e170_20, e170_23, bI_s, bL_s, bV_s, rv_s1, nl_i, nl_a, nl_n, w8_0, w8_i, w8_a, w8_l, ct_i, ct_a, b01_0, b01_1, b01_b, kd_87, Int32.le_refl, if_true]
end MODEL2
