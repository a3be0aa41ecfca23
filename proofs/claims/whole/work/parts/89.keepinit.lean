/-! Keep.init and X.init -/
theorem c22_0 : cd 22 0 = some (.aload_n 0, 1) := by decide +kernel
theorem c22_1 : cd 22 1 = some (.invokespecial 3, 3) := by decide +kernel
theorem c22_4 : cd 22 4 = some (.aload_n 0, 1) := by decide +kernel
theorem c22_5 : cd 22 5 = some (.sipush 625, 3) := by decide +kernel
theorem c22_8 : cd 22 8 = some (.newarray .int, 2) := by decide +kernel
theorem c22_10 : cd 22 10 = some (.putfield 11, 3) := by decide +kernel
theorem c22_13 : cd 22 13 = some (.aload_n 0, 1) := by decide +kernel
theorem c22_14 : cd 22 14 = some (.sipush 625, 3) := by decide +kernel
theorem c22_17 : cd 22 17 = some (.newarray .int, 2) := by decide +kernel
theorem c22_19 : cd 22 19 = some (.putfield 15, 3) := by decide +kernel
theorem c22_22 : cd 22 22 = some (.aload_n 0, 1) := by decide +kernel
theorem c22_23 : cd 22 23 = some (.getstatic 18, 3) := by decide +kernel
theorem c22_26 : cd 22 26 = some (.arraylength, 1) := by decide +kernel
theorem c22_27 : cd 22 27 = some (.newarray .int, 2) := by decide +kernel
theorem c22_29 : cd 22 29 = some (.putfield 21, 3) := by decide +kernel
theorem c22_32 : cd 22 32 = some (.iconst 0, 1) := by decide +kernel
theorem c22_33 : cd 22 33 = some (.istore_n 1, 1) := by decide +kernel
theorem c22_34 : cd 22 34 = some (.iload_n 1, 1) := by decide +kernel
theorem c22_35 : cd 22 35 = some (.sipush 625, 3) := by decide +kernel
theorem c22_38 : cd 22 38 = some (.if_icmp .ge 50, 3) := by decide +kernel
theorem c22_41 : cd 22 41 = some (.iload_n 1, 1) := by decide +kernel
theorem c22_42 : cd 22 42 = some (.istore_n 2, 1) := by decide +kernel
theorem c22_43 : cd 22 43 = some (.iconst 0, 1) := by decide +kernel
theorem c22_44 : cd 22 44 = some (.istore_n 3, 1) := by decide +kernel
theorem c22_45 : cd 22 45 = some (.iload_n 3, 1) := by decide +kernel
theorem c22_46 : cd 22 46 = some (.iconst 4, 1) := by decide +kernel
theorem c22_47 : cd 22 47 = some (.if_icmp .ge 35, 3) := by decide +kernel
theorem c22_50 : cd 22 50 = some (.aload_n 0, 1) := by decide +kernel
theorem c22_51 : cd 22 51 = some (.getfield 11, 3) := by decide +kernel
theorem c22_54 : cd 22 54 = some (.iload_n 1, 1) := by decide +kernel
theorem c22_55 : cd 22 55 = some (.dup2, 1) := by decide +kernel
theorem c22_56 : cd 22 56 = some (.iaload, 1) := by decide +kernel
theorem c22_57 : cd 22 57 = some (.iload_n 2, 1) := by decide +kernel
theorem c22_58 : cd 22 58 = some (.iconst 5, 1) := by decide +kernel
theorem c22_59 : cd 22 59 = some (.irem, 1) := by decide +kernel
theorem c22_60 : cd 22 60 = some (.ifCond .eq 9, 3) := by decide +kernel
theorem c22_63 : cd 22 63 = some (.iconst 1, 1) := by decide +kernel
theorem c22_64 : cd 22 64 = some (.iload_n 3, 1) := by decide +kernel
theorem c22_65 : cd 22 65 = some (.ishl, 1) := by decide +kernel
theorem c22_66 : cd 22 66 = some (.goto 4, 3) := by decide +kernel
theorem c22_69 : cd 22 69 = some (.iconst 0, 1) := by decide +kernel
theorem c22_70 : cd 22 70 = some (.ior, 1) := by decide +kernel
theorem c22_71 : cd 22 71 = some (.iastore, 1) := by decide +kernel
theorem c22_72 : cd 22 72 = some (.iload_n 2, 1) := by decide +kernel
theorem c22_73 : cd 22 73 = some (.iconst 5, 1) := by decide +kernel
theorem c22_74 : cd 22 74 = some (.idiv, 1) := by decide +kernel
theorem c22_75 : cd 22 75 = some (.istore_n 2, 1) := by decide +kernel
theorem c22_76 : cd 22 76 = some (.iinc 3 1, 3) := by decide +kernel
theorem c22_79 : cd 22 79 = some (.goto (-34), 3) := by decide +kernel
theorem c22_82 : cd 22 82 = some (.iinc 1 1, 3) := by decide +kernel
theorem c22_85 : cd 22 85 = some (.goto (-51), 3) := by decide +kernel
theorem c22_88 : cd 22 88 = some (.return_, 1) := by decide +kernel
theorem sh_prc {Z : Nat} : SH Z 1001 = (10, 16) := by
  unfold SH
  rw [if_neg (by decide), if_pos rfl]
theorem k22_in {Z n p v w a : Nat} {I : ab_I} {R : ab_R} {L : ab_L} {P : Option Value → Nat → ab_I → ab_R → ab_L → Prop} (hn : 28 < n) (hw : w < 4) (hp : p < 625) (hv : v < 625) (hR : R 27 0 = 29) (ha : I 28 p = nI a) (kk : Rn Z 22 45 [some (.ref 27), some (.int (nI p)), some (.int (nI (v / 5))), some (.int (nI (w + 1)))] [] 3 1266 n (wI I 28 p (nI (a ||| (if v % 5 = 0 then 0 else 2 ^ w)))) R L P) :
    Rn Z 22 45 [some (.ref 27), some (.int (nI p)), some (.int (nI v)), some (.int (nI w))] [] 3 1266 n I R L P := by
  have ix : ab_ix (nI p) 625 = true := ab_ixN hp (by decide)
  have hpc : (nI p).toNatClampNeg = p := nI_clamp (by omega)
  have h28 : SH Z 28 = (10, 625) := sh_at (by decide) (by decide +kernel)
  have y5 : ¬ nI 5 = 0 := by decide
  refine Rn.iload (pc' := 46) c22_45 rfl rfl ?_
  refine Rn.iconst (pc' := 47) (v := nI 4) c22_46 (by decide +kernel) rfl ?_
  refine Rn.ific (pc' := 50) c22_47 (by decide +kernel) ?_ ?_
  · rw [if_neg]
    simp only [ab_c2, decide_eq_true_eq]
    rw [nI_leI (by decide) (by omega)]
    omega
  refine Rn.aload (pc' := 51) (v := 27) c22_50 rfl rfl ?_
  refine Rn.getr (pc' := 54) (C := 1) (f := 0) (a := 28) c22_51 (by decide +kernel) (by omega) (congrArg Prod.fst (sh_at (x := (1, 0)) (by decide) (by decide +kernel))) (by decide +kernel) (by decide +kernel) hR rfl ?_
  refine Rn.iload (pc' := 55) c22_54 rfl rfl ?_
  refine Rn.dup2 (pc' := 56) c22_55 ⟨rfl, rfl⟩ rfl ?_
  refine Rn.iald (pc' := 57) (v := nI a) c22_56 hn h28 ix (by rw [hpc]; exact ha) rfl ?_
  refine Rn.iload (pc' := 58) c22_57 rfl rfl ?_
  refine Rn.iconst (pc' := 59) (v := nI 5) c22_58 (by decide +kernel) rfl ?_
  refine Rn.irem (pc' := 60) (v := nI (v % 5)) c22_59 y5 (pk_rem (by omega) (by decide) (by decide)) rfl ?_
  have hj : ∀ b : Nat, nI b = nI (if v % 5 = 0 then 0 else 2 ^ w) → Rn Z 22 70 [some (.ref 27), some (.int (nI p)), some (.int (nI v)), some (.int (nI w))] [.int (nI b), .int (nI a), .int (nI p), .ref 28] 3 1266 n I R L P := by
    intro b hb
    refine Rn.ior (pc' := 71) (v := nI (a ||| (if v % 5 = 0 then 0 else 2 ^ w))) c22_70 (by rw [hb, nx_or']) rfl ?_
    refine Rn.iast (pc' := 72) (j := p) c22_71 hn h28 ix hpc rfl ?_
    refine Rn.iload (pc' := 73) c22_72 rfl rfl ?_
    refine Rn.iconst (pc' := 74) (v := nI 5) c22_73 (by decide +kernel) rfl ?_
    refine Rn.idiv (pc' := 75) (v := nI (v / 5)) c22_74 y5 (pk_div (by omega) (by decide) (by decide)) rfl ?_
    refine Rn.istore (pc' := 76) c22_75 ⟨(by decide : 2 < 4), by rfl⟩ rfl rfl ?_
    refine Rn.iinc (pc' := 79) (w := nI (w + 1)) c22_76 rfl ⟨(by decide : 3 < 4), by rfl⟩ (nI_add w 1) rfl rfl ?_
    exact Rn.goto (pc' := 45) c22_79 (by decide +kernel) (by decide +kernel) kk
  by_cases hz : v % 5 = 0
  · refine Rn.ifc (pc' := 69) c22_60 (by decide +kernel) (by rw [hz]; decide +kernel) ?_
    refine Rn.iconst (pc' := 70) (v := nI 0) c22_69 (by decide +kernel) rfl ?_
    exact hj 0 (by rw [if_pos hz])
  · refine Rn.ifc (pc' := 63) c22_60 (by decide +kernel) ?_ ?_
    · rw [if_neg]
      simp only [ab_c1, decide_eq_true_eq]
      show ¬ nI (v % 5) = nI 0
      rw [nI_eq (by omega) (by omega)]
      exact hz
    refine Rn.iconst (pc' := 64) (v := nI 1) c22_63 (by decide +kernel) rfl ?_
    refine Rn.iload (pc' := 65) c22_64 rfl rfl ?_
    refine Rn.ishl (pc' := 66) (v := nI (2 ^ w)) c22_65 (nI_1shl (by omega)) rfl ?_
    refine Rn.goto (pc' := 70) c22_66 (by decide +kernel) (by decide +kernel) ?_
    exact hj (2 ^ w) (by rw [if_neg hz])
theorem wI_s (I : ab_I) (o p : Nat) (x : Int32) : wI I o p x o p = x := by
  simp only [wI, if_true]
theorem wI_n {I : ab_I} {o p q : Nat} {x : Int32} (h : q ≠ p) : wI I o p x o q = I o q := by
  simp only [wI, if_true, if_neg h]
theorem Rn.weak {Z M pc k s n : Nat} {ls : List (Option Value)} {st : List Value} {I : ab_I} {R : ab_R} {L : ab_L} {P P' : Option Value → Nat → ab_I → ab_R → ab_L → Prop} (h : Rn Z M pc ls st k s n I R L P) (hp : ∀ v n' I' R' L', P v n' I' R' L' → P' v n' I' R' L') : Rn Z M pc ls st k s n I R L P' := fun f0 => by
  obtain ⟨f, v, n', I', R', L', e, fr, p⟩ := h f0
  exact ⟨f, v, n', I', R', L', e, fr, hp _ _ _ _ _ p⟩
theorem brf_or (p : Nat) : (((0 ||| (if p % 5 = 0 then 0 else 2 ^ 0)) ||| (if p / 5 % 5 = 0 then 0 else 2 ^ 1)) ||| (if p / 5 / 5 % 5 = 0 then 0 else 2 ^ 2)) ||| (if p / 5 / 5 / 5 % 5 = 0 then 0 else 2 ^ 3) = brf p := by
  unfold brf
  rw [Nat.div_div_eq_div_mul, Nat.div_div_eq_div_mul, Nat.zero_or]
def PK (n : Nat) (I : ab_I) (R : ab_R) (L : ab_L) (v : Option Value) (n' : Nat) (I' : ab_I) (R' : ab_R) (L' : ab_L) : Prop := v = none ∧ n' = n ∧ (∀ q, q ≠ 28 → I' q = I q) ∧ (∀ p, p < 625 → I' 28 p = nI (brf p)) ∧ R' = R ∧ L' = L
theorem k22_out {Z n : Nat} (hn : 28 < n) {R : ab_R} {L : ab_L} (hR : R 27 0 = 29) : ∀ (d p : Nat) (I : ab_I) (l2 l3 : Option Value), p + d = 625 → (∀ q, p ≤ q → q < 625 → I 28 q = nI 0) → (∀ q, q < p → I 28 q = nI (brf q)) → Rn Z 22 34 [some (.ref 27), some (.int (nI p)), l2, l3] [] 3 1266 n I R L (PK n I R L) := by
  intro d
  induction d with
  | zero =>
    intro p I l2 l3 hp h0 h1
    obtain rfl : p = 625 := hp
    refine Rn.iload (pc' := 35) c22_34 rfl rfl ?_
    refine Rn.sipush (pc' := 38) (v := nI 625) c22_35 (by decide +kernel) rfl ?_
    refine Rn.ific (pc' := 88) c22_38 (by decide +kernel) (by decide +kernel) ?_
    exact Rn.ret c22_88 (by decide +kernel) (by decide +kernel) (by decide +kernel) ⟨rfl, rfl, fun _ _ => rfl, h1, rfl, rfl⟩
  | succ d ih =>
    intro p I l2 l3 hp h0 h1
    have hp6 : p < 625 := by omega
    refine Rn.iload (pc' := 35) c22_34 rfl rfl ?_
    refine Rn.sipush (pc' := 38) (v := nI 625) c22_35 (by decide +kernel) rfl ?_
    refine Rn.ific (pc' := 41) c22_38 (by decide +kernel) ?_ ?_
    · rw [if_neg]
      simp only [ab_c2, decide_eq_true_eq]
      rw [nI_leI (by decide) (by omega)]
      omega
    refine Rn.iload (pc' := 42) c22_41 rfl rfl ?_
    refine Rn.istore (pc' := 43) c22_42 ⟨(by decide : 2 < 4), by rfl⟩ rfl rfl ?_
    refine Rn.iconst (pc' := 44) (v := nI 0) c22_43 (by decide +kernel) rfl ?_
    refine Rn.istore (pc' := 45) c22_44 ⟨(by decide : 3 < 4), by rfl⟩ rfl rfl ?_
    refine k22_in (p := p) (v := p) (w := 0) (a := 0) hn (by decide) hp6 hp6 hR (h0 p (Nat.le_refl p) hp6) ?_
    refine k22_in (p := p) (v := p / 5) (w := 1) hn (by decide) hp6 (by omega) hR (wI_s ..) ?_
    refine k22_in (p := p) (v := p / 5 / 5) (w := 2) hn (by decide) hp6 (by omega) hR (wI_s ..) ?_
    refine k22_in (p := p) (v := p / 5 / 5 / 5) (w := 3) hn (by decide) hp6 (by omega) hR (wI_s ..) ?_
    rw [brf_or]
    refine Rn.iload (pc' := 46) c22_45 rfl rfl ?_
    refine Rn.iconst (pc' := 47) (v := nI 4) c22_46 (by decide +kernel) rfl ?_
    refine Rn.ific (pc' := 82) c22_47 (by decide +kernel) (by decide +kernel) ?_
    refine Rn.iinc (pc' := 85) (w := nI (p + 1)) c22_82 rfl ⟨(by decide : 1 < 4), by rfl⟩ (nI_add p 1) rfl rfl ?_
    refine Rn.goto (pc' := 34) c22_85 (by decide +kernel) (by decide +kernel) ?_
    refine (ih (p + 1) _ _ _ (by omega) ?_ ?_).weak ?_
    · intro q h2 h3
      rw [wI_n (by omega), wI_n (by omega), wI_n (by omega), wI_n (by omega)]
      exact h0 q (by omega) h3
    · intro q h2
      by_cases hq : q = p
      · rw [hq]
        exact wI_s ..
      · rw [wI_n hq, wI_n hq, wI_n hq, wI_n hq]
        exact h1 q (by omega)
    · intro v n' I' R' L' h
      obtain ⟨a1, a2, a3, a4, a5, a6⟩ := h
      refine ⟨a1, a2, fun q hq => ?_, a4, a5, a6⟩
      rw [a3 q hq, wI_row hq, wI_row hq, wI_row hq, wI_row hq]
theorem k22 {Z : Nat} {I : ab_I} {R : ab_R} {L : ab_L} : Rn Z 22 0 [some (.ref 27), none, none, none] [] 0 0 28 I R L (PK 31 I (wR (wR (wR R 27 0 29) 27 1 30) 27 2 31) L) := by
  intro f0
  have z : I 28 = fun _ => 0 := (f0 28 (Nat.le_refl 28) (by decide)).1
  revert f0
  show Rn Z 22 0 [some (.ref 27), none, none, none] [] 0 0 28 I R L (PK 31 I (wR (wR (wR R 27 0 29) 27 1 30) 27 2 31) L)
  refine Rn.aload (pc' := 1) (v := 27) c22_0 rfl rfl ?_
  refine Rn.obj (pc' := 4) (T := 0) c22_1 (by decide +kernel) (by decide +kernel) rfl ?_
  refine Rn.aload (pc' := 5) (v := 27) c22_4 rfl rfl ?_
  refine Rn.sipush (pc' := 8) (v := nI 625) c22_5 (by decide +kernel) rfl ?_
  refine Rn.newi (pc' := 10) (n1 := 29) (len := 625) (s' := 625) c22_8 (by decide) (by decide) (sh_at (by decide) (by decide +kernel)) (by decide) (by decide +kernel) (by decide +kernel) rfl rfl rfl ?_
  refine Rn.putr (pc' := 13) (C := 1) (f := 0) (a1 := 29) c22_10 (by decide +kernel) (by decide) (congrArg Prod.fst (sh_at (x := (1, 0)) (by decide) (by decide +kernel))) (by decide +kernel) (by decide +kernel) rfl rfl ?_
  refine Rn.aload (pc' := 14) (v := 27) c22_13 rfl rfl ?_
  refine Rn.sipush (pc' := 17) (v := nI 625) c22_14 (by decide +kernel) rfl ?_
  refine Rn.newi (pc' := 19) (n1 := 30) (len := 625) (s' := 1250) c22_17 (by decide) (by decide) (sh_at (by decide) (by decide +kernel)) (by decide) (by decide +kernel) (by decide +kernel) rfl rfl rfl ?_
  refine Rn.putr (pc' := 22) (C := 1) (f := 1) (a1 := 30) c22_19 (by decide +kernel) (by decide) (congrArg Prod.fst (sh_at (x := (1, 0)) (by decide) (by decide +kernel))) (by decide +kernel) (by decide +kernel) rfl rfl ?_
  refine Rn.aload (pc' := 23) (v := 27) c22_22 rfl rfl ?_
  refine Rn.getst (pc' := 26) (o := 1001) c22_23 (by decide +kernel) rfl ?_
  refine Rn.alen (pc' := 27) (len := 16) (v := nI 16) c22_26 (Or.inr ⟨by decide, by decide⟩) sh_prc (by decide +kernel) rfl ?_
  refine Rn.newi (pc' := 29) (n1 := 31) (len := 16) (s' := 1266) c22_27 (by decide) (by decide) (sh_at (by decide) (by decide +kernel)) (by decide) (by decide +kernel) (by decide +kernel) rfl rfl rfl ?_
  refine Rn.putr (pc' := 32) (C := 1) (f := 2) (a1 := 31) c22_29 (by decide +kernel) (by decide) (congrArg Prod.fst (sh_at (x := (1, 0)) (by decide) (by decide +kernel))) (by decide +kernel) (by decide +kernel) rfl rfl ?_
  refine Rn.iconst (pc' := 33) (v := nI 0) c22_32 (by decide +kernel) rfl ?_
  refine Rn.istore (pc' := 34) c22_33 ⟨by decide, by rfl⟩ rfl rfl ?_
  exact k22_out (by decide) (by rfl) 625 0 I none none rfl (fun q _ _ => by rw [z]; rfl) (fun q h => absurd h (Nat.not_lt_zero q))

