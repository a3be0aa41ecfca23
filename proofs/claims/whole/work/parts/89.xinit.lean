/-! X.init -/
def FX0 (R : ab_R) : Prop := (∀ k, k < 7 → R 3 k = 3 + k + 2) ∧ (∀ k, k < 7 → R 11 k = 11 + k + 2) ∧ (∀ i, i < 18 → R (33 + 3 * i) 0 = 33 + 3 * i + 2 ∧ R (33 + 3 * i) 1 = 33 + 3 * i + 3) ∧ (∀ i, i < 16 → R 25 i = 34 + 3 * i) ∧ R 0 0 = 2 ∧ R 0 2 = 3 ∧ R 0 3 = 4 ∧ R 0 4 = 12 ∧ R 0 5 = 20 ∧ R 0 6 = 23 ∧ R 0 7 = 26 ∧ R 0 10 = 27 ∧ R 0 12 = 28 ∧ R 0 13 = 32 ∧ R 0 15 = 33 ∧ R 27 0 = 29 ∧ R 27 1 = 30 ∧ R 27 2 = 31 ∧ R 26 0 = 82 ∧ R 26 1 = 85 ∧ R 19 0 = 21 ∧ R 19 1 = 22 ∧ R 22 0 = 24 ∧ R 22 1 = 25
theorem k57 {Z : Nat} {I : ab_I} {L : ab_L} : Rn Z 57 0 [some (.ref 0), none] [] 0 0 1 I (fun _ _ => 0) L (fun v n' I' R' L' => v = none ∧ n' = 87 ∧ (∀ q, q ≠ 28 → I' q = wI (wI I 3 10 (nI 1)) 11 10 (nI 1) q) ∧ (∀ p, p < 625 → I' 28 p = nI (brf p)) ∧ FX0 R' ∧ L' = L) := by
  refine Rn.aload (pc' := 1) (v := 0) c57_0 rfl rfl ?_
  refine Rn.obj (pc' := 4) (T := 0) c57_1 (by decide +kernel) (by decide +kernel) rfl ?_
  refine Rn.aload (pc' := 5) (v := 0) c57_4 rfl rfl ?_
  refine Rn.bipush (pc' := 7) (v := nI 56) c57_5 (by decide +kernel) rfl ?_
  refine Rn.newi (pc' := 9) (n1 := 2) (len := 56) (s' := 56) c57_7 (by decide) (by decide) (sh_at (by decide) (by decide +kernel)) (by decide) (by decide +kernel) (by decide +kernel) rfl rfl rfl ?_
  refine Rn.putr (pc' := 12) (C := 4) (f := 0) (a1 := 2) c57_9 (by decide +kernel) (by decide) (congrArg Prod.fst (sh_at (x := (4, 0)) (by decide) (by decide +kernel))) (by decide +kernel) (by decide +kernel) rfl rfl ?_
  refine Rn.aload (pc' := 13) (v := 0) c57_12 rfl rfl ?_
  refine Rn.new (pc' := 16) (C := 2) (n1 := 3) (s' := 60) c57_13 (by decide +kernel) (sh_at (by decide) (by decide +kernel)) (by decide) (by decide +kernel) rfl rfl rfl ?_
  refine Rn.dup (pc' := 17) c57_16 rfl rfl ?_
  refine Rn.ctor (pc' := 20) (T := 39) (kd := 5) (k' := 2) (s' := 60) c57_17 (by decide +kernel) (by decide) (by decide +kernel) (by decide) (by decide +kernel) rfl (k39) (by decide +kernel) (by decide +kernel) rfl ?_
  refine (fun v n' I' R' L' h => ?_)
  obtain ⟨rfl, rfl, rfl, rfl, rfl⟩ := h
  refine ⟨rfl, ?_⟩
  refine Rn.putr (pc' := 23) (C := 4) (f := 2) (a1 := 3) c57_20 (by decide +kernel) (by decide) (congrArg Prod.fst (sh_at (x := (4, 0)) (by decide) (by decide +kernel))) (by decide +kernel) (by decide +kernel) rfl rfl ?_
  refine Rn.aload (pc' := 24) (v := 0) c57_23 rfl rfl ?_
  refine Rn.new (pc' := 27) (C := 0) (n1 := 4) (s' := 72) c57_24 (by decide +kernel) (sh_at (by decide) (by decide +kernel)) (by decide) (by decide +kernel) rfl rfl rfl ?_
  refine Rn.dup (pc' := 28) c57_27 rfl rfl ?_
  refine Rn.ctor (pc' := 31) (T := 0) (kd := 5) (k' := 10) (s' := 110) c57_28 (by decide +kernel) (by decide) (by decide +kernel) (by decide) (by decide +kernel) rfl (k0_3) (by decide +kernel) (by decide +kernel) rfl ?_
  refine (fun v n' I' R' L' h => ?_)
  obtain ⟨rfl, rfl, rfl, rfl, rfl⟩ := h
  refine ⟨rfl, ?_⟩
  refine Rn.putr (pc' := 34) (C := 4) (f := 3) (a1 := 4) c57_31 (by decide +kernel) (by decide) (congrArg Prod.fst (sh_at (x := (4, 0)) (by decide) (by decide +kernel))) (by decide +kernel) (by decide +kernel) rfl rfl ?_
  refine Rn.aload (pc' := 35) (v := 0) c57_34 rfl rfl ?_
  refine Rn.new (pc' := 38) (C := 0) (n1 := 12) (s' := 122) c57_35 (by decide +kernel) (sh_at (by decide) (by decide +kernel)) (by decide) (by decide +kernel) rfl rfl rfl ?_
  refine Rn.dup (pc' := 39) c57_38 rfl rfl ?_
  refine Rn.ctor (pc' := 42) (T := 0) (kd := 5) (k' := 18) (s' := 160) c57_39 (by decide +kernel) (by decide) (by decide +kernel) (by decide) (by decide +kernel) rfl (k0_11) (by decide +kernel) (by decide +kernel) rfl ?_
  refine (fun v n' I' R' L' h => ?_)
  obtain ⟨rfl, rfl, rfl, rfl, rfl⟩ := h
  refine ⟨rfl, ?_⟩
  refine Rn.putr (pc' := 45) (C := 4) (f := 4) (a1 := 12) c57_42 (by decide +kernel) (by decide) (congrArg Prod.fst (sh_at (x := (4, 0)) (by decide) (by decide +kernel))) (by decide +kernel) (by decide +kernel) rfl rfl ?_
  refine Rn.aload (pc' := 46) (v := 0) c57_45 rfl rfl ?_
  refine Rn.new (pc' := 49) (C := 3) (n1 := 20) (s' := 165) c57_46 (by decide +kernel) (sh_at (by decide) (by decide +kernel)) (by decide) (by decide +kernel) rfl rfl rfl ?_
  refine Rn.dup (pc' := 50) c57_49 rfl rfl ?_
  refine Rn.ctor (pc' := 53) (T := 52) (kd := 5) (k' := 21) (s' := 175) c57_50 (by decide +kernel) (by decide) (by decide +kernel) (by decide) (by decide +kernel) rfl (k52 (o := 19) (n2 := 22) (by decide) (by decide) (congrArg Prod.fst (sh_at (x := (3, 0)) (by decide) (by decide +kernel))) (sh_at (by decide) (by decide +kernel)) (sh_at (by decide) (by decide +kernel)) rfl) (by decide +kernel) (by decide +kernel) rfl ?_
  refine (fun v n' I' R' L' h => ?_)
  obtain ⟨rfl, rfl, rfl, rfl, rfl⟩ := h
  refine ⟨rfl, ?_⟩
  refine Rn.putr (pc' := 56) (C := 4) (f := 5) (a1 := 20) c57_53 (by decide +kernel) (by decide) (congrArg Prod.fst (sh_at (x := (4, 0)) (by decide) (by decide +kernel))) (by decide +kernel) (by decide +kernel) rfl rfl ?_
  refine Rn.aload (pc' := 57) (v := 0) c57_56 rfl rfl ?_
  refine Rn.new (pc' := 60) (C := 3) (n1 := 23) (s' := 180) c57_57 (by decide +kernel) (sh_at (by decide) (by decide +kernel)) (by decide) (by decide +kernel) rfl rfl rfl ?_
  refine Rn.dup (pc' := 61) c57_60 rfl rfl ?_
  refine Rn.ctor (pc' := 64) (T := 52) (kd := 5) (k' := 24) (s' := 190) c57_61 (by decide +kernel) (by decide) (by decide +kernel) (by decide) (by decide +kernel) rfl (k52 (o := 22) (n2 := 25) (by decide) (by decide) (congrArg Prod.fst (sh_at (x := (3, 0)) (by decide) (by decide +kernel))) (sh_at (by decide) (by decide +kernel)) (sh_at (by decide) (by decide +kernel)) rfl) (by decide +kernel) (by decide +kernel) rfl ?_
  refine (fun v n' I' R' L' h => ?_)
  obtain ⟨rfl, rfl, rfl, rfl, rfl⟩ := h
  refine ⟨rfl, ?_⟩
  refine Rn.putr (pc' := 67) (C := 4) (f := 6) (a1 := 23) c57_64 (by decide +kernel) (by decide) (congrArg Prod.fst (sh_at (x := (4, 0)) (by decide) (by decide +kernel))) (by decide +kernel) (by decide +kernel) rfl rfl ?_
  refine Rn.aload (pc' := 68) (v := 0) c57_67 rfl rfl ?_
  refine Rn.bipush (pc' := 70) (v := nI 16) c57_68 (by decide +kernel) rfl ?_
  refine Rn.newr (pc' := 73) (n1 := 26) (len := 16) (s' := 206) c57_70 (by decide +kernel) (by decide) (by decide) (sh_at (by decide) (by decide +kernel)) (by decide) (by decide +kernel) (by decide +kernel) rfl rfl rfl ?_
  refine Rn.putr (pc' := 76) (C := 4) (f := 7) (a1 := 26) c57_73 (by decide +kernel) (by decide) (congrArg Prod.fst (sh_at (x := (4, 0)) (by decide) (by decide +kernel))) (by decide +kernel) (by decide +kernel) rfl rfl ?_
  refine Rn.aload (pc' := 77) (v := 0) c57_76 rfl rfl ?_
  refine Rn.iconst (pc' := 78) (v := nI 2) c57_77 (by decide +kernel) rfl ?_
  refine Rn.newr (pc' := 81) (n1 := 27) (len := 2) (s' := 208) c57_78 (by decide +kernel) (by decide) (by decide) (sh_at (by decide) (by decide +kernel)) (by decide) (by decide +kernel) (by decide +kernel) rfl rfl rfl ?_
  refine Rn.putr (pc' := 84) (C := 4) (f := 10) (a1 := 27) c57_81 (by decide +kernel) (by decide) (congrArg Prod.fst (sh_at (x := (4, 0)) (by decide) (by decide +kernel))) (by decide +kernel) (by decide +kernel) rfl rfl ?_
  refine Rn.aload (pc' := 85) (v := 0) c57_84 rfl rfl ?_
  refine Rn.new (pc' := 88) (C := 1) (n1 := 28) (s' := 212) c57_85 (by decide +kernel) (sh_at (by decide) (by decide +kernel)) (by decide) (by decide +kernel) rfl rfl rfl ?_
  refine Rn.dup (pc' := 89) c57_88 rfl rfl ?_
  refine Rn.ctor (pc' := 92) (T := 22) (kd := 2) (k' := 30) (s' := 1478) c57_89 (by decide +kernel) (by decide) (by decide +kernel) (by decide) (by decide +kernel) rfl (k22) (by decide +kernel) (by decide +kernel) rfl ?_
  refine (fun v n' I' R' L' h => ?_)
  obtain ⟨rfl, rfl, hI1, hI2, rfl, rfl⟩ := h
  refine ⟨rfl, ?_⟩
  refine Rn.putr (pc' := 95) (C := 4) (f := 12) (a1 := 28) c57_92 (by decide +kernel) (by decide) (congrArg Prod.fst (sh_at (x := (4, 0)) (by decide) (by decide +kernel))) (by decide +kernel) (by decide +kernel) rfl rfl ?_
  refine Rn.aload (pc' := 96) (v := 0) c57_95 rfl rfl ?_
  refine Rn.bipush (pc' := 98) (v := nI 6) c57_96 (by decide +kernel) rfl ?_
  refine Rn.newi (pc' := 100) (n1 := 32) (len := 6) (s' := 1484) c57_98 (by decide) (by decide) (sh_at (by decide) (by decide +kernel)) (by decide) (by decide +kernel) (by decide +kernel) rfl rfl rfl ?_
  refine Rn.putr (pc' := 103) (C := 4) (f := 13) (a1 := 32) c57_100 (by decide +kernel) (by decide) (congrArg Prod.fst (sh_at (x := (4, 0)) (by decide) (by decide +kernel))) (by decide +kernel) (by decide +kernel) rfl rfl ?_
  refine Rn.aload (pc' := 104) (v := 0) c57_103 rfl rfl ?_
  refine Rn.bipush (pc' := 106) (v := nI 6) c57_104 (by decide +kernel) rfl ?_
  refine Rn.newi (pc' := 108) (n1 := 33) (len := 6) (s' := 1490) c57_106 (by decide) (by decide) (sh_at (by decide) (by decide +kernel)) (by decide) (by decide +kernel) (by decide +kernel) rfl rfl rfl ?_
  refine Rn.putr (pc' := 111) (C := 4) (f := 15) (a1 := 33) c57_108 (by decide +kernel) (by decide) (congrArg Prod.fst (sh_at (x := (4, 0)) (by decide) (by decide +kernel))) (by decide +kernel) (by decide +kernel) rfl rfl ?_
  refine Rn.iconst (pc' := 112) (v := nI 0) c57_111 (by decide +kernel) rfl ?_
  refine Rn.istore (pc' := 113) c57_112 ⟨by decide, by rfl⟩ rfl rfl ?_
  refine Rn.iload (pc' := 114) c57_113 rfl rfl ?_
  refine Rn.bipush (pc' := 116) (v := nI 16) c57_114 (by decide +kernel) rfl ?_
  refine Rn.ific (pc' := 119) c57_116 (by decide +kernel) (by decide +kernel) ?_
  refine Rn.aload (pc' := 120) (v := 0) c57_119 rfl rfl ?_
  refine Rn.getr (pc' := 123) (C := 4) (f := 7) (a := 25) c57_120 (by decide +kernel) (by decide) (congrArg Prod.fst (sh_at (x := (4, 0)) (by decide) (by decide +kernel))) (by decide +kernel) (by decide +kernel) (by decide +kernel) rfl ?_
  refine Rn.iload (pc' := 124) c57_123 rfl rfl ?_
  refine Rn.new (pc' := 127) (C := 3) (n1 := 34) (s' := 1495) c57_124 (by decide +kernel) (sh_at (by decide) (by decide +kernel)) (by decide) (by decide +kernel) rfl rfl rfl ?_
  refine Rn.dup (pc' := 128) c57_127 rfl rfl ?_
  refine Rn.ctor (pc' := 131) (T := 52) (kd := 5) (k' := 35) (s' := 1505) c57_128 (by decide +kernel) (by decide) (by decide +kernel) (by decide) (by decide +kernel) rfl (k52 (o := 33) (n2 := 36) (by decide) (by decide) (congrArg Prod.fst (sh_at (x := (3, 0)) (by decide) (by decide +kernel))) (sh_at (by decide) (by decide +kernel)) (sh_at (by decide) (by decide +kernel)) rfl) (by decide +kernel) (by decide +kernel) rfl ?_
  refine (fun v n' I' R' L' h => ?_)
  obtain ⟨rfl, rfl, rfl, rfl, rfl⟩ := h
  refine ⟨rfl, ?_⟩
  refine Rn.aast (pc' := 132) (j := 0) (a1 := 34) c57_131 (by decide) (by decide) (congrArg Prod.fst (sh_at (x := (12, 16)) (by decide) (by decide +kernel))) (by rw [sh_at (x := (12, 16)) (by decide) (by decide +kernel)]; decide +kernel) (congrArg Prod.fst (sh_at (x := (3, 0)) (by decide) (by decide +kernel))) (by decide +kernel) rfl rfl ?_
  refine Rn.iinc (pc' := 135) (w := nI 1) c57_132 rfl ⟨by decide, by rfl⟩ (by decide +kernel) rfl rfl ?_
  refine Rn.goto (pc' := 113) c57_135 (by decide +kernel) (by decide +kernel) ?_
  refine Rn.iload (pc' := 114) c57_113 rfl rfl ?_
  refine Rn.bipush (pc' := 116) (v := nI 16) c57_114 (by decide +kernel) rfl ?_
  refine Rn.ific (pc' := 119) c57_116 (by decide +kernel) (by decide +kernel) ?_
  refine Rn.aload (pc' := 120) (v := 0) c57_119 rfl rfl ?_
  refine Rn.getr (pc' := 123) (C := 4) (f := 7) (a := 25) c57_120 (by decide +kernel) (by decide) (congrArg Prod.fst (sh_at (x := (4, 0)) (by decide) (by decide +kernel))) (by decide +kernel) (by decide +kernel) (by decide +kernel) rfl ?_
  refine Rn.iload (pc' := 124) c57_123 rfl rfl ?_
  refine Rn.new (pc' := 127) (C := 3) (n1 := 37) (s' := 1510) c57_124 (by decide +kernel) (sh_at (by decide) (by decide +kernel)) (by decide) (by decide +kernel) rfl rfl rfl ?_
  refine Rn.dup (pc' := 128) c57_127 rfl rfl ?_
  refine Rn.ctor (pc' := 131) (T := 52) (kd := 5) (k' := 38) (s' := 1520) c57_128 (by decide +kernel) (by decide) (by decide +kernel) (by decide) (by decide +kernel) rfl (k52 (o := 36) (n2 := 39) (by decide) (by decide) (congrArg Prod.fst (sh_at (x := (3, 0)) (by decide) (by decide +kernel))) (sh_at (by decide) (by decide +kernel)) (sh_at (by decide) (by decide +kernel)) rfl) (by decide +kernel) (by decide +kernel) rfl ?_
  refine (fun v n' I' R' L' h => ?_)
  obtain ⟨rfl, rfl, rfl, rfl, rfl⟩ := h
  refine ⟨rfl, ?_⟩
  refine Rn.aast (pc' := 132) (j := 1) (a1 := 37) c57_131 (by decide) (by decide) (congrArg Prod.fst (sh_at (x := (12, 16)) (by decide) (by decide +kernel))) (by rw [sh_at (x := (12, 16)) (by decide) (by decide +kernel)]; decide +kernel) (congrArg Prod.fst (sh_at (x := (3, 0)) (by decide) (by decide +kernel))) (by decide +kernel) rfl rfl ?_
  refine Rn.iinc (pc' := 135) (w := nI 2) c57_132 rfl ⟨by decide, by rfl⟩ (by decide +kernel) rfl rfl ?_
  refine Rn.goto (pc' := 113) c57_135 (by decide +kernel) (by decide +kernel) ?_
  refine Rn.iload (pc' := 114) c57_113 rfl rfl ?_
  refine Rn.bipush (pc' := 116) (v := nI 16) c57_114 (by decide +kernel) rfl ?_
  refine Rn.ific (pc' := 119) c57_116 (by decide +kernel) (by decide +kernel) ?_
  refine Rn.aload (pc' := 120) (v := 0) c57_119 rfl rfl ?_
  refine Rn.getr (pc' := 123) (C := 4) (f := 7) (a := 25) c57_120 (by decide +kernel) (by decide) (congrArg Prod.fst (sh_at (x := (4, 0)) (by decide) (by decide +kernel))) (by decide +kernel) (by decide +kernel) (by decide +kernel) rfl ?_
  refine Rn.iload (pc' := 124) c57_123 rfl rfl ?_
  refine Rn.new (pc' := 127) (C := 3) (n1 := 40) (s' := 1525) c57_124 (by decide +kernel) (sh_at (by decide) (by decide +kernel)) (by decide) (by decide +kernel) rfl rfl rfl ?_
  refine Rn.dup (pc' := 128) c57_127 rfl rfl ?_
  refine Rn.ctor (pc' := 131) (T := 52) (kd := 5) (k' := 41) (s' := 1535) c57_128 (by decide +kernel) (by decide) (by decide +kernel) (by decide) (by decide +kernel) rfl (k52 (o := 39) (n2 := 42) (by decide) (by decide) (congrArg Prod.fst (sh_at (x := (3, 0)) (by decide) (by decide +kernel))) (sh_at (by decide) (by decide +kernel)) (sh_at (by decide) (by decide +kernel)) rfl) (by decide +kernel) (by decide +kernel) rfl ?_
  refine (fun v n' I' R' L' h => ?_)
  obtain ⟨rfl, rfl, rfl, rfl, rfl⟩ := h
  refine ⟨rfl, ?_⟩
  refine Rn.aast (pc' := 132) (j := 2) (a1 := 40) c57_131 (by decide) (by decide) (congrArg Prod.fst (sh_at (x := (12, 16)) (by decide) (by decide +kernel))) (by rw [sh_at (x := (12, 16)) (by decide) (by decide +kernel)]; decide +kernel) (congrArg Prod.fst (sh_at (x := (3, 0)) (by decide) (by decide +kernel))) (by decide +kernel) rfl rfl ?_
  refine Rn.iinc (pc' := 135) (w := nI 3) c57_132 rfl ⟨by decide, by rfl⟩ (by decide +kernel) rfl rfl ?_
  refine Rn.goto (pc' := 113) c57_135 (by decide +kernel) (by decide +kernel) ?_
  refine Rn.iload (pc' := 114) c57_113 rfl rfl ?_
  refine Rn.bipush (pc' := 116) (v := nI 16) c57_114 (by decide +kernel) rfl ?_
  refine Rn.ific (pc' := 119) c57_116 (by decide +kernel) (by decide +kernel) ?_
  refine Rn.aload (pc' := 120) (v := 0) c57_119 rfl rfl ?_
  refine Rn.getr (pc' := 123) (C := 4) (f := 7) (a := 25) c57_120 (by decide +kernel) (by decide) (congrArg Prod.fst (sh_at (x := (4, 0)) (by decide) (by decide +kernel))) (by decide +kernel) (by decide +kernel) (by decide +kernel) rfl ?_
  refine Rn.iload (pc' := 124) c57_123 rfl rfl ?_
  refine Rn.new (pc' := 127) (C := 3) (n1 := 43) (s' := 1540) c57_124 (by decide +kernel) (sh_at (by decide) (by decide +kernel)) (by decide) (by decide +kernel) rfl rfl rfl ?_
  refine Rn.dup (pc' := 128) c57_127 rfl rfl ?_
  refine Rn.ctor (pc' := 131) (T := 52) (kd := 5) (k' := 44) (s' := 1550) c57_128 (by decide +kernel) (by decide) (by decide +kernel) (by decide) (by decide +kernel) rfl (k52 (o := 42) (n2 := 45) (by decide) (by decide) (congrArg Prod.fst (sh_at (x := (3, 0)) (by decide) (by decide +kernel))) (sh_at (by decide) (by decide +kernel)) (sh_at (by decide) (by decide +kernel)) rfl) (by decide +kernel) (by decide +kernel) rfl ?_
  refine (fun v n' I' R' L' h => ?_)
  obtain ⟨rfl, rfl, rfl, rfl, rfl⟩ := h
  refine ⟨rfl, ?_⟩
  refine Rn.aast (pc' := 132) (j := 3) (a1 := 43) c57_131 (by decide) (by decide) (congrArg Prod.fst (sh_at (x := (12, 16)) (by decide) (by decide +kernel))) (by rw [sh_at (x := (12, 16)) (by decide) (by decide +kernel)]; decide +kernel) (congrArg Prod.fst (sh_at (x := (3, 0)) (by decide) (by decide +kernel))) (by decide +kernel) rfl rfl ?_
  refine Rn.iinc (pc' := 135) (w := nI 4) c57_132 rfl ⟨by decide, by rfl⟩ (by decide +kernel) rfl rfl ?_
  refine Rn.goto (pc' := 113) c57_135 (by decide +kernel) (by decide +kernel) ?_
  refine Rn.iload (pc' := 114) c57_113 rfl rfl ?_
  refine Rn.bipush (pc' := 116) (v := nI 16) c57_114 (by decide +kernel) rfl ?_
  refine Rn.ific (pc' := 119) c57_116 (by decide +kernel) (by decide +kernel) ?_
  refine Rn.aload (pc' := 120) (v := 0) c57_119 rfl rfl ?_
  refine Rn.getr (pc' := 123) (C := 4) (f := 7) (a := 25) c57_120 (by decide +kernel) (by decide) (congrArg Prod.fst (sh_at (x := (4, 0)) (by decide) (by decide +kernel))) (by decide +kernel) (by decide +kernel) (by decide +kernel) rfl ?_
  refine Rn.iload (pc' := 124) c57_123 rfl rfl ?_
  refine Rn.new (pc' := 127) (C := 3) (n1 := 46) (s' := 1555) c57_124 (by decide +kernel) (sh_at (by decide) (by decide +kernel)) (by decide) (by decide +kernel) rfl rfl rfl ?_
  refine Rn.dup (pc' := 128) c57_127 rfl rfl ?_
  refine Rn.ctor (pc' := 131) (T := 52) (kd := 5) (k' := 47) (s' := 1565) c57_128 (by decide +kernel) (by decide) (by decide +kernel) (by decide) (by decide +kernel) rfl (k52 (o := 45) (n2 := 48) (by decide) (by decide) (congrArg Prod.fst (sh_at (x := (3, 0)) (by decide) (by decide +kernel))) (sh_at (by decide) (by decide +kernel)) (sh_at (by decide) (by decide +kernel)) rfl) (by decide +kernel) (by decide +kernel) rfl ?_
  refine (fun v n' I' R' L' h => ?_)
  obtain ⟨rfl, rfl, rfl, rfl, rfl⟩ := h
  refine ⟨rfl, ?_⟩
  refine Rn.aast (pc' := 132) (j := 4) (a1 := 46) c57_131 (by decide) (by decide) (congrArg Prod.fst (sh_at (x := (12, 16)) (by decide) (by decide +kernel))) (by rw [sh_at (x := (12, 16)) (by decide) (by decide +kernel)]; decide +kernel) (congrArg Prod.fst (sh_at (x := (3, 0)) (by decide) (by decide +kernel))) (by decide +kernel) rfl rfl ?_
  refine Rn.iinc (pc' := 135) (w := nI 5) c57_132 rfl ⟨by decide, by rfl⟩ (by decide +kernel) rfl rfl ?_
  refine Rn.goto (pc' := 113) c57_135 (by decide +kernel) (by decide +kernel) ?_
  refine Rn.iload (pc' := 114) c57_113 rfl rfl ?_
  refine Rn.bipush (pc' := 116) (v := nI 16) c57_114 (by decide +kernel) rfl ?_
  refine Rn.ific (pc' := 119) c57_116 (by decide +kernel) (by decide +kernel) ?_
  refine Rn.aload (pc' := 120) (v := 0) c57_119 rfl rfl ?_
  refine Rn.getr (pc' := 123) (C := 4) (f := 7) (a := 25) c57_120 (by decide +kernel) (by decide) (congrArg Prod.fst (sh_at (x := (4, 0)) (by decide) (by decide +kernel))) (by decide +kernel) (by decide +kernel) (by decide +kernel) rfl ?_
  refine Rn.iload (pc' := 124) c57_123 rfl rfl ?_
  refine Rn.new (pc' := 127) (C := 3) (n1 := 49) (s' := 1570) c57_124 (by decide +kernel) (sh_at (by decide) (by decide +kernel)) (by decide) (by decide +kernel) rfl rfl rfl ?_
  refine Rn.dup (pc' := 128) c57_127 rfl rfl ?_
  refine Rn.ctor (pc' := 131) (T := 52) (kd := 5) (k' := 50) (s' := 1580) c57_128 (by decide +kernel) (by decide) (by decide +kernel) (by decide) (by decide +kernel) rfl (k52 (o := 48) (n2 := 51) (by decide) (by decide) (congrArg Prod.fst (sh_at (x := (3, 0)) (by decide) (by decide +kernel))) (sh_at (by decide) (by decide +kernel)) (sh_at (by decide) (by decide +kernel)) rfl) (by decide +kernel) (by decide +kernel) rfl ?_
  refine (fun v n' I' R' L' h => ?_)
  obtain ⟨rfl, rfl, rfl, rfl, rfl⟩ := h
  refine ⟨rfl, ?_⟩
  refine Rn.aast (pc' := 132) (j := 5) (a1 := 49) c57_131 (by decide) (by decide) (congrArg Prod.fst (sh_at (x := (12, 16)) (by decide) (by decide +kernel))) (by rw [sh_at (x := (12, 16)) (by decide) (by decide +kernel)]; decide +kernel) (congrArg Prod.fst (sh_at (x := (3, 0)) (by decide) (by decide +kernel))) (by decide +kernel) rfl rfl ?_
  refine Rn.iinc (pc' := 135) (w := nI 6) c57_132 rfl ⟨by decide, by rfl⟩ (by decide +kernel) rfl rfl ?_
  refine Rn.goto (pc' := 113) c57_135 (by decide +kernel) (by decide +kernel) ?_
  refine Rn.iload (pc' := 114) c57_113 rfl rfl ?_
  refine Rn.bipush (pc' := 116) (v := nI 16) c57_114 (by decide +kernel) rfl ?_
  refine Rn.ific (pc' := 119) c57_116 (by decide +kernel) (by decide +kernel) ?_
  refine Rn.aload (pc' := 120) (v := 0) c57_119 rfl rfl ?_
  refine Rn.getr (pc' := 123) (C := 4) (f := 7) (a := 25) c57_120 (by decide +kernel) (by decide) (congrArg Prod.fst (sh_at (x := (4, 0)) (by decide) (by decide +kernel))) (by decide +kernel) (by decide +kernel) (by decide +kernel) rfl ?_
  refine Rn.iload (pc' := 124) c57_123 rfl rfl ?_
  refine Rn.new (pc' := 127) (C := 3) (n1 := 52) (s' := 1585) c57_124 (by decide +kernel) (sh_at (by decide) (by decide +kernel)) (by decide) (by decide +kernel) rfl rfl rfl ?_
  refine Rn.dup (pc' := 128) c57_127 rfl rfl ?_
  refine Rn.ctor (pc' := 131) (T := 52) (kd := 5) (k' := 53) (s' := 1595) c57_128 (by decide +kernel) (by decide) (by decide +kernel) (by decide) (by decide +kernel) rfl (k52 (o := 51) (n2 := 54) (by decide) (by decide) (congrArg Prod.fst (sh_at (x := (3, 0)) (by decide) (by decide +kernel))) (sh_at (by decide) (by decide +kernel)) (sh_at (by decide) (by decide +kernel)) rfl) (by decide +kernel) (by decide +kernel) rfl ?_
  refine (fun v n' I' R' L' h => ?_)
  obtain ⟨rfl, rfl, rfl, rfl, rfl⟩ := h
  refine ⟨rfl, ?_⟩
  refine Rn.aast (pc' := 132) (j := 6) (a1 := 52) c57_131 (by decide) (by decide) (congrArg Prod.fst (sh_at (x := (12, 16)) (by decide) (by decide +kernel))) (by rw [sh_at (x := (12, 16)) (by decide) (by decide +kernel)]; decide +kernel) (congrArg Prod.fst (sh_at (x := (3, 0)) (by decide) (by decide +kernel))) (by decide +kernel) rfl rfl ?_
  refine Rn.iinc (pc' := 135) (w := nI 7) c57_132 rfl ⟨by decide, by rfl⟩ (by decide +kernel) rfl rfl ?_
  refine Rn.goto (pc' := 113) c57_135 (by decide +kernel) (by decide +kernel) ?_
  refine Rn.iload (pc' := 114) c57_113 rfl rfl ?_
  refine Rn.bipush (pc' := 116) (v := nI 16) c57_114 (by decide +kernel) rfl ?_
  refine Rn.ific (pc' := 119) c57_116 (by decide +kernel) (by decide +kernel) ?_
  refine Rn.aload (pc' := 120) (v := 0) c57_119 rfl rfl ?_
  refine Rn.getr (pc' := 123) (C := 4) (f := 7) (a := 25) c57_120 (by decide +kernel) (by decide) (congrArg Prod.fst (sh_at (x := (4, 0)) (by decide) (by decide +kernel))) (by decide +kernel) (by decide +kernel) (by decide +kernel) rfl ?_
  refine Rn.iload (pc' := 124) c57_123 rfl rfl ?_
  refine Rn.new (pc' := 127) (C := 3) (n1 := 55) (s' := 1600) c57_124 (by decide +kernel) (sh_at (by decide) (by decide +kernel)) (by decide) (by decide +kernel) rfl rfl rfl ?_
  refine Rn.dup (pc' := 128) c57_127 rfl rfl ?_
  refine Rn.ctor (pc' := 131) (T := 52) (kd := 5) (k' := 56) (s' := 1610) c57_128 (by decide +kernel) (by decide) (by decide +kernel) (by decide) (by decide +kernel) rfl (k52 (o := 54) (n2 := 57) (by decide) (by decide) (congrArg Prod.fst (sh_at (x := (3, 0)) (by decide) (by decide +kernel))) (sh_at (by decide) (by decide +kernel)) (sh_at (by decide) (by decide +kernel)) rfl) (by decide +kernel) (by decide +kernel) rfl ?_
  refine (fun v n' I' R' L' h => ?_)
  obtain ⟨rfl, rfl, rfl, rfl, rfl⟩ := h
  refine ⟨rfl, ?_⟩
  refine Rn.aast (pc' := 132) (j := 7) (a1 := 55) c57_131 (by decide) (by decide) (congrArg Prod.fst (sh_at (x := (12, 16)) (by decide) (by decide +kernel))) (by rw [sh_at (x := (12, 16)) (by decide) (by decide +kernel)]; decide +kernel) (congrArg Prod.fst (sh_at (x := (3, 0)) (by decide) (by decide +kernel))) (by decide +kernel) rfl rfl ?_
  refine Rn.iinc (pc' := 135) (w := nI 8) c57_132 rfl ⟨by decide, by rfl⟩ (by decide +kernel) rfl rfl ?_
  refine Rn.goto (pc' := 113) c57_135 (by decide +kernel) (by decide +kernel) ?_
  refine Rn.iload (pc' := 114) c57_113 rfl rfl ?_
  refine Rn.bipush (pc' := 116) (v := nI 16) c57_114 (by decide +kernel) rfl ?_
  refine Rn.ific (pc' := 119) c57_116 (by decide +kernel) (by decide +kernel) ?_
  refine Rn.aload (pc' := 120) (v := 0) c57_119 rfl rfl ?_
  refine Rn.getr (pc' := 123) (C := 4) (f := 7) (a := 25) c57_120 (by decide +kernel) (by decide) (congrArg Prod.fst (sh_at (x := (4, 0)) (by decide) (by decide +kernel))) (by decide +kernel) (by decide +kernel) (by decide +kernel) rfl ?_
  refine Rn.iload (pc' := 124) c57_123 rfl rfl ?_
  refine Rn.new (pc' := 127) (C := 3) (n1 := 58) (s' := 1615) c57_124 (by decide +kernel) (sh_at (by decide) (by decide +kernel)) (by decide) (by decide +kernel) rfl rfl rfl ?_
  refine Rn.dup (pc' := 128) c57_127 rfl rfl ?_
  refine Rn.ctor (pc' := 131) (T := 52) (kd := 5) (k' := 59) (s' := 1625) c57_128 (by decide +kernel) (by decide) (by decide +kernel) (by decide) (by decide +kernel) rfl (k52 (o := 57) (n2 := 60) (by decide) (by decide) (congrArg Prod.fst (sh_at (x := (3, 0)) (by decide) (by decide +kernel))) (sh_at (by decide) (by decide +kernel)) (sh_at (by decide) (by decide +kernel)) rfl) (by decide +kernel) (by decide +kernel) rfl ?_
  refine (fun v n' I' R' L' h => ?_)
  obtain ⟨rfl, rfl, rfl, rfl, rfl⟩ := h
  refine ⟨rfl, ?_⟩
  refine Rn.aast (pc' := 132) (j := 8) (a1 := 58) c57_131 (by decide) (by decide) (congrArg Prod.fst (sh_at (x := (12, 16)) (by decide) (by decide +kernel))) (by rw [sh_at (x := (12, 16)) (by decide) (by decide +kernel)]; decide +kernel) (congrArg Prod.fst (sh_at (x := (3, 0)) (by decide) (by decide +kernel))) (by decide +kernel) rfl rfl ?_
  refine Rn.iinc (pc' := 135) (w := nI 9) c57_132 rfl ⟨by decide, by rfl⟩ (by decide +kernel) rfl rfl ?_
  refine Rn.goto (pc' := 113) c57_135 (by decide +kernel) (by decide +kernel) ?_
  refine Rn.iload (pc' := 114) c57_113 rfl rfl ?_
  refine Rn.bipush (pc' := 116) (v := nI 16) c57_114 (by decide +kernel) rfl ?_
  refine Rn.ific (pc' := 119) c57_116 (by decide +kernel) (by decide +kernel) ?_
  refine Rn.aload (pc' := 120) (v := 0) c57_119 rfl rfl ?_
  refine Rn.getr (pc' := 123) (C := 4) (f := 7) (a := 25) c57_120 (by decide +kernel) (by decide) (congrArg Prod.fst (sh_at (x := (4, 0)) (by decide) (by decide +kernel))) (by decide +kernel) (by decide +kernel) (by decide +kernel) rfl ?_
  refine Rn.iload (pc' := 124) c57_123 rfl rfl ?_
  refine Rn.new (pc' := 127) (C := 3) (n1 := 61) (s' := 1630) c57_124 (by decide +kernel) (sh_at (by decide) (by decide +kernel)) (by decide) (by decide +kernel) rfl rfl rfl ?_
  refine Rn.dup (pc' := 128) c57_127 rfl rfl ?_
  refine Rn.ctor (pc' := 131) (T := 52) (kd := 5) (k' := 62) (s' := 1640) c57_128 (by decide +kernel) (by decide) (by decide +kernel) (by decide) (by decide +kernel) rfl (k52 (o := 60) (n2 := 63) (by decide) (by decide) (congrArg Prod.fst (sh_at (x := (3, 0)) (by decide) (by decide +kernel))) (sh_at (by decide) (by decide +kernel)) (sh_at (by decide) (by decide +kernel)) rfl) (by decide +kernel) (by decide +kernel) rfl ?_
  refine (fun v n' I' R' L' h => ?_)
  obtain ⟨rfl, rfl, rfl, rfl, rfl⟩ := h
  refine ⟨rfl, ?_⟩
  refine Rn.aast (pc' := 132) (j := 9) (a1 := 61) c57_131 (by decide) (by decide) (congrArg Prod.fst (sh_at (x := (12, 16)) (by decide) (by decide +kernel))) (by rw [sh_at (x := (12, 16)) (by decide) (by decide +kernel)]; decide +kernel) (congrArg Prod.fst (sh_at (x := (3, 0)) (by decide) (by decide +kernel))) (by decide +kernel) rfl rfl ?_
  refine Rn.iinc (pc' := 135) (w := nI 10) c57_132 rfl ⟨by decide, by rfl⟩ (by decide +kernel) rfl rfl ?_
  refine Rn.goto (pc' := 113) c57_135 (by decide +kernel) (by decide +kernel) ?_
  refine Rn.iload (pc' := 114) c57_113 rfl rfl ?_
  refine Rn.bipush (pc' := 116) (v := nI 16) c57_114 (by decide +kernel) rfl ?_
  refine Rn.ific (pc' := 119) c57_116 (by decide +kernel) (by decide +kernel) ?_
  refine Rn.aload (pc' := 120) (v := 0) c57_119 rfl rfl ?_
  refine Rn.getr (pc' := 123) (C := 4) (f := 7) (a := 25) c57_120 (by decide +kernel) (by decide) (congrArg Prod.fst (sh_at (x := (4, 0)) (by decide) (by decide +kernel))) (by decide +kernel) (by decide +kernel) (by decide +kernel) rfl ?_
  refine Rn.iload (pc' := 124) c57_123 rfl rfl ?_
  refine Rn.new (pc' := 127) (C := 3) (n1 := 64) (s' := 1645) c57_124 (by decide +kernel) (sh_at (by decide) (by decide +kernel)) (by decide) (by decide +kernel) rfl rfl rfl ?_
  refine Rn.dup (pc' := 128) c57_127 rfl rfl ?_
  refine Rn.ctor (pc' := 131) (T := 52) (kd := 5) (k' := 65) (s' := 1655) c57_128 (by decide +kernel) (by decide) (by decide +kernel) (by decide) (by decide +kernel) rfl (k52 (o := 63) (n2 := 66) (by decide) (by decide) (congrArg Prod.fst (sh_at (x := (3, 0)) (by decide) (by decide +kernel))) (sh_at (by decide) (by decide +kernel)) (sh_at (by decide) (by decide +kernel)) rfl) (by decide +kernel) (by decide +kernel) rfl ?_
  refine (fun v n' I' R' L' h => ?_)
  obtain ⟨rfl, rfl, rfl, rfl, rfl⟩ := h
  refine ⟨rfl, ?_⟩
  refine Rn.aast (pc' := 132) (j := 10) (a1 := 64) c57_131 (by decide) (by decide) (congrArg Prod.fst (sh_at (x := (12, 16)) (by decide) (by decide +kernel))) (by rw [sh_at (x := (12, 16)) (by decide) (by decide +kernel)]; decide +kernel) (congrArg Prod.fst (sh_at (x := (3, 0)) (by decide) (by decide +kernel))) (by decide +kernel) rfl rfl ?_
  refine Rn.iinc (pc' := 135) (w := nI 11) c57_132 rfl ⟨by decide, by rfl⟩ (by decide +kernel) rfl rfl ?_
  refine Rn.goto (pc' := 113) c57_135 (by decide +kernel) (by decide +kernel) ?_
  refine Rn.iload (pc' := 114) c57_113 rfl rfl ?_
  refine Rn.bipush (pc' := 116) (v := nI 16) c57_114 (by decide +kernel) rfl ?_
  refine Rn.ific (pc' := 119) c57_116 (by decide +kernel) (by decide +kernel) ?_
  refine Rn.aload (pc' := 120) (v := 0) c57_119 rfl rfl ?_
  refine Rn.getr (pc' := 123) (C := 4) (f := 7) (a := 25) c57_120 (by decide +kernel) (by decide) (congrArg Prod.fst (sh_at (x := (4, 0)) (by decide) (by decide +kernel))) (by decide +kernel) (by decide +kernel) (by decide +kernel) rfl ?_
  refine Rn.iload (pc' := 124) c57_123 rfl rfl ?_
  refine Rn.new (pc' := 127) (C := 3) (n1 := 67) (s' := 1660) c57_124 (by decide +kernel) (sh_at (by decide) (by decide +kernel)) (by decide) (by decide +kernel) rfl rfl rfl ?_
  refine Rn.dup (pc' := 128) c57_127 rfl rfl ?_
  refine Rn.ctor (pc' := 131) (T := 52) (kd := 5) (k' := 68) (s' := 1670) c57_128 (by decide +kernel) (by decide) (by decide +kernel) (by decide) (by decide +kernel) rfl (k52 (o := 66) (n2 := 69) (by decide) (by decide) (congrArg Prod.fst (sh_at (x := (3, 0)) (by decide) (by decide +kernel))) (sh_at (by decide) (by decide +kernel)) (sh_at (by decide) (by decide +kernel)) rfl) (by decide +kernel) (by decide +kernel) rfl ?_
  refine (fun v n' I' R' L' h => ?_)
  obtain ⟨rfl, rfl, rfl, rfl, rfl⟩ := h
  refine ⟨rfl, ?_⟩
  refine Rn.aast (pc' := 132) (j := 11) (a1 := 67) c57_131 (by decide) (by decide) (congrArg Prod.fst (sh_at (x := (12, 16)) (by decide) (by decide +kernel))) (by rw [sh_at (x := (12, 16)) (by decide) (by decide +kernel)]; decide +kernel) (congrArg Prod.fst (sh_at (x := (3, 0)) (by decide) (by decide +kernel))) (by decide +kernel) rfl rfl ?_
  refine Rn.iinc (pc' := 135) (w := nI 12) c57_132 rfl ⟨by decide, by rfl⟩ (by decide +kernel) rfl rfl ?_
  refine Rn.goto (pc' := 113) c57_135 (by decide +kernel) (by decide +kernel) ?_
  refine Rn.iload (pc' := 114) c57_113 rfl rfl ?_
  refine Rn.bipush (pc' := 116) (v := nI 16) c57_114 (by decide +kernel) rfl ?_
  refine Rn.ific (pc' := 119) c57_116 (by decide +kernel) (by decide +kernel) ?_
  refine Rn.aload (pc' := 120) (v := 0) c57_119 rfl rfl ?_
  refine Rn.getr (pc' := 123) (C := 4) (f := 7) (a := 25) c57_120 (by decide +kernel) (by decide) (congrArg Prod.fst (sh_at (x := (4, 0)) (by decide) (by decide +kernel))) (by decide +kernel) (by decide +kernel) (by decide +kernel) rfl ?_
  refine Rn.iload (pc' := 124) c57_123 rfl rfl ?_
  refine Rn.new (pc' := 127) (C := 3) (n1 := 70) (s' := 1675) c57_124 (by decide +kernel) (sh_at (by decide) (by decide +kernel)) (by decide) (by decide +kernel) rfl rfl rfl ?_
  refine Rn.dup (pc' := 128) c57_127 rfl rfl ?_
  refine Rn.ctor (pc' := 131) (T := 52) (kd := 5) (k' := 71) (s' := 1685) c57_128 (by decide +kernel) (by decide) (by decide +kernel) (by decide) (by decide +kernel) rfl (k52 (o := 69) (n2 := 72) (by decide) (by decide) (congrArg Prod.fst (sh_at (x := (3, 0)) (by decide) (by decide +kernel))) (sh_at (by decide) (by decide +kernel)) (sh_at (by decide) (by decide +kernel)) rfl) (by decide +kernel) (by decide +kernel) rfl ?_
  refine (fun v n' I' R' L' h => ?_)
  obtain ⟨rfl, rfl, rfl, rfl, rfl⟩ := h
  refine ⟨rfl, ?_⟩
  refine Rn.aast (pc' := 132) (j := 12) (a1 := 70) c57_131 (by decide) (by decide) (congrArg Prod.fst (sh_at (x := (12, 16)) (by decide) (by decide +kernel))) (by rw [sh_at (x := (12, 16)) (by decide) (by decide +kernel)]; decide +kernel) (congrArg Prod.fst (sh_at (x := (3, 0)) (by decide) (by decide +kernel))) (by decide +kernel) rfl rfl ?_
  refine Rn.iinc (pc' := 135) (w := nI 13) c57_132 rfl ⟨by decide, by rfl⟩ (by decide +kernel) rfl rfl ?_
  refine Rn.goto (pc' := 113) c57_135 (by decide +kernel) (by decide +kernel) ?_
  refine Rn.iload (pc' := 114) c57_113 rfl rfl ?_
  refine Rn.bipush (pc' := 116) (v := nI 16) c57_114 (by decide +kernel) rfl ?_
  refine Rn.ific (pc' := 119) c57_116 (by decide +kernel) (by decide +kernel) ?_
  refine Rn.aload (pc' := 120) (v := 0) c57_119 rfl rfl ?_
  refine Rn.getr (pc' := 123) (C := 4) (f := 7) (a := 25) c57_120 (by decide +kernel) (by decide) (congrArg Prod.fst (sh_at (x := (4, 0)) (by decide) (by decide +kernel))) (by decide +kernel) (by decide +kernel) (by decide +kernel) rfl ?_
  refine Rn.iload (pc' := 124) c57_123 rfl rfl ?_
  refine Rn.new (pc' := 127) (C := 3) (n1 := 73) (s' := 1690) c57_124 (by decide +kernel) (sh_at (by decide) (by decide +kernel)) (by decide) (by decide +kernel) rfl rfl rfl ?_
  refine Rn.dup (pc' := 128) c57_127 rfl rfl ?_
  refine Rn.ctor (pc' := 131) (T := 52) (kd := 5) (k' := 74) (s' := 1700) c57_128 (by decide +kernel) (by decide) (by decide +kernel) (by decide) (by decide +kernel) rfl (k52 (o := 72) (n2 := 75) (by decide) (by decide) (congrArg Prod.fst (sh_at (x := (3, 0)) (by decide) (by decide +kernel))) (sh_at (by decide) (by decide +kernel)) (sh_at (by decide) (by decide +kernel)) rfl) (by decide +kernel) (by decide +kernel) rfl ?_
  refine (fun v n' I' R' L' h => ?_)
  obtain ⟨rfl, rfl, rfl, rfl, rfl⟩ := h
  refine ⟨rfl, ?_⟩
  refine Rn.aast (pc' := 132) (j := 13) (a1 := 73) c57_131 (by decide) (by decide) (congrArg Prod.fst (sh_at (x := (12, 16)) (by decide) (by decide +kernel))) (by rw [sh_at (x := (12, 16)) (by decide) (by decide +kernel)]; decide +kernel) (congrArg Prod.fst (sh_at (x := (3, 0)) (by decide) (by decide +kernel))) (by decide +kernel) rfl rfl ?_
  refine Rn.iinc (pc' := 135) (w := nI 14) c57_132 rfl ⟨by decide, by rfl⟩ (by decide +kernel) rfl rfl ?_
  refine Rn.goto (pc' := 113) c57_135 (by decide +kernel) (by decide +kernel) ?_
  refine Rn.iload (pc' := 114) c57_113 rfl rfl ?_
  refine Rn.bipush (pc' := 116) (v := nI 16) c57_114 (by decide +kernel) rfl ?_
  refine Rn.ific (pc' := 119) c57_116 (by decide +kernel) (by decide +kernel) ?_
  refine Rn.aload (pc' := 120) (v := 0) c57_119 rfl rfl ?_
  refine Rn.getr (pc' := 123) (C := 4) (f := 7) (a := 25) c57_120 (by decide +kernel) (by decide) (congrArg Prod.fst (sh_at (x := (4, 0)) (by decide) (by decide +kernel))) (by decide +kernel) (by decide +kernel) (by decide +kernel) rfl ?_
  refine Rn.iload (pc' := 124) c57_123 rfl rfl ?_
  refine Rn.new (pc' := 127) (C := 3) (n1 := 76) (s' := 1705) c57_124 (by decide +kernel) (sh_at (by decide) (by decide +kernel)) (by decide) (by decide +kernel) rfl rfl rfl ?_
  refine Rn.dup (pc' := 128) c57_127 rfl rfl ?_
  refine Rn.ctor (pc' := 131) (T := 52) (kd := 5) (k' := 77) (s' := 1715) c57_128 (by decide +kernel) (by decide) (by decide +kernel) (by decide) (by decide +kernel) rfl (k52 (o := 75) (n2 := 78) (by decide) (by decide) (congrArg Prod.fst (sh_at (x := (3, 0)) (by decide) (by decide +kernel))) (sh_at (by decide) (by decide +kernel)) (sh_at (by decide) (by decide +kernel)) rfl) (by decide +kernel) (by decide +kernel) rfl ?_
  refine (fun v n' I' R' L' h => ?_)
  obtain ⟨rfl, rfl, rfl, rfl, rfl⟩ := h
  refine ⟨rfl, ?_⟩
  refine Rn.aast (pc' := 132) (j := 14) (a1 := 76) c57_131 (by decide) (by decide) (congrArg Prod.fst (sh_at (x := (12, 16)) (by decide) (by decide +kernel))) (by rw [sh_at (x := (12, 16)) (by decide) (by decide +kernel)]; decide +kernel) (congrArg Prod.fst (sh_at (x := (3, 0)) (by decide) (by decide +kernel))) (by decide +kernel) rfl rfl ?_
  refine Rn.iinc (pc' := 135) (w := nI 15) c57_132 rfl ⟨by decide, by rfl⟩ (by decide +kernel) rfl rfl ?_
  refine Rn.goto (pc' := 113) c57_135 (by decide +kernel) (by decide +kernel) ?_
  refine Rn.iload (pc' := 114) c57_113 rfl rfl ?_
  refine Rn.bipush (pc' := 116) (v := nI 16) c57_114 (by decide +kernel) rfl ?_
  refine Rn.ific (pc' := 119) c57_116 (by decide +kernel) (by decide +kernel) ?_
  refine Rn.aload (pc' := 120) (v := 0) c57_119 rfl rfl ?_
  refine Rn.getr (pc' := 123) (C := 4) (f := 7) (a := 25) c57_120 (by decide +kernel) (by decide) (congrArg Prod.fst (sh_at (x := (4, 0)) (by decide) (by decide +kernel))) (by decide +kernel) (by decide +kernel) (by decide +kernel) rfl ?_
  refine Rn.iload (pc' := 124) c57_123 rfl rfl ?_
  refine Rn.new (pc' := 127) (C := 3) (n1 := 79) (s' := 1720) c57_124 (by decide +kernel) (sh_at (by decide) (by decide +kernel)) (by decide) (by decide +kernel) rfl rfl rfl ?_
  refine Rn.dup (pc' := 128) c57_127 rfl rfl ?_
  refine Rn.ctor (pc' := 131) (T := 52) (kd := 5) (k' := 80) (s' := 1730) c57_128 (by decide +kernel) (by decide) (by decide +kernel) (by decide) (by decide +kernel) rfl (k52 (o := 78) (n2 := 81) (by decide) (by decide) (congrArg Prod.fst (sh_at (x := (3, 0)) (by decide) (by decide +kernel))) (sh_at (by decide) (by decide +kernel)) (sh_at (by decide) (by decide +kernel)) rfl) (by decide +kernel) (by decide +kernel) rfl ?_
  refine (fun v n' I' R' L' h => ?_)
  obtain ⟨rfl, rfl, rfl, rfl, rfl⟩ := h
  refine ⟨rfl, ?_⟩
  refine Rn.aast (pc' := 132) (j := 15) (a1 := 79) c57_131 (by decide) (by decide) (congrArg Prod.fst (sh_at (x := (12, 16)) (by decide) (by decide +kernel))) (by rw [sh_at (x := (12, 16)) (by decide) (by decide +kernel)]; decide +kernel) (congrArg Prod.fst (sh_at (x := (3, 0)) (by decide) (by decide +kernel))) (by decide +kernel) rfl rfl ?_
  refine Rn.iinc (pc' := 135) (w := nI 16) c57_132 rfl ⟨by decide, by rfl⟩ (by decide +kernel) rfl rfl ?_
  refine Rn.goto (pc' := 113) c57_135 (by decide +kernel) (by decide +kernel) ?_
  refine Rn.iload (pc' := 114) c57_113 rfl rfl ?_
  refine Rn.bipush (pc' := 116) (v := nI 16) c57_114 (by decide +kernel) rfl ?_
  refine Rn.ific (pc' := 138) c57_116 (by decide +kernel) (by decide +kernel) ?_
  refine Rn.iconst (pc' := 139) (v := nI 0) c57_138 (by decide +kernel) rfl ?_
  refine Rn.istore (pc' := 140) c57_139 ⟨by decide, by rfl⟩ rfl rfl ?_
  refine Rn.iload (pc' := 141) c57_140 rfl rfl ?_
  refine Rn.iconst (pc' := 142) (v := nI 2) c57_141 (by decide +kernel) rfl ?_
  refine Rn.ific (pc' := 145) c57_142 (by decide +kernel) (by decide +kernel) ?_
  refine Rn.aload (pc' := 146) (v := 0) c57_145 rfl rfl ?_
  refine Rn.getr (pc' := 149) (C := 4) (f := 10) (a := 26) c57_146 (by decide +kernel) (by decide) (congrArg Prod.fst (sh_at (x := (4, 0)) (by decide) (by decide +kernel))) (by decide +kernel) (by decide +kernel) (by decide +kernel) rfl ?_
  refine Rn.iload (pc' := 150) c57_149 rfl rfl ?_
  refine Rn.new (pc' := 153) (C := 3) (n1 := 82) (s' := 1735) c57_150 (by decide +kernel) (sh_at (by decide) (by decide +kernel)) (by decide) (by decide +kernel) rfl rfl rfl ?_
  refine Rn.dup (pc' := 154) c57_153 rfl rfl ?_
  refine Rn.ctor (pc' := 157) (T := 52) (kd := 5) (k' := 83) (s' := 1745) c57_154 (by decide +kernel) (by decide) (by decide +kernel) (by decide) (by decide +kernel) rfl (k52 (o := 81) (n2 := 84) (by decide) (by decide) (congrArg Prod.fst (sh_at (x := (3, 0)) (by decide) (by decide +kernel))) (sh_at (by decide) (by decide +kernel)) (sh_at (by decide) (by decide +kernel)) rfl) (by decide +kernel) (by decide +kernel) rfl ?_
  refine (fun v n' I' R' L' h => ?_)
  obtain ⟨rfl, rfl, rfl, rfl, rfl⟩ := h
  refine ⟨rfl, ?_⟩
  refine Rn.aast (pc' := 158) (j := 0) (a1 := 82) c57_157 (by decide) (by decide) (congrArg Prod.fst (sh_at (x := (12, 2)) (by decide) (by decide +kernel))) (by rw [sh_at (x := (12, 2)) (by decide) (by decide +kernel)]; decide +kernel) (congrArg Prod.fst (sh_at (x := (3, 0)) (by decide) (by decide +kernel))) (by decide +kernel) rfl rfl ?_
  refine Rn.iinc (pc' := 161) (w := nI 1) c57_158 rfl ⟨by decide, by rfl⟩ (by decide +kernel) rfl rfl ?_
  refine Rn.goto (pc' := 140) c57_161 (by decide +kernel) (by decide +kernel) ?_
  refine Rn.iload (pc' := 141) c57_140 rfl rfl ?_
  refine Rn.iconst (pc' := 142) (v := nI 2) c57_141 (by decide +kernel) rfl ?_
  refine Rn.ific (pc' := 145) c57_142 (by decide +kernel) (by decide +kernel) ?_
  refine Rn.aload (pc' := 146) (v := 0) c57_145 rfl rfl ?_
  refine Rn.getr (pc' := 149) (C := 4) (f := 10) (a := 26) c57_146 (by decide +kernel) (by decide) (congrArg Prod.fst (sh_at (x := (4, 0)) (by decide) (by decide +kernel))) (by decide +kernel) (by decide +kernel) (by decide +kernel) rfl ?_
  refine Rn.iload (pc' := 150) c57_149 rfl rfl ?_
  refine Rn.new (pc' := 153) (C := 3) (n1 := 85) (s' := 1750) c57_150 (by decide +kernel) (sh_at (by decide) (by decide +kernel)) (by decide) (by decide +kernel) rfl rfl rfl ?_
  refine Rn.dup (pc' := 154) c57_153 rfl rfl ?_
  refine Rn.ctor (pc' := 157) (T := 52) (kd := 5) (k' := 86) (s' := 1760) c57_154 (by decide +kernel) (by decide) (by decide +kernel) (by decide) (by decide +kernel) rfl (k52 (o := 84) (n2 := 87) (by decide) (by decide) (congrArg Prod.fst (sh_at (x := (3, 0)) (by decide) (by decide +kernel))) (sh_at (by decide) (by decide +kernel)) (sh_at (by decide) (by decide +kernel)) rfl) (by decide +kernel) (by decide +kernel) rfl ?_
  refine (fun v n' I' R' L' h => ?_)
  obtain ⟨rfl, rfl, rfl, rfl, rfl⟩ := h
  refine ⟨rfl, ?_⟩
  refine Rn.aast (pc' := 158) (j := 1) (a1 := 85) c57_157 (by decide) (by decide) (congrArg Prod.fst (sh_at (x := (12, 2)) (by decide) (by decide +kernel))) (by rw [sh_at (x := (12, 2)) (by decide) (by decide +kernel)]; decide +kernel) (congrArg Prod.fst (sh_at (x := (3, 0)) (by decide) (by decide +kernel))) (by decide +kernel) rfl rfl ?_
  refine Rn.iinc (pc' := 161) (w := nI 2) c57_158 rfl ⟨by decide, by rfl⟩ (by decide +kernel) rfl rfl ?_
  refine Rn.goto (pc' := 140) c57_161 (by decide +kernel) (by decide +kernel) ?_
  refine Rn.iload (pc' := 141) c57_140 rfl rfl ?_
  refine Rn.iconst (pc' := 142) (v := nI 2) c57_141 (by decide +kernel) rfl ?_
  refine Rn.ific (pc' := 164) c57_142 (by decide +kernel) (by decide +kernel) ?_
  exact Rn.ret c57_164 (by decide +kernel) (by decide +kernel) (by decide +kernel) ⟨rfl, rfl, hI1, hI2, by unfold FX0; decide +kernel, rfl⟩
