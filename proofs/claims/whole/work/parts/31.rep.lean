/-! where all lies: the objects' kinds, the rows' lengths, the references that never change -/
def IsC (c : Nat) : Prop := c = 3 ∨ c = 11
def IsS (s : Nat) : Prop := s = 19 ∨ s = 22 ∨ (33 ≤ s ∧ s ≤ 84 ∧ s % 3 = 0)
def Fx (R : ab_R) : Prop := (∀ c, IsC c → ∀ k, k < 7 → R c k = c + k + 2) ∧ (∀ s, IsS s → R s 0 = s + 2 ∧ R s 1 = s + 3) ∧ (∀ i, i < 16 → R 25 i = 34 + 3 * i) ∧
  R 0 0 = 2 ∧ R 0 2 = 3 ∧ R 0 5 = 20 ∧ R 0 6 = 23 ∧ R 0 7 = 26 ∧ R 0 10 = 27 ∧ R 0 12 = 28 ∧ R 0 13 = 32 ∧ R 0 15 = 33 ∧ R 27 0 = 29 ∧ R 27 1 = 30 ∧ R 27 2 = 31 ∧ R 87 4 = 89 ∧ R 87 5 = 90 ∧ R 87 6 = 91 ∧ R 87 7 = 92 ∧ R 87 8 = 93 ∧ R 87 9 = 94 ∧ R 87 10 = 95 ∧ R 87 16 = 96 ∧ R 87 17 = 97 ∧ R 87 18 = 98 ∧ R 87 19 = 99 ∧ R 87 20 = 100 ∧ R 87 21 = 101 ∧ R 87 22 = 102 ∧ R 87 23 = 103 ∧ R 87 29 = 104 ∧ R 87 30 = 105 ∧ R 87 35 = 106 ∧ R 87 37 = 107 ∧ R 87 38 = 108 ∧ R 87 40 = 109 ∧ R 87 41 = 110 ∧ R 87 43 = 111 ∧ R 87 44 = 112 ∧ R 26 0 = 82 ∧ R 26 1 = 85
theorem Fx.x0 {R : ab_R} (h : Fx R) : R 0 0 = 2 := h.2.2.2.1
theorem Fx.x2 {R : ab_R} (h : Fx R) : R 0 2 = 3 := h.2.2.2.2.1
theorem Fx.x5 {R : ab_R} (h : Fx R) : R 0 5 = 20 := h.2.2.2.2.2.1
theorem Fx.x6 {R : ab_R} (h : Fx R) : R 0 6 = 23 := h.2.2.2.2.2.2.1
theorem Fx.x7 {R : ab_R} (h : Fx R) : R 0 7 = 26 := h.2.2.2.2.2.2.2.1
theorem Fx.x10 {R : ab_R} (h : Fx R) : R 0 10 = 27 := h.2.2.2.2.2.2.2.2.1
theorem Fx.x12 {R : ab_R} (h : Fx R) : R 0 12 = 28 := h.2.2.2.2.2.2.2.2.2.1
theorem Fx.x13 {R : ab_R} (h : Fx R) : R 0 13 = 32 := h.2.2.2.2.2.2.2.2.2.2.1
theorem Fx.x15 {R : ab_R} (h : Fx R) : R 0 15 = 33 := h.2.2.2.2.2.2.2.2.2.2.2.1
theorem Fx.k0 {R : ab_R} (h : Fx R) : R 27 0 = 29 := h.2.2.2.2.2.2.2.2.2.2.2.2.1
theorem Fx.k1 {R : ab_R} (h : Fx R) : R 27 1 = 30 := h.2.2.2.2.2.2.2.2.2.2.2.2.2.1
theorem Fx.k2 {R : ab_R} (h : Fx R) : R 27 2 = 31 := h.2.2.2.2.2.2.2.2.2.2.2.2.2.2.1
theorem Fx.m4 {R : ab_R} (h : Fx R) : R 87 4 = 89 := h.2.2.2.2.2.2.2.2.2.2.2.2.2.2.2.1
theorem Fx.m5 {R : ab_R} (h : Fx R) : R 87 5 = 90 := h.2.2.2.2.2.2.2.2.2.2.2.2.2.2.2.2.1
theorem Fx.m6 {R : ab_R} (h : Fx R) : R 87 6 = 91 := h.2.2.2.2.2.2.2.2.2.2.2.2.2.2.2.2.2.1
theorem Fx.m7 {R : ab_R} (h : Fx R) : R 87 7 = 92 := h.2.2.2.2.2.2.2.2.2.2.2.2.2.2.2.2.2.2.1
theorem Fx.m8 {R : ab_R} (h : Fx R) : R 87 8 = 93 := h.2.2.2.2.2.2.2.2.2.2.2.2.2.2.2.2.2.2.2.1
theorem Fx.m9 {R : ab_R} (h : Fx R) : R 87 9 = 94 := h.2.2.2.2.2.2.2.2.2.2.2.2.2.2.2.2.2.2.2.2.1
theorem Fx.m10 {R : ab_R} (h : Fx R) : R 87 10 = 95 := h.2.2.2.2.2.2.2.2.2.2.2.2.2.2.2.2.2.2.2.2.2.1
theorem Fx.m16 {R : ab_R} (h : Fx R) : R 87 16 = 96 := h.2.2.2.2.2.2.2.2.2.2.2.2.2.2.2.2.2.2.2.2.2.2.1
theorem Fx.m17 {R : ab_R} (h : Fx R) : R 87 17 = 97 := h.2.2.2.2.2.2.2.2.2.2.2.2.2.2.2.2.2.2.2.2.2.2.2.1
theorem Fx.m18 {R : ab_R} (h : Fx R) : R 87 18 = 98 := h.2.2.2.2.2.2.2.2.2.2.2.2.2.2.2.2.2.2.2.2.2.2.2.2.1
theorem Fx.m19 {R : ab_R} (h : Fx R) : R 87 19 = 99 := h.2.2.2.2.2.2.2.2.2.2.2.2.2.2.2.2.2.2.2.2.2.2.2.2.2.1
theorem Fx.m20 {R : ab_R} (h : Fx R) : R 87 20 = 100 := h.2.2.2.2.2.2.2.2.2.2.2.2.2.2.2.2.2.2.2.2.2.2.2.2.2.2.1
theorem Fx.m21 {R : ab_R} (h : Fx R) : R 87 21 = 101 := h.2.2.2.2.2.2.2.2.2.2.2.2.2.2.2.2.2.2.2.2.2.2.2.2.2.2.2.1
theorem Fx.m22 {R : ab_R} (h : Fx R) : R 87 22 = 102 := h.2.2.2.2.2.2.2.2.2.2.2.2.2.2.2.2.2.2.2.2.2.2.2.2.2.2.2.2.1
theorem Fx.m23 {R : ab_R} (h : Fx R) : R 87 23 = 103 := h.2.2.2.2.2.2.2.2.2.2.2.2.2.2.2.2.2.2.2.2.2.2.2.2.2.2.2.2.2.1
theorem Fx.m29 {R : ab_R} (h : Fx R) : R 87 29 = 104 := h.2.2.2.2.2.2.2.2.2.2.2.2.2.2.2.2.2.2.2.2.2.2.2.2.2.2.2.2.2.2.1
theorem Fx.m30 {R : ab_R} (h : Fx R) : R 87 30 = 105 := h.2.2.2.2.2.2.2.2.2.2.2.2.2.2.2.2.2.2.2.2.2.2.2.2.2.2.2.2.2.2.2.1
theorem Fx.m35 {R : ab_R} (h : Fx R) : R 87 35 = 106 := h.2.2.2.2.2.2.2.2.2.2.2.2.2.2.2.2.2.2.2.2.2.2.2.2.2.2.2.2.2.2.2.2.1
theorem Fx.m37 {R : ab_R} (h : Fx R) : R 87 37 = 107 := h.2.2.2.2.2.2.2.2.2.2.2.2.2.2.2.2.2.2.2.2.2.2.2.2.2.2.2.2.2.2.2.2.2.1
theorem Fx.m38 {R : ab_R} (h : Fx R) : R 87 38 = 108 := h.2.2.2.2.2.2.2.2.2.2.2.2.2.2.2.2.2.2.2.2.2.2.2.2.2.2.2.2.2.2.2.2.2.2.1
theorem Fx.m40 {R : ab_R} (h : Fx R) : R 87 40 = 109 := h.2.2.2.2.2.2.2.2.2.2.2.2.2.2.2.2.2.2.2.2.2.2.2.2.2.2.2.2.2.2.2.2.2.2.2.1
theorem Fx.m41 {R : ab_R} (h : Fx R) : R 87 41 = 110 := h.2.2.2.2.2.2.2.2.2.2.2.2.2.2.2.2.2.2.2.2.2.2.2.2.2.2.2.2.2.2.2.2.2.2.2.2.1
theorem Fx.m43 {R : ab_R} (h : Fx R) : R 87 43 = 111 := h.2.2.2.2.2.2.2.2.2.2.2.2.2.2.2.2.2.2.2.2.2.2.2.2.2.2.2.2.2.2.2.2.2.2.2.2.2.1
theorem Fx.m44 {R : ab_R} (h : Fx R) : R 87 44 = 112 := h.2.2.2.2.2.2.2.2.2.2.2.2.2.2.2.2.2.2.2.2.2.2.2.2.2.2.2.2.2.2.2.2.2.2.2.2.2.2.1
theorem Fx.q0 {R : ab_R} (h : Fx R) : R 26 0 = 82 := h.2.2.2.2.2.2.2.2.2.2.2.2.2.2.2.2.2.2.2.2.2.2.2.2.2.2.2.2.2.2.2.2.2.2.2.2.2.2.2.1
theorem Fx.q1 {R : ab_R} (h : Fx R) : R 26 1 = 85 := h.2.2.2.2.2.2.2.2.2.2.2.2.2.2.2.2.2.2.2.2.2.2.2.2.2.2.2.2.2.2.2.2.2.2.2.2.2.2.2.2
theorem Fx.c0 {R : ab_R} {c : Nat} (h : Fx R) (hc : IsC c) : R c 0 = c + 2 := h.1 c hc 0 (by decide)
theorem Fx.c1 {R : ab_R} {c : Nat} (h : Fx R) (hc : IsC c) : R c 1 = c + 3 := h.1 c hc 1 (by decide)
theorem Fx.c2 {R : ab_R} {c : Nat} (h : Fx R) (hc : IsC c) : R c 2 = c + 4 := h.1 c hc 2 (by decide)
theorem Fx.c3 {R : ab_R} {c : Nat} (h : Fx R) (hc : IsC c) : R c 3 = c + 5 := h.1 c hc 3 (by decide)
theorem Fx.c4 {R : ab_R} {c : Nat} (h : Fx R) (hc : IsC c) : R c 4 = c + 6 := h.1 c hc 4 (by decide)
theorem Fx.c5 {R : ab_R} {c : Nat} (h : Fx R) (hc : IsC c) : R c 5 = c + 7 := h.1 c hc 5 (by decide)
theorem Fx.c6 {R : ab_R} {c : Nat} (h : Fx R) (hc : IsC c) : R c 6 = c + 8 := h.1 c hc 6 (by decide)
theorem Fx.s0 {R : ab_R} {s : Nat} (h : Fx R) (hs : IsS s) : R s 0 = s + 2 := (h.2.1 s hs).1
theorem Fx.s1 {R : ab_R} {s : Nat} (h : Fx R) (hs : IsS s) : R s 1 = s + 3 := (h.2.1 s hs).2
theorem Fx.p {R : ab_R} {i : Nat} (h : Fx R) (hi : i < 16) : R 25 i = 34 + 3 * i := h.2.2.1 i hi
theorem nN_pos {k : Nat} (h : ¬ k = 0) : nN k = nI (k - 1) := by
  cases k with
  | zero => exact absurd rfl h
  | succ k => rfl
theorem kdC {c : Nat} (h : IsC c) : kd c = 0 := by
  rcases h with rfl | rfl <;> decide
theorem kdS {s : Nat} (h : IsS s) : kd s = 3 := by
  have key : ∀ s, s < 85 → (s = 19 ∨ s = 22 ∨ (33 ≤ s ∧ s ≤ 84 ∧ s % 3 = 0)) → kd s = 3 := by decide +kernel
  refine key s ?_ h
  unfold IsS at h
  omega
theorem alC {c : Nat} (h : IsC c) (Z : Nat) : al Z (c + 1) = 4 ∧ al Z (c + 2) = 4 ∧ al Z (c + 3) = 6 ∧ al Z (c + 4) = 6 ∧ al Z (c + 5) = 6 ∧ al Z (c + 6) = 6 ∧ al Z (c + 7) = 6 := by
  rcases h with rfl | rfl <;> exact ⟨rfl, rfl, rfl, rfl, rfl, rfl, rfl⟩
theorem al_lo {r : Nat} (h : r < 112) (Z : Nat) : al Z r = al 0 r := by
  unfold al
  rw [if_pos h, if_pos h]
theorem alS {s : Nat} (h : IsS s) (Z : Nat) : al Z (s + 1) = 6 ∧ al Z (s + 2) = 4 := by
  have key : ∀ s, s < 85 → (s = 19 ∨ s = 22 ∨ (33 ≤ s ∧ s ≤ 84 ∧ s % 3 = 0)) → al 0 (s + 1) = 6 ∧ al 0 (s + 2) = 4 := by decide +kernel
  have hs : s < 85 := by
    unfold IsS at h
    omega
  rw [al_lo (by omega) Z, al_lo (by omega) Z]
  exact key s hs h
theorem ltC {c : Nat} (h : IsC c) (k : Nat) (hk : k ≤ 7) : c + k < 112 := by
  unfold IsC at h
  omega
theorem ltS {s : Nat} (h : IsS s) (k : Nat) (hk : k ≤ 2) : s + k < 112 := by
  unfold IsS at h
  omega
theorem al_hi (Z : Nat) : al Z 1000 = Z := Eq.trans rfl rfl
theorem bI_s (x : Int32) (I : ab_I) (R : ab_R) (L : ab_L) (f : Int32 → ab_I → ab_R → ab_L → ab_Rm) : bI (some (some (.int x), I, R, L)) f = f x I R L := Eq.trans rfl rfl
theorem bL_s (x : Int64) (I : ab_I) (R : ab_R) (L : ab_L) (f : Int64 → ab_I → ab_R → ab_L → ab_Rm) : bL (some (some (.long x), I, R, L)) f = f x I R L := Eq.trans rfl rfl
theorem bV_s (I : ab_I) (R : ab_R) (L : ab_L) (f : ab_I → ab_R → ab_L → ab_Rm) : bV (some (none, I, R, L)) f = f I R L := Eq.trans rfl rfl
theorem rv_s1 (a : Nat) : rv (a + 1) = .ref a := Eq.trans rfl rfl
theorem alC1 {c : Nat} (h : IsC c) (Z : Nat) : al Z (c + 1) = 4 := (alC h Z).1
theorem ltC1 {c : Nat} (h : IsC c) : c + 1 < 112 := ltC h 1 (by decide)
theorem alC2 {c : Nat} (h : IsC c) (Z : Nat) : al Z (c + 2) = 4 := (alC h Z).2.1
theorem ltC2 {c : Nat} (h : IsC c) : c + 2 < 112 := ltC h 2 (by decide)
theorem alC3 {c : Nat} (h : IsC c) (Z : Nat) : al Z (c + 3) = 6 := (alC h Z).2.2.1
theorem ltC3 {c : Nat} (h : IsC c) : c + 3 < 112 := ltC h 3 (by decide)
theorem alC4 {c : Nat} (h : IsC c) (Z : Nat) : al Z (c + 4) = 6 := (alC h Z).2.2.2.1
theorem ltC4 {c : Nat} (h : IsC c) : c + 4 < 112 := ltC h 4 (by decide)
theorem alC5 {c : Nat} (h : IsC c) (Z : Nat) : al Z (c + 5) = 6 := (alC h Z).2.2.2.2.1
theorem ltC5 {c : Nat} (h : IsC c) : c + 5 < 112 := ltC h 5 (by decide)
theorem alC6 {c : Nat} (h : IsC c) (Z : Nat) : al Z (c + 6) = 6 := (alC h Z).2.2.2.2.2.1
theorem ltC6 {c : Nat} (h : IsC c) : c + 6 < 112 := ltC h 6 (by decide)
theorem alC7 {c : Nat} (h : IsC c) (Z : Nat) : al Z (c + 7) = 6 := (alC h Z).2.2.2.2.2.2
theorem ltC7 {c : Nat} (h : IsC c) : c + 7 < 112 := ltC h 7 (by decide)
theorem alS1 {s : Nat} (h : IsS s) (Z : Nat) : al Z (s + 1) = 6 := (alS h Z).1
theorem ltS1 {s : Nat} (h : IsS s) : s + 1 < 112 := ltS h 1 (by decide)
theorem alS2 {s : Nat} (h : IsS s) (Z : Nat) : al Z (s + 2) = 4 := (alS h Z).2
theorem ltS2 {s : Nat} (h : IsS s) : s + 2 < 112 := ltS h 2 (by decide)
theorem kd_0 : kd 0 = 4 := by decide +kernel
theorem al_1 (Z : Nat) : al Z 1 = 56 := Eq.trans rfl rfl
theorem kd_2 : kd 2 = 2 := by decide +kernel
theorem kd_3 : kd 3 = 0 := by decide +kernel
theorem al_4 (Z : Nat) : al Z 4 = 4 := Eq.trans rfl rfl
theorem al_5 (Z : Nat) : al Z 5 = 4 := Eq.trans rfl rfl
theorem al_6 (Z : Nat) : al Z 6 = 6 := Eq.trans rfl rfl
theorem al_7 (Z : Nat) : al Z 7 = 6 := Eq.trans rfl rfl
theorem al_8 (Z : Nat) : al Z 8 = 6 := Eq.trans rfl rfl
theorem al_9 (Z : Nat) : al Z 9 = 6 := Eq.trans rfl rfl
theorem al_10 (Z : Nat) : al Z 10 = 6 := Eq.trans rfl rfl
theorem kd_11 : kd 11 = 0 := by decide +kernel
theorem al_12 (Z : Nat) : al Z 12 = 4 := Eq.trans rfl rfl
theorem al_13 (Z : Nat) : al Z 13 = 4 := Eq.trans rfl rfl
theorem al_14 (Z : Nat) : al Z 14 = 6 := Eq.trans rfl rfl
theorem al_15 (Z : Nat) : al Z 15 = 6 := Eq.trans rfl rfl
theorem al_16 (Z : Nat) : al Z 16 = 6 := Eq.trans rfl rfl
theorem al_17 (Z : Nat) : al Z 17 = 6 := Eq.trans rfl rfl
theorem al_18 (Z : Nat) : al Z 18 = 6 := Eq.trans rfl rfl
theorem kd_19 : kd 19 = 3 := by decide +kernel
theorem al_20 (Z : Nat) : al Z 20 = 6 := Eq.trans rfl rfl
theorem al_21 (Z : Nat) : al Z 21 = 4 := Eq.trans rfl rfl
theorem kd_22 : kd 22 = 3 := by decide +kernel
theorem al_23 (Z : Nat) : al Z 23 = 6 := Eq.trans rfl rfl
theorem al_24 (Z : Nat) : al Z 24 = 4 := Eq.trans rfl rfl
theorem ql_25 : ql 25 = 16 := Eq.trans rfl rfl
theorem ql_26 : ql 26 = 2 := Eq.trans rfl rfl
theorem kd_27 : kd 27 = 1 := by decide +kernel
theorem al_28 (Z : Nat) : al Z 28 = 625 := Eq.trans rfl rfl
theorem al_29 (Z : Nat) : al Z 29 = 625 := Eq.trans rfl rfl
theorem al_30 (Z : Nat) : al Z 30 = 16 := Eq.trans rfl rfl
theorem al_31 (Z : Nat) : al Z 31 = 6 := Eq.trans rfl rfl
theorem al_32 (Z : Nat) : al Z 32 = 6 := Eq.trans rfl rfl
theorem kd_87 : kd 87 = 5 := by decide +kernel
theorem al_88 (Z : Nat) : al Z 88 = 4 := Eq.trans rfl rfl
theorem al_89 (Z : Nat) : al Z 89 = 4 := Eq.trans rfl rfl
theorem al_90 (Z : Nat) : al Z 90 = 6 := Eq.trans rfl rfl
theorem al_91 (Z : Nat) : al Z 91 = 6 := Eq.trans rfl rfl
theorem al_92 (Z : Nat) : al Z 92 = 6 := Eq.trans rfl rfl
theorem al_93 (Z : Nat) : al Z 93 = 6 := Eq.trans rfl rfl
theorem al_94 (Z : Nat) : al Z 94 = 26 := Eq.trans rfl rfl
theorem al_95 (Z : Nat) : al Z 95 = 4 := Eq.trans rfl rfl
theorem al_96 (Z : Nat) : al Z 96 = 4 := Eq.trans rfl rfl
theorem al_97 (Z : Nat) : al Z 97 = 6 := Eq.trans rfl rfl
theorem al_98 (Z : Nat) : al Z 98 = 6 := Eq.trans rfl rfl
theorem al_99 (Z : Nat) : al Z 99 = 6 := Eq.trans rfl rfl
theorem al_100 (Z : Nat) : al Z 100 = 6 := Eq.trans rfl rfl
theorem al_101 (Z : Nat) : al Z 101 = 6 := Eq.trans rfl rfl
theorem al_102 (Z : Nat) : al Z 102 = 56 := Eq.trans rfl rfl
theorem al_103 (Z : Nat) : al Z 103 = 208 := Eq.trans rfl rfl
theorem al_104 (Z : Nat) : al Z 104 = 4375 := Eq.trans rfl rfl
theorem al_105 (Z : Nat) : al Z 105 = 16 := Eq.trans rfl rfl
theorem al_106 (Z : Nat) : al Z 106 = 6 := Eq.trans rfl rfl
theorem zl_107 : zl 107 = 6 := Eq.trans rfl rfl
theorem al_108 (Z : Nat) : al Z 108 = 6 := Eq.trans rfl rfl
theorem zl_109 : zl 109 = 6 := Eq.trans rfl rfl
theorem zl_110 : zl 110 = 2 := Eq.trans rfl rfl
theorem al_111 (Z : Nat) : al Z 111 = 26 := Eq.trans rfl rfl
theorem al_1001 (Z : Nat) : al Z 1001 = 16 := Eq.trans rfl rfl
theorem al_1002 (Z : Nat) : al Z 1002 = 5 := Eq.trans rfl rfl
theorem nl_i (v : Int32) : nl (some (.int v)) = true := Eq.trans rfl rfl
theorem nl_a (v : Nat) : nl (some (.ref v)) = true := Eq.trans rfl rfl
theorem nl_n : nl none = true := Eq.trans rfl rfl
theorem wt_0 : (ab_wt [] ≤ 8) = True := by simp [ab_wt]
theorem wt_i (x : Int32) (l : List Value) : ab_wt (.int x :: l) = 1 + ab_wt l := Eq.trans rfl rfl
theorem wt_a (x : Nat) (l : List Value) : ab_wt (.ref x :: l) = 1 + ab_wt l := Eq.trans rfl rfl
theorem wt_l (x : Int64) (l : List Value) : ab_wt (.long x :: l) = 2 + ab_wt l := Eq.trans rfl rfl
theorem wt_n : ab_wt [] = 0 := Eq.trans rfl rfl
theorem ct_i (x : Int32) : (Value.int x).category = 1 := Eq.trans rfl rfl
theorem ct_a (x : Nat) : (Value.ref x).category = 1 := Eq.trans rfl rfl
theorem w8_0 (n : Nat) : (ab_wt [] ≤ n) = True := by simp [ab_wt]
theorem w8_i (x : Int32) (l : List Value) (n : Nat) : (ab_wt (.int x :: l) ≤ n + 1) = (ab_wt l ≤ n) := by
  rw [wt_i]
  exact propext ⟨fun h => by omega, fun h => by omega⟩
theorem w8_a (x : Nat) (l : List Value) (n : Nat) : (ab_wt (.ref x :: l) ≤ n + 1) = (ab_wt l ≤ n) := by
  rw [wt_a]
  exact propext ⟨fun h => by omega, fun h => by omega⟩
theorem w8_l (x : Int64) (l : List Value) (n : Nat) : (ab_wt (.long x :: l) ≤ n + 2) = (ab_wt l ≤ n) := by
  rw [wt_l]
  exact propext ⟨fun h => by omega, fun h => by omega⟩
theorem b01_0 : (nI 0 = 0 ∨ nI 0 = 1) = True := by decide
theorem b01_1 : (nI 1 = 0 ∨ nI 1 = 1) = True := by decide
theorem b01_b (b : Bool) : (nI b.toNat = 0 ∨ nI b.toNat = 1) = True := by cases b <;> decide
theorem wI_app (I : ab_I) (o k : Nat) (v : Int32) (p j : Nat) : wI I o k v p j = if p = o then (if j = k then v else I p j) else I p j := rfl
theorem wI_self (I : ab_I) (o k : Nat) (v : Int32) : wI I o k v o k = v := by simp [wI]
theorem wI_o {I : ab_I} {o k : Nat} {v : Int32} {p j : Nat} (h : p ≠ o) : wI I o k v p j = I p j := by simp [wI, h]
theorem wI_k {I : ab_I} {o k : Nat} {v : Int32} {p j : Nat} (h : j ≠ k) : wI I o k v p j = I p j := by simp [wI, h]
theorem wR_o {R : ab_R} {o k : Nat} {v : Nat} {p j : Nat} (h : p ≠ o) : wR R o k v p j = R p j := by simp [wR, h]
theorem wR_k {R : ab_R} {o k : Nat} {v : Nat} {p j : Nat} (h : j ≠ k) : wR R o k v p j = R p j := by simp [wR, h]
