/-! THE ABSTRACT MACHINE: the instructions that the claim's methods use, over numbered objects; a run is a function -/
abbrev ab_I : Type := Nat → Nat → Int32
abbrev ab_R : Type := Nat → Nat → Nat
abbrev ab_L : Type := Nat → Nat → Int64
/-- how many objects; the kind and length of each; ints, references (0: null, a + 1: object a), longs by object and place -/
abbrev ab_G : Type := Nat × (Nat → Nat × Nat) × ab_I × ab_R × ab_L
abbrev ab_N : Type := Nat × List (Option Value) × List Value × Nat × Nat × ab_G
abbrev ab_S : Type := (Option Value × ab_G) ⊕ ab_N ⊕ (Nat × List Value × List Value)
def wI (I : ab_I) (o k : Nat) (v : Int32) : ab_I := fun p j => if p = o then (if j = k then v else I p j) else I p j
def wR (R : ab_R) (o k v : Nat) : ab_R := fun p j => if p = o then (if j = k then v else R p j) else R p j
def wL (L : ab_L) (o k : Nat) (v : Int64) : ab_L := fun p j => if p = o then (if j = k then v else L p j) else L p j
def cpI (I : ab_I) (a sp b dp n : Nat) : ab_I := fun p j => if p = b then va_cpy (I a) (I b) sp dp n j else I p j
def rv : Nat → Value
  | 0 => .null
  | a + 1 => .ref a
def ab_find {α : Type} : List (Nat × Nat × α) → Nat → Nat → Option α
  | [], _, _ => none
  | (a, b, x) :: l, i, j => if a = i ∧ b = j then some x else ab_find l i j
def ab_m0 : ab_MT := (⟨"", "", ""⟩, .mk #[], 0, none, 0, 0, 0, 0, 0, 0)
def ab_m (M : Nat) : ab_MT := ab_ms.getD M ab_m0
def mY (M : Nat) : MethodName := (ab_m M).1
def mB (M : Nat) : ByteArray := (ab_m M).2.1
def mL (M : Nat) : Nat := (ab_m M).2.2.1
def mR (M : Nat) : Option FieldType := (ab_m M).2.2.2.1
def mO (M : Nat) : Nat := (ab_m M).2.2.2.2.1
def mN (M : Nat) : Nat := (ab_m M).2.2.2.2.2.1
def mF (M : Nat) : Nat := (ab_m M).2.2.2.2.2.2.1
def mW (M : Nat) : Nat := (ab_m M).2.2.2.2.2.2.2.1
def mC (M : Nat) : Nat := (ab_m M).2.2.2.2.2.2.2.2.1
def mS (M : Nat) : Nat := (ab_m M).2.2.2.2.2.2.2.2.2
def mI (M : Nat) : Bool := (mY M).name == "<init>"
def ab_fk (C k : Nat) : Nat := (ab_fks.getD C []).getD k 9
def ab_ff (C k : Nat) : Bool := (ab_ffs.getD C []).getD k true
def ab_nf (C : Nat) : Nat := (ab_fks.getD C []).length
def cd (M pc : Nat) : Option (Instr × Nat) := match decode (mB M) pc with
  | .ok r => some r
  | _ => none
def ab_wt : List Value → Nat
  | [] => 0
  | v :: l => v.category + ab_wt l
def ab_ix (i : Int32) (n : Nat) : Bool := decide (¬ (i < 0 ∨ n ≤ i.toNatClampNeg))
theorem ab_ix_in {i : Int32} {n : Nat} (h : ab_ix i n = true) : vp_in i n := by simpa [ab_ix, vp_in] using h
/-- locals at a method's entry -/
def ab_exp : List Value → List (Option Value)
  | [] => []
  | v :: l => if v.category = 2 then some v :: none :: ab_exp l else some v :: ab_exp l
def ab_pad (n : Nat) (l : List (Option Value)) : List (Option Value) := l ++ List.replicate (n - l.length) none
/-- a store at i cuts no long in two -/
def ab_fr (ls : List (Option Value)) : Nat → Bool
  | 0 => true
  | j + 1 => match ls[j]? with
    | some (some v) => v.category == 1
    | _ => true
def ab_ok (x : ab_N) : Option ab_S := some (.inr (.inl x))
def ab_psh (len e pc : Nat) (ls : List (Option Value)) (st : List Value) (k n : Nat) (g : ab_G) : Option ab_S := if len = e then ab_ok (pc + e, ls, st, k, n, g) else none
def ab_ldi (len e pc i : Nat) (ls : List (Option Value)) (st : List Value) (k n : Nat) (g : ab_G) : Option ab_S := match ls[i]? with
  | some (some (.int v)) => ab_psh len e pc ls (.int v :: st) k n g
  | _ => none
def ab_ldl (len e pc i : Nat) (ls : List (Option Value)) (st : List Value) (k n : Nat) (g : ab_G) : Option ab_S := match ls[i]? with
  | some (some (.long v)) => ab_psh len e pc ls (.long v :: st) k n g
  | _ => none
def ab_lda (len e pc i : Nat) (ls : List (Option Value)) (st : List Value) (k n : Nat) (g : ab_G) : Option ab_S := match ls[i]? with
  | some (some (.ref v)) => ab_psh len e pc ls (.ref v :: st) k n g
  | _ => none
def ab_sti (len e pc i : Nat) (ls : List (Option Value)) (st : List Value) (k n : Nat) (g : ab_G) : Option ab_S := match st with
  | .int v :: st' => if i < ls.length ∧ ab_fr ls i = true then ab_psh len e pc (ls.set i (some (.int v))) st' k n g else none
  | _ => none
def ab_sta (len e pc i : Nat) (ls : List (Option Value)) (st : List Value) (k n : Nat) (g : ab_G) : Option ab_S := match st with
  | .ref v :: st' => if i < ls.length ∧ ab_fr ls i = true then ab_psh len e pc (ls.set i (some (.ref v))) st' k n g else none
  | _ => none
def ab_stl (len e pc i : Nat) (ls : List (Option Value)) (st : List Value) (k n : Nat) (g : ab_G) : Option ab_S := match st with
  | .long v :: st' => if i + 1 < ls.length ∧ ab_fr ls i = true then ab_psh len e pc ((ls.set i (some (.long v))).set (i + 1) none) st' k n g else none
  | _ => none
def ab_ii (f : Int32 → Int32 → Int32) (len pc : Nat) (ls : List (Option Value)) (st : List Value) (k n : Nat) (g : ab_G) : Option ab_S := match st with
  | .int y :: .int x :: st' => ab_psh len 1 pc ls (.int (f x y) :: st') k n g
  | _ => none
def ab_ll (f : Int64 → Int64 → Int64) (len pc : Nat) (ls : List (Option Value)) (st : List Value) (k n : Nat) (g : ab_G) : Option ab_S := match st with
  | .long y :: .long x :: st' => ab_psh len 1 pc ls (.long (f x y) :: st') k n g
  | _ => none
def ab_li (f : Int64 → Int32 → Int64) (len pc : Nat) (ls : List (Option Value)) (st : List Value) (k n : Nat) (g : ab_G) : Option ab_S := match st with
  | .int y :: .long x :: st' => ab_psh len 1 pc ls (.long (f x y) :: st') k n g
  | _ => none
/-- a jump -/
def ab_br (len pc : Nat) (off : Int) (b : Bool) (ls : List (Option Value)) (st : List Value) (k n : Nat) (g : ab_G) : Option ab_S :=
  if len = 3 ∧ 0 ≤ (pc : Int) + off then ab_ok (if b = true then ((pc : Int) + off).toNat else pc + 3, ls, st, k, n, g) else none
def ab_c1 (c : ClassFile.Cond) (x : Int32) : Bool := match c with
  | .eq => decide (x = 0)
  | .ne => decide (x ≠ 0)
  | .lt => decide (x < 0)
  | .ge => decide (0 ≤ x)
  | .gt => decide (0 < x)
  | .le => decide (x ≤ 0)
def ab_c2 (c : ClassFile.Cond) (x y : Int32) : Bool := match c with
  | .eq => decide (x = y)
  | .ne => decide (x ≠ y)
  | .lt => decide (x < y)
  | .ge => decide (y ≤ x)
  | .gt => decide (y < x)
  | .le => decide (x ≤ y)
def ab_tab (pc : Nat) (d lo hi : Int) (offs : Array Int) (x : Int32) : Option Nat :=
  if x.toInt < lo ∨ hi < x.toInt then (if 0 ≤ (pc : Int) + d then some ((pc : Int) + d).toNat else none)
  else match offs[(x.toInt - lo).toNat]? with
    | some o => if 0 ≤ (pc : Int) + o then some ((pc : Int) + o).toNat else none
    | none => none
def ab_lok (pc : Nat) (d : Int) (ps : Array (Int × Int)) (x : Int32) : Option Nat :=
  if (ps.toList.zip (ps.toList.drop 1)).all (fun (a, next) => a.1 < next.1) = true ∧ 0 ≤ (pc : Int) + Op.lookupswitch.offset ps.toList d x.toInt then some ((pc : Int) + Op.lookupswitch.offset ps.toList d x.toInt).toNat else none
def ab_getf (M pc len idx : Nat) (ls : List (Option Value)) (st : List Value) (k n : Nat) (g : ab_G) : Option ab_S := match st with
  | .ref o :: st' => match ab_find ab_fld (mO M) idx with
    | some (C, f) => if o < g.1 ∧ (g.2.1 o).1 = C ∧ f < ab_nf C then
        ab_psh len 3 pc ls ((if ab_fk C f = 1 then rv (g.2.2.2.1 o f) else if ab_fk C f = 2 then .long (g.2.2.2.2 o f) else .int (g.2.2.1 o f)) :: st') k n g else none
    | none => none
  | _ => none
def ab_puti (M C f : Nat) (g : ab_G) (o : Nat) (v : Value) : Option ab_G := match v with
  | .int x => if ab_fk C f = 0 ∨ (ab_fk C f = 3 ∧ (x = 0 ∨ x = 1)) then some (g.1, g.2.1, wI g.2.2.1 o f x, g.2.2.2.1, g.2.2.2.2) else none
  | .ref a => if ab_fk C f = 1 then some (g.1, g.2.1, g.2.2.1, wR g.2.2.2.1 o f (a + 1), g.2.2.2.2) else none
  | .long x => if ab_fk C f = 2 then some (g.1, g.2.1, g.2.2.1, g.2.2.2.1, wL g.2.2.2.2 o f x) else none
  | _ => none
def ab_putf (M pc len idx : Nat) (ls : List (Option Value)) (st : List Value) (k n : Nat) (g : ab_G) : Option ab_S := match st with
  | v :: .ref o :: st' => match ab_find ab_fld (mO M) idx with
    | some (C, f) => if o < g.1 ∧ (g.2.1 o).1 = C ∧ f < ab_nf C ∧ (ab_ff C f = false ∨ (mI M = true ∧ mO M = C)) then
        (match ab_puti M C f g o v with
        | some g' => ab_psh len 3 pc ls st' k n g'
        | none => none) else none
    | none => none
  | _ => none
def ab_ald (kd pc len : Nat) (ls : List (Option Value)) (st : List Value) (k n : Nat) (g : ab_G) : Option ab_S := match st with
  | .int i :: .ref o :: st' => if (o < g.1 ∨ (1000 ≤ o ∧ o < 1003 ∧ kd = 10)) ∧ (g.2.1 o).1 = kd ∧ ab_ix i (g.2.1 o).2 = true then ab_psh len 1 pc ls ((if kd = 12 then rv (g.2.2.2.1 o i.toNatClampNeg) else .int (g.2.2.1 o i.toNatClampNeg)) :: st') k n g else none
  | _ => none
def ab_ast (kd pc len : Nat) (ls : List (Option Value)) (st : List Value) (k n : Nat) (g : ab_G) : Option ab_S := match st with
  | .int x :: .int i :: .ref o :: st' => if o < g.1 ∧ (g.2.1 o).1 = kd ∧ ab_ix i (g.2.1 o).2 = true ∧ (kd = 10 ∨ (kd = 11 ∧ (x = 0 ∨ x = 1))) then ab_psh len 1 pc ls st' k n (g.1, g.2.1, wI g.2.2.1 o i.toNatClampNeg x, g.2.2.2.1, g.2.2.2.2) else none
  | _ => none
def ab_aast (pc len : Nat) (ls : List (Option Value)) (st : List Value) (k n : Nat) (g : ab_G) : Option ab_S := match st with
  | .ref a :: .int i :: .ref o :: st' => if o < g.1 ∧ (g.2.1 o).1 = 12 ∧ ab_ix i (g.2.1 o).2 = true ∧ a < g.1 ∧ (g.2.1 a).1 = 3 then ab_psh len 1 pc ls st' k n (g.1, g.2.1, g.2.2.1, wR g.2.2.2.1 o i.toNatClampNeg (a + 1), g.2.2.2.2) else none
  | _ => none
def ab_alen (pc len : Nat) (ls : List (Option Value)) (st : List Value) (k n : Nat) (g : ab_G) : Option ab_S := match st with
  | .ref o :: st' => if (o < g.1 ∨ (1000 ≤ o ∧ o < 1003)) ∧ (g.2.1 o).1 = 10 then ab_psh len 1 pc ls (.int (Int32.ofNat (g.2.1 o).2) :: st') k n g else none
  | _ => none
/-- one more object -/
def ab_mk (g : ab_G) (kd len : Nat) : ab_G := (g.1 + 1, (fun o => if o = g.1 then (kd, len) else g.2.1 o), (fun o j => if o = g.1 then 0 else g.2.2.1 o j), (fun o j => if o = g.1 then 0 else g.2.2.2.1 o j), (fun o j => if o = g.1 then 0 else g.2.2.2.2 o j))
def ab_new (M pc len idx : Nat) (ls : List (Option Value)) (st : List Value) (k n : Nat) (g : ab_G) : Option ab_S := match ab_find ab_news (mO M) idx with
  | some C => if g.1 < 1000 ∧ k + 1 ≤ mC M ∧ n + ab_nf C ≤ mS M ∧ C < 6 then ab_psh len 3 pc ls (.ref g.1 :: st) (k + 1) (n + ab_nf C) (ab_mk g C 0) else none
  | none => none
def ab_newa (M kd e pc len : Nat) (ls : List (Option Value)) (st : List Value) (k n : Nat) (g : ab_G) : Option ab_S := match st with
  | .int z :: st' => if g.1 < 1000 ∧ ¬ z < 0 ∧ z.toNatClampNeg ≤ 10000 ∧ k + 1 ≤ mC M ∧ n + z.toNatClampNeg ≤ mS M then ab_psh len e pc ls (.ref g.1 :: st') (k + 1) (n + z.toNatClampNeg) (ab_mk g kd z.toNatClampNeg) else none
  | _ => none
def ab_call (M T len k n : Nat) (args rest : List Value) : Option ab_S :=
  if len = 3 ∧ args.length = mN T ∧ ab_wt rest ≤ 8 ∧ mF T + 1 ≤ mF M ∧ 19 + mL T + mW T ≤ mW M ∧ k + mC T ≤ mC M ∧ n + mS T ≤ mS M then some (.inr (.inr (T, args, rest))) else none
def ab_callo (M T len k n : Nat) (o : Nat) (args rest : List Value) : Option ab_S :=
  if len = 3 ∧ args.length = mN T ∧ ab_wt rest ≤ 8 ∧ mF T + 1 ≤ mF M ∧ 19 + mL T + mW T ≤ mW M ∧ k + mC T ≤ mC M ∧ n + mS T ≤ mS M then some (.inr (.inr (T, .ref o :: args, rest))) else none
def ab_virt (M len idx : Nat) (st : List Value) (k n : Nat) (g : ab_G) : Option ab_S := match ab_find ab_site (mO M) idx with
  | some (0, T) => match st.drop (mN T) with
    | .ref o :: rest => if o < g.1 ∧ (g.2.1 o).1 = mO T ∧ mO T < 6 then ab_callo M T len k n o (st.take (mN T)).reverse rest else none
    | _ => none
  | _ => none
def ab_stc (M pc len idx : Nat) (ls : List (Option Value)) (st : List Value) (k n : Nat) (g : ab_G) : Option ab_S := match ab_find ab_site (mO M) idx with
  | some (1, T) => ab_call M T len k n (st.take (mN T)).reverse (st.drop (mN T))
  | some (4, T) => ab_call M T len k n (st.take (mN T)).reverse (st.drop (mN T))
  | some (7, _) => match st with
    | .int z :: .int dp :: .ref b :: .int sp :: .ref a :: rest =>
      if a < g.1 ∧ (g.2.1 a).1 = 10 ∧ b < g.1 ∧ (g.2.1 b).1 = 10 ∧ ¬ sp < 0 ∧ ¬ dp < 0 ∧ ¬ z < 0 ∧ sp.toNatClampNeg + z.toNatClampNeg ≤ (g.2.1 a).2 ∧ dp.toNatClampNeg + z.toNatClampNeg ≤ (g.2.1 b).2 ∧ 1 ≤ mF M ∧ 40 ≤ mW M ∧ ab_wt rest ≤ 8 then
        ab_psh len 3 pc ls rest k n (g.1, g.2.1, cpI g.2.2.1 a sp.toNatClampNeg b dp.toNatClampNeg z.toNatClampNeg, g.2.2.2.1, g.2.2.2.2) else none
    | _ => none
  | some (8, _) => match st with
    | .int y :: .int x :: rest => if 1 ≤ mF M ∧ 40 ≤ mW M ∧ ab_wt rest ≤ 8 ∧ k ≤ mC M ∧ n ≤ mS M then ab_psh len 3 pc ls (.int (if x < y then y else x) :: rest) k n g else none
    | _ => none
  | some (9, _) => match st with
    | .int y :: .int x :: rest => if 1 ≤ mF M ∧ 40 ≤ mW M ∧ ab_wt rest ≤ 8 ∧ k ≤ mC M ∧ n ≤ mS M then ab_psh len 3 pc ls (.int (if y < x then y else x) :: rest) k n g else none
    | _ => none
  | some (10, _) => match st with
    | .int x :: rest => if 1 ≤ mF M ∧ 40 ≤ mW M ∧ ab_wt rest ≤ 8 ∧ k ≤ mC M ∧ n ≤ mS M then ab_psh len 3 pc ls (.int (if 0 ≤ x then x else 0 - x) :: rest) k n g else none
    | _ => none
  | _ => none
def ab_spc (M pc len idx : Nat) (ls : List (Option Value)) (st : List Value) (k n : Nat) (g : ab_G) : Option ab_S := match ab_find ab_site (mO M) idx with
  | some (6, _) => match st with
    | .ref _ :: rest => if ab_wt rest ≤ 8 ∧ 1 ≤ mF M ∧ 20 ≤ mW M then ab_psh len 3 pc ls rest k n g else none
    | _ => none
  | some (2, T) => match st with
    | .ref o :: rest => if mN T = 0 then ab_callo M T len k n o [] rest else none
    | _ => none
  | some (5, T) => match st with
    | .ref o :: rest => if mN T = 0 then ab_callo M T len k n o [] rest else none
    | _ => none
  | _ => none
def ab_reti (M len : Nat) (st : List Value) (k n : Nat) (g : ab_G) : Option ab_S := match st with
  | [.int v] => if len = 1 ∧ k = mC M ∧ n ≤ mS M ∧ (mR M = some .int ∨ (mR M = some .boolean ∧ (v = 0 ∨ v = 1))) then some (.inl (some (.int v), g)) else none
  | _ => none
def ab_retl (M len : Nat) (st : List Value) (k n : Nat) (g : ab_G) : Option ab_S := match st with
  | [.long v] => if len = 1 ∧ k = mC M ∧ n ≤ mS M ∧ mR M = some .long then some (.inl (some (.long v), g)) else none
  | _ => none
def ab_retv (M len : Nat) (st : List Value) (k n : Nat) (g : ab_G) : Option ab_S := match st with
  | [] => if len = 1 ∧ k = mC M ∧ n ≤ mS M ∧ mR M = none then some (.inl (none, g)) else none
  | _ => none
def ab_ins (M pc len : Nat) (ins : Instr) (ls : List (Option Value)) (st : List Value) (k n : Nat) (g : ab_G) : Option ab_S := match ins with
  | .iconst z => ab_psh len 1 pc ls (.int (Int32.ofInt z) :: st) k n g
  | .bipush z => ab_psh len 2 pc ls (.int (Int8.ofInt z).toInt32 :: st) k n g
  | .sipush z => ab_psh len 3 pc ls (.int (Int16.ofInt z).toInt32 :: st) k n g
  | .lconst z => ab_psh len 1 pc ls (.long (Int64.ofNat (z : Nat)) :: st) k n g
  | .ldc_w idx => match ab_find ab_lits (mO M) idx with
    | some v => ab_psh len 3 pc ls (.int v :: st) k n g
    | none => none
  | .ldc2_w idx => match ab_find ab_litl (mO M) idx with
    | some v => ab_psh len 3 pc ls (.long v :: st) k n g
    | none => none
  | .iload i => ab_ldi len 2 pc i ls st k n g
  | .iload_n i => ab_ldi len 1 pc (i : Nat) ls st k n g
  | .lload i => ab_ldl len 2 pc i ls st k n g
  | .lload_n i => ab_ldl len 1 pc (i : Nat) ls st k n g
  | .aload i => ab_lda len 2 pc i ls st k n g
  | .aload_n i => ab_lda len 1 pc (i : Nat) ls st k n g
  | .istore i => ab_sti len 2 pc i ls st k n g
  | .istore_n i => ab_sti len 1 pc (i : Nat) ls st k n g
  | .lstore i => ab_stl len 2 pc i ls st k n g
  | .lstore_n i => ab_stl len 1 pc (i : Nat) ls st k n g
  | .astore i => ab_sta len 2 pc i ls st k n g
  | .astore_n i => ab_sta len 1 pc (i : Nat) ls st k n g
  | .iinc i z => match ls[i]? with
    | some (some (.int v)) => if i < ls.length ∧ ab_fr ls i = true then ab_psh len 3 pc (ls.set i (some (.int (v + Int32.ofInt z)))) st k n g else none
    | _ => none
  | .iadd => ab_ii (fun x y => x + y) len pc ls st k n g
  | .isub => ab_ii (fun x y => x - y) len pc ls st k n g
  | .imul => ab_ii (fun x y => x * y) len pc ls st k n g
  | .iand => ab_ii (fun x y => x &&& y) len pc ls st k n g
  | .ior => ab_ii (fun x y => x ||| y) len pc ls st k n g
  | .ixor => ab_ii (fun x y => x ^^^ y) len pc ls st k n g
  | .ishl => ab_ii (fun x y => x <<< (y &&& 31)) len pc ls st k n g
  | .ishr => ab_ii (fun x y => x >>> (y &&& 31)) len pc ls st k n g
  | .iushr => ab_ii (fun x y => (x.toUInt32 >>> (y.toUInt32 &&& Int32.toUInt32 31)).toInt32) len pc ls st k n g
  | .idiv => match st with
    | .int y :: .int x :: st' => if y = 0 then none else ab_psh len 1 pc ls (.int (x / y) :: st') k n g
    | _ => none
  | .irem => match st with
    | .int y :: .int x :: st' => if y = 0 then none else ab_psh len 1 pc ls (.int (x - x / y * y) :: st') k n g
    | _ => none
  | .ineg => match st with
    | .int x :: st' => ab_psh len 1 pc ls (.int (-x) :: st') k n g
    | _ => none
  | .ladd => ab_ll (fun x y => x + y) len pc ls st k n g
  | .lsub => ab_ll (fun x y => x - y) len pc ls st k n g
  | .lmul => ab_ll (fun x y => x * y) len pc ls st k n g
  | .land => ab_ll (fun x y => x &&& y) len pc ls st k n g
  | .lor => ab_ll (fun x y => x ||| y) len pc ls st k n g
  | .ldiv => match st with
    | .long y :: .long x :: st' => if y = 0 then none else ab_psh len 1 pc ls (.long (x / y) :: st') k n g
    | _ => none
  | .lrem => match st with
    | .long y :: .long x :: st' => if y = 0 then none else ab_psh len 1 pc ls (.long (x - x / y * y) :: st') k n g
    | _ => none
  | .lushr => ab_li (fun x y => (x.toUInt64 >>> (y.toInt64.toUInt64 &&& Int64.toUInt64 63)).toInt64) len pc ls st k n g
  | .lshl => ab_li (fun x y => x <<< (y.toInt64 &&& 63)) len pc ls st k n g
  | .lcmp => match st with
    | .long y :: .long x :: st' => ab_psh len 1 pc ls (.int (lg_cmp x y) :: st') k n g
    | _ => none
  | .i2l => match st with
    | .int x :: st' => ab_psh len 1 pc ls (.long x.toInt64 :: st') k n g
    | _ => none
  | .l2i => match st with
    | .long x :: st' => ab_psh len 1 pc ls (.int x.toInt32 :: st') k n g
    | _ => none
  | .dup => match st with
    | v :: st' => if v.category = 1 then ab_psh len 1 pc ls (v :: v :: st') k n g else none
    | _ => none
  | .dup2 => match st with
    | v :: w :: st' => if v.category = 1 ∧ w.category = 1 then ab_psh len 1 pc ls (v :: w :: v :: w :: st') k n g else none
    | _ => none
  | .pop => match st with
    | v :: st' => if v.category = 1 then ab_psh len 1 pc ls st' k n g else none
    | _ => none
  | .goto off => ab_br len pc off true ls st k n g
  | .ifCond c off => match st with
    | .int x :: st' => ab_br len pc off (ab_c1 c x) ls st' k n g
    | _ => none
  | .if_icmp c off => match st with
    | .int y :: .int x :: st' => ab_br len pc off (ab_c2 c x y) ls st' k n g
    | _ => none
  | .tableswitch d lo hi offs => match st with
    | .int x :: st' => match ab_tab pc d lo hi offs x with
      | some t => ab_ok (t, ls, st', k, n, g)
      | none => none
    | _ => none
  | .lookupswitch d ps => match st with
    | .int x :: st' => match ab_lok pc d ps x with
      | some t => ab_ok (t, ls, st', k, n, g)
      | none => none
    | _ => none
  | .getfield idx => ab_getf M pc len idx ls st k n g
  | .putfield idx => ab_putf M pc len idx ls st k n g
  | .getstatic idx => match ab_find ab_stat (mO M) idx with
    | some o => ab_psh len 3 pc ls (.ref o :: st) k n g
    | none => none
  | .iaload => ab_ald 10 pc len ls st k n g
  | .baload => ab_ald 11 pc len ls st k n g
  | .aaload => ab_ald 12 pc len ls st k n g
  | .iastore => ab_ast 10 pc len ls st k n g
  | .bastore => ab_ast 11 pc len ls st k n g
  | .aastore => ab_aast pc len ls st k n g
  | .arraylength => ab_alen pc len ls st k n g
  | .new idx => ab_new M pc len idx ls st k n g
  | .newarray .int => ab_newa M 10 2 pc len ls st k n g
  | .newarray .boolean => ab_newa M 11 2 pc len ls st k n g
  | .anewarray idx => match ab_find ab_news (mO M) idx with
    | some 3 => ab_newa M 12 3 pc len ls st k n g
    | _ => none
  | .invokevirtual idx => ab_virt M len idx st k n g
  | .invokestatic idx => ab_stc M pc len idx ls st k n g
  | .invokespecial idx => ab_spc M pc len idx ls st k n g
  | .ireturn => ab_reti M len st k n g
  | .lreturn => ab_retl M len st k n g
  | .return_ => ab_retv M len st k n g
  | _ => none
def ab_kd : Instr → Nat
  | .ireturn => 1
  | .lreturn => 1
  | .return_ => 1
  | .invokevirtual _ => 2
  | .invokestatic _ => 2
  | .invokespecial _ => 2
  | _ => 0
def ab_sel (ins : Instr) : Option ab_S → Option ab_S
  | some (.inl r) => if ab_kd ins = 1 then some (.inl r) else none
  | some (.inr (.inl x)) => some (.inr (.inl x))
  | some (.inr (.inr z)) => if ab_kd ins = 2 then some (.inr (.inr z)) else none
  | none => none
def ab_step (M pc : Nat) (ls : List (Option Value)) (st : List Value) (k n : Nat) (g : ab_G) : Option ab_S := match cd M pc with
  | some (ins, len) => ab_sel ins (ab_ins M pc len ins ls st k n g)
  | none => none
/-- what a callee's answer pushes -/
def ab_rk (T : Nat) (v : Option Value) : Option (List Value) := match mR T, v with
  | none, none => some []
  | some .long, some (.long x) => some [.long x]
  | some .int, some (.int x) => some [.int x]
  | some .boolean, some (.int x) => some [.int x]
  | _, _ => none
def ab_run : Nat → Nat → Nat → List (Option Value) → List Value → Nat → Nat → ab_G → Option (Option Value × ab_G)
  | 0, _, _, _, _, _, _, _ => none
  | f + 1, M, pc, ls, st, k, n, g => match ab_step M pc ls st k n g with
    | none => none
    | some (.inl r) => some r
    | some (.inr (.inl (pc', ls', st', k', n', g'))) => ab_run f M pc' ls' st' k' n' g'
    | some (.inr (.inr (T, args, rest))) => if (ab_exp args).length ≤ mL T then
        (match ab_run f T 0 (ab_pad (mL T) (ab_exp args)) [] 0 0 g with
        | none => none
        | some (v, g') => match ab_rk T v with
          | none => none
          | some p => ab_run f M (pc + 3) ls (p ++ rest) (k + mC T) (n + mS T) g') else none
