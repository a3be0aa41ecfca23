/-! a whole run -/
theorem cd_inv {M pc : Nat} {ins : Instr} {len : Nat} (h : cd M pc = some (ins, len)) : decode (mB M) pc = .ok (ins, len) := by
  unfold cd at h
  split at h
  · rename_i r hr
    cases h
    exact hr
  · cases h
theorem ab_sel_x {ins : Instr} {y : Option ab_S} {x : ab_N} (h : ab_sel ins y = some (.inr (.inl x))) : y = some (.inr (.inl x)) := by
  unfold ab_sel at h
  split at h
  · split at h <;> cases h
  · exact h
  · split at h <;> cases h
  · cases h
theorem ab_sel_r {ins : Instr} {y : Option ab_S} {r : Option Value × ab_G} (h : ab_sel ins y = some (.inl r)) : y = some (.inl r) ∧ ab_kd ins = 1 := by
  unfold ab_sel at h
  split at h
  · split at h
    · rename_i hk
      exact ⟨h, hk⟩
    · cases h
  · cases h
  · split at h <;> cases h
  · cases h
theorem ab_sel_c {ins : Instr} {y : Option ab_S} {z : Nat × List Value × List Value} (h : ab_sel ins y = some (.inr (.inr z))) : y = some (.inr (.inr z)) ∧ ab_kd ins = 2 := by
  unfold ab_sel at h
  split at h
  · split at h <;> cases h
  · cases h
  · split at h
    · rename_i hk
      exact ⟨h, hk⟩
    · cases h
  · cases h
theorem ab_bad {x : ab_S} (h : (none : Option ab_S) = some x) : False := by cases h
section STEP4
variable {p : Program} {l : Launch} {e : Env} {R : Room} {s : State} {m : MethodId} {args : Array Value} {below : List Frame} {meth : Method} {c : Code} {Q : State → Prop}
variable {D : va_G} {ca : Nat → ClassId} {ad : Nat → Nat} {base : Nat} {sp : Nat → Nat × (Nat → Int32)} {M : Nat}
variable {pc len k n : Nat} {ls : List (Option Value)} {st : List Value} {g : ab_G} {x : ab_N} {H : Heap} {locs : List Loc} {arr : Array Slot}
theorem so_step (F : so_F p R s m args meth c D ca ad base sp M) (hH : so_H D ca ad base sp g s H locs k) (hl : so_ls ad arr ls) (hn : ls.length = mL M) (h : ab_step M pc ls st k n g = some (.inr (.inl x))) (kk : so_KK p l e R s m args below meth c Q D ca ad base sp M x) : W p l e R s m args below meth c H locs k n Q (F0 m pc arr (st.map (so_v ad))) := by
  unfold ab_step at h
  split at h
  · rename_i ins len hcd
    have hd := cd_inv hcd
    replace h := ab_sel_x h
    cases ins with
    | iconst z => exact so_iconst F hH hl hn hd h kk
    | bipush z => exact so_bipush F hH hl hn hd h kk
    | sipush z => exact so_sipush F hH hl hn hd h kk
    | lconst z => exact so_lconst F hH hl hn hd h kk
    | ldc_w idx => exact so_ldcw F hH hl hn hd h kk
    | ldc2_w idx => exact so_ldc2 F hH hl hn hd h kk
    | iload i => exact so_iload F hH hl hn hd h kk
    | iload_n i => exact so_iload_n F hH hl hn hd h kk
    | lload i => exact so_lload F hH hl hn hd h kk
    | lload_n i => exact so_lload_n F hH hl hn hd h kk
    | aload i => exact so_aload F hH hl hn hd h kk
    | aload_n i => exact so_aload_n F hH hl hn hd h kk
    | istore i => exact so_istore F hH hl hn hd h kk
    | istore_n i => exact so_istore_n F hH hl hn hd h kk
    | astore i => exact so_astore F hH hl hn hd h kk
    | astore_n i => exact so_astore_n F hH hl hn hd h kk
    | lstore i => exact so_lstore F hH hl hn hd h kk
    | lstore_n i => exact so_lstore_n F hH hl hn hd h kk
    | iinc i z => exact so_iinc F hH hl hn hd h kk
    | iadd => exact so_iadd F hH hl hn hd h kk
    | isub => exact so_isub F hH hl hn hd h kk
    | imul => exact so_imul F hH hl hn hd h kk
    | iand => exact so_iand F hH hl hn hd h kk
    | ior => exact so_ior F hH hl hn hd h kk
    | ixor => exact so_ixor F hH hl hn hd h kk
    | ishl => exact so_ishl F hH hl hn hd h kk
    | ishr => exact so_ishr F hH hl hn hd h kk
    | iushr => exact so_iushr F hH hl hn hd h kk
    | idiv => exact so_idiv F hH hl hn hd h kk
    | irem => exact so_irem F hH hl hn hd h kk
    | ineg => exact so_ineg F hH hl hn hd h kk
    | ladd => exact so_ladd F hH hl hn hd h kk
    | lsub => exact so_lsub F hH hl hn hd h kk
    | lmul => exact so_lmul F hH hl hn hd h kk
    | land => exact so_land F hH hl hn hd h kk
    | lor => exact so_lor F hH hl hn hd h kk
    | ldiv => exact so_ldiv F hH hl hn hd h kk
    | lrem => exact so_lrem F hH hl hn hd h kk
    | lushr => exact so_lushr F hH hl hn hd h kk
    | lshl => exact so_lshl F hH hl hn hd h kk
    | lcmp => exact so_lcmp F hH hl hn hd h kk
    | i2l => exact so_i2l F hH hl hn hd h kk
    | l2i => exact so_l2i F hH hl hn hd h kk
    | dup => exact so_dup F hH hl hn hd h kk
    | dup2 => exact so_dup2 F hH hl hn hd h kk
    | pop => exact so_pop F hH hl hn hd h kk
    | goto off => exact so_goto F hH hl hn hd h kk
    | tableswitch d lo hi offs => exact so_tsw F hH hl hn hd h kk
    | lookupswitch d ps => exact so_lsw F hH hl hn hd h kk
    | getfield idx => exact so_getf F hH hl hn hd h kk
    | putfield idx => exact so_putf F hH hl hn hd h kk
    | getstatic idx => exact so_gets F hH hl hn hd h kk
    | iaload => exact so_iaload F hH hl hn hd h kk
    | baload => exact so_baload F hH hl hn hd h kk
    | aaload => exact so_aaload F hH hl hn hd h kk
    | iastore => exact so_iastore F hH hl hn hd h kk
    | bastore => exact so_bastore F hH hl hn hd h kk
    | aastore => exact so_aastore F hH hl hn hd h kk
    | arraylength => exact so_alen F hH hl hn hd h kk
    | new idx => exact so_new F hH hl hn hd h kk
    | anewarray idx => exact so_newq F hH hl hn hd h kk
    | invokestatic idx => exact so_acopy F hH hl hn hd h kk
    | invokespecial idx => exact so_oinit F hH hl hn hd h kk
    | ifCond cc off =>
      cases cc with
      | eq => exact so_if_eq F hH hl hn hd h kk
      | ne => exact so_if_ne F hH hl hn hd h kk
      | lt => exact so_if_lt F hH hl hn hd h kk
      | ge => exact so_if_ge F hH hl hn hd h kk
      | gt => exact so_if_gt F hH hl hn hd h kk
      | le => exact so_if_le F hH hl hn hd h kk
    | if_icmp cc off =>
      cases cc with
      | eq => exact so_icmp_eq F hH hl hn hd h kk
      | ne => exact so_icmp_ne F hH hl hn hd h kk
      | lt => exact so_icmp_lt F hH hl hn hd h kk
      | ge => exact so_icmp_ge F hH hl hn hd h kk
      | gt => exact so_icmp_gt F hH hl hn hd h kk
      | le => exact so_icmp_le F hH hl hn hd h kk
    | newarray ty =>
      cases ty with
      | int => exact so_newi F hH hl hn hd h kk
      | boolean => exact so_newz F hH hl hn hd h kk
      | _ => exact (ab_bad h).elim
    | invokevirtual idx =>
      simp only [ab_ins, ab_virt, ab_callo] at h
      split at h
      · split at h
        · split at h
          · split at h <;> cases h
          · cases h
        · cases h
      · cases h
    | ireturn =>
      simp only [ab_ins, ab_reti] at h
      split at h
      · split at h <;> cases h
      · cases h
    | lreturn =>
      simp only [ab_ins, ab_retl] at h
      split at h
      · split at h <;> cases h
      · cases h
    | return_ =>
      simp only [ab_ins, ab_retv] at h
      split at h
      · split at h <;> cases h
      · cases h
    | _ => exact (ab_bad h).elim
  · cases h
end STEP4
