section OK
variable {p : Program} {l : Launch} {e : Env} {R : Room} {s : State} {m : MethodId} {args : Array Value} {below : List Frame} {meth : Method} {c : Code} {Q : State → Prop}
variable {D : va_G} {cA : Nat → ClassId} {base b nL d rz : Nat} {own : String} {ini : Bool} {cc : ByteArray} {w0 : XW} {o : XO}
set_option maxHeartbeats 4000000 in
theorem opK_plain {fl : List (Nat × Nat × Nat × Nat)} {nl : List (Nat × Nat × List Value)} {kl : List (Nat × Int32)} {k2 : List (Nat × Int64)} {mv ms mi : List (Nat × Nat × Nat × Orc)}
    (hkl : ∀ q ∈ kl, Jvm.Cond.constant own q.1 q.2 ∈ tblG) (hk2 : ∀ q ∈ k2, Jvm.Cond.constantLong own q.1 q.2 ∈ tblG)
    (A : ACT p l e R s m args below meth c Q D cA base b nL d rz own ini cc w0 o) {K : Kont} (hK : KS p l e R s m args below meth c Q D cA base b nL w0 o K)
    {pc : Nat} {ins : Instr} {len : Nat} (hdg : decode cc pc = .ok (ins, len)) (hat : okAt pc ins len = true) {ls : XL} {st : List Value} {w : XW}
    (hn : match ins with | .getfield _ | .putfield _ | .iaload | .iastore | .arraylength | .newarray _ | .multianewarray .. | .aaload | .new _ | .invokevirtual _ | .invokestatic _ | .invokespecial _ | .ireturn | .lreturn | .return_ | .tableswitch .. | .lookupswitch .. => False | _ => True)
    (h : opK nL rz fl nl kl k2 mv ms mi pc K ls st w ins = some o) : SND p l e R s m args below meth c Q D cA base b nL w0 o pc ls st w := by
  obtain ⟨⟨hx, hb, hml, hown⟩, hts, -⟩ := A
  cases ins <;> first | exact hn.elim | (simp only [opK] at h; cases h; done) | skip
  case iconst n =>
    obtain rfl : len = 1 := by simpa [okLen] using (Bool.and_eq_true_iff.mp hat).1
    exact (hK _ _ _ _ h).step fun H locs cells slots LS hl hP hS h0 k => lv_iconst hx hb hdg rfl (k LS hl)
  case bipush n =>
    obtain rfl : len = 2 := by simpa [okLen] using (Bool.and_eq_true_iff.mp hat).1
    exact (hK _ _ _ _ h).step fun H locs cells slots LS hl hP hS h0 k => lv_bipush hx hb hdg rfl (k LS hl)
  case sipush n =>
    obtain rfl : len = 3 := by simpa [okLen] using (Bool.and_eq_true_iff.mp hat).1
    exact (hK _ _ _ _ h).step fun H locs cells slots LS hl hP hS h0 k => lv_sipush hx hb hdg rfl (k LS hl)
  case lconst n =>
    obtain rfl : len = 1 := by simpa [okLen] using (Bool.and_eq_true_iff.mp hat).1
    exact (hK _ _ _ _ h).step fun H locs cells slots LS hl hP hS h0 k => lv_lconst hx hb hdg rfl (k LS hl)
  case ldc i =>
    obtain rfl : len = 2 := by simpa [okLen] using (Bool.and_eq_true_iff.mp hat).1
    obtain ⟨v, hv, h⟩ := some_of h
    exact (hK _ _ _ _ h).step fun H locs cells slots LS hl hP hS h0 k => lv_ldc hx hb hown (hts _ (hkl _ (lk_mem hv))) hdg (k LS hl)
  case ldc_w i =>
    obtain rfl : len = 3 := by simpa [okLen] using (Bool.and_eq_true_iff.mp hat).1
    obtain ⟨v, hv, h⟩ := some_of h
    exact (hK _ _ _ _ h).step fun H locs cells slots LS hl hP hS h0 k => lv_ldcw hx hb hown (hts _ (hkl _ (lk_mem hv))) hdg (k LS hl)
  case ldc2_w i =>
    obtain rfl : len = 3 := by simpa [okLen] using (Bool.and_eq_true_iff.mp hat).1
    obtain ⟨v, hv, h⟩ := some_of h
    exact (hK _ _ _ _ h).step fun H locs cells slots LS hl hP hS h0 k => lv_ldc2 hx hb hown (hts _ (hk2 _ (lk_mem hv))) hdg (k LS hl)
  case iload_n n =>
    obtain rfl : len = 1 := by simpa [okLen] using (Bool.and_eq_true_iff.mp hat).1
    simp only [opK] at h
    split at h
    next x hx2 => exact (hK _ _ _ _ h).step fun H locs cells slots LS hl hP hS h0 k => lv_iload_n hx hb hdg rfl (xL_at hl hx2) (k LS hl)
    next => cases h
  case iload n =>
    obtain rfl : len = 2 := by simpa [okLen] using (Bool.and_eq_true_iff.mp hat).1
    simp only [opK] at h
    split at h
    next x hx2 => exact (hK _ _ _ _ h).step fun H locs cells slots LS hl hP hS h0 k => lv_iload hx hb hdg (xL_at hl hx2) (k LS hl)
    next => cases h
  case lload_n n =>
    obtain rfl : len = 1 := by simpa [okLen] using (Bool.and_eq_true_iff.mp hat).1
    simp only [opK] at h
    split at h
    next x hx2 => exact (hK _ _ _ _ h).step fun H locs cells slots LS hl hP hS h0 k => lv_lload_n hx hb hdg rfl (xL_at hl hx2) (k LS hl)
    next => cases h
  case lload n =>
    obtain rfl : len = 2 := by simpa [okLen] using (Bool.and_eq_true_iff.mp hat).1
    simp only [opK] at h
    split at h
    next x hx2 => exact (hK _ _ _ _ h).step fun H locs cells slots LS hl hP hS h0 k => lv_lload hx hb hdg (xL_at hl hx2) (k LS hl)
    next => cases h
  case aload_n n =>
    obtain rfl : len = 1 := by simpa [okLen] using (Bool.and_eq_true_iff.mp hat).1
    simp only [opK] at h
    split at h
    next x hx2 => exact (hK _ _ _ _ h).step fun H locs cells slots LS hl hP hS h0 k => lv_aload_n hx hb hdg rfl (xL_at hl hx2) (k LS hl)
    next => cases h
  case aload n =>
    obtain rfl : len = 2 := by simpa [okLen] using (Bool.and_eq_true_iff.mp hat).1
    simp only [opK] at h
    split at h
    next x hx2 => exact (hK _ _ _ _ h).step fun H locs cells slots LS hl hP hS h0 k => lv_aload hx hb hdg (xL_at hl hx2) (k LS hl)
    next => cases h
  case istore_n n =>
    obtain rfl : len = 1 := by simpa [okLen] using (Bool.and_eq_true_iff.mp hat).1
    simp only [opK] at h
    split at h
    next x r =>
      split at h
      next hn2 => exact (hK _ _ _ _ h).step fun H locs cells slots LS hl hP hS h0 k => lv_istore_n hx hb hdg rfl hl hn2 (xst_map base b ls _ (.int x)) (fun ls' hl' => k ls' hl')
      next => cases h
    next => cases h
  case istore n =>
    obtain rfl : len = 2 := by simpa [okLen] using (Bool.and_eq_true_iff.mp hat).1
    simp only [opK] at h
    split at h
    next x r =>
      split at h
      next hn2 => exact (hK _ _ _ _ h).step fun H locs cells slots LS hl hP hS h0 k => lv_istore hx hb hdg hl hn2 (xst_map base b ls _ (.int x)) (fun ls' hl' => k ls' hl')
      next => cases h
    next => cases h
  case lstore_n n =>
    obtain rfl : len = 1 := by simpa [okLen] using (Bool.and_eq_true_iff.mp hat).1
    simp only [opK] at h
    split at h
    next x r =>
      split at h
      next hn2 => exact (hK _ _ _ _ h).step fun H locs cells slots LS hl hP hS h0 k => lv_lstore_n hx hb hdg rfl hl hn2 (xst2_map base b ls _ (.long x)) (fun ls' hl' => k ls' hl')
      next => cases h
    next => cases h
  case lstore n =>
    obtain rfl : len = 2 := by simpa [okLen] using (Bool.and_eq_true_iff.mp hat).1
    simp only [opK] at h
    split at h
    next x r =>
      split at h
      next hn2 => exact (hK _ _ _ _ h).step fun H locs cells slots LS hl hP hS h0 k => lv_lstore hx hb hdg hl hn2 (xst2_map base b ls _ (.long x)) (fun ls' hl' => k ls' hl')
      next => cases h
    next => cases h
  case astore_n n =>
    obtain rfl : len = 1 := by simpa [okLen] using (Bool.and_eq_true_iff.mp hat).1
    simp only [opK] at h
    split at h
    next x r =>
      split at h
      next hn2 => exact (hK _ _ _ _ h).step fun H locs cells slots LS hl hP hS h0 k => lv_astore_n hx hb hdg rfl hl hn2 (xst_map base b ls _ (.ref x)) (fun ls' hl' => k ls' hl')
      next => cases h
    next => cases h
  case astore n =>
    obtain rfl : len = 2 := by simpa [okLen] using (Bool.and_eq_true_iff.mp hat).1
    simp only [opK] at h
    split at h
    next x r =>
      split at h
      next hn2 => exact (hK _ _ _ _ h).step fun H locs cells slots LS hl hP hS h0 k => lv_astore hx hb hdg hl hn2 (xst_map base b ls _ (.ref x)) (fun ls' hl' => k ls' hl')
      next => cases h
    next => cases h
  case iinc n v =>
    obtain rfl : len = 3 := by simpa [okLen] using (Bool.and_eq_true_iff.mp hat).1
    simp only [opK] at h
    split at h
    next x hx2 =>
      split at h
      next hn2 =>
        exact (hK _ _ _ _ h).step fun H locs cells slots LS hl hP hS h0 k => by
          obtain ⟨q, hq⟩ := xL_place (base := base) (b := b) hx2
          exact lv_iinc hx hb hdg hl hq rfl hn2 (xst_map base b ls _ (.int (x + Int32.ofInt v))) (fun ls' hl' => k ls' hl')
      next => cases h
    next => cases h
  case iadd =>
    obtain rfl : len = 1 := by simpa [okLen] using (Bool.and_eq_true_iff.mp hat).1
    simp only [opK] at h
    obtain ⟨x, y, r, rfl, h⟩ := bin_of h
    exact (hK _ _ _ _ h).step fun H locs cells slots LS hl hP hS h0 k => lv_iadd hx hb hdg (k LS hl)
  case isub =>
    obtain rfl : len = 1 := by simpa [okLen] using (Bool.and_eq_true_iff.mp hat).1
    simp only [opK] at h
    obtain ⟨x, y, r, rfl, h⟩ := bin_of h
    exact (hK _ _ _ _ h).step fun H locs cells slots LS hl hP hS h0 k => lv_isub hx hb hdg (k LS hl)
  case imul =>
    obtain rfl : len = 1 := by simpa [okLen] using (Bool.and_eq_true_iff.mp hat).1
    simp only [opK] at h
    obtain ⟨x, y, r, rfl, h⟩ := bin_of h
    exact (hK _ _ _ _ h).step fun H locs cells slots LS hl hP hS h0 k => lv_imul hx hb hdg (k LS hl)
  case iand =>
    obtain rfl : len = 1 := by simpa [okLen] using (Bool.and_eq_true_iff.mp hat).1
    simp only [opK] at h
    obtain ⟨x, y, r, rfl, h⟩ := bin_of h
    exact (hK _ _ _ _ h).step fun H locs cells slots LS hl hP hS h0 k => lv_iand hx hb hdg (k LS hl)
  case ior =>
    obtain rfl : len = 1 := by simpa [okLen] using (Bool.and_eq_true_iff.mp hat).1
    simp only [opK] at h
    obtain ⟨x, y, r, rfl, h⟩ := bin_of h
    exact (hK _ _ _ _ h).step fun H locs cells slots LS hl hP hS h0 k => lv_ior hx hb hdg (k LS hl)
  case ixor =>
    obtain rfl : len = 1 := by simpa [okLen] using (Bool.and_eq_true_iff.mp hat).1
    simp only [opK] at h
    obtain ⟨x, y, r, rfl, h⟩ := bin_of h
    exact (hK _ _ _ _ h).step fun H locs cells slots LS hl hP hS h0 k => lv_ixor hx hb hdg (k LS hl)
  case ishl =>
    obtain rfl : len = 1 := by simpa [okLen] using (Bool.and_eq_true_iff.mp hat).1
    simp only [opK] at h
    obtain ⟨x, y, r, rfl, h⟩ := bin_of h
    exact (hK _ _ _ _ h).step fun H locs cells slots LS hl hP hS h0 k => lv_ishl hx hb hdg (k LS hl)
  case ishr =>
    obtain rfl : len = 1 := by simpa [okLen] using (Bool.and_eq_true_iff.mp hat).1
    simp only [opK] at h
    obtain ⟨x, y, r, rfl, h⟩ := bin_of h
    exact (hK _ _ _ _ h).step fun H locs cells slots LS hl hP hS h0 k => lv_ishr hx hb hdg (k LS hl)
  case iushr =>
    obtain rfl : len = 1 := by simpa [okLen] using (Bool.and_eq_true_iff.mp hat).1
    simp only [opK] at h
    obtain ⟨x, y, r, rfl, h⟩ := bin_of h
    exact (hK _ _ _ _ h).step fun H locs cells slots LS hl hP hS h0 k => lv_iushr hx hb hdg rfl (k LS hl)
  case ineg =>
    obtain rfl : len = 1 := by simpa [okLen] using (Bool.and_eq_true_iff.mp hat).1
    simp only [opK] at h
    obtain ⟨x, r, rfl, h⟩ := un_of h
    exact (hK _ _ _ _ h).step fun H locs cells slots LS hl hP hS h0 k => lv_ineg hx hb hdg (k LS hl)
  case i2b =>
    obtain rfl : len = 1 := by simpa [okLen] using (Bool.and_eq_true_iff.mp hat).1
    simp only [opK] at h
    obtain ⟨x, r, rfl, h⟩ := un_of h
    exact (hK _ _ _ _ h).step fun H locs cells slots LS hl hP hS h0 k => lv_i2b hx hb hdg rfl (k LS hl)
  case i2s =>
    obtain rfl : len = 1 := by simpa [okLen] using (Bool.and_eq_true_iff.mp hat).1
    simp only [opK] at h
    obtain ⟨x, r, rfl, h⟩ := un_of h
    exact (hK _ _ _ _ h).step fun H locs cells slots LS hl hP hS h0 k => lv_i2s hx hb hdg rfl (k LS hl)
  case idiv =>
    obtain rfl : len = 1 := by simpa [okLen] using (Bool.and_eq_true_iff.mp hat).1
    simp only [opK] at h
    split at h
    next y x r =>
      split at h
      next => cases h
      next hne => exact (hK _ _ _ _ h).step fun H locs cells slots LS hl hP hS h0 k => lv_idiv hx hb hdg hne (k LS hl)
    next => cases h
  case irem =>
    obtain rfl : len = 1 := by simpa [okLen] using (Bool.and_eq_true_iff.mp hat).1
    simp only [opK] at h
    split at h
    next y x r =>
      split at h
      next => cases h
      next hne => exact (hK _ _ _ _ h).step fun H locs cells slots LS hl hP hS h0 k => lv_irem hx hb hdg hne (k LS hl)
    next => cases h
  case ldiv =>
    obtain rfl : len = 1 := by simpa [okLen] using (Bool.and_eq_true_iff.mp hat).1
    simp only [opK] at h
    split at h
    next y x r =>
      split at h
      next => cases h
      next hne => exact (hK _ _ _ _ h).step fun H locs cells slots LS hl hP hS h0 k => lv_ldiv hx hb hdg hne (k LS hl)
    next => cases h
  case lrem =>
    obtain rfl : len = 1 := by simpa [okLen] using (Bool.and_eq_true_iff.mp hat).1
    simp only [opK] at h
    split at h
    next y x r =>
      split at h
      next => cases h
      next hne => exact (hK _ _ _ _ h).step fun H locs cells slots LS hl hP hS h0 k => lv_lrem hx hb hdg hne (k LS hl)
    next => cases h
  case i2l =>
    obtain rfl : len = 1 := by simpa [okLen] using (Bool.and_eq_true_iff.mp hat).1
    simp only [opK] at h
    split at h
    next x r => exact (hK _ _ _ _ h).step fun H locs cells slots LS hl hP hS h0 k => lv_i2l hx hb hdg rfl (k LS hl)
    next => cases h
  case lcmp =>
    obtain rfl : len = 1 := by simpa [okLen] using (Bool.and_eq_true_iff.mp hat).1
    simp only [opK] at h
    split at h
    next y x r => exact (hK _ _ _ _ h).step fun H locs cells slots LS hl hP hS h0 k => W.lcmp hx hb hdg (k LS hl)
    next => cases h
  case dup =>
    obtain rfl : len = 1 := by simpa [okLen] using (Bool.and_eq_true_iff.mp hat).1
    simp only [opK] at h
    split at h
    next v r =>
      split at h
      next hc => exact (hK _ _ _ _ h).step fun H locs cells slots LS hl hP hS h0 k => lv_dup hx hb hdg (by rw [xv_cat]; exact hc) (k LS hl)
      next => cases h
    next => cases h
  case pop =>
    obtain rfl : len = 1 := by simpa [okLen] using (Bool.and_eq_true_iff.mp hat).1
    simp only [opK] at h
    split at h
    next v r =>
      split at h
      next hc => exact (hK _ _ _ _ h).step fun H locs cells slots LS hl hP hS h0 k => lv_pop hx hb hdg (by rw [xv_cat]; exact hc) (k LS hl)
      next => cases h
    next => cases h
  case dup2 =>
    obtain rfl : len = 1 := by simpa [okLen] using (Bool.and_eq_true_iff.mp hat).1
    simp only [opK] at h
    split at h
    next v u r =>
      split at h
      next hc => exact (hK _ _ _ _ h).step fun H locs cells slots LS hl hP hS h0 k => lv_dup2_11 hx hb hdg (by rw [xv_cat]; exact hc.1) (by rw [xv_cat]; exact hc.2) (k LS hl)
      next => cases h
    next => cases h
  case goto off =>
    obtain rfl : len = 3 := by simpa [okLen] using (Bool.and_eq_true_iff.mp hat).1
    obtain ⟨t, ht, h⟩ := tgo_of h
    exact (hK _ _ _ _ h).step fun H locs cells slots LS hl hP hS h0 k => lv_goto hx hb hdg ht (k LS hl)
  case ifCond cnd off =>
    obtain rfl : len = 3 := by simpa [okLen] using (Bool.and_eq_true_iff.mp hat).1
    simp only [opK] at h
    split at h
    next x r =>
      cases cnd <;> simp only at h <;> split at h
      next hc =>
        obtain ⟨t, ht, h⟩ := tgo_of h
        exact (hK _ _ _ _ h).step fun H locs cells slots LS hl hP hS h0 k => lv_if_eq hx hb hdg ht (fun _ => k LS hl) (fun hf => absurd (hc) hf)
      next hc =>
        exact (hK _ _ _ _ h).step fun H locs cells slots LS hl hP hS h0 k => lv_if_eq hx hb hdg (tgt := ((pc : Int) + off).toNat) (Int.toNat_of_nonneg (by simpa [okAt] using (Bool.and_eq_true_iff.mp hat).2)).symm (fun hf => absurd hf hc) (fun _ => k LS hl)
      next hc =>
        exact (hK _ _ _ _ h).step fun H locs cells slots LS hl hP hS h0 k => lv_if_ne hx hb hdg (tgt := ((pc : Int) + off).toNat) (Int.toNat_of_nonneg (by simpa [okAt] using (Bool.and_eq_true_iff.mp hat).2)).symm (fun hf => absurd hc hf) (fun _ => k LS hl)
      next hc =>
        obtain ⟨t, ht, h⟩ := tgo_of h
        exact (hK _ _ _ _ h).step fun H locs cells slots LS hl hP hS h0 k => lv_if_ne hx hb hdg ht (fun _ => k LS hl) (fun hf => absurd hf hc)
      next hc =>
        obtain ⟨t, ht, h⟩ := tgo_of h
        exact (hK _ _ _ _ h).step fun H locs cells slots LS hl hP hS h0 k => lv_if_lt hx hb hdg ht (fun _ => k LS hl) (fun hf => absurd (hc) hf)
      next hc =>
        exact (hK _ _ _ _ h).step fun H locs cells slots LS hl hP hS h0 k => lv_if_lt hx hb hdg (tgt := ((pc : Int) + off).toNat) (Int.toNat_of_nonneg (by simpa [okAt] using (Bool.and_eq_true_iff.mp hat).2)).symm (fun hf => absurd hf hc) (fun _ => k LS hl)
      next hc =>
        exact (hK _ _ _ _ h).step fun H locs cells slots LS hl hP hS h0 k => lv_if_ge hx hb hdg (tgt := ((pc : Int) + off).toNat) (Int.toNat_of_nonneg (by simpa [okAt] using (Bool.and_eq_true_iff.mp hat).2)).symm (fun hf => absurd hf (Int32.not_le.mpr hc)) (fun _ => k LS hl)
      next hc =>
        obtain ⟨t, ht, h⟩ := tgo_of h
        exact (hK _ _ _ _ h).step fun H locs cells slots LS hl hP hS h0 k => lv_if_ge hx hb hdg ht (fun _ => k LS hl) (fun hf => absurd (Int32.not_lt.mp hc) hf)
      next hc =>
        obtain ⟨t, ht, h⟩ := tgo_of h
        exact (hK _ _ _ _ h).step fun H locs cells slots LS hl hP hS h0 k => lv_if_gt hx hb hdg ht (fun _ => k LS hl) (fun hf => absurd (hc) hf)
      next hc =>
        exact (hK _ _ _ _ h).step fun H locs cells slots LS hl hP hS h0 k => lv_if_gt hx hb hdg (tgt := ((pc : Int) + off).toNat) (Int.toNat_of_nonneg (by simpa [okAt] using (Bool.and_eq_true_iff.mp hat).2)).symm (fun hf => absurd hf hc) (fun _ => k LS hl)
      next hc =>
        exact (hK _ _ _ _ h).step fun H locs cells slots LS hl hP hS h0 k => lv_if_le hx hb hdg (tgt := ((pc : Int) + off).toNat) (Int.toNat_of_nonneg (by simpa [okAt] using (Bool.and_eq_true_iff.mp hat).2)).symm (fun hf => absurd hf (Int32.not_le.mpr hc)) (fun _ => k LS hl)
      next hc =>
        obtain ⟨t, ht, h⟩ := tgo_of h
        exact (hK _ _ _ _ h).step fun H locs cells slots LS hl hP hS h0 k => lv_if_le hx hb hdg ht (fun _ => k LS hl) (fun hf => absurd (Int32.not_lt.mp hc) hf)
    next => cases h
  case if_icmp cnd off =>
    obtain rfl : len = 3 := by simpa [okLen] using (Bool.and_eq_true_iff.mp hat).1
    simp only [opK] at h
    split at h
    next y x r =>
      cases cnd <;> simp only at h <;> split at h
      next hc =>
        obtain ⟨t, ht, h⟩ := tgo_of h
        exact (hK _ _ _ _ h).step fun H locs cells slots LS hl hP hS h0 k => lv_icmp_eq hx hb hdg ht (fun _ => k LS hl) (fun hf => absurd (hc) hf)
      next hc =>
        exact (hK _ _ _ _ h).step fun H locs cells slots LS hl hP hS h0 k => lv_icmp_eq hx hb hdg (tgt := ((pc : Int) + off).toNat) (Int.toNat_of_nonneg (by simpa [okAt] using (Bool.and_eq_true_iff.mp hat).2)).symm (fun hf => absurd hf hc) (fun _ => k LS hl)
      next hc =>
        exact (hK _ _ _ _ h).step fun H locs cells slots LS hl hP hS h0 k => lv_icmp_ne hx hb hdg (tgt := ((pc : Int) + off).toNat) (Int.toNat_of_nonneg (by simpa [okAt] using (Bool.and_eq_true_iff.mp hat).2)).symm (fun hf => absurd hc hf) (fun _ => k LS hl)
      next hc =>
        obtain ⟨t, ht, h⟩ := tgo_of h
        exact (hK _ _ _ _ h).step fun H locs cells slots LS hl hP hS h0 k => lv_icmp_ne hx hb hdg ht (fun _ => k LS hl) (fun hf => absurd hf hc)
      next hc =>
        obtain ⟨t, ht, h⟩ := tgo_of h
        exact (hK _ _ _ _ h).step fun H locs cells slots LS hl hP hS h0 k => lv_icmp_lt hx hb hdg ht (fun _ => k LS hl) (fun hf => absurd (hc) hf)
      next hc =>
        exact (hK _ _ _ _ h).step fun H locs cells slots LS hl hP hS h0 k => lv_icmp_lt hx hb hdg (tgt := ((pc : Int) + off).toNat) (Int.toNat_of_nonneg (by simpa [okAt] using (Bool.and_eq_true_iff.mp hat).2)).symm (fun hf => absurd hf hc) (fun _ => k LS hl)
      next hc =>
        exact (hK _ _ _ _ h).step fun H locs cells slots LS hl hP hS h0 k => lv_icmp_ge hx hb hdg (tgt := ((pc : Int) + off).toNat) (Int.toNat_of_nonneg (by simpa [okAt] using (Bool.and_eq_true_iff.mp hat).2)).symm (fun hf => absurd hf (Int32.not_le.mpr hc)) (fun _ => k LS hl)
      next hc =>
        obtain ⟨t, ht, h⟩ := tgo_of h
        exact (hK _ _ _ _ h).step fun H locs cells slots LS hl hP hS h0 k => lv_icmp_ge hx hb hdg ht (fun _ => k LS hl) (fun hf => absurd (Int32.not_lt.mp hc) hf)
      next hc =>
        obtain ⟨t, ht, h⟩ := tgo_of h
        exact (hK _ _ _ _ h).step fun H locs cells slots LS hl hP hS h0 k => lv_icmp_gt hx hb hdg ht (fun _ => k LS hl) (fun hf => absurd (hc) hf)
      next hc =>
        exact (hK _ _ _ _ h).step fun H locs cells slots LS hl hP hS h0 k => lv_icmp_gt hx hb hdg (tgt := ((pc : Int) + off).toNat) (Int.toNat_of_nonneg (by simpa [okAt] using (Bool.and_eq_true_iff.mp hat).2)).symm (fun hf => absurd hf hc) (fun _ => k LS hl)
      next hc =>
        exact (hK _ _ _ _ h).step fun H locs cells slots LS hl hP hS h0 k => lv_icmp_le hx hb hdg (tgt := ((pc : Int) + off).toNat) (Int.toNat_of_nonneg (by simpa [okAt] using (Bool.and_eq_true_iff.mp hat).2)).symm (fun hf => absurd hf (Int32.not_le.mpr hc)) (fun _ => k LS hl)
      next hc =>
        obtain ⟨t, ht, h⟩ := tgo_of h
        exact (hK _ _ _ _ h).step fun H locs cells slots LS hl hP hS h0 k => lv_icmp_le hx hb hdg ht (fun _ => k LS hl) (fun hf => absurd (Int32.not_lt.mp hc) hf)
    next => cases h
end OK
