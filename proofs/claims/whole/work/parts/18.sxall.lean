/-! SOUNDNESS of one step, all instructions -/
theorem pm_call_ne {P : pm_T} {y k way : Nat} {S : List Value} {σ : pm_S} {q : Nat × pm_L × List Value × pm_S} (h : pm_call P y k way S σ = some (.inl q)) : False := by
  unfold pm_call at h
  split at h
  · split at h
    · split at h
      · split at h
        · unfold pm_cgo at h
          split at h <;> (try split at h) <;> (try split at h) <;> cases h
        · cases h
      · cases h
    · cases h
  · cases h
section SX
variable {base : Nat} {ad : Nat → Nat} {D : va_G} {cI cZ : ClassId} {ro : Nat → List Int32} {adV : Nat → Nat}
variable {y pc n pc' : Nat} {L L' : pm_L} {S S' : List Value} {σ σ1 : pm_S}
theorem sx_step (had : sx_ad base ad) {i : Instr} (hf : fq_fet y pc = some (i, n)) (hs : pm_stp fqP y i n pc L S σ = some (.inl (pc', L', S', σ1))) : sx_Go base ad D cI cZ ro adV y pc L S σ pc' L' S' σ1 := by
  obtain ⟨hy, hd, hlen⟩ := sx_fet_dec hf
  cases i with
  | iconst v => exact sx_i_iconst hd (sx_len1 hlen) hs
  | bipush v => exact sx_i_bipush hd (sx_len1 hlen) hs
  | sipush v => exact sx_i_sipush hd (sx_len1 hlen) hs
  | lconst v => exact sx_i_lconst hd (sx_len1 hlen) hs
  | iload k => exact sx_i_iload hd (sx_len1 hlen) hs
  | iload_n k => exact sx_i_iload_n hd (sx_len1 hlen) hs
  | lload k => exact sx_i_lload hd (sx_len1 hlen) hs
  | lload_n k => exact sx_i_lload_n hd (sx_len1 hlen) hs
  | aload k => exact sx_i_aload hd (sx_len1 hlen) hs
  | aload_n k => exact sx_i_aload_n hd (sx_len1 hlen) hs
  | istore k => exact sx_i_istore hd (sx_len1 hlen) hs
  | istore_n k => exact sx_i_istore_n hd (sx_len1 hlen) hs
  | astore k => exact sx_i_astore hd (sx_len1 hlen) hs
  | astore_n k => exact sx_i_astore_n hd (sx_len1 hlen) hs
  | lstore k => exact sx_i_lstore hd (sx_len1 hlen) hs
  | lstore_n k => exact sx_i_lstore_n hd (sx_len1 hlen) hs
  | iinc k v => exact sx_i_iinc hd (sx_len1 hlen) hs
  | iadd => exact sx_i_iadd hd (sx_len1 hlen) hs
  | isub => exact sx_i_isub hd (sx_len1 hlen) hs
  | imul => exact sx_i_imul hd (sx_len1 hlen) hs
  | iand => exact sx_i_iand hd (sx_len1 hlen) hs
  | ior => exact sx_i_ior hd (sx_len1 hlen) hs
  | ixor => exact sx_i_ixor hd (sx_len1 hlen) hs
  | ishl => exact sx_i_ishl hd (sx_len1 hlen) hs
  | ishr => exact sx_i_ishr hd (sx_len1 hlen) hs
  | iushr => exact sx_i_iushr hd (sx_len1 hlen) hs
  | ladd => exact sx_i_ladd hd (sx_len1 hlen) hs
  | lmul => exact sx_i_lmul hd (sx_len1 hlen) hs
  | idiv => exact sx_i_idiv hd (sx_len1 hlen) hs
  | irem => exact sx_i_irem hd (sx_len1 hlen) hs
  | ldiv => exact sx_i_ldiv hd (sx_len1 hlen) hs
  | lrem => exact sx_i_lrem hd (sx_len1 hlen) hs
  | ineg => exact sx_i_ineg hd (sx_len1 hlen) hs
  | lneg => exact sx_i_lneg hd (sx_len1 hlen) hs
  | i2l => exact sx_i_i2l hd (sx_len1 hlen) hs
  | lcmp => exact sx_i_lcmp hd (sx_len1 hlen) hs
  | dup => exact sx_i_dup hd (sx_len1 hlen) hs
  | dup2 => exact sx_i_dup2 hd (sx_len1 hlen) hs
  | pop => exact sx_i_pop hd (sx_len1 hlen) hs
  | goto o => exact sx_i_goto hd (sx_len1 hlen) hs
  | iaload => exact sx_i_iaload hd (sx_len1 hlen) hs
  | baload => exact sx_i_baload hd (sx_len1 hlen) hs
  | iastore => exact sx_i_iastore had hd (sx_len1 hlen) hs
  | bastore => exact sx_i_bastore had hd (sx_len1 hlen) hs
  | arraylength => exact sx_i_alen hd (sx_len1 hlen) hs
  | ldc k => exact sx_i_ldc hd (sx_len1 hlen) hs
  | ldc_w k => exact sx_i_ldcw hd (sx_len1 hlen) hs
  | ldc2_w k => exact sx_i_ldc2 hd (sx_len1 hlen) hs
  | getstatic k => exact sx_i_gets hd (sx_len1 hlen) hs
  | getfield k => exact sx_i_getf hd (sx_len1 hlen) hs
  | putfield k => exact sx_i_putf had hd (sx_len1 hlen) hs
  | new k => exact sx_i_new had hd (sx_len1 hlen) hs
  | tableswitch a b c os => exact sx_i_tab hd hs
  | lookupswitch a ps => exact sx_i_look hd hs
  | newarray t => cases t with
    | int => exact sx_i_newI had hd (sx_len1 hlen) hs
    | boolean => exact sx_i_newZ had hd (sx_len1 hlen) hs
    | _ => exact absurd (show (none : Option pm_A) = some _ from hs) (by simp)
  | ifCond c o => cases c with
    | eq => exact sx_i_if_eq hd (sx_len1 hlen) hs
    | ne => exact sx_i_if_ne hd (sx_len1 hlen) hs
    | lt => exact sx_i_if_lt hd (sx_len1 hlen) hs
    | ge => exact sx_i_if_ge hd (sx_len1 hlen) hs
    | gt => exact sx_i_if_gt hd (sx_len1 hlen) hs
    | le => exact sx_i_if_le hd (sx_len1 hlen) hs
  | if_icmp c o => cases c with
    | eq => exact sx_i_icmp_eq hd (sx_len1 hlen) hs
    | ne => exact sx_i_icmp_ne hd (sx_len1 hlen) hs
    | lt => exact sx_i_icmp_lt hd (sx_len1 hlen) hs
    | ge => exact sx_i_icmp_ge hd (sx_len1 hlen) hs
    | gt => exact sx_i_icmp_gt hd (sx_len1 hlen) hs
    | le => exact sx_i_icmp_le hd (sx_len1 hlen) hs
  | invokestatic k => exact (pm_call_ne (show pm_call fqP y k 0 S σ = some (.inl _) from hs)).elim
  | invokespecial k => exact (pm_call_ne (show pm_call fqP y k 2 S σ = some (.inl _) from hs)).elim
  | invokevirtual k =>
    have hs : (match pm_mth fqP (pm_met fqP y).1 k with | some (3, _) => pm_call fqP y k 3 S σ | _ => pm_call fqP y k 1 S σ) = some (.inl (pc', L', S', σ1)) := hs
    split at hs <;> exact (pm_call_ne hs).elim
  | return_ => exact absurd (show (some (Sum.inr (Sum.inr none)) : Option pm_A) = some (.inl _) from hs) (by simp)
  | ireturn =>
    have hs : (match S with | .int x :: [] => if (pm_met fqP y).2.2.1 = true → pm_fit 1 (.int x) = true then (some (.inr (.inr (some (.int x)))) : Option pm_A) else none | _ => none) = some (.inl (pc', L', S', σ1)) := hs
    split at hs
    · split at hs <;> cases hs
    · cases hs
  | lreturn =>
    have hs : (match S with | .long x :: [] => (some (.inr (.inr (some (.long x)))) : Option pm_A) | _ => none) = some (.inl (pc', L', S', σ1)) := hs
    split at hs <;> cases hs
  | _ => exact absurd (show (none : Option pm_A) = some _ from hs) (by simp)
end SX
/-! calls: what the stack held -/
theorem pm_pop_is : ∀ (n : Nat) (acc S as T : List Value), pm_pop n acc S = some (as, T) → ∃ xs, S = xs ++ T ∧ as = xs.reverse ++ acc ∧ xs.length = n := by
  intro n
  induction n with
  | zero => intro acc S as T h; rw [pm_pop_0] at h; cases h; exact ⟨[], rfl, rfl, rfl⟩
  | succ n ih =>
    intro acc S as T h
    cases S with
    | nil => cases h
    | cons v S =>
      obtain ⟨xs, h1, h2, h3⟩ := ih (v :: acc) S as T h
      exact ⟨v :: xs, by rw [h1]; rfl, by rw [h2]; simp, by simp [h3]⟩
theorem pm_okW_sum : ∀ (n : Nat) (vs : List Value), pm_okW n vs = true → (vs.map fun v => v.category).sum ≤ n := by
  intro n vs
  induction vs generalizing n with
  | nil => intro _; simp
  | cons v vs ih =>
    intro h
    cases v with
    | int x => cases n with
      | zero => simp [pm_okW] at h
      | succ n => have := ih n h; rw [List.map_cons, List.sum_cons]; show 1 + _ ≤ _; omega
    | ref x => cases n with
      | zero => simp [pm_okW] at h
      | succ n => have := ih n h; rw [List.map_cons, List.sum_cons]; show 1 + _ ≤ _; omega
    | null => cases n with
      | zero => simp [pm_okW] at h
      | succ n => have := ih n h; rw [List.map_cons, List.sum_cons]; show 1 + _ ≤ _; omega
    | long x => match n, h with
      | 0, h => simp [pm_okW] at h
      | 1, h => simp [pm_okW] at h
      | n + 2, h => have := ih n h; rw [List.map_cons, List.sum_cons]; show 2 + _ ≤ _; omega
    | float x => cases n <;> simp [pm_okW] at h
    | double x => cases n <;> simp [pm_okW] at h
    | retAddr x => cases n <;> simp [pm_okW] at h
theorem sx_map_cat (ad : Nat → Nat) (vs : List Value) : ((vs.map (sx_v ad)).map fun v => v.category) = vs.map fun v => v.category := by
  rw [List.map_map]
  exact List.map_congr_left fun v _ => sx_v_cat ad v
theorem sx_sl_len : ∀ vs : List Value, (lg_sl vs).length = (vs.map fun v => v.category).sum := by
  intro vs
  induction vs with
  | nil => rfl
  | cons v vs ih =>
    have e : lg_sl (v :: vs) = (if v.category = 2 then [.val v, .second] else [.val v]) ++ lg_sl vs := rfl
    rw [e, List.length_append, ih, List.map_cons, List.sum_cons]
    rcases lv_cat v with h | h
    · rw [h]; rfl
    · rw [h]; rfl
theorem pm_ent_len : ∀ (vs : List Value) (n : Nat), pm_okW n vs = true → (pm_ent n vs).length = n := by
  intro vs
  induction vs with
  | nil => intro n _; simp [pm_ent]
  | cons v vs ih =>
    intro n h
    cases v with
    | int x => cases n with
      | zero => simp [pm_okW] at h
      | succ n => simp only [pm_ent, List.length_cons, Nat.add_sub_cancel]; rw [ih n h]
    | ref x => cases n with
      | zero => simp [pm_okW] at h
      | succ n => simp only [pm_ent, List.length_cons, Nat.add_sub_cancel]; rw [ih n h]
    | null => cases n with
      | zero => simp [pm_okW] at h
      | succ n => simp only [pm_ent, List.length_cons, Nat.add_sub_cancel]; rw [ih n h]
    | long x => match n, h with
      | 0, h => simp [pm_okW] at h
      | 1, h => simp [pm_okW] at h
      | n + 2, h => simp only [pm_ent, List.length_cons, Nat.add_sub_cancel]; rw [ih n h]
    | float x => cases n <;> simp [pm_okW] at h
    | double x => cases n <;> simp [pm_okW] at h
    | retAddr x => cases n <;> simp [pm_okW] at h
theorem pm_ent_args (ad : Nat → Nat) : ∀ (vs : List Value) (n o k : Nat) (v : Value), pm_okW n vs = true → (pm_ent n vs)[k]? = some (some v) → (o + k, sx_v ad v) ∈ lv_args o (vs.map (sx_v ad)) := by
  intro vs
  induction vs with
  | nil =>
    intro n o k v _ hk
    simp [pm_ent, List.getElem?_replicate] at hk
  | cons u vs ih =>
    intro n o k v h hk
    have one : ∀ m, u.category = 1 → (some u :: pm_ent m vs : pm_L)[k]? = some (some v) → pm_okW m vs = true → (o + k, sx_v ad v) ∈ lv_args o ((u :: vs).map (sx_v ad)) := by
      intro m hc hk h
      cases k with
      | zero =>
        simp only [List.getElem?_cons_zero, Option.some.injEq] at hk
        subst hk
        simp [lv_args]
      | succ k =>
        simp only [List.getElem?_cons_succ] at hk
        have := ih m (o + 1) k v h hk
        simp only [List.map_cons, lv_args, sx_v_cat, hc]
        refine List.mem_cons_of_mem _ ?_
        rw [show o + (k + 1) = o + 1 + k by omega]
        simpa using this
    cases u with
    | int x => cases n with
      | zero => simp [pm_okW] at h
      | succ n => exact one n rfl (by simpa [pm_ent] using hk) h
    | ref x => cases n with
      | zero => simp [pm_okW] at h
      | succ n => exact one n rfl (by simpa [pm_ent] using hk) h
    | null => cases n with
      | zero => simp [pm_okW] at h
      | succ n => exact one n rfl (by simpa [pm_ent] using hk) h
    | long x => match n, h with
      | 0, h => simp [pm_okW] at h
      | 1, h => simp [pm_okW] at h
      | n + 2, h =>
        simp only [pm_ent, Nat.add_sub_cancel] at hk
        match k, hk with
        | 0, hk =>
          simp only [List.getElem?_cons_zero, Option.some.injEq] at hk
          subst hk
          simp [lv_args]
        | 1, hk => simp at hk
        | k + 2, hk =>
          simp only [List.getElem?_cons_succ] at hk
          have := ih n (o + 2) k v h hk
          rw [show o + (k + 2) = o + 2 + k by omega]
          exact List.mem_cons_of_mem _ this
    | float x => cases n <;> simp [pm_okW] at h
    | double x => cases n <;> simp [pm_okW] at h
    | retAddr x => cases n <;> simp [pm_okW] at h
