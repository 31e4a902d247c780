/-! SOUNDNESS of one step: what divides, compares, branches, reads the pool -/
section SX
variable {base : Nat} {ad : Nat → Nat} {D : va_G} {cI cZ : ClassId} {ro : Nat → List Int32} {adV : Nat → Nat}
variable {y pc n pc' : Nat} {L L' : pm_L} {S S' : List Value} {σ σ1 : pm_S}
theorem sx_i_idiv (hd : decode (sx_by y) pc = .ok (.idiv, n)) (hn : n = 1) (hs : pm_stp fqP y (.idiv) n pc L S σ = some (.inl (pc', L', S', σ1))) : sx_Go base ad D cI cZ ro adV y pc L S σ pc' L' S' σ1 := by
  subst hn
  have hs : (match S with | .int z :: .int x :: S => if ¬ z = 0 then pm_nx (pc + 1) L (.int (x / z) :: S) σ else none | _ => none) = some (.inl (pc', L', S', σ1)) := hs
  split at hs
  · split at hs
    next h0 =>
      obtain ⟨rfl, rfl, rfl, rfl⟩ := sx_nx hs
      exact sx_same fun X hS hR hl next => lv_idiv X.1 X.2.1 hd h0 (next _ hl)
    next => cases hs
  · cases hs
theorem sx_i_irem (hd : decode (sx_by y) pc = .ok (.irem, n)) (hn : n = 1) (hs : pm_stp fqP y (.irem) n pc L S σ = some (.inl (pc', L', S', σ1))) : sx_Go base ad D cI cZ ro adV y pc L S σ pc' L' S' σ1 := by
  subst hn
  have hs : (match S with | .int z :: .int x :: S => if ¬ z = 0 then pm_nx (pc + 1) L (.int (x - x / z * z) :: S) σ else none | _ => none) = some (.inl (pc', L', S', σ1)) := hs
  split at hs
  · split at hs
    next h0 =>
      obtain ⟨rfl, rfl, rfl, rfl⟩ := sx_nx hs
      exact sx_same fun X hS hR hl next => lv_irem X.1 X.2.1 hd h0 (next _ hl)
    next => cases hs
  · cases hs
theorem sx_i_ldiv (hd : decode (sx_by y) pc = .ok (.ldiv, n)) (hn : n = 1) (hs : pm_stp fqP y (.ldiv) n pc L S σ = some (.inl (pc', L', S', σ1))) : sx_Go base ad D cI cZ ro adV y pc L S σ pc' L' S' σ1 := by
  subst hn
  have hs : (match S with | .long z :: .long x :: S => if ¬ z = 0 then pm_nx (pc + 1) L (.long (x / z) :: S) σ else none | _ => none) = some (.inl (pc', L', S', σ1)) := hs
  split at hs
  · split at hs
    next h0 =>
      obtain ⟨rfl, rfl, rfl, rfl⟩ := sx_nx hs
      exact sx_same fun X hS hR hl next => lv_ldiv X.1 X.2.1 hd h0 (next _ hl)
    next => cases hs
  · cases hs
theorem sx_i_lrem (hd : decode (sx_by y) pc = .ok (.lrem, n)) (hn : n = 1) (hs : pm_stp fqP y (.lrem) n pc L S σ = some (.inl (pc', L', S', σ1))) : sx_Go base ad D cI cZ ro adV y pc L S σ pc' L' S' σ1 := by
  subst hn
  have hs : (match S with | .long z :: .long x :: S => if ¬ z = 0 then pm_nx (pc + 1) L (.long (x - x / z * z) :: S) σ else none | _ => none) = some (.inl (pc', L', S', σ1)) := hs
  split at hs
  · split at hs
    next h0 =>
      obtain ⟨rfl, rfl, rfl, rfl⟩ := sx_nx hs
      exact sx_same fun X hS hR hl next => lv_lrem X.1 X.2.1 hd h0 (next _ hl)
    next => cases hs
  · cases hs
theorem sx_i_ineg (hd : decode (sx_by y) pc = .ok (.ineg, n)) (hn : n = 1) (hs : pm_stp fqP y (.ineg) n pc L S σ = some (.inl (pc', L', S', σ1))) : sx_Go base ad D cI cZ ro adV y pc L S σ pc' L' S' σ1 := by
  subst hn
  have hs : (match S with | .int x :: S => pm_nx (pc + 1) L (.int (-x) :: S) σ | _ => none) = some (.inl (pc', L', S', σ1)) := hs
  split at hs
  · obtain ⟨rfl, rfl, rfl, rfl⟩ := sx_nx hs
    exact sx_same fun X hS hR hl next => lv_ineg X.1 X.2.1 hd (next _ hl)
  · cases hs
theorem sx_i_lneg (hd : decode (sx_by y) pc = .ok (.lneg, n)) (hn : n = 1) (hs : pm_stp fqP y (.lneg) n pc L S σ = some (.inl (pc', L', S', σ1))) : sx_Go base ad D cI cZ ro adV y pc L S σ pc' L' S' σ1 := by
  subst hn
  have hs : (match S with | .long x :: S => pm_nx (pc + 1) L (.long (-x) :: S) σ | _ => none) = some (.inl (pc', L', S', σ1)) := hs
  split at hs
  · obtain ⟨rfl, rfl, rfl, rfl⟩ := sx_nx hs
    exact sx_same fun X hS hR hl next => lv_lneg X.1 X.2.1 hd (next _ hl)
  · cases hs
theorem sx_i_i2l (hd : decode (sx_by y) pc = .ok (.i2l, n)) (hn : n = 1) (hs : pm_stp fqP y (.i2l) n pc L S σ = some (.inl (pc', L', S', σ1))) : sx_Go base ad D cI cZ ro adV y pc L S σ pc' L' S' σ1 := by
  subst hn
  have hs : (match S with | .int x :: S => pm_nx (pc + 1) L (.long x.toInt64 :: S) σ | _ => none) = some (.inl (pc', L', S', σ1)) := hs
  split at hs
  · obtain ⟨rfl, rfl, rfl, rfl⟩ := sx_nx hs
    exact sx_same fun X hS hR hl next => lv_i2l X.1 X.2.1 hd rfl (next _ hl)
  · cases hs
theorem sx_i_lcmp (hd : decode (sx_by y) pc = .ok (.lcmp, n)) (hn : n = 1) (hs : pm_stp fqP y (.lcmp) n pc L S σ = some (.inl (pc', L', S', σ1))) : sx_Go base ad D cI cZ ro adV y pc L S σ pc' L' S' σ1 := by
  subst hn
  have hs : (match S with | .long z :: .long x :: S => pm_nx (pc + 1) L (.int (lg_cmp x z) :: S) σ | _ => none) = some (.inl (pc', L', S', σ1)) := hs
  split at hs
  · obtain ⟨rfl, rfl, rfl, rfl⟩ := sx_nx hs
    exact sx_same fun X hS hR hl next => W.lcmp X.1 X.2.1 hd (next _ hl)
  · cases hs
theorem sx_i_dup (hd : decode (sx_by y) pc = .ok (.dup, n)) (hn : n = 1) (hs : pm_stp fqP y (.dup) n pc L S σ = some (.inl (pc', L', S', σ1))) : sx_Go base ad D cI cZ ro adV y pc L S σ pc' L' S' σ1 := by
  subst hn
  have hs : (match S with | .int x :: S => pm_nx (pc + 1) L (.int x :: .int x :: S) σ | .ref x :: S => pm_nx (pc + 1) L (.ref x :: .ref x :: S) σ | _ => none) = some (.inl (pc', L', S', σ1)) := hs
  split at hs
  · obtain ⟨rfl, rfl, rfl, rfl⟩ := sx_nx hs
    exact sx_same fun X hS hR hl next => lv_dup X.1 X.2.1 hd rfl (next _ hl)
  · obtain ⟨rfl, rfl, rfl, rfl⟩ := sx_nx hs
    exact sx_same fun X hS hR hl next => lv_dup X.1 X.2.1 hd rfl (next _ hl)
  · cases hs
theorem sx_i_dup2 (hd : decode (sx_by y) pc = .ok (.dup2, n)) (hn : n = 1) (hs : pm_stp fqP y (.dup2) n pc L S σ = some (.inl (pc', L', S', σ1))) : sx_Go base ad D cI cZ ro adV y pc L S σ pc' L' S' σ1 := by
  subst hn
  have hs : (match S with | .int x :: .int y :: S => pm_nx (pc + 1) L (.int x :: .int y :: .int x :: .int y :: S) σ | .int x :: .ref y :: S => pm_nx (pc + 1) L (.int x :: .ref y :: .int x :: .ref y :: S) σ | _ => none) = some (.inl (pc', L', S', σ1)) := hs
  split at hs
  · obtain ⟨rfl, rfl, rfl, rfl⟩ := sx_nx hs
    exact sx_same fun X hS hR hl next => lv_dup2_11 X.1 X.2.1 hd rfl rfl (next _ hl)
  · obtain ⟨rfl, rfl, rfl, rfl⟩ := sx_nx hs
    exact sx_same fun X hS hR hl next => lv_dup2_11 X.1 X.2.1 hd rfl rfl (next _ hl)
  · cases hs
theorem sx_i_pop (hd : decode (sx_by y) pc = .ok (.pop, n)) (hn : n = 1) (hs : pm_stp fqP y (.pop) n pc L S σ = some (.inl (pc', L', S', σ1))) : sx_Go base ad D cI cZ ro adV y pc L S σ pc' L' S' σ1 := by
  subst hn
  have hs : (match S with | .int _ :: S => pm_nx (pc + 1) L S σ | .ref _ :: S => pm_nx (pc + 1) L S σ | _ => none) = some (.inl (pc', L', S', σ1)) := hs
  split at hs
  · obtain ⟨rfl, rfl, rfl, rfl⟩ := sx_nx hs
    exact sx_same fun X hS hR hl next => lv_pop X.1 X.2.1 hd rfl (next _ hl)
  · obtain ⟨rfl, rfl, rfl, rfl⟩ := sx_nx hs
    exact sx_same fun X hS hR hl next => lv_pop X.1 X.2.1 hd rfl (next _ hl)
  · cases hs
theorem sx_tgt {pc : Nat} {o : Int} (h : 0 ≤ (pc : Int) + o) : (pc : Int) + o = (pm_tgt pc o : Int) := by unfold pm_tgt; omega
theorem sx_i_goto {o : Int} (hd : decode (sx_by y) pc = .ok (.goto o, n)) (hn : n = 3) (hs : pm_stp fqP y (.goto o) n pc L S σ = some (.inl (pc', L', S', σ1))) : sx_Go base ad D cI cZ ro adV y pc L S σ pc' L' S' σ1 := by
  subst hn
  have hs : (if 0 ≤ (pc : Int) + o then pm_nx (pm_tgt pc o) L S σ else none) = some (.inl (pc', L', S', σ1)) := hs
  split at hs
  next h0 =>
    obtain ⟨rfl, rfl, rfl, rfl⟩ := sx_nx hs
    exact sx_same fun X hS hR hl next => lv_goto X.1 X.2.1 hd (sx_tgt h0) (next _ hl)
  next => cases hs
theorem sx_i_if_eq {o : Int} (hd : decode (sx_by y) pc = .ok (.ifCond .eq o, n)) (hn : n = 3) (hs : pm_stp fqP y (.ifCond .eq o) n pc L S σ = some (.inl (pc', L', S', σ1))) : sx_Go base ad D cI cZ ro adV y pc L S σ pc' L' S' σ1 := by
  subst hn
  have hs : (match S with | .int x :: S => if 0 ≤ (pc : Int) + o then (if pm_cnd .eq x 0 = true then pm_nx (pm_tgt pc o) L S σ else pm_nx (pc + 3) L S σ) else none | _ => none) = some (.inl (pc', L', S', σ1)) := hs
  split at hs
  · split at hs
    next h0 =>
      split at hs
      next hc =>
        obtain ⟨rfl, rfl, rfl, rfl⟩ := sx_nx hs
        exact sx_same fun X hS hR hl next => lv_if_eq X.1 X.2.1 hd (sx_tgt h0) (fun _ => next _ hl) (fun q => absurd (of_decide_eq_true hc) q)
      next hc =>
        obtain ⟨rfl, rfl, rfl, rfl⟩ := sx_nx hs
        exact sx_same fun X hS hR hl next => lv_if_eq X.1 X.2.1 hd (sx_tgt h0) (fun q => absurd (decide_eq_true q) hc) (fun _ => next _ hl)
    next => cases hs
  · cases hs
theorem sx_i_icmp_eq {o : Int} (hd : decode (sx_by y) pc = .ok (.if_icmp .eq o, n)) (hn : n = 3) (hs : pm_stp fqP y (.if_icmp .eq o) n pc L S σ = some (.inl (pc', L', S', σ1))) : sx_Go base ad D cI cZ ro adV y pc L S σ pc' L' S' σ1 := by
  subst hn
  have hs : (match S with | .int z :: .int x :: S => if 0 ≤ (pc : Int) + o then (if pm_cnd .eq x z = true then pm_nx (pm_tgt pc o) L S σ else pm_nx (pc + 3) L S σ) else none | _ => none) = some (.inl (pc', L', S', σ1)) := hs
  split at hs
  · split at hs
    next h0 =>
      split at hs
      next hc =>
        obtain ⟨rfl, rfl, rfl, rfl⟩ := sx_nx hs
        exact sx_same fun X hS hR hl next => lv_icmp_eq X.1 X.2.1 hd (sx_tgt h0) (fun _ => next _ hl) (fun q => absurd (of_decide_eq_true hc) q)
      next hc =>
        obtain ⟨rfl, rfl, rfl, rfl⟩ := sx_nx hs
        exact sx_same fun X hS hR hl next => lv_icmp_eq X.1 X.2.1 hd (sx_tgt h0) (fun q => absurd (decide_eq_true q) hc) (fun _ => next _ hl)
    next => cases hs
  · cases hs
theorem sx_i_if_ne {o : Int} (hd : decode (sx_by y) pc = .ok (.ifCond .ne o, n)) (hn : n = 3) (hs : pm_stp fqP y (.ifCond .ne o) n pc L S σ = some (.inl (pc', L', S', σ1))) : sx_Go base ad D cI cZ ro adV y pc L S σ pc' L' S' σ1 := by
  subst hn
  have hs : (match S with | .int x :: S => if 0 ≤ (pc : Int) + o then (if pm_cnd .ne x 0 = true then pm_nx (pm_tgt pc o) L S σ else pm_nx (pc + 3) L S σ) else none | _ => none) = some (.inl (pc', L', S', σ1)) := hs
  split at hs
  · split at hs
    next h0 =>
      split at hs
      next hc =>
        obtain ⟨rfl, rfl, rfl, rfl⟩ := sx_nx hs
        exact sx_same fun X hS hR hl next => lv_if_ne X.1 X.2.1 hd (sx_tgt h0) (fun _ => next _ hl) (fun q => absurd q (of_decide_eq_true hc))
      next hc =>
        obtain ⟨rfl, rfl, rfl, rfl⟩ := sx_nx hs
        exact sx_same fun X hS hR hl next => lv_if_ne X.1 X.2.1 hd (sx_tgt h0) (fun q => absurd (decide_eq_true q) hc) (fun _ => next _ hl)
    next => cases hs
  · cases hs
theorem sx_i_icmp_ne {o : Int} (hd : decode (sx_by y) pc = .ok (.if_icmp .ne o, n)) (hn : n = 3) (hs : pm_stp fqP y (.if_icmp .ne o) n pc L S σ = some (.inl (pc', L', S', σ1))) : sx_Go base ad D cI cZ ro adV y pc L S σ pc' L' S' σ1 := by
  subst hn
  have hs : (match S with | .int z :: .int x :: S => if 0 ≤ (pc : Int) + o then (if pm_cnd .ne x z = true then pm_nx (pm_tgt pc o) L S σ else pm_nx (pc + 3) L S σ) else none | _ => none) = some (.inl (pc', L', S', σ1)) := hs
  split at hs
  · split at hs
    next h0 =>
      split at hs
      next hc =>
        obtain ⟨rfl, rfl, rfl, rfl⟩ := sx_nx hs
        exact sx_same fun X hS hR hl next => lv_icmp_ne X.1 X.2.1 hd (sx_tgt h0) (fun _ => next _ hl) (fun q => absurd q (of_decide_eq_true hc))
      next hc =>
        obtain ⟨rfl, rfl, rfl, rfl⟩ := sx_nx hs
        exact sx_same fun X hS hR hl next => lv_icmp_ne X.1 X.2.1 hd (sx_tgt h0) (fun q => absurd (decide_eq_true q) hc) (fun _ => next _ hl)
    next => cases hs
  · cases hs
theorem sx_i_if_lt {o : Int} (hd : decode (sx_by y) pc = .ok (.ifCond .lt o, n)) (hn : n = 3) (hs : pm_stp fqP y (.ifCond .lt o) n pc L S σ = some (.inl (pc', L', S', σ1))) : sx_Go base ad D cI cZ ro adV y pc L S σ pc' L' S' σ1 := by
  subst hn
  have hs : (match S with | .int x :: S => if 0 ≤ (pc : Int) + o then (if pm_cnd .lt x 0 = true then pm_nx (pm_tgt pc o) L S σ else pm_nx (pc + 3) L S σ) else none | _ => none) = some (.inl (pc', L', S', σ1)) := hs
  split at hs
  · split at hs
    next h0 =>
      split at hs
      next hc =>
        obtain ⟨rfl, rfl, rfl, rfl⟩ := sx_nx hs
        exact sx_same fun X hS hR hl next => lv_if_lt X.1 X.2.1 hd (sx_tgt h0) (fun _ => next _ hl) (fun q => absurd (of_decide_eq_true hc) q)
      next hc =>
        obtain ⟨rfl, rfl, rfl, rfl⟩ := sx_nx hs
        exact sx_same fun X hS hR hl next => lv_if_lt X.1 X.2.1 hd (sx_tgt h0) (fun q => absurd (decide_eq_true q) hc) (fun _ => next _ hl)
    next => cases hs
  · cases hs
theorem sx_i_icmp_lt {o : Int} (hd : decode (sx_by y) pc = .ok (.if_icmp .lt o, n)) (hn : n = 3) (hs : pm_stp fqP y (.if_icmp .lt o) n pc L S σ = some (.inl (pc', L', S', σ1))) : sx_Go base ad D cI cZ ro adV y pc L S σ pc' L' S' σ1 := by
  subst hn
  have hs : (match S with | .int z :: .int x :: S => if 0 ≤ (pc : Int) + o then (if pm_cnd .lt x z = true then pm_nx (pm_tgt pc o) L S σ else pm_nx (pc + 3) L S σ) else none | _ => none) = some (.inl (pc', L', S', σ1)) := hs
  split at hs
  · split at hs
    next h0 =>
      split at hs
      next hc =>
        obtain ⟨rfl, rfl, rfl, rfl⟩ := sx_nx hs
        exact sx_same fun X hS hR hl next => lv_icmp_lt X.1 X.2.1 hd (sx_tgt h0) (fun _ => next _ hl) (fun q => absurd (of_decide_eq_true hc) q)
      next hc =>
        obtain ⟨rfl, rfl, rfl, rfl⟩ := sx_nx hs
        exact sx_same fun X hS hR hl next => lv_icmp_lt X.1 X.2.1 hd (sx_tgt h0) (fun q => absurd (decide_eq_true q) hc) (fun _ => next _ hl)
    next => cases hs
  · cases hs
theorem sx_i_if_ge {o : Int} (hd : decode (sx_by y) pc = .ok (.ifCond .ge o, n)) (hn : n = 3) (hs : pm_stp fqP y (.ifCond .ge o) n pc L S σ = some (.inl (pc', L', S', σ1))) : sx_Go base ad D cI cZ ro adV y pc L S σ pc' L' S' σ1 := by
  subst hn
  have hs : (match S with | .int x :: S => if 0 ≤ (pc : Int) + o then (if pm_cnd .ge x 0 = true then pm_nx (pm_tgt pc o) L S σ else pm_nx (pc + 3) L S σ) else none | _ => none) = some (.inl (pc', L', S', σ1)) := hs
  split at hs
  · split at hs
    next h0 =>
      split at hs
      next hc =>
        obtain ⟨rfl, rfl, rfl, rfl⟩ := sx_nx hs
        exact sx_same fun X hS hR hl next => lv_if_ge X.1 X.2.1 hd (sx_tgt h0) (fun _ => next _ hl) (fun q => absurd (of_decide_eq_true hc) q)
      next hc =>
        obtain ⟨rfl, rfl, rfl, rfl⟩ := sx_nx hs
        exact sx_same fun X hS hR hl next => lv_if_ge X.1 X.2.1 hd (sx_tgt h0) (fun q => absurd (decide_eq_true q) hc) (fun _ => next _ hl)
    next => cases hs
  · cases hs
theorem sx_i_icmp_ge {o : Int} (hd : decode (sx_by y) pc = .ok (.if_icmp .ge o, n)) (hn : n = 3) (hs : pm_stp fqP y (.if_icmp .ge o) n pc L S σ = some (.inl (pc', L', S', σ1))) : sx_Go base ad D cI cZ ro adV y pc L S σ pc' L' S' σ1 := by
  subst hn
  have hs : (match S with | .int z :: .int x :: S => if 0 ≤ (pc : Int) + o then (if pm_cnd .ge x z = true then pm_nx (pm_tgt pc o) L S σ else pm_nx (pc + 3) L S σ) else none | _ => none) = some (.inl (pc', L', S', σ1)) := hs
  split at hs
  · split at hs
    next h0 =>
      split at hs
      next hc =>
        obtain ⟨rfl, rfl, rfl, rfl⟩ := sx_nx hs
        exact sx_same fun X hS hR hl next => lv_icmp_ge X.1 X.2.1 hd (sx_tgt h0) (fun _ => next _ hl) (fun q => absurd (of_decide_eq_true hc) q)
      next hc =>
        obtain ⟨rfl, rfl, rfl, rfl⟩ := sx_nx hs
        exact sx_same fun X hS hR hl next => lv_icmp_ge X.1 X.2.1 hd (sx_tgt h0) (fun q => absurd (decide_eq_true q) hc) (fun _ => next _ hl)
    next => cases hs
  · cases hs
theorem sx_i_if_gt {o : Int} (hd : decode (sx_by y) pc = .ok (.ifCond .gt o, n)) (hn : n = 3) (hs : pm_stp fqP y (.ifCond .gt o) n pc L S σ = some (.inl (pc', L', S', σ1))) : sx_Go base ad D cI cZ ro adV y pc L S σ pc' L' S' σ1 := by
  subst hn
  have hs : (match S with | .int x :: S => if 0 ≤ (pc : Int) + o then (if pm_cnd .gt x 0 = true then pm_nx (pm_tgt pc o) L S σ else pm_nx (pc + 3) L S σ) else none | _ => none) = some (.inl (pc', L', S', σ1)) := hs
  split at hs
  · split at hs
    next h0 =>
      split at hs
      next hc =>
        obtain ⟨rfl, rfl, rfl, rfl⟩ := sx_nx hs
        exact sx_same fun X hS hR hl next => lv_if_gt X.1 X.2.1 hd (sx_tgt h0) (fun _ => next _ hl) (fun q => absurd (of_decide_eq_true hc) q)
      next hc =>
        obtain ⟨rfl, rfl, rfl, rfl⟩ := sx_nx hs
        exact sx_same fun X hS hR hl next => lv_if_gt X.1 X.2.1 hd (sx_tgt h0) (fun q => absurd (decide_eq_true q) hc) (fun _ => next _ hl)
    next => cases hs
  · cases hs
theorem sx_i_icmp_gt {o : Int} (hd : decode (sx_by y) pc = .ok (.if_icmp .gt o, n)) (hn : n = 3) (hs : pm_stp fqP y (.if_icmp .gt o) n pc L S σ = some (.inl (pc', L', S', σ1))) : sx_Go base ad D cI cZ ro adV y pc L S σ pc' L' S' σ1 := by
  subst hn
  have hs : (match S with | .int z :: .int x :: S => if 0 ≤ (pc : Int) + o then (if pm_cnd .gt x z = true then pm_nx (pm_tgt pc o) L S σ else pm_nx (pc + 3) L S σ) else none | _ => none) = some (.inl (pc', L', S', σ1)) := hs
  split at hs
  · split at hs
    next h0 =>
      split at hs
      next hc =>
        obtain ⟨rfl, rfl, rfl, rfl⟩ := sx_nx hs
        exact sx_same fun X hS hR hl next => lv_icmp_gt X.1 X.2.1 hd (sx_tgt h0) (fun _ => next _ hl) (fun q => absurd (of_decide_eq_true hc) q)
      next hc =>
        obtain ⟨rfl, rfl, rfl, rfl⟩ := sx_nx hs
        exact sx_same fun X hS hR hl next => lv_icmp_gt X.1 X.2.1 hd (sx_tgt h0) (fun q => absurd (decide_eq_true q) hc) (fun _ => next _ hl)
    next => cases hs
  · cases hs
theorem sx_i_if_le {o : Int} (hd : decode (sx_by y) pc = .ok (.ifCond .le o, n)) (hn : n = 3) (hs : pm_stp fqP y (.ifCond .le o) n pc L S σ = some (.inl (pc', L', S', σ1))) : sx_Go base ad D cI cZ ro adV y pc L S σ pc' L' S' σ1 := by
  subst hn
  have hs : (match S with | .int x :: S => if 0 ≤ (pc : Int) + o then (if pm_cnd .le x 0 = true then pm_nx (pm_tgt pc o) L S σ else pm_nx (pc + 3) L S σ) else none | _ => none) = some (.inl (pc', L', S', σ1)) := hs
  split at hs
  · split at hs
    next h0 =>
      split at hs
      next hc =>
        obtain ⟨rfl, rfl, rfl, rfl⟩ := sx_nx hs
        exact sx_same fun X hS hR hl next => lv_if_le X.1 X.2.1 hd (sx_tgt h0) (fun _ => next _ hl) (fun q => absurd (of_decide_eq_true hc) q)
      next hc =>
        obtain ⟨rfl, rfl, rfl, rfl⟩ := sx_nx hs
        exact sx_same fun X hS hR hl next => lv_if_le X.1 X.2.1 hd (sx_tgt h0) (fun q => absurd (decide_eq_true q) hc) (fun _ => next _ hl)
    next => cases hs
  · cases hs
theorem sx_i_icmp_le {o : Int} (hd : decode (sx_by y) pc = .ok (.if_icmp .le o, n)) (hn : n = 3) (hs : pm_stp fqP y (.if_icmp .le o) n pc L S σ = some (.inl (pc', L', S', σ1))) : sx_Go base ad D cI cZ ro adV y pc L S σ pc' L' S' σ1 := by
  subst hn
  have hs : (match S with | .int z :: .int x :: S => if 0 ≤ (pc : Int) + o then (if pm_cnd .le x z = true then pm_nx (pm_tgt pc o) L S σ else pm_nx (pc + 3) L S σ) else none | _ => none) = some (.inl (pc', L', S', σ1)) := hs
  split at hs
  · split at hs
    next h0 =>
      split at hs
      next hc =>
        obtain ⟨rfl, rfl, rfl, rfl⟩ := sx_nx hs
        exact sx_same fun X hS hR hl next => lv_icmp_le X.1 X.2.1 hd (sx_tgt h0) (fun _ => next _ hl) (fun q => absurd (of_decide_eq_true hc) q)
      next hc =>
        obtain ⟨rfl, rfl, rfl, rfl⟩ := sx_nx hs
        exact sx_same fun X hS hR hl next => lv_icmp_le X.1 X.2.1 hd (sx_tgt h0) (fun q => absurd (decide_eq_true q) hc) (fun _ => next _ hl)
    next => cases hs
  · cases hs
theorem sx_i_tab {df lo hi : Int} {os : Array Int} (hd : decode (sx_by y) pc = .ok (.tableswitch df lo hi os, n)) (hs : pm_stp fqP y (.tableswitch df lo hi os) n pc L S σ = some (.inl (pc', L', S', σ1))) : sx_Go base ad D cI cZ ro adV y pc L S σ pc' L' S' σ1 := by
  have hs : (match S with
    | .int x :: S => (if x.toInt < lo ∨ hi < x.toInt then (if 0 ≤ (pc : Int) + df then pm_nx (pm_tgt pc df) L S σ else none) else
      (match os[(x.toInt - lo).toNat]? with
      | some o => if 0 ≤ (pc : Int) + o then pm_nx (pm_tgt pc o) L S σ else none
      | none => none))
    | _ => none) = some (.inl (pc', L', S', σ1)) := hs
  split at hs
  · split at hs
    next hx =>
      split at hs
      next h0 =>
        obtain ⟨rfl, rfl, rfl, rfl⟩ := sx_nx hs
        exact sx_same fun X hS hR hl next => lv_tableOut X.1 X.2.1 hd hx (sx_tgt h0) (next _ hl)
      next => cases hs
    next hx =>
      split at hs
      next o ho =>
        split at hs
        next h0 =>
          obtain ⟨rfl, rfl, rfl, rfl⟩ := sx_nx hs
          exact sx_same fun X hS hR hl next => lv_tableIn X.1 X.2.1 hd (fun q => hx (Or.inl q)) (fun q => hx (Or.inr q)) ho (sx_tgt h0) (next _ hl)
        next => cases hs
      next => cases hs
  · cases hs
theorem sx_i_look {df : Int} {ps : Array (Int × Int)} (hd : decode (sx_by y) pc = .ok (.lookupswitch df ps, n)) (hs : pm_stp fqP y (.lookupswitch df ps) n pc L S σ = some (.inl (pc', L', S', σ1))) : sx_Go base ad D cI cZ ro adV y pc L S σ pc' L' S' σ1 := by
  have hs : (match S with
    | .int x :: S => if (ps.toList.zip (ps.toList.drop 1)).all (fun (a, next) => a.1 < next.1) = true ∧ 0 ≤ (pc : Int) + Op.lookupswitch.offset ps.toList df x.toInt then pm_nx (pm_tgt pc (Op.lookupswitch.offset ps.toList df x.toInt)) L S σ else none
    | _ => none) = some (.inl (pc', L', S', σ1)) := hs
  split at hs
  · split at hs
    next h0 =>
      obtain ⟨rfl, rfl, rfl, rfl⟩ := sx_nx hs
      exact sx_same fun X hS hR hl next => lv_lookup X.1 X.2.1 hd h0.1 rfl (sx_tgt h0.2) (next _ hl)
    next => cases hs
  · cases hs
theorem sx_kon {c i : Nat} {v : Value} (h : fq_kon c i = some v) : sx_kB c i v = true := by
  obtain ⟨l, h1, h2⟩ := sx_lookup2 (show ((fq_kon_T.lookup c).getD []).lookup i = some v from h)
  exact List.all_eq_true.mp (List.all_eq_true.mp sx_k_all _ h1) _ h2
theorem sx_i_ldc {k : Nat} (hd : decode (sx_by y) pc = .ok (.ldc k, n)) (hn : n = 2) (hs : pm_stp fqP y (.ldc k) n pc L S σ = some (.inl (pc', L', S', σ1))) : sx_Go base ad D cI cZ ro adV y pc L S σ pc' L' S' σ1 := by
  subst hn
  have hs : (match pm_kon fqP (pm_met fqP y).1 k with
    | some (.int v) => pm_nx (pc + 2) L (.int v :: S) σ
    | some (.ref v) => pm_nx (pc + 2) L (.ref v :: S) σ
    | _ => none) = some (.inl (pc', L', S', σ1)) := hs
  split at hs
  next v hv =>
    obtain ⟨rfl, rfl, rfl, rfl⟩ := sx_nx hs
    have hB : sx_wB _ _ = true := sx_kon hv
    exact sx_same fun X hS hR hl next => lv_ldc X.1 X.2.1 X.2.2.1 (X.2.2.2.1 _ (sx_wB_mem hB)) hd (next _ hl)
  next v hv =>
    obtain ⟨rfl, rfl, rfl, rfl⟩ := sx_nx hs
    have hB : decide _ = true := sx_kon hv
    obtain ⟨hB, h1000⟩ := of_decide_eq_true hB
    refine sx_same fun X hS hR hl next => ?_
    have hZ := X.2.2.2.2.2.1.2.2.1 _ hB
    rw [show 1000 + (((pm_met fqP y).1, k, v - 1000) : Nat × Nat × Nat).2.2 = v from Nat.add_sub_of_le h1000] at hZ
    exact va_ldcS X.1 X.2.1 X.2.2.1 hZ hd (next _ hl)
  next => cases hs
theorem sx_i_ldcw {k : Nat} (hd : decode (sx_by y) pc = .ok (.ldc_w k, n)) (hn : n = 3) (hs : pm_stp fqP y (.ldc_w k) n pc L S σ = some (.inl (pc', L', S', σ1))) : sx_Go base ad D cI cZ ro adV y pc L S σ pc' L' S' σ1 := by
  subst hn
  have hs : (match pm_kon fqP (pm_met fqP y).1 k with
    | some (.int v) => pm_nx (pc + 3) L (.int v :: S) σ
    | _ => none) = some (.inl (pc', L', S', σ1)) := hs
  split at hs
  next v hv =>
    obtain ⟨rfl, rfl, rfl, rfl⟩ := sx_nx hs
    have hB : sx_wB _ _ = true := sx_kon hv
    exact sx_same fun X hS hR hl next => lv_ldcw X.1 X.2.1 X.2.2.1 (X.2.2.2.1 _ (sx_wB_mem hB)) hd (next _ hl)
  next => cases hs
theorem sx_i_ldc2 {k : Nat} (hd : decode (sx_by y) pc = .ok (.ldc2_w k, n)) (hn : n = 3) (hs : pm_stp fqP y (.ldc2_w k) n pc L S σ = some (.inl (pc', L', S', σ1))) : sx_Go base ad D cI cZ ro adV y pc L S σ pc' L' S' σ1 := by
  subst hn
  have hs : (match pm_kon fqP (pm_met fqP y).1 k with
    | some (.long v) => pm_nx (pc + 3) L (.long v :: S) σ
    | _ => none) = some (.inl (pc', L', S', σ1)) := hs
  split at hs
  next v hv =>
    obtain ⟨rfl, rfl, rfl, rfl⟩ := sx_nx hs
    have hB : sx_wB _ _ = true := sx_kon hv
    exact sx_same fun X hS hR hl next => lv_ldc2 X.1 X.2.1 X.2.2.1 (X.2.2.2.1 _ (sx_wB_mem hB)) hd (next _ hl)
  next => cases hs
theorem sx_sta {c i k : Nat} (h : fq_sta c i = some k) : sx_gB c i k = true := by
  obtain ⟨l, h1, h2⟩ := sx_lookup2 (show ((fq_sta_T.lookup c).getD []).lookup i = some k from h)
  exact List.all_eq_true.mp (List.all_eq_true.mp sx_g_all _ h1) _ h2
theorem sx_i_gets {k : Nat} (hd : decode (sx_by y) pc = .ok (.getstatic k, n)) (hn : n = 3) (hs : pm_stp fqP y (.getstatic k) n pc L S σ = some (.inl (pc', L', S', σ1))) : sx_Go base ad D cI cZ ro adV y pc L S σ pc' L' S' σ1 := by
  subst hn
  have hs : (match pm_sta fqP (pm_met fqP y).1 k with
    | some a => pm_nx (pc + 3) L (.ref a :: S) σ
    | none => none) = some (.inl (pc', L', S', σ1)) := hs
  split at hs
  next a hv =>
    obtain ⟨rfl, rfl, rfl, rfl⟩ := sx_nx hs
    have hB : sx_gB (pm_met fqP y).1 k a = true := sx_sta hv
    simp only [sx_gB, Bool.and_eq_true, decide_eq_true_eq] at hB
    obtain ⟨⟨h1, h2⟩, h3⟩ := hB
    refine sx_same fun X hS hR hl next => ?_
    have hZ := X.2.2.2.2.2.1.2.2.2.2.1 a h1 h2
    by_cases hg : (sx_gw (pm_met fqP y).1 k).2 = true
    · rw [if_pos hg] at h3
      have hm : Cond.fieldLinkNest (sx_own (pm_met fqP y).1) k "FlotsamQuorum" (sx_sn a) "[I" sx_host ∈ sx_nest := List.mem_filter.mpr ⟨sx_nB_mem h3, rfl⟩
      exact va_getsN X.1 X.2.1 hZ hS X.2.2.1 (va_Nw.use rfl (X.2.2.2.2.2.1.2.1 _ hm)) (fun _ q => q) hd (next _ hl)
    · rw [if_neg hg] at h3
      exact va_gets X.1 X.2.1 hZ hS X.2.2.1 (X.2.2.2.1 _ (sx_wB_mem h3)) (fun _ q => q) hd (next _ hl)
  next => cases hs
end SX
