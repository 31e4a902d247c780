/-! SOUNDNESS of one step -/
def sx_X (base : Nat) (ad : Nat → Nat) (D : va_G) (cI cZ : ClassId) (ro : Nat → List Int32) (adV : Nat → Nat) (y : Nat) (p : Program) (s : State) (m : MethodId) (args : Array Value) (meth : Method) (c : Code) : Prop :=
  p.tables.exec = Jvm.exec ∧ c.code = sx_by y ∧ s.vm.findClass (sx_own (fq_met y).1) = some m.cls ∧ (∀ w ∈ sx_big, w.before args s = true) ∧ ((fq_met y).2.2.2 = true → meth.name = "<init>") ∧ sx_P base ad D cI cZ ro adV s ∧ base ≤ s.heap.size ∧ c.maxLocals = (fq_met y).2.1
section SX
variable {base : Nat} {ad : Nat → Nat} {D : va_G} {cI cZ : ClassId} {ro : Nat → List Int32} {adV : Nat → Nat}
/-- a step of the pure machine is one of the real machine -/
def sx_Go (base : Nat) (ad : Nat → Nat) (D : va_G) (cI cZ : ClassId) (ro : Nat → List Int32) (adV : Nat → Nat) (y pc : Nat) (L : pm_L) (S : List Value) (σ : pm_S) (pc' : Nat) (L' : pm_L) (S' : List Value) (σ1 : pm_S) : Prop :=
  σ.length ≤ σ1.length ∧ sx_sz σ ≤ sx_sz σ1 ∧ ∀ {p : Program} {l : Launch} {e : Env} {R : Room} {s : State} {m : MethodId} {args : Array Value} {below : List Frame} {meth : Method} {c : Code} {Q : State → Prop} {H : Heap} {locs : List Loc} {cells slots : Nat} {ls : Array Slot} {nL : Nat},
    sx_X base ad D cI cZ ro adV y p s m args meth c → σ1.length ≤ 1000 → va_S (sx_A base) s.heap H locs → sx_R base ad D cI cZ ro σ H → sx_L ad L ls nL → cells + (σ1.length - σ.length) ≤ R.cells → slots + (sx_sz σ1 - sx_sz σ) ≤ R.slots →
    (∀ (H' : Heap) (locs' : List Loc) (ls' : Array Slot), va_S (sx_A base) s.heap H' locs' → sx_R base ad D cI cZ ro σ1 H' → sx_L ad L' ls' nL → W p l e R s m args below meth c H' locs' (cells + (σ1.length - σ.length)) (slots + (sx_sz σ1 - sx_sz σ)) Q (F0 m pc' ls' (S'.map (sx_v ad)))) →
    W p l e R s m args below meth c H locs cells slots Q (F0 m pc ls (S.map (sx_v ad)))
/-- a step that leaves the store -/
theorem sx_same {y pc pc' : Nat} {L L' : pm_L} {S S' : List Value} {σ : pm_S}
    (h : ∀ {p : Program} {l : Launch} {e : Env} {R : Room} {s : State} {m : MethodId} {args : Array Value} {below : List Frame} {meth : Method} {c : Code} {Q : State → Prop} {H : Heap} {locs : List Loc} {cells slots : Nat} {ls : Array Slot} {nL : Nat}, sx_X base ad D cI cZ ro adV y p s m args meth c → va_S (sx_A base) s.heap H locs → sx_R base ad D cI cZ ro σ H → sx_L ad L ls nL →
      (∀ ls' : Array Slot, sx_L ad L' ls' nL → W p l e R s m args below meth c H locs cells slots Q (F0 m pc' ls' (S'.map (sx_v ad)))) → W p l e R s m args below meth c H locs cells slots Q (F0 m pc ls (S.map (sx_v ad)))) :
    sx_Go base ad D cI cZ ro adV y pc L S σ pc' L' S' σ := by
  refine ⟨Nat.le_refl _, Nat.le_refl _, ?_⟩
  intro p l e R s m args below meth c Q H locs cells slots ls nL hX _ hS hR hl _ _ next
  rw [Nat.sub_self, Nat.sub_self, Nat.add_zero, Nat.add_zero] at next
  exact h hX hS hR hl fun ls' hl' => next H locs ls' hS hR hl'
theorem sx_nx {a b : Nat} {L L' : pm_L} {S S' : List Value} {σ σ' : pm_S} (h : pm_nx a L S σ = some (.inl (b, L', S', σ'))) : b = a ∧ L' = L ∧ S' = S ∧ σ' = σ := by
  unfold pm_nx at h
  cases h
  exact ⟨rfl, rfl, rfl, rfl⟩
theorem sx_b2 {a b : Nat} {L L' : pm_L} {S S' : List Value} {σ σ' : pm_S} {f : Int32 → Int32 → Int32} (h : pm_b2 a L S σ f = some (.inl (b, L', S', σ'))) : ∃ x z T, S = .int z :: .int x :: T ∧ b = a ∧ L' = L ∧ S' = .int (f x z) :: T ∧ σ' = σ := by
  unfold pm_b2 at h
  split at h
  · obtain ⟨h1, h2, h3, h4⟩ := sx_nx h
    exact ⟨_, _, _, rfl, h1, h2, h3, h4⟩
  · cases h
theorem sx_l2 {a b : Nat} {L L' : pm_L} {S S' : List Value} {σ σ' : pm_S} {f : Int64 → Int64 → Int64} (h : pm_l2 a L S σ f = some (.inl (b, L', S', σ'))) : ∃ x z T, S = .long z :: .long x :: T ∧ b = a ∧ L' = L ∧ S' = .long (f x z) :: T ∧ σ' = σ := by
  unfold pm_l2 at h
  split at h
  · obtain ⟨h1, h2, h3, h4⟩ := sx_nx h
    exact ⟨_, _, _, rfl, h1, h2, h3, h4⟩
  · cases h
theorem sx_ldI {a b k : Nat} {L L' : pm_L} {S S' : List Value} {σ σ' : pm_S} (h : pm_ldI a L S σ k = some (.inl (b, L', S', σ'))) : ∃ x, pm_lget L k = some (.int x) ∧ b = a ∧ L' = L ∧ S' = .int x :: S ∧ σ' = σ := by
  unfold pm_ldI at h
  split at h
  next x hx => obtain ⟨h1, h2, h3, h4⟩ := sx_nx h; exact ⟨x, hx, h1, h2, h3, h4⟩
  next => cases h
theorem sx_ldA {a b k : Nat} {L L' : pm_L} {S S' : List Value} {σ σ' : pm_S} (h : pm_ldA a L S σ k = some (.inl (b, L', S', σ'))) : ∃ x, pm_lget L k = some (.ref x) ∧ b = a ∧ L' = L ∧ S' = .ref x :: S ∧ σ' = σ := by
  unfold pm_ldA at h
  split at h
  next x hx => obtain ⟨h1, h2, h3, h4⟩ := sx_nx h; exact ⟨x, hx, h1, h2, h3, h4⟩
  next => cases h
theorem sx_ldL {a b k : Nat} {L L' : pm_L} {S S' : List Value} {σ σ' : pm_S} (h : pm_ldL a L S σ k = some (.inl (b, L', S', σ'))) : ∃ x, pm_lget L k = some (.long x) ∧ b = a ∧ L' = L ∧ S' = .long x :: S ∧ σ' = σ := by
  unfold pm_ldL at h
  split at h
  next x hx => obtain ⟨h1, h2, h3, h4⟩ := sx_nx h; exact ⟨x, hx, h1, h2, h3, h4⟩
  next => cases h
theorem sx_stI {a b k : Nat} {L L' : pm_L} {S S' : List Value} {σ σ' : pm_S} (h : pm_stI a L S σ k = some (.inl (b, L', S', σ'))) : ∃ x, S = .int x :: S' ∧ k < L.length ∧ b = a ∧ L' = pm_lset L k (.int x) ∧ σ' = σ := by
  unfold pm_stI at h
  split at h
  · split at h
    next hk => obtain ⟨h1, h2, h3, h4⟩ := sx_nx h; exact ⟨_, by rw [h3], hk, h1, h2, h4⟩
    next => cases h
  · cases h
theorem sx_stA {a b k : Nat} {L L' : pm_L} {S S' : List Value} {σ σ' : pm_S} (h : pm_stA a L S σ k = some (.inl (b, L', S', σ'))) : ∃ x, S = .ref x :: S' ∧ k < L.length ∧ b = a ∧ L' = pm_lset L k (.ref x) ∧ σ' = σ := by
  unfold pm_stA at h
  split at h
  · split at h
    next hk => obtain ⟨h1, h2, h3, h4⟩ := sx_nx h; exact ⟨_, by rw [h3], hk, h1, h2, h4⟩
    next => cases h
  · cases h
theorem sx_stL {a b k : Nat} {L L' : pm_L} {S S' : List Value} {σ σ' : pm_S} (h : pm_stL a L S σ k = some (.inl (b, L', S', σ'))) : ∃ x, S = .long x :: S' ∧ k + 1 < L.length ∧ b = a ∧ L' = pm_lset2 L k (.long x) ∧ σ' = σ := by
  unfold pm_stL at h
  split at h
  · split at h
    next hk => obtain ⟨h1, h2, h3, h4⟩ := sx_nx h; exact ⟨_, by rw [h3], hk, h1, h2, h4⟩
    next => cases h
  · cases h
theorem sx_len1 {n k : Nat} (h : (n == k) = true) : n = k := by simpa using h
variable {y pc n pc' : Nat} {L L' : pm_L} {S S' : List Value} {σ σ1 : pm_S}
theorem sx_i_iconst {v : Int} (hd : decode (sx_by y) pc = .ok (.iconst v, n)) (hn : n = 1) (hs : pm_stp fqP y (.iconst v) n pc L S σ = some (.inl (pc', L', S', σ1))) : sx_Go base ad D cI cZ ro adV y pc L S σ pc' L' S' σ1 := by
  subst hn
  obtain ⟨rfl, rfl, rfl, rfl⟩ := sx_nx hs
  exact sx_same fun X hS hR hl next => lv_iconst X.1 X.2.1 hd rfl (next _ hl)
theorem sx_i_bipush {v : Int} (hd : decode (sx_by y) pc = .ok (.bipush v, n)) (hn : n = 2) (hs : pm_stp fqP y (.bipush v) n pc L S σ = some (.inl (pc', L', S', σ1))) : sx_Go base ad D cI cZ ro adV y pc L S σ pc' L' S' σ1 := by
  subst hn
  obtain ⟨rfl, rfl, rfl, rfl⟩ := sx_nx hs
  exact sx_same fun X hS hR hl next => lv_bipush X.1 X.2.1 hd rfl (next _ hl)
theorem sx_i_sipush {v : Int} (hd : decode (sx_by y) pc = .ok (.sipush v, n)) (hn : n = 3) (hs : pm_stp fqP y (.sipush v) n pc L S σ = some (.inl (pc', L', S', σ1))) : sx_Go base ad D cI cZ ro adV y pc L S σ pc' L' S' σ1 := by
  subst hn
  obtain ⟨rfl, rfl, rfl, rfl⟩ := sx_nx hs
  exact sx_same fun X hS hR hl next => lv_sipush X.1 X.2.1 hd rfl (next _ hl)
theorem sx_i_lconst {v : Fin 2} (hd : decode (sx_by y) pc = .ok (.lconst v, n)) (hn : n = 1) (hs : pm_stp fqP y (.lconst v) n pc L S σ = some (.inl (pc', L', S', σ1))) : sx_Go base ad D cI cZ ro adV y pc L S σ pc' L' S' σ1 := by
  subst hn
  obtain ⟨rfl, rfl, rfl, rfl⟩ := sx_nx hs
  exact sx_same fun X hS hR hl next => lv_lconst X.1 X.2.1 hd rfl (next _ hl)
theorem sx_i_iload {k : Nat} (hd : decode (sx_by y) pc = .ok (.iload k, n)) (hn : n = 2) (hs : pm_stp fqP y (.iload k) n pc L S σ = some (.inl (pc', L', S', σ1))) : sx_Go base ad D cI cZ ro adV y pc L S σ pc' L' S' σ1 := by
  subst hn
  obtain ⟨x, hx, rfl, rfl, rfl, rfl⟩ := sx_ldI hs
  exact sx_same fun X hS hR hl next => lv_iload X.1 X.2.1 hd (sx_L_get hl hx) (next _ hl)
theorem sx_i_iload_n {k : Fin 4} (hd : decode (sx_by y) pc = .ok (.iload_n k, n)) (hn : n = 1) (hs : pm_stp fqP y (.iload_n k) n pc L S σ = some (.inl (pc', L', S', σ1))) : sx_Go base ad D cI cZ ro adV y pc L S σ pc' L' S' σ1 := by
  subst hn
  obtain ⟨x, hx, rfl, rfl, rfl, rfl⟩ := sx_ldI hs
  exact sx_same fun X hS hR hl next => lv_iload_n X.1 X.2.1 hd rfl (sx_L_get hl hx) (next _ hl)
theorem sx_i_lload {k : Nat} (hd : decode (sx_by y) pc = .ok (.lload k, n)) (hn : n = 2) (hs : pm_stp fqP y (.lload k) n pc L S σ = some (.inl (pc', L', S', σ1))) : sx_Go base ad D cI cZ ro adV y pc L S σ pc' L' S' σ1 := by
  subst hn
  obtain ⟨x, hx, rfl, rfl, rfl, rfl⟩ := sx_ldL hs
  exact sx_same fun X hS hR hl next => lv_lload X.1 X.2.1 hd (sx_L_get hl hx) (next _ hl)
theorem sx_i_lload_n {k : Fin 4} (hd : decode (sx_by y) pc = .ok (.lload_n k, n)) (hn : n = 1) (hs : pm_stp fqP y (.lload_n k) n pc L S σ = some (.inl (pc', L', S', σ1))) : sx_Go base ad D cI cZ ro adV y pc L S σ pc' L' S' σ1 := by
  subst hn
  obtain ⟨x, hx, rfl, rfl, rfl, rfl⟩ := sx_ldL hs
  exact sx_same fun X hS hR hl next => lv_lload_n X.1 X.2.1 hd rfl (sx_L_get hl hx) (next _ hl)
theorem sx_i_aload {k : Nat} (hd : decode (sx_by y) pc = .ok (.aload k, n)) (hn : n = 2) (hs : pm_stp fqP y (.aload k) n pc L S σ = some (.inl (pc', L', S', σ1))) : sx_Go base ad D cI cZ ro adV y pc L S σ pc' L' S' σ1 := by
  subst hn
  obtain ⟨x, hx, rfl, rfl, rfl, rfl⟩ := sx_ldA hs
  exact sx_same fun X hS hR hl next => lv_aload X.1 X.2.1 hd (sx_L_get hl hx) (next _ hl)
theorem sx_i_aload_n {k : Fin 4} (hd : decode (sx_by y) pc = .ok (.aload_n k, n)) (hn : n = 1) (hs : pm_stp fqP y (.aload_n k) n pc L S σ = some (.inl (pc', L', S', σ1))) : sx_Go base ad D cI cZ ro adV y pc L S σ pc' L' S' σ1 := by
  subst hn
  obtain ⟨x, hx, rfl, rfl, rfl, rfl⟩ := sx_ldA hs
  exact sx_same fun X hS hR hl next => lv_aload_n X.1 X.2.1 hd rfl (sx_L_get hl hx) (next _ hl)
theorem sx_i_istore {k : Nat} (hd : decode (sx_by y) pc = .ok (.istore k, n)) (hn : n = 2) (hs : pm_stp fqP y (.istore k) n pc L S σ = some (.inl (pc', L', S', σ1))) : sx_Go base ad D cI cZ ro adV y pc L S σ pc' L' S' σ1 := by
  subst hn
  obtain ⟨x, rfl, hk, rfl, rfl, rfl⟩ := sx_stI hs
  exact sx_same fun X hS hR hl next => lv_istore X.1 X.2.1 hd (sx_L_has hl) (hl.1 ▸ hk) rfl (fun ls' h' => next ls' (sx_L_set hl h'))
theorem sx_i_istore_n {k : Fin 4} (hd : decode (sx_by y) pc = .ok (.istore_n k, n)) (hn : n = 1) (hs : pm_stp fqP y (.istore_n k) n pc L S σ = some (.inl (pc', L', S', σ1))) : sx_Go base ad D cI cZ ro adV y pc L S σ pc' L' S' σ1 := by
  subst hn
  obtain ⟨x, rfl, hk, rfl, rfl, rfl⟩ := sx_stI hs
  exact sx_same fun X hS hR hl next => lv_istore_n X.1 X.2.1 hd rfl (sx_L_has hl) (hl.1 ▸ hk) rfl (fun ls' h' => next ls' (sx_L_set hl h'))
theorem sx_i_astore {k : Nat} (hd : decode (sx_by y) pc = .ok (.astore k, n)) (hn : n = 2) (hs : pm_stp fqP y (.astore k) n pc L S σ = some (.inl (pc', L', S', σ1))) : sx_Go base ad D cI cZ ro adV y pc L S σ pc' L' S' σ1 := by
  subst hn
  obtain ⟨x, rfl, hk, rfl, rfl, rfl⟩ := sx_stA hs
  exact sx_same fun X hS hR hl next => lv_astore X.1 X.2.1 hd (sx_L_has hl) (hl.1 ▸ hk) rfl (fun ls' h' => next ls' (sx_L_set hl h'))
theorem sx_i_astore_n {k : Fin 4} (hd : decode (sx_by y) pc = .ok (.astore_n k, n)) (hn : n = 1) (hs : pm_stp fqP y (.astore_n k) n pc L S σ = some (.inl (pc', L', S', σ1))) : sx_Go base ad D cI cZ ro adV y pc L S σ pc' L' S' σ1 := by
  subst hn
  obtain ⟨x, rfl, hk, rfl, rfl, rfl⟩ := sx_stA hs
  exact sx_same fun X hS hR hl next => lv_astore_n X.1 X.2.1 hd rfl (sx_L_has hl) (hl.1 ▸ hk) rfl (fun ls' h' => next ls' (sx_L_set hl h'))
theorem sx_i_lstore {k : Nat} (hd : decode (sx_by y) pc = .ok (.lstore k, n)) (hn : n = 2) (hs : pm_stp fqP y (.lstore k) n pc L S σ = some (.inl (pc', L', S', σ1))) : sx_Go base ad D cI cZ ro adV y pc L S σ pc' L' S' σ1 := by
  subst hn
  obtain ⟨x, rfl, hk, rfl, rfl, rfl⟩ := sx_stL hs
  exact sx_same fun X hS hR hl next => lv_lstore X.1 X.2.1 hd (sx_L_has hl) (hl.1 ▸ hk) rfl (fun ls' h' => next ls' (sx_L_set2 hl hk h'))
theorem sx_i_lstore_n {k : Fin 4} (hd : decode (sx_by y) pc = .ok (.lstore_n k, n)) (hn : n = 1) (hs : pm_stp fqP y (.lstore_n k) n pc L S σ = some (.inl (pc', L', S', σ1))) : sx_Go base ad D cI cZ ro adV y pc L S σ pc' L' S' σ1 := by
  subst hn
  obtain ⟨x, rfl, hk, rfl, rfl, rfl⟩ := sx_stL hs
  exact sx_same fun X hS hR hl next => lv_lstore_n X.1 X.2.1 hd rfl (sx_L_has hl) (hl.1 ▸ hk) rfl (fun ls' h' => next ls' (sx_L_set2 hl hk h'))
theorem sx_i_iinc {k : Nat} {v : Int} (hd : decode (sx_by y) pc = .ok (.iinc k v, n)) (hn : n = 3) (hs : pm_stp fqP y (.iinc k v) n pc L S σ = some (.inl (pc', L', S', σ1))) : sx_Go base ad D cI cZ ro adV y pc L S σ pc' L' S' σ1 := by
  subst hn
  have hs : (match pm_lget L k with | some (.int x) => if k < L.length then pm_nx (pc + 3) (pm_lset L k (.int (x + Int32.ofInt v))) S σ else none | _ => none) = some (.inl (pc', L', S', σ1)) := hs
  split at hs
  next x hx =>
    split at hs
    next hk =>
      obtain ⟨rfl, rfl, rfl, rfl⟩ := sx_nx hs
      refine sx_same fun X hS hR hl next => ?_
      have hm : (k, sx_v ad (.int x)) ∈ sx_lv ad L := sx_lv_mem (by unfold pm_lget at hx; cases hq : L[k]? with
        | none => rw [hq] at hx; simp at hx
        | some o => rw [hq] at hx; simp at hx; rw [hx])
      obtain ⟨j, hj⟩ := List.getElem?_of_mem hm
      exact lv_iinc (v := x + Int32.ofInt v) X.1 X.2.1 hd (sx_L_has hl) (k := j) hj rfl (hl.1 ▸ hk) rfl (fun ls' h' => next ls' (sx_L_set (v := .int (x + Int32.ofInt v)) hl h'))
    next => cases hs
  next => cases hs
theorem sx_i_iadd (hd : decode (sx_by y) pc = .ok (.iadd, n)) (hn : n = 1) (hs : pm_stp fqP y .iadd n pc L S σ = some (.inl (pc', L', S', σ1))) : sx_Go base ad D cI cZ ro adV y pc L S σ pc' L' S' σ1 := by
  subst hn
  obtain ⟨x, z, T, rfl, rfl, rfl, rfl, rfl⟩ := sx_b2 hs
  exact sx_same fun X hS hR hl next => lv_iadd X.1 X.2.1 hd (next _ hl)
theorem sx_i_isub (hd : decode (sx_by y) pc = .ok (.isub, n)) (hn : n = 1) (hs : pm_stp fqP y .isub n pc L S σ = some (.inl (pc', L', S', σ1))) : sx_Go base ad D cI cZ ro adV y pc L S σ pc' L' S' σ1 := by
  subst hn
  obtain ⟨x, z, T, rfl, rfl, rfl, rfl, rfl⟩ := sx_b2 hs
  exact sx_same fun X hS hR hl next => lv_isub X.1 X.2.1 hd (next _ hl)
theorem sx_i_imul (hd : decode (sx_by y) pc = .ok (.imul, n)) (hn : n = 1) (hs : pm_stp fqP y .imul n pc L S σ = some (.inl (pc', L', S', σ1))) : sx_Go base ad D cI cZ ro adV y pc L S σ pc' L' S' σ1 := by
  subst hn
  obtain ⟨x, z, T, rfl, rfl, rfl, rfl, rfl⟩ := sx_b2 hs
  exact sx_same fun X hS hR hl next => lv_imul X.1 X.2.1 hd (next _ hl)
theorem sx_i_iand (hd : decode (sx_by y) pc = .ok (.iand, n)) (hn : n = 1) (hs : pm_stp fqP y .iand n pc L S σ = some (.inl (pc', L', S', σ1))) : sx_Go base ad D cI cZ ro adV y pc L S σ pc' L' S' σ1 := by
  subst hn
  obtain ⟨x, z, T, rfl, rfl, rfl, rfl, rfl⟩ := sx_b2 hs
  exact sx_same fun X hS hR hl next => lv_iand X.1 X.2.1 hd (next _ hl)
theorem sx_i_ior (hd : decode (sx_by y) pc = .ok (.ior, n)) (hn : n = 1) (hs : pm_stp fqP y .ior n pc L S σ = some (.inl (pc', L', S', σ1))) : sx_Go base ad D cI cZ ro adV y pc L S σ pc' L' S' σ1 := by
  subst hn
  obtain ⟨x, z, T, rfl, rfl, rfl, rfl, rfl⟩ := sx_b2 hs
  exact sx_same fun X hS hR hl next => lv_ior X.1 X.2.1 hd (next _ hl)
theorem sx_i_ixor (hd : decode (sx_by y) pc = .ok (.ixor, n)) (hn : n = 1) (hs : pm_stp fqP y .ixor n pc L S σ = some (.inl (pc', L', S', σ1))) : sx_Go base ad D cI cZ ro adV y pc L S σ pc' L' S' σ1 := by
  subst hn
  obtain ⟨x, z, T, rfl, rfl, rfl, rfl, rfl⟩ := sx_b2 hs
  exact sx_same fun X hS hR hl next => lv_ixor X.1 X.2.1 hd (next _ hl)
theorem sx_i_ishl (hd : decode (sx_by y) pc = .ok (.ishl, n)) (hn : n = 1) (hs : pm_stp fqP y .ishl n pc L S σ = some (.inl (pc', L', S', σ1))) : sx_Go base ad D cI cZ ro adV y pc L S σ pc' L' S' σ1 := by
  subst hn
  obtain ⟨x, z, T, rfl, rfl, rfl, rfl, rfl⟩ := sx_b2 hs
  exact sx_same fun X hS hR hl next => lv_ishl X.1 X.2.1 hd (next _ hl)
theorem sx_i_ishr (hd : decode (sx_by y) pc = .ok (.ishr, n)) (hn : n = 1) (hs : pm_stp fqP y .ishr n pc L S σ = some (.inl (pc', L', S', σ1))) : sx_Go base ad D cI cZ ro adV y pc L S σ pc' L' S' σ1 := by
  subst hn
  obtain ⟨x, z, T, rfl, rfl, rfl, rfl, rfl⟩ := sx_b2 hs
  exact sx_same fun X hS hR hl next => lv_ishr X.1 X.2.1 hd (next _ hl)
theorem sx_i_iushr (hd : decode (sx_by y) pc = .ok (.iushr, n)) (hn : n = 1) (hs : pm_stp fqP y .iushr n pc L S σ = some (.inl (pc', L', S', σ1))) : sx_Go base ad D cI cZ ro adV y pc L S σ pc' L' S' σ1 := by
  subst hn
  obtain ⟨x, z, T, rfl, rfl, rfl, rfl, rfl⟩ := sx_b2 hs
  exact sx_same fun X hS hR hl next => lv_iushr X.1 X.2.1 hd rfl (next _ hl)
theorem sx_i_ladd (hd : decode (sx_by y) pc = .ok (.ladd, n)) (hn : n = 1) (hs : pm_stp fqP y .ladd n pc L S σ = some (.inl (pc', L', S', σ1))) : sx_Go base ad D cI cZ ro adV y pc L S σ pc' L' S' σ1 := by
  subst hn
  obtain ⟨x, z, T, rfl, rfl, rfl, rfl, rfl⟩ := sx_l2 hs
  exact sx_same fun X hS hR hl next => lv_ladd X.1 X.2.1 hd (next _ hl)
theorem sx_i_lmul (hd : decode (sx_by y) pc = .ok (.lmul, n)) (hn : n = 1) (hs : pm_stp fqP y .lmul n pc L S σ = some (.inl (pc', L', S', σ1))) : sx_Go base ad D cI cZ ro adV y pc L S σ pc' L' S' σ1 := by
  subst hn
  obtain ⟨x, z, T, rfl, rfl, rfl, rfl, rfl⟩ := sx_l2 hs
  exact sx_same fun X hS hR hl next => lv_lmul X.1 X.2.1 hd (next _ hl)
end SX
