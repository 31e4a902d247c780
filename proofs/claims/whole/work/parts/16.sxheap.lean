/-! SOUNDNESS of one step: cells -/
def sx_ad (base : Nat) (ad : Nat → Nat) : Prop := ∀ k : Nat, 4 ≤ k → k < 1000 → ad k = base + (k - 4)
section SX
variable {base : Nat} {ad : Nat → Nat} {D : va_G} {cI cZ : ClassId} {ro : Nat → List Int32} {adV : Nat → Nat}
variable {y pc n pc' : Nat} {L L' : pm_L} {S S' : List Value} {σ σ1 : pm_S}
theorem sx_P1 {cl : List vw_C} {q : Nat × va_E} {H : Heap} (h : va_at D cl q H) : va_P D cl [q] H := by
  intro k x hx
  have hk : k = 0 := by have := (List.getElem?_eq_some_iff.mp hx).1; simp at this; omega
  subst hk
  cases hx
  exact h
theorem sx_at_kept {k : Nat} {c : pm_C} {H H1 : Heap} (h : sx_at ad D cI cZ k c H) (hq : H1[ad k]? = H[ad k]?) : sx_at ad D cI cZ k c H1 := by
  rcases c with ⟨ci, fs⟩ | ⟨t, xs⟩
  · exact va_at.kept (D := D) (cl := sx_cl) (q := (ad k, .inr (ci, fs.map (sx_v ad)))) h hq
  · match t, h with
    | 0, h => exact va_at.kept (D := D) (cl := sx_cl) (q := (ad k, .inl (cI, xs.length, .inl fun j => xs.getD j 0))) h hq
    | 1, h => exact va_at.kept (D := D) (cl := sx_cl) (q := (ad k, .inl (cZ, xs.length, .inl fun j => xs.getD j 0))) h hq
theorem sx_at_lt {k : Nat} {c : pm_C} {H : Heap} (h : sx_at ad D cI cZ k c H) : ad k < H.size := by
  rcases c with ⟨ci, fs⟩ | ⟨t, xs⟩
  · exact va_at.lt (D := D) (cl := sx_cl) (q := (ad k, .inr (ci, fs.map (sx_v ad)))) h
  · match t, h with
    | 0, h => exact va_at.lt (D := D) (cl := sx_cl) (q := (ad k, .inl (cI, xs.length, .inl fun j => xs.getD j 0))) h
    | 1, h => exact va_at.lt (D := D) (cl := sx_cl) (q := (ad k, .inl (cZ, xs.length, .inl fun j => xs.getD j 0))) h
theorem sx_R_set {k : Nat} {c : pm_C} {H H1 : Heap} (had : sx_ad base ad) (hk1000 : σ.length ≤ 1000) (h : sx_R base ad D cI cZ ro σ H) (hk : 4 ≤ k) (hl : k < σ.length) (hz : H1.size = H.size) (oq : ∀ q : Nat, q ≠ ad k → H1[q]? = H[q]?) (hc : sx_at ad D cI cZ k c H1) : sx_R base ad D cI cZ ro (σ.set k c) H1 := by
  obtain ⟨h1, h2, h3, h4⟩ := h
  refine ⟨by rw [List.length_set]; exact h1, by rw [List.length_set, hz]; exact h2, fun j hj => ?_, fun j d hj hd => ?_⟩
  · rw [List.getElem?_set_ne (by omega)]; exact h3 j hj
  · by_cases e : j = k
    · subst e
      rw [List.getElem?_set_self hl] at hd
      cases hd
      exact hc
    · rw [List.getElem?_set_ne (fun q => e q.symm)] at hd
      have hjl := (List.getElem?_eq_some_iff.mp hd).1
      refine sx_at_kept (h4 j d hj hd) (oq _ ?_)
      rw [had j hj (by omega), had k hk (by omega)]
      omega
theorem sx_R_push {c : pm_C} {H H1 : Heap} (had : sx_ad base ad) (hk1000 : σ.length < 1000) (h : sx_R base ad D cI cZ ro σ H) (hz : H1.size = H.size + 1) (oq : ∀ q : Nat, q < H.size → H1[q]? = H[q]?) (hc : sx_at ad D cI cZ σ.length c H1) : sx_R base ad D cI cZ ro (σ ++ [c]) H1 := by
  obtain ⟨h1, h2, h3, h4⟩ := h
  refine ⟨by simp; omega, by rw [hz, h2]; simp; omega, fun j hj => ?_, fun j d hj hd => ?_⟩
  · rw [List.getElem?_append_left (by omega)]; exact h3 j hj
  · by_cases e : j < σ.length
    · rw [List.getElem?_append_left e] at hd
      have h5 := h4 j d hj hd
      exact sx_at_kept h5 (oq _ (sx_at_lt h5))
    · have hjl := (List.getElem?_eq_some_iff.mp hd).1
      simp at hjl
      have : j = σ.length := by omega
      subst this
      simp at hd
      subst hd
      exact hc
theorem sx_ad_new {H : Heap} (had : sx_ad base ad) (hk : σ.length < 1000) (h : sx_R base ad D cI cZ ro σ H) : H.size = ad σ.length := by
  rw [had _ h.1 hk]
  exact h.2.1
theorem sx_Ak {k : Nat} {c : pm_C} {H : Heap} (had : sx_ad base ad) (hk1000 : σ.length ≤ 1000) (hk : 4 ≤ k) (hl : k < σ.length) : sx_A base (ad k) := by
  unfold sx_A
  rw [had k hk (by omega)]
  omega
theorem sx_low {k t : Nat} {xs : List Int32} {H : Heap} (h : sx_R base ad D cI cZ ro σ H) (hc : σ[k]? = some (.inr (t, xs))) : (k < 4 ∧ t = 2 ∧ xs = ro k) ∨ (4 ≤ k ∧ ((t = 0 ∧ va_at D sx_cl (ad k, .inl (cI, xs.length, .inl fun j => xs.getD j 0)) H) ∨ (t = 1 ∧ va_at D sx_cl (ad k, .inl (cZ, xs.length, .inl fun j => xs.getD j 0)) H))) := by
  by_cases hk : k < 4
  · have := h.2.2.1 k hk
    rw [this] at hc
    cases hc
    exact Or.inl ⟨hk, rfl, rfl⟩
  · have h5 := h.2.2.2 k _ (by omega) hc
    match t, h5 with
    | 0, h5 => exact Or.inr ⟨by omega, Or.inl ⟨rfl, h5⟩⟩
    | 1, h5 => exact Or.inr ⟨by omega, Or.inr ⟨rfl, h5⟩⟩
theorem sx_hi {k ci : Nat} {fs : List Value} {H : Heap} (h : sx_R base ad D cI cZ ro σ H) (hc : σ[k]? = some (.inl (ci, fs))) : 4 ≤ k ∧ va_at D sx_cl (ad k, .inr (ci, fs.map (sx_v ad))) H := by
  by_cases hk : k < 4
  · have := h.2.2.1 k hk
    rw [this] at hc
    cases hc
  · exact ⟨by omega, h.2.2.2 k _ (by omega) hc⟩
theorem sx_getD_set (xs : List Int32) (i : Nat) (x : Int32) (hi : i < xs.length) (j : Nat) : (xs.set i x).getD j 0 = if j = i then x else xs.getD j 0 := by
  rw [List.getD_eq_getElem?_getD, List.getD_eq_getElem?_getD]
  by_cases h : j = i
  · subst h; rw [List.getElem?_set_self hi, if_pos rfl]; rfl
  · rw [List.getElem?_set_ne (fun q => h q.symm), if_neg h]
theorem sx_arr_set (cA : ClassId) (xs : List Int32) (i : Nat) (x : Int32) (hi : i < xs.length) : (vp_cell cA (xs.length, .inl fun j => xs.getD j 0)).setSlot i (.int x) = vp_cell cA ((xs.set i x).length, .inl fun j => (xs.set i x).getD j 0) := by
  rw [vp_cell_i, vp_cell_i, arrV_store, List.length_set]
  congr 1
  funext j
  rw [sx_getD_set xs i x hi j]
  unfold updV
  by_cases h : j = i
  · rw [if_pos h, if_pos h]
  · rw [if_neg h, if_neg h]
theorem sx_i_iaload (hd : decode (sx_by y) pc = .ok (.iaload, n)) (hn : n = 1) (hs : pm_stp fqP y .iaload n pc L S σ = some (.inl (pc', L', S', σ1))) : sx_Go base ad D cI cZ ro adV y pc L S σ pc' L' S' σ1 := by
  subst hn
  have hs : (match S with
    | .int i :: .ref k :: S => (match pm_hg σ k with
      | some (.inr (t, xs)) => if t ≠ 1 ∧ pm_inR i xs.length then pm_nx (pc + 1) L (.int (pm_rd xs i) :: S) σ else none
      | _ => none)
    | _ => none) = some (.inl (pc', L', S', σ1)) := hs
  split at hs
  next i k T _ =>
    split at hs
    next t xs hk =>
      split at hs
      next h0 =>
        obtain ⟨rfl, rfl, rfl, rfl⟩ := sx_nx hs
        refine sx_same fun X hS hR hl next => ?_
        rcases sx_low hR hk with ⟨h4, rfl, rfl⟩ | ⟨h4, ⟨rfl, h5⟩ | ⟨rfl, h5⟩⟩
        · obtain ⟨cell, e1, e2, e3, e4, e5, e6, e7⟩ := va_T.kept (X.2.2.2.2.2.1.2.2.2.1 k h4) hS.2.1
          have hi := vp_in_iff.mpr h0.2
          have hlt : i.toNatClampNeg < (ro k).length := Nat.not_le.mp fun q => hi (Or.inr q)
          exact W.iald (v := .int (pm_rd (ro k) i)) X.1 X.2.1 e1 e2 e3 (fun q => q.elim (fun q => hi (Or.inl q)) (fun q => hi (Or.inr (by omega)))) (e6 _ hlt) rfl rfl hd (next _ hl)
        · exact va_iald X.1 X.2.1 X.2.2.2.2.2.1.1 (sx_P1 h5) 0 0 rfl rfl (vp_in_iff.mpr h0.2) hd (next _ hl)
        · exact absurd rfl h0.1
      next => cases hs
    next => cases hs
  next => cases hs
theorem sx_i_baload (hd : decode (sx_by y) pc = .ok (.baload, n)) (hn : n = 1) (hs : pm_stp fqP y .baload n pc L S σ = some (.inl (pc', L', S', σ1))) : sx_Go base ad D cI cZ ro adV y pc L S σ pc' L' S' σ1 := by
  subst hn
  have hs : (match S with
    | .int i :: .ref k :: S => (match pm_hg σ k with
      | some (.inr (t, xs)) => if t = 1 ∧ pm_inR i xs.length then pm_nx (pc + 1) L (.int (pm_rd xs i) :: S) σ else none
      | _ => none)
    | _ => none) = some (.inl (pc', L', S', σ1)) := hs
  split at hs
  next i k T _ =>
    split at hs
    next t xs hk =>
      split at hs
      next h0 =>
        obtain ⟨rfl, rfl, rfl, rfl⟩ := sx_nx hs
        refine sx_same fun X hS hR hl next => ?_
        obtain ⟨rfl, h1⟩ := h0
        rcases sx_low hR hk with ⟨h4, h6, -⟩ | ⟨h4, ⟨h6, h5⟩ | ⟨-, h5⟩⟩
        · exact absurd h6 (by decide)
        · exact absurd h6 (by decide)
        · exact va_zald X.1 X.2.1 X.2.2.2.2.2.1.1 (sx_P1 h5) 0 1 rfl rfl (vp_in_iff.mpr h1) hd (next _ hl)
      next => cases hs
    next => cases hs
  next => cases hs
theorem sx_i_alen (hd : decode (sx_by y) pc = .ok (.arraylength, n)) (hn : n = 1) (hs : pm_stp fqP y .arraylength n pc L S σ = some (.inl (pc', L', S', σ1))) : sx_Go base ad D cI cZ ro adV y pc L S σ pc' L' S' σ1 := by
  subst hn
  have hs : (match S with
    | .ref k :: S => (match pm_hg σ k with
      | some (.inr (_, xs)) => pm_nx (pc + 1) L (.int (nI xs.length) :: S) σ
      | _ => none)
    | _ => none) = some (.inl (pc', L', S', σ1)) := hs
  split at hs
  next k T _ =>
    split at hs
    next t xs hk =>
      obtain ⟨rfl, rfl, rfl, rfl⟩ := sx_nx hs
      refine sx_same fun X hS hR hl next => ?_
      rcases sx_low hR hk with ⟨h4, rfl, rfl⟩ | ⟨h4, ⟨rfl, h5⟩ | ⟨rfl, h5⟩⟩
      · obtain ⟨cell, e1, e2, e3, e4, e5, e6, e7⟩ := va_T.kept (X.2.2.2.2.2.1.2.2.2.1 k h4) hS.2.1
        exact W.alen X.1 X.2.1 e1 e2 e5 rfl rfl hd (next _ hl)
      · exact va_alen X.1 X.2.1 X.2.2.2.2.2.1.1 (sx_P1 h5) 0 0 rfl rfl rfl hd (next _ hl)
      · exact va_alen X.1 X.2.1 X.2.2.2.2.2.1.1 (sx_P1 h5) 0 1 rfl rfl rfl hd (next _ hl)
    next => cases hs
  next => cases hs
theorem sx_i_iastore (had : sx_ad base ad) (hd : decode (sx_by y) pc = .ok (.iastore, n)) (hn : n = 1) (hs : pm_stp fqP y .iastore n pc L S σ = some (.inl (pc', L', S', σ1))) : sx_Go base ad D cI cZ ro adV y pc L S σ pc' L' S' σ1 := by
  subst hn
  have hs : (match S with
    | .int x :: .int i :: .ref k :: S => (match pm_hg σ k with
      | some (.inr (t, xs)) => if t = 0 ∧ pm_inR i xs.length then pm_nx (pc + 1) L S (pm_hs σ k (.inr (0, pm_wr xs i x))) else none
      | _ => none)
    | _ => none) = some (.inl (pc', L', S', σ1)) := hs
  split at hs
  next x i k T _ =>
    split at hs
    next t xs hk =>
      split at hs
      next h0 =>
        obtain ⟨rfl, rfl, rfl, rfl⟩ := sx_nx hs
        obtain ⟨rfl, h1⟩ := h0
        have hi := vp_in_iff.mpr h1
        have hlt : i.toNatClampNeg < xs.length := Nat.not_le.mp fun q => hi (Or.inr q)
        have e1 : (pm_hs σ k (.inr (0, pm_wr xs i x))).length = σ.length := List.length_set
        have e2 : sx_sz (pm_hs σ k (.inr (0, pm_wr xs i x))) = sx_sz σ := sx_sz_set σ k _ _ hk (by simp [sx_szc, pm_wr])
        refine ⟨by rw [e1]; exact Nat.le_refl _, by rw [e2]; exact Nat.le_refl _, ?_⟩
        intro p l e R s m args below meth c Q H locs cells slots ls nL X h1000 hS hR hl hc hsl next
        rw [e1, e2, Nat.sub_self, Nat.sub_self, Nat.add_zero, Nat.add_zero] at next
        rw [e1] at h1000
        rcases sx_low hR hk with ⟨h4, h6, -⟩ | ⟨h4, ⟨-, h5⟩ | ⟨h6, -⟩⟩
        · exact absurd h6 (by decide)
        · have hA := sx_Ak (σ := σ) (c := .inr (0, [])) (H := H) had h1000 h4 (List.getElem?_eq_some_iff.mp hk).1
          refine W.iast X.1 X.2.1 h5 ((X.2.2.2.2.2.1.1.2 0 _ rfl).1 _ _) (fun q => by cases q) (by show ¬ (i < 0 ∨ (arrV _ _ _).slots.size ≤ _); rw [arrV_size]; exact hi) rfl rfl hd fun H1 e z oq => ?_
          refine next H1 _ ls (hS.put z oq hA) (sx_R_set had h1000 hR h4 (List.getElem?_eq_some_iff.mp hk).1 z oq ?_) hl
          show H1[ad k]? = some (vp_cell cI ((pm_wr xs i x).length, .inl fun j => (pm_wr xs i x).getD j 0))
          rw [e]
          exact congrArg some (sx_arr_set cI xs _ x hlt)
        · exact absurd h6 (by decide)
      next => cases hs
    next => cases hs
  next => cases hs
theorem sx_i_bastore (had : sx_ad base ad) (hd : decode (sx_by y) pc = .ok (.bastore, n)) (hn : n = 1) (hs : pm_stp fqP y .bastore n pc L S σ = some (.inl (pc', L', S', σ1))) : sx_Go base ad D cI cZ ro adV y pc L S σ pc' L' S' σ1 := by
  subst hn
  have hs : (match S with
    | .int x :: .int i :: .ref k :: S => (match pm_hg σ k with
      | some (.inr (t, xs)) => if t = 1 ∧ pm_inR i xs.length ∧ pm_fit 1 (.int x) = true then pm_nx (pc + 1) L S (pm_hs σ k (.inr (1, pm_wr xs i x))) else none
      | _ => none)
    | _ => none) = some (.inl (pc', L', S', σ1)) := hs
  split at hs
  next x i k T _ =>
    split at hs
    next t xs hk =>
      split at hs
      next h0 =>
        obtain ⟨rfl, rfl, rfl, rfl⟩ := sx_nx hs
        obtain ⟨rfl, h1, h2⟩ := h0
        have hi := vp_in_iff.mpr h1
        have hlt : i.toNatClampNeg < xs.length := Nat.not_le.mp fun q => hi (Or.inr q)
        have e1 : (pm_hs σ k (.inr (1, pm_wr xs i x))).length = σ.length := List.length_set
        have e2 : sx_sz (pm_hs σ k (.inr (1, pm_wr xs i x))) = sx_sz σ := sx_sz_set σ k _ _ hk (by simp [sx_szc, pm_wr])
        have hnar : narrow .boolean (.int x) = .int x := by
          have : (x == 0 || x == 1) = true := h2
          simp only [Bool.or_eq_true, beq_iff_eq] at this
          rcases this with rfl | rfl <;> rfl
        refine ⟨by rw [e1]; exact Nat.le_refl _, by rw [e2]; exact Nat.le_refl _, ?_⟩
        intro p l e R s m args below meth c Q H locs cells slots ls nL X h1000 hS hR hl hc hsl next
        rw [e1, e2, Nat.sub_self, Nat.sub_self, Nat.add_zero, Nat.add_zero] at next
        rw [e1] at h1000
        rcases sx_low hR hk with ⟨h4, h6, -⟩ | ⟨h4, ⟨h6, -⟩ | ⟨-, h5⟩⟩
        · exact absurd h6 (by decide)
        · exact absurd h6 (by decide)
        · have hA := sx_Ak (σ := σ) (c := .inr (0, [])) (H := H) had h1000 h4 (List.getElem?_eq_some_iff.mp hk).1
          refine W.zast X.1 X.2.1 h5 ((X.2.2.2.2.2.1.1.2 1 _ rfl).1 _ _) (fun q => by cases q) (by show ¬ (i < 0 ∨ (arrV _ _ _).slots.size ≤ _); rw [arrV_size]; exact hi) rfl rfl hd fun H1 e z oq => ?_
          rw [hnar] at e
          refine next H1 _ ls (hS.put z oq hA) (sx_R_set had h1000 hR h4 (List.getElem?_eq_some_iff.mp hk).1 z oq ?_) hl
          show H1[ad k]? = some (vp_cell cZ ((pm_wr xs i x).length, .inl fun j => (pm_wr xs i x).getD j 0))
          rw [e]
          exact congrArg some (sx_arr_set cZ xs _ x hlt)
      next => cases hs
    next => cases hs
  next => cases hs
end SX
