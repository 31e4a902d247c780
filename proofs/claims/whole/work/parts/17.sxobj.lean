/-! SOUNDNESS of one step: objects -/
def sx_ty (ci : Nat) : Nat → FieldType := match ci with
  | 0 => tyX0
  | 1 => tyX1
  | 2 => tyX2
  | 3 => tyX3
  | 4 => tyX4
  | 5 => tyX5
  | 6 => tyX6
  | 7 => tyX7
  | 8 => tyX8
  | _ => fun _ => .int
theorem sx_in_all : ∀ ci, ci < 9 → ∀ w ∈ u_ws (sx_clR ci).1 (sx_clR ci).2.1 (sx_clR ci).2.2, w ∈ sx_big := by
  intro ci h
  match ci, h with
  | 0, _ => exact sx_in_0
  | 1, _ => exact sx_in_1
  | 2, _ => exact sx_in_2
  | 3, _ => exact sx_in_3
  | 4, _ => exact sx_in_4
  | 5, _ => exact sx_in_5
  | 6, _ => exact sx_in_6
  | 7, _ => exact sx_in_7
  | 8, _ => exact sx_in_8
  | k + 9, h => exact absurd h (by omega)
theorem sx_ty_all : ∀ ci, ci < 9 → ∀ k, k < (sx_clR ci).2.2 → parseFieldDescriptor ((sx_clR ci).2.1 k).2.2.1 = some (sx_ty ci k) := by
  intro ci h
  match ci, h with
  | 0, _ => exact tyX0_ok
  | 1, _ => exact tyX1_ok
  | 2, _ => exact tyX2_ok
  | 3, _ => exact tyX3_ok
  | 4, _ => exact tyX4_ok
  | 5, _ => exact tyX5_ok
  | 6, _ => exact tyX6_ok
  | 7, _ => exact tyX7_ok
  | 8, _ => exact tyX8_ok
  | k + 9, h => exact absurd h (by omega)
theorem sx_nm_all : ∀ ci, ci < 9 → ∀ a, a < (sx_clR ci).2.2 → ∀ b, b < (sx_clR ci).2.2 → a ≠ b → ((sx_clR ci).2.1 a).2.1 ≠ ((sx_clR ci).2.1 b).2.1 := by
  intro ci h
  match ci, h with
  | 0, _ => exact nmX0
  | 1, _ => exact nmX1
  | 2, _ => exact nmX2
  | 3, _ => exact nmX3
  | 4, _ => exact nmX4
  | 5, _ => exact nmX5
  | 6, _ => exact nmX6
  | 7, _ => exact nmX7
  | 8, _ => exact nmX8
  | k + 9, h => exact absurd h (by omega)
def sx_srt : FieldType → Nat
  | .int => 0
  | .boolean => 1
  | .object _ => 2
  | .array _ => 2
  | _ => 3
theorem sx_fty_all : ∀ ci, ci < 9 → ∀ k, k < (sx_clR ci).2.2 → (fq_fty ci k).1 = sx_srt (sx_ty ci k) ∧ (fq_fty ci k).2 = ((sx_clR ci).2.1 k).2.2.2 ∧ ((sx_clR ci).2.1 k).1 = (sx_clR ci).1 := by
  intro ci h
  match ci, h with
  | 0, _ => decide +kernel
  | 1, _ => decide +kernel
  | 2, _ => decide +kernel
  | 3, _ => decide +kernel
  | 4, _ => decide +kernel
  | 5, _ => decide +kernel
  | 6, _ => decide +kernel
  | 7, _ => decide +kernel
  | 8, _ => decide +kernel
  | k + 9, h => exact absurd h (by omega)
theorem sx_dfl_all : ∀ ci, ci < 9 → (fq_dfl ci).length = (sx_clR ci).2.2 ∧ ∀ k, k < (sx_clR ci).2.2 → (fq_dfl ci)[k]? = some (defaultValue (sx_ty ci k)) := by
  intro ci h
  match ci, h with
  | 0, _ => decide +kernel
  | 1, _ => decide +kernel
  | 2, _ => decide +kernel
  | 3, _ => decide +kernel
  | 4, _ => decide +kernel
  | 5, _ => decide +kernel
  | 6, _ => decide +kernel
  | 7, _ => decide +kernel
  | 8, _ => decide +kernel
  | k + 9, h => exact absurd h (by omega)
theorem sx_dfl_v : ∀ ci, ci < 9 → ∀ ad : Nat → Nat, (fq_dfl ci).map (sx_v ad) = fq_dfl ci := by
  intro ci h ad
  match ci, h with
  | 0, _ => rfl
  | 1, _ => rfl
  | 2, _ => rfl
  | 3, _ => rfl
  | 4, _ => rfl
  | 5, _ => rfl
  | 6, _ => rfl
  | 7, _ => rfl
  | 8, _ => rfl
  | k + 9, h => exact absurd h (by omega)
theorem sx_cl_get : ∀ ci, ci < 9 → sx_cl[ci]? = some (sx_clR ci) := by
  intro ci h
  match ci, h with
  | 0, _ => rfl
  | 1, _ => rfl
  | 2, _ => rfl
  | 3, _ => rfl
  | 4, _ => rfl
  | 5, _ => rfl
  | 6, _ => rfl
  | 7, _ => rfl
  | 8, _ => rfl
  | k + 9, h => exact absurd h (by omega)
theorem sx_fld {c i ci j : Nat} (h : fq_fld c i = some (ci, j)) : ci < 9 ∧ j < (sx_clR ci).2.2 ∧ Cond.fieldLink (sx_own c) i ((sx_clR ci).2.1 j).1 ((sx_clR ci).2.1 j).2.1 ((sx_clR ci).2.1 j).2.2.1 ∈ sx_big := by
  obtain ⟨l, h1, h2⟩ := sx_lookup2 (show ((fq_fld_T.lookup c).getD []).lookup i = some (ci, j) from h)
  have := List.all_eq_true.mp (List.all_eq_true.mp sx_f_all _ h1) _ h2
  simp only [sx_fB, Bool.and_eq_true, decide_eq_true_eq] at this
  exact ⟨this.1.1, this.1.2, sx_wB_mem this.2⟩
theorem sx_clsl {c i ci : Nat} (h : fq_cls c i = some ci) : ci < 9 ∧ Cond.classLink (sx_own c) i (sx_clR ci).1 ∈ sx_big ∧ Cond.instantiable (sx_clR ci).1 (sx_clR ci).2.2 ∈ sx_big ∧ Cond.initialized (sx_clR ci).1 ∈ sx_big := by
  obtain ⟨l, h1, h2⟩ := sx_lookup2 (show ((fq_cls_T.lookup c).getD []).lookup i = some ci from h)
  have := List.all_eq_true.mp (List.all_eq_true.mp sx_c_all _ h1) _ h2
  simp only [sx_cB, Bool.and_eq_true, decide_eq_true_eq] at this
  exact ⟨this.1.1.1, sx_wB_mem this.1.1.2, sx_wB_mem this.1.2, sx_wB_mem this.2⟩
theorem sx_fit_ok {ad : Nat → Nat} {ty : FieldType} {v : Value} (h : pm_fit (sx_srt ty) v = true) : narrow ty (sx_v ad v) = sx_v ad v ∧ fits ty (sx_v ad v) = true := by
  cases ty with
  | int => cases v <;> first | exact ⟨rfl, rfl⟩ | (simp [sx_srt, pm_fit] at h)
  | boolean =>
    cases v with
    | int x =>
      have h : (x == 0 || x == 1) = true := h
      refine ⟨?_, h⟩
      simp only [Bool.or_eq_true, beq_iff_eq] at h
      rcases h with rfl | rfl <;> rfl
    | _ => simp [sx_srt, pm_fit] at h
  | object s => cases v <;> first | exact ⟨rfl, rfl⟩ | (simp [sx_srt, pm_fit] at h)
  | array t => cases v <;> first | exact ⟨rfl, rfl⟩ | (simp [sx_srt, pm_fit] at h)
  | _ => cases v <;> simp [sx_srt, pm_fit] at h
theorem sx_wI : Cond.arrayClass .int ∈ sx_big := sx_mem 65 (by decide +kernel) rfl
theorem sx_wZ : Cond.arrayClass .boolean ∈ sx_big := sx_mem 797 (by decide +kernel) rfl
theorem sx_own_cl : ∀ ci, ci < 9 → sx_own ci = (sx_clR ci).1 := by
  intro ci h
  match ci, h with
  | 0, _ => rfl
  | 1, _ => rfl
  | 2, _ => rfl
  | 3, _ => rfl
  | 4, _ => rfl
  | 5, _ => rfl
  | 6, _ => rfl
  | 7, _ => rfl
  | 8, _ => rfl
  | k + 9, h => exact absurd h (by omega)
section SX
variable {base : Nat} {ad : Nat → Nat} {D : va_G} {cI cZ : ClassId} {ro : Nat → List Int32} {adV : Nat → Nat}
variable {y pc n pc' : Nat} {L L' : pm_L} {S S' : List Value} {σ σ1 : pm_S}
theorem sx_i_getf {k : Nat} (hd : decode (sx_by y) pc = .ok (.getfield k, n)) (hn : n = 3) (hs : pm_stp fqP y (.getfield k) n pc L S σ = some (.inl (pc', L', S', σ1))) : sx_Go base ad D cI cZ ro adV y pc L S σ pc' L' S' σ1 := by
  subst hn
  have hs : (match S with
    | .ref a :: S => (match pm_fld fqP (pm_met fqP y).1 k, pm_hg σ a with
      | some (c, j), some (.inl (c', fs)) => if c = c' then (match fs[j]? with
        | some v => pm_nx (pc + 3) L (v :: S) σ
        | none => none) else none
      | _, _ => none)
    | _ => none) = some (.inl (pc', L', S', σ1)) := hs
  split at hs
  next a T _ =>
    split at hs
    next c j c' fs hf hk =>
      split at hs
      next h0 =>
        subst h0
        split at hs
        next v hv =>
          obtain ⟨rfl, rfl, rfl, rfl⟩ := sx_nx hs
          obtain ⟨f1, f2, f3⟩ := sx_fld hf
          refine sx_same fun X hS hR hl next => ?_
          obtain ⟨h4, h5⟩ := sx_hi hR hk
          exact va_get (D := D) (cl := sx_cl) (ws := [(ad a, .inr (c, fs.map (sx_v ad)))]) (ci := c) (v := sx_v ad v) (C := (sx_clR c).1) (T := (sx_clR c).2.1) (N := (sx_clR c).2.2) X.1 X.2.1 X.2.2.2.1 (sx_in_all c f1) X.2.2.1 X.2.2.2.2.2.1.1 (sx_P1 h5) 0 rfl (sx_cl_get c f1) j f2 (X.2.2.2.1 _ f3) (fun _ q => q) (by rw [List.getElem?_map, hv]; rfl) hd (next _ hl)
        next => cases hs
      next => cases hs
    next => cases hs
  next => cases hs
theorem sx_i_putf (had : sx_ad base ad) {k : Nat} (hd : decode (sx_by y) pc = .ok (.putfield k, n)) (hn : n = 3) (hs : pm_stp fqP y (.putfield k) n pc L S σ = some (.inl (pc', L', S', σ1))) : sx_Go base ad D cI cZ ro adV y pc L S σ pc' L' S' σ1 := by
  subst hn
  have hs : (match S with
    | v :: .ref a :: S => (match pm_fld fqP (pm_met fqP y).1 k, pm_hg σ a with
      | some (c, j), some (.inl (c', fs)) => if c = c' ∧ j < fs.length ∧ pm_fit (pm_fty fqP c j).1 v = true ∧ ((pm_fty fqP c j).2 = true → (pm_met fqP y).2.2.2 = true ∧ (pm_met fqP y).1 = c) then pm_nx (pc + 3) L S (pm_hs σ a (.inl (c, fs.set j v))) else none
      | _, _ => none)
    | _ => none) = some (.inl (pc', L', S', σ1)) := hs
  split at hs
  next v a T _ =>
    split at hs
    next c j c' fs hf hk =>
      split at hs
      next h0 =>
        obtain ⟨rfl, g1, g2, g3⟩ := h0
        obtain ⟨rfl, rfl, rfl, rfl⟩ := sx_nx hs
        obtain ⟨f1, f2, f3⟩ := sx_fld hf
        obtain ⟨t1, t2, t3⟩ := sx_fty_all c f1 j f2
        have e1 : (pm_hs σ a (.inl (c, fs.set j v))).length = σ.length := List.length_set
        have e2 : sx_sz (pm_hs σ a (.inl (c, fs.set j v))) = sx_sz σ := sx_sz_set σ a _ _ hk (by simp [sx_szc])
        refine ⟨by rw [e1]; exact Nat.le_refl _, by rw [e2]; exact Nat.le_refl _, ?_⟩
        intro p l e R s m args below meth cc Q H locs cells slots ls nL X h1000 hS hR hl hc hsl next
        rw [e1, e2, Nat.sub_self, Nat.sub_self, Nat.add_zero, Nat.add_zero] at next
        rw [e1] at h1000
        obtain ⟨h4, h5⟩ := sx_hi hR hk
        have hA := sx_Ak (σ := σ) (c := .inr (0, [])) (H := H) had h1000 h4 (List.getElem?_eq_some_iff.mp hk).1
        have hts := X.2.2.2.1
        have hin := sx_in_all c f1
        have hK := X.2.2.2.2.2.1.1
        have hlink := hts _ f3
        have hcl := sx_cl_get c f1
        have hap := va_apart (own := sx_own (pm_met fqP y).1) hts hin (sx_ty c) (sx_ty_all c f1) (sx_nm_all c f1) hK hcl
        obtain ⟨r, h1, cell, q1, q2, q3, q4⟩ := h5
        have hr : r = sx_clR c := Option.some.inj (h1.symm.trans hcl)
        subst hr
        obtain ⟨hSl, hfc, kC, hkC, hkind⟩ := hK.1 c _ hcl
        obtain ⟨cf, kf, fi, f, hi, hsl2⟩ := hSl j f2
        obtain ⟨nar, fit⟩ := sx_fit_ok (ad := ad) (ty := sx_ty c j) (v := v) (t1 ▸ g2)
        have hlay := hts _ (hin _ (u_in_lay f2))
        unfold u_lay at hlay
        have hst := (u_facts hfc hkC (u_lays hts hin f2) hi).1
        have fin : ∀ (H' : Heap), H'[ad a]? = some (cell.setSlot f.slot (sx_v ad v)) → H'.size = H.size → (∀ q, q ≠ ad a → H'[q]? = H[q]?) → W p l e R s m args below meth cc H' (locs ++ [⟨ad a, f.slot⟩]) cells slots Q (F0 m (pc + 3) ls (S'.map (sx_v ad))) := by
          intro H' z1 z2 z3
          rw [hsl2] at z1
          refine next H' _ ls (hS.put z2 z3 hA) (sx_R_set had h1000 hR h4 (List.getElem?_eq_some_iff.mp hk).1 z2 z3 ?_) hl
          refine ⟨_, hcl, t_OB.to (V := updV (vp_V (fs.map (sx_v ad))) j (sx_v ad v)) ⟨_, z1, q2, q3, t_set q4 hap f2 _⟩ (fun i _ => ?_)⟩
          rw [vp_updV_set (by rw [List.length_map]; exact g1) _ i]
          show vp_V ((fs.map (sx_v ad)).set j (sx_v ad v)) i = vp_V ((fs.set j v).map (sx_v ad)) i
          rw [List.map_set]
        by_cases hfin : ((sx_clR c).2.1 j).2.2.2 = true
        · rw [if_pos hfin] at hlay
          obtain ⟨i1, i2⟩ := g3 (t2.trans hfin)
          have hcf : m.cls = cf := by
            obtain ⟨_, _, c', _, _, _, -, -, hf', -, -, -, hown2, -⟩ := Cond.laysFinal_spec hlay
            have e3 : c' = cf := by have := hi.symm.trans hf'; simp at this; exact this.1.symm
            have hown := X.2.2.1
            have eo : sx_own (fq_met y).1 = ((sx_clR c).2.1 j).1 := by
              rw [t3, show (fq_met y).1 = c from i2]
              exact sx_own_cl c f1
            rw [eo] at hown
            rw [← e3]; exact Option.some.inj (hown.symm.trans hown2)
          have h6 := u_fits hfc hkC hkind (Or.inr hlay) hi (sx_ty_all c f1 j f2) nar fit
          exact W.putFinK X.1 X.2.1 X.2.2.1 hlink hi hst hcf (X.2.2.2.2.1 i1) (by rw [q2]; exact h6) q1 q3 (by rw [hsl2]; exact k2_hasslot (q4 j f2)) rfl rfl hd fin
        · rw [if_neg hfin] at hlay
          have h6 := u_store hfc hkC hkind hlay hi (sx_ty_all c f1 j f2) nar fit
          exact W.putK X.1 X.2.1 (f := f) ⟨X.2.2.1, hlink, ⟨_, _, _, hi⟩, hst⟩ (by rw [q2]; exact h6) q1 q3 (by rw [hsl2]; exact k2_hasslot (q4 j f2)) rfl rfl hd fin
      next => cases hs
    next => cases hs
  next => cases hs
theorem sx_i_new (had : sx_ad base ad) {k : Nat} (hd : decode (sx_by y) pc = .ok (.new k, n)) (hn : n = 3) (hs : pm_stp fqP y (.new k) n pc L S σ = some (.inl (pc', L', S', σ1))) : sx_Go base ad D cI cZ ro adV y pc L S σ pc' L' S' σ1 := by
  subst hn
  have hs : (match pm_cls fqP (pm_met fqP y).1 k with
    | some c => pm_nx (pc + 3) L (.ref σ.length :: S) (σ ++ [.inl (c, pm_dfl fqP c)])
    | none => none) = some (.inl (pc', L', S', σ1)) := hs
  split at hs
  next c hc =>
    obtain ⟨rfl, rfl, rfl, rfl⟩ := sx_nx hs
    obtain ⟨f1, f2, f3, f4⟩ := sx_clsl hc
    obtain ⟨d1, d2⟩ := sx_dfl_all c f1
    have e1 : (σ ++ [Sum.inl (c, pm_dfl fqP c)] : pm_S).length = σ.length + 1 := by simp
    have e2 : sx_sz (σ ++ [Sum.inl (c, pm_dfl fqP c)]) = sx_sz σ + (sx_clR c).2.2 := by
      rw [sx_sz_app]
      show _ + ((fq_dfl c).length + 0) = _
      rw [d1]; rfl
    refine ⟨by rw [e1]; omega, by rw [e2]; omega, ?_⟩
    intro p l e R s m args below meth cc Q H locs cells slots ls nL X h1000 hS hR hl hc hsl next
    rw [e1, e2, show σ.length + 1 - σ.length = 1 by omega, show sx_sz σ + (sx_clR c).2.2 - sx_sz σ = (sx_clR c).2.2 by omega] at next
    rw [e1] at h1000 hc
    rw [e2] at hsl
    have hts := X.2.2.2.1
    have hKn := X.2.2.2.2.2.1.1.1 c _ (sx_cl_get c f1)
    have hsz := sx_ad_new (σ := σ) had (by omega) hR
    refine W.newcK X.1 X.2.1 X.2.2.1 (hts _ f2) (hts _ f3) (hts _ f4) rfl hd (by omega) (by omega) hKn.2.1 hsz fun H1 kC hkC z1 z2 z3 => ?_
    refine next H1 locs ls ⟨by rw [z2]; have := hS.1; omega, fun q h1 h2 => (z3 q (by have := hS.1; omega)).trans (hS.2.1 q h1 h2), hS.2.2⟩ (sx_R_push had (by omega) hR (by rw [z2, hsz]) (fun q hq => z3 q (by rw [← hsz]; exact hq)) ?_) hl
    refine ⟨_, sx_cl_get c f1, (u_born (sx_ty c) hts (sx_in_all c f1) hKn hkC z1 (sx_ty_all c f1)).to fun j hj => ?_⟩
    rw [show ((pm_dfl fqP c).map (sx_v ad)) = fq_dfl c from sx_dfl_v c f1 ad]
    unfold vp_V
    rw [List.getD_eq_getElem?_getD, d2 j hj]
    rfl
  next => cases hs
theorem sx_i_newI (had : sx_ad base ad) (hd : decode (sx_by y) pc = .ok (.newarray .int, n)) (hn : n = 2) (hs : pm_stp fqP y (.newarray .int) n pc L S σ = some (.inl (pc', L', S', σ1))) : sx_Go base ad D cI cZ ro adV y pc L S σ pc' L' S' σ1 := by
  subst hn
  have hs : (match S with
    | .int x :: S => if 0 ≤ x.toInt ∧ x.toInt ≤ 1000 then pm_nx (pc + 2) L (.ref σ.length :: S) (σ ++ [.inr (0, List.replicate x.toNatClampNeg 0)]) else none
    | _ => none) = some (.inl (pc', L', S', σ1)) := hs
  split at hs
  next x T _ =>
    split at hs
    next h0 =>
      obtain ⟨rfl, rfl, rfl, rfl⟩ := sx_nx hs
      have hxn : x.toNatClampNeg ≤ 1000 := by show x.toInt.toNat ≤ 1000; omega
      have e1 : (σ ++ [Sum.inr (0, List.replicate x.toNatClampNeg 0)] : pm_S).length = σ.length + 1 := by simp
      have e2 : sx_sz (σ ++ [Sum.inr (0, List.replicate x.toNatClampNeg 0)]) = sx_sz σ + x.toNatClampNeg := by
        rw [sx_sz_app]
        simp [sx_sz, sx_szc]
      refine ⟨by rw [e1]; omega, by rw [e2]; omega, ?_⟩
      intro p l e R s m args below meth cc Q H locs cells slots ls nL X h1000 hS hR hl hc hsl next
      rw [e1, e2, show σ.length + 1 - σ.length = 1 by omega, show sx_sz σ + x.toNatClampNeg - sx_sz σ = x.toNatClampNeg by omega] at next
      rw [e1] at h1000 hc
      rw [e2] at hsl
      have hts := X.2.2.2.1
      have hsz := sx_ad_new (σ := σ) had (by omega) hR
      have hwd : Cond.arrayClass .int ∈ sx_big := sx_wI
      refine va_newaK (atype := .int) X.1 X.2.1 (hts _ hwd) rfl hd rfl (fun q => by have := Int32.lt_iff_toInt_lt.mp q; simp at this; omega) rfl (by show _ * 4 ≤ _; omega) (by omega) (by omega) hsz fun H1 cA z1 z2 z3 z4 z5 => ?_
      have ecA : cA = cI := Option.some.inj (z5.symm.trans ((X.2.2.2.2.2.1.1.2 0 _ rfl).2))
      subst ecA
      refine next H1 locs ls ⟨by rw [z2]; have := hS.1; omega, fun q h1 h2 => (z3 q (by have := hS.1; omega)).trans (hS.2.1 q h1 h2), hS.2.2⟩ (sx_R_push had (by omega) hR (by rw [z2, hsz]) (fun q hq => z3 q (by rw [← hsz]; exact hq)) ?_) hl
      show H1[ad σ.length]? = some (vp_cell cA ((List.replicate x.toNatClampNeg (0 : Int32)).length, .inl fun j => (List.replicate x.toNatClampNeg (0 : Int32)).getD j 0))
      rw [z1, vp_cell_i, List.length_replicate]
      congr 2
      funext j
      rw [List.getD_eq_getElem?_getD, List.getElem?_replicate]
      split <;> rfl
    next => cases hs
  next => cases hs
theorem sx_i_newZ (had : sx_ad base ad) (hd : decode (sx_by y) pc = .ok (.newarray .boolean, n)) (hn : n = 2) (hs : pm_stp fqP y (.newarray .boolean) n pc L S σ = some (.inl (pc', L', S', σ1))) : sx_Go base ad D cI cZ ro adV y pc L S σ pc' L' S' σ1 := by
  subst hn
  have hs : (match S with
    | .int x :: S => if 0 ≤ x.toInt ∧ x.toInt ≤ 1000 then pm_nx (pc + 2) L (.ref σ.length :: S) (σ ++ [.inr (1, List.replicate x.toNatClampNeg 0)]) else none
    | _ => none) = some (.inl (pc', L', S', σ1)) := hs
  split at hs
  next x T _ =>
    split at hs
    next h0 =>
      obtain ⟨rfl, rfl, rfl, rfl⟩ := sx_nx hs
      have hxn : x.toNatClampNeg ≤ 1000 := by show x.toInt.toNat ≤ 1000; omega
      have e1 : (σ ++ [Sum.inr (1, List.replicate x.toNatClampNeg 0)] : pm_S).length = σ.length + 1 := by simp
      have e2 : sx_sz (σ ++ [Sum.inr (1, List.replicate x.toNatClampNeg 0)]) = sx_sz σ + x.toNatClampNeg := by
        rw [sx_sz_app]
        simp [sx_sz, sx_szc]
      refine ⟨by rw [e1]; omega, by rw [e2]; omega, ?_⟩
      intro p l e R s m args below meth cc Q H locs cells slots ls nL X h1000 hS hR hl hc hsl next
      rw [e1, e2, show σ.length + 1 - σ.length = 1 by omega, show sx_sz σ + x.toNatClampNeg - sx_sz σ = x.toNatClampNeg by omega] at next
      rw [e1] at h1000 hc
      rw [e2] at hsl
      have hts := X.2.2.2.1
      have hsz := sx_ad_new (σ := σ) had (by omega) hR
      have hwd : Cond.arrayClass .boolean ∈ sx_big := sx_wZ
      refine va_newaK (atype := .boolean) X.1 X.2.1 (hts _ hwd) rfl hd rfl (fun q => by have := Int32.lt_iff_toInt_lt.mp q; simp at this; omega) rfl (by show _ * 1 ≤ _; omega) (by omega) (by omega) hsz fun H1 cA z1 z2 z3 z4 z5 => ?_
      have ecA : cA = cZ := Option.some.inj (z5.symm.trans ((X.2.2.2.2.2.1.1.2 1 _ rfl).2))
      subst ecA
      refine next H1 locs ls ⟨by rw [z2]; have := hS.1; omega, fun q h1 h2 => (z3 q (by have := hS.1; omega)).trans (hS.2.1 q h1 h2), hS.2.2⟩ (sx_R_push had (by omega) hR (by rw [z2, hsz]) (fun q hq => z3 q (by rw [← hsz]; exact hq)) ?_) hl
      show H1[ad σ.length]? = some (vp_cell cA ((List.replicate x.toNatClampNeg (0 : Int32)).length, .inl fun j => (List.replicate x.toNatClampNeg (0 : Int32)).getD j 0))
      rw [z1, vp_cell_i, List.length_replicate]
      congr 2
      funext j
      rw [List.getD_eq_getElem?_getD, List.getElem?_replicate]
      split <;> rfl
    next => cases hs
  next => cases hs
end SX
