/-! SOUNDNESS: what isn't walked: the words of it -/
theorem sx_wO1 : Cond.instanceMethod Lib.objectInit ∈ sx_big := sx_mem 23 (by decide +kernel) rfl
theorem sx_wO2 : Cond.code Lib.objectInit ⟨#[0xb1]⟩ 1 none ∈ sx_big := sx_mem 24 (by decide +kernel) rfl
theorem sx_wA1 : Cond.native arraycopyName ∈ sx_big := sx_mem 298 (by decide +kernel) rfl
theorem sx_wA2 : Cond.static arraycopyName ∈ sx_big := sx_mem 297 (by decide +kernel) rfl
theorem sx_wA3 : Cond.initialized "java/lang/System" ∈ sx_big := sx_mem 11 (by decide +kernel) rfl
theorem sx_wMx1 : Cond.static Lib.Math.max.name ∈ sx_big := sx_mem 147 (by decide +kernel) rfl
theorem sx_wMx2 : Cond.code Lib.Math.max.name Lib.Math.max.code 2 (some .int) ∈ sx_big := sx_mem 148 (by decide +kernel) rfl
theorem sx_wMn1 : Cond.static Lib.Math.min.name ∈ sx_big := sx_mem 294 (by decide +kernel) rfl
theorem sx_wMn2 : Cond.code Lib.Math.min.name Lib.Math.min.code 2 (some .int) ∈ sx_big := sx_mem 295 (by decide +kernel) rfl
theorem sx_wM3 : Cond.initialized "java/lang/Math" ∈ sx_big := sx_mem 7 (by decide +kernel) rfl
theorem pm_bif_same {d z : Nat} {as : List Value} {σ σ1 : pm_S} {r : Option Value} (h : pm_bif fqP d z as σ = some (r, σ1)) : σ1.length = σ.length ∧ sx_sz σ1 = sx_sz σ := by
  unfold pm_bif at h
  split at h
  · cases h; exact ⟨rfl, rfl⟩
  · split at h
    next xs ys ha hb =>
      split at h
      next h0 =>
        cases h
        exact ⟨List.length_set, sx_sz_set σ _ _ _ hb (by simp [sx_szc, h0.2.2.2.1])⟩
      next => cases h
    next => cases h
  · split at h
    · cases h; exact ⟨rfl, rfl⟩
    · cases h
  · split at h
    · split at h
      · cases h; exact ⟨rfl, rfl⟩
      · cases h
    · cases h
  · cases h; exact ⟨rfl, rfl⟩
  · cases h; exact ⟨rfl, rfl⟩
  · cases h
section SB
variable {base : Nat} {ad : Nat → Nat} {D : va_G} {cI cZ : ClassId} {ro : Nat → List Int32} {adV : Nat → Nat}
variable {p : Program} {l : Launch} {e : Env} {R : Room} {s : State} {m : MethodId} {args : Array Value} {below : List Frame} {meth : Method} {c : Code} {Q : State → Prop} {H : Heap} {locs : List Loc} {cells slots : Nat} {ls : Array Slot}
theorem sx_copy {y idx pc : Nat} {a b : Nat} {xs ys : List Int32} {S' : List Value} {σ : pm_S} (had : sx_ad base ad) (X : sx_X base ad D cI cZ ro adV y p s m args meth c) (hlink : (Cond.methodLink (sx_own (fq_met y).1) idx arraycopyName).before args s = true)
    (ha : σ[a]? = some (.inr (0, xs))) (hb : σ[b]? = some (.inr (0, ys))) (hlen : xs.length = ys.length) (h31 : xs.length < 2 ^ 31) (h1000 : σ.length ≤ 1000) (hS : va_S (sx_A base) s.heap H locs) (hR : sx_R base ad D cI cZ ro σ H) (hls : ls.size = (fq_met y).2.1) (hfr : 1 ≤ R.frames) (hlo : 100 ≤ R.locals) (ho : pm_okW 8 S' = true) (hd : decode (sx_by y) pc = .ok (.invokestatic idx, 3))
    (kk : ∀ (H1 : Heap) (locs1 : List Loc), va_S (sx_A base) s.heap H1 locs1 → sx_R base ad D cI cZ ro (pm_hs σ b (.inr (0, xs))) H1 → W p l e R s m args below meth c H1 locs1 cells slots Q (F0 m (pc + 3) ls (S'.map (sx_v ad)))) :
    W p l e R s m args below meth c H locs cells slots Q (F0 m pc ls (.int (nI xs.length) :: .int 0 :: .ref (ad b) :: .int 0 :: .ref (ad a) :: S'.map (sx_v ad))) := by
  have hts := X.2.2.2.1
  rcases sx_low hR ha with ⟨_, h6, _⟩ | ⟨ha4, ⟨_, hc0⟩ | ⟨h6, _⟩⟩
  · exact absurd h6 (by decide)
  · rcases sx_low hR hb with ⟨_, h6, _⟩ | ⟨hb4, ⟨_, hc1⟩ | ⟨h6, _⟩⟩
    · exact absurd h6 (by decide)
    · have hnn : (nI xs.length).toInt = (xs.length : Int) := nI_toInt h31
      have hcl : (nI xs.length).toNatClampNeg = xs.length := nI_clamp h31
      intro T hT X'
      have hc0 : H[ad a]? = some (vp_cell cI (xs.length, .inl fun j => xs.getD j 0)) := hc0
      have hc1 : H[ad b]? = some (vp_cell cI (ys.length, .inl fun j => ys.getD j 0)) := hc1
      obtain ⟨-, k0, hk0, cm0, hkk0⟩ := (X.2.2.2.2.2.1.1.2 0 _ rfl).1 xs.length (fun j => .int (xs.getD j 0))
      obtain ⟨vm', X2, step⟩ := X'.arraycopy X.1 X.2.2.1 hlink (hts _ sx_wA1) (hts _ sx_wA2) (hts _ sx_wA3) (src := ad a) (dst := ad b) (cs := vp_cell cI (xs.length, .inl fun j => xs.getD j 0)) (cd := vp_cell cI (ys.length, .inl fun j => ys.getD j 0)) (srcPos := 0) (destPos := 0) (n := nI xs.length) (by rw [hT]; exact hc0) (by rw [hT]; exact hc1)
        (fun _ h => by cases h) (fun _ h => by cases h) (fun h => by cases h) (fun h => by cases h) hk0 hk0 hkk0 hkk0 (by simp [refKind]) (by decide) (by decide) (nI_pos h31)
        (by rw [hnn]; show ¬ _ > ((arrV cI xs.length (fun j => .int (xs.getD j 0))).slots.size : Int); rw [arrV_size]; simp)
        (by rw [hnn]; show ¬ _ > ((arrV cI ys.length (fun j => .int (ys.getD j 0))).slots.size : Int); rw [arrV_size, hlen]; simp)
        (fun vm₁ _ i hi => by
          rw [hcl] at hi
          have e : (vp_cell cI (xs.length, .inl fun j => xs.getD j 0)).slots.getD ((0 : Int32).toNatClampNeg + i) .null = .int (xs.getD i 0) := by
            show (arrV cI xs.length (fun j => .int (xs.getD j 0))).slots.getD (0 + i) _ = _
            rw [Nat.zero_add, Array.getD_eq_getD_getElem?, arrV_read _ _ hi]
            rfl
          refine ⟨?_, ?_⟩
          · rw [e]; rfl
          · rw [e]; exact trivial)
        (g := F0 m pc ls (.int (nI xs.length) :: .int 0 :: .ref (ad b) :: .int 0 :: .ref (ad a) :: S'.map (sx_v ad))) rfl (by rw [X.2.2.2.2.2.2.2]; exact hls) (rest := S'.map (sx_v ad)) rfl (by rw [X.2.1]; exact hd) hfr (by
          have h8 : ((S'.map (sx_v ad)).map fun v => v.category).sum ≤ 8 := by rw [sx_map_cat]; exact pm_okW_sum _ _ ho
          have hn : nativeFrameWords "java/lang/System" "arraycopy" 5 ≤ 60 := by decide +kernel
          show 2 * 0 + _ + _ ≤ _
          omega)
      have e1 : copied (vp_cell cI (xs.length, .inl fun j => xs.getD j 0)) (vp_cell cI (ys.length, .inl fun j => ys.getD j 0)) 0 0 (nI xs.length) = vp_cell cI (xs.length, .inl fun j => xs.getD j 0) := by
        have e0 : copied (vp_cell cI (xs.length, .inl fun j => xs.getD j 0)) (vp_cell cI (ys.length, .inl fun j => ys.getD j 0)) 0 0 (nI xs.length) = vp_cell cI (ys.length, .inl (va_cpy (fun j => xs.getD j 0) (fun j => ys.getD j 0) (0 : Int32).toNatClampNeg (0 : Int32).toNatClampNeg (nI xs.length).toNatClampNeg)) := va_copied (n0 := xs.length) (n1 := ys.length) (sp := (0 : Int32).toNatClampNeg) (dp := (0 : Int32).toNatClampNeg) (n := (nI xs.length).toNatClampNeg) (fun z => .int z) cI cI (fun j => xs.getD j 0) (fun j => ys.getD j 0) (by rw [hcl]; show 0 + _ ≤ _; omega)
        rw [e0, hcl, ← hlen, vp_cell_i, vp_cell_i]
        congr 1
        funext j
        show Value.int (va_cpy _ _ 0 0 xs.length j) = _
        unfold va_cpy
        by_cases hj : j < xs.length
        · rw [if_pos ⟨Nat.zero_le _, by omega⟩, Nat.zero_add, Nat.sub_zero]
        · rw [if_neg (by omega)]
          show Value.int (ys.getD j 0) = Value.int (xs.getD j 0)
          rw [List.getD_eq_getElem?_getD, List.getD_eq_getElem?_getD, List.getElem?_eq_none (by omega), List.getElem?_eq_none (by omega)]
      rw [e1] at X2 step
      have hl : ad b < H.size := (Array.getElem?_eq_some_iff.mp hc1).1
      have hA := sx_Ak (σ := σ) (c := .inr (0, [])) (H := H) had h1000 hb4 (List.getElem?_eq_some_iff.mp hb).1
      have hheap : ((T.setVm vm').setCell (ad b) (vp_cell cI (xs.length, .inl fun j => xs.getD j 0))).heap = H.setIfInBounds (ad b) (vp_cell cI (xs.length, .inl fun j => xs.getD j 0)) := by rw [← hT]; rfl
      have oq : ∀ q : Nat, q ≠ ad b → (H.setIfInBounds (ad b) (vp_cell cI (xs.length, .inl fun j => xs.getD j 0)))[q]? = H[q]? := fun q hq => by simp [Array.getElem?_setIfInBounds, Ne.symm hq]
      obtain ⟨t, a1, b1⟩ := kk _ _ ⟨by simp; exact hS.1, fun q g1 g2 => by
          rw [oq q (fun e => g2 (by rw [e]; exact hA))]
          exact hS.2.1 q g1 g2, fun q hq => by
          rcases List.mem_append.mp hq with h | h
          · exact hS.2.2 q h
          · obtain ⟨z, -, hz⟩ := List.mem_map.mp h
            rw [← hz]
            exact hA⟩ (sx_R_set had h1000 hR hb4 (List.getElem?_eq_some_iff.mp hb).1 (by simp) oq (show (H.setIfInBounds (ad b) _)[ad b]? = some _ by simp [Array.getElem?_setIfInBounds, hl])) _ hheap X2
      exact ⟨t, step t a1, b1⟩
    · exact absurd h6 (by decide)
  · exact absurd h6 (by decide)
end SB
