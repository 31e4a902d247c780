/-! SOUNDNESS: what isn't walked; then all -/
section SB
variable {base : Nat} {ad : Nat → Nat} {D : va_G} {cI cZ : ClassId} {ro : Nat → List Int32} {adV : Nat → Nat}
theorem sx_bif {p : Program} {l : Launch} {e : Env} {R : Room} {s : State} {m : MethodId} {args : Array Value} {below : List Frame} {meth : Method} {c : Code} {Q : State → Prop} {H : Heap} {locs : List Loc} {cells slots : Nat} {ls : Array Slot} {y k w z nn ci d pc : Nat} {i : Instr} {as S' : List Value} {σ σ1 : pm_S} {r : Option Value} (had : sx_ad base ad) (X : sx_X base ad D cI cZ ro adV y p s m args meth c)
    (hm : fq_mth (fq_met y).1 k = some (w, z, nn, ci)) (hz : 900 ≤ z) (hb : pm_bif fqP d z as σ = some (r, σ1)) (ho : pm_okW 8 S' = true)
    (hi : (w = 0 ∧ i = .invokestatic k) ∨ (w = 1 ∧ i = .invokevirtual k) ∨ (w = 2 ∧ i = .invokespecial k) ∨ (w = 3 ∧ i = .invokevirtual k)) (hd : decode (sx_by y) pc = .ok (i, 3))
    (hfr : d ≤ R.frames) (hlo : 40 * d ≤ R.locals) (h1000 : σ.length ≤ 1000) (hS : va_S (sx_A base) s.heap H locs) (hR : sx_R base ad D cI cZ ro σ H) (hls : ls.size = (fq_met y).2.1) (hc : cells ≤ R.cells) (hs : slots ≤ R.slots)
    (kk : ∀ (H1 : Heap) (locs1 : List Loc), va_S (sx_A base) s.heap H1 locs1 → sx_R base ad D cI cZ ro σ1 H1 → W p l e R s m args below meth c H1 locs1 cells slots Q (F0 m (pc + 3) ls ((pm_pu r S').map (sx_v ad)))) :
    W p l e R s m args below meth c H locs cells slots Q (F0 m pc ls ((as.reverse ++ S').map (sx_v ad))) := by
  obtain ⟨m1, m2, m3, m4, m5, m6⟩ := sx_mth hm
  simp only [sx_mB, Bool.and_eq_true, Bool.or_eq_true, decide_eq_true_eq] at m1
  obtain ⟨m1, m7⟩ := m1
  have m7 := m7.resolve_right (fun q => by omega)
  obtain ⟨-, hnest, hw⟩ := m7
  have hlink := (sx_linkM X m1).resolve_left (fun q => by rw [hnest] at q; exact absurd q.1 (by decide))
  have hlink := hlink.2
  have hts := X.2.2.2.1
  have h8 : ((S'.map (sx_v ad)).map fun v => v.category).sum ≤ 8 := by rw [sx_map_cat]; exact pm_okW_sum _ _ ho
  have hmr : (F0 m pc ls ((as.reverse ++ S').map (sx_v ad))).monitorRoom = 0 := rfl
  unfold pm_bif at hb
  split at hb
  next d _ _ a => -- Object's constructor
    cases hb
    rcases hw with ⟨-, rfl⟩ | ⟨q, -⟩ | ⟨q, -⟩ | ⟨q, -⟩
    · rcases hi with ⟨q, -⟩ | ⟨q, -⟩ | ⟨-, rfl⟩ | ⟨q, -⟩
      · cases q
      · cases q
      · exact W.objInit (rest := S'.map (sx_v ad)) X.1 X.2.1 X.2.2.1 hlink (hts _ sx_wO1) (hts _ sx_wO2) rfl (by show ls.size = _; rw [X.2.2.2.2.2.2.2]; exact hls) rfl hd (by omega) (by rw [hmr]; omega) (kk H locs hS hR)
      · cases q
    all_goals omega
  next d _ _ a p1 b q1 n1 => -- arraycopy
    split at hb
    next xs ys ha hbb =>
      split at hb
      next h0 =>
        obtain ⟨rfl, rfl, rfl, h1, h2⟩ := h0
        cases hb
        rcases hw with ⟨q, -⟩ | ⟨-, rfl⟩ | ⟨q, -⟩ | ⟨q, -⟩
        · omega
        · rcases hi with ⟨-, rfl⟩ | ⟨q, -⟩ | ⟨q, -⟩ | ⟨q, -⟩
          · exact sx_copy had X hlink ha hbb h1 h2 h1000 hS hR hls (by omega) (by omega) ho hd kk
          all_goals cases q
        all_goals omega
      next => cases hb
    next => cases hb
  next d _ _ a =>
    split at hb
    next v hv =>
      cases hb
      rcases hw with ⟨q, -⟩ | ⟨q, -⟩ | ⟨-, rfl⟩ | ⟨q, -⟩
      · omega
      · omega
      · rcases hi with ⟨q, -⟩ | ⟨q, -⟩ | ⟨q, -⟩ | ⟨-, rfl⟩
        · cases q
        · cases q
        · cases q
        · exact sx_strlen X hlink hv (by omega) (by omega) hS hls h8 hc hs hd (kk H locs hS hR)
      · omega
    next => cases hb
  next d _ _ a j =>
    split at hb
    next h0 =>
      split at hb
      next v hv =>
        cases hb
        rcases hw with ⟨q, -⟩ | ⟨q, -⟩ | ⟨-, rfl⟩ | ⟨q, -⟩
        · omega
        · omega
        · rcases hi with ⟨q, -⟩ | ⟨q, -⟩ | ⟨q, -⟩ | ⟨-, rfl⟩
          · cases q
          · cases q
          · cases q
          · exact sx_strchar X hlink h0 hv (by omega) (by omega) hS hls h8 hc hs hd (kk H locs hS hR)
        · omega
      next => cases hb
    next => cases hb
  next d _ _ x1 x2 =>
    cases hb
    rcases hw with ⟨q, -⟩ | ⟨q, -⟩ | ⟨q, -⟩ | ⟨-, rfl⟩
    · omega
    · omega
    · omega
    · rcases hi with ⟨-, rfl⟩ | ⟨q, -⟩ | ⟨q, -⟩ | ⟨q, -⟩
      · exact va_mmax (rest := S'.map (sx_v ad)) X.1 X.2.1 (by rw [X.2.2.2.2.2.2.2]; exact hls.symm) X.2.2.1 hlink (hts _ sx_wMx1) (hts _ sx_wM3) (hts _ sx_wMx2) (by omega) (by omega) hc hs hd (kk H locs hS hR)
      all_goals cases q
  next d _ _ x1 x2 =>
    cases hb
    rcases hw with ⟨q, -⟩ | ⟨q, -⟩ | ⟨q, -⟩ | ⟨-, rfl⟩
    · omega
    · omega
    · omega
    · rcases hi with ⟨-, rfl⟩ | ⟨q, -⟩ | ⟨q, -⟩ | ⟨q, -⟩
      · exact va_mmin (rest := S'.map (sx_v ad)) X.1 X.2.1 (by rw [X.2.2.2.2.2.2.2]; exact hls.symm) X.2.2.1 hlink (hts _ sx_wMn1) (hts _ sx_wM3) (hts _ sx_wMn2) (by omega) (by omega) hc hs hd (kk H locs hS hR)
      all_goals cases q
  next => cases hb
theorem sx_main (had : sx_ad base ad) : ∀ (f d y pc : Nat) (L : pm_L) (S : List Value) (σ : pm_S) (r : Option Value) (σ' : pm_S), pm_ev fqP f d y pc L S σ = some (r, σ') → σ'.length ≤ 1000 → sx_Run base ad D cI cZ ro adV d y pc L S σ r σ' := by
  intro f
  induction f with
  | zero => intro d y pc L S σ r σ' h; simp [pm_ev] at h
  | succ f ih =>
    intro d y pc L S σ r σ' h h1000
    rw [pm_ev] at h
    cases hf : pm_fet fqP y pc with
    | none => rw [hf] at h; simp at h
    | some q =>
      obtain ⟨i, n⟩ := q
      rw [hf] at h
      simp only at h
      obtain ⟨hy, hd, hlen⟩ := sx_fet_dec hf
      cases hs : pm_stp fqP y i n pc L S σ with
      | none => rw [hs] at h; simp at h
      | some a =>
        rw [hs] at h
        rcases a with ⟨pc', L', S', σ1⟩ | ⟨z, as, S'⟩ | rv
        · -- a step
          simp only at h
          obtain ⟨⟨g1, g2⟩, g3⟩ := ih _ _ _ _ _ _ _ _ h h1000
          obtain ⟨s1, s2, s3⟩ := sx_step (base := base) (ad := ad) (D := D) (cI := cI) (cZ := cZ) (ro := ro) (adV := adV) had hf hs
          refine ⟨⟨Nat.le_trans s1 g1, Nat.le_trans s2 g2⟩, ?_⟩
          intro p l e R s m args below meth c Q H locs cells slots ls tc ts X hfr hlo hS hR hl htc hts htcR htsR fin
          refine s3 X (by omega) hS hR hl (by omega) (by omega) fun H' locs' ls' hS' hR' hl' => ?_
          exact g3 X hfr hlo hS' hR' hl' (by omega) (by omega) htcR htsR fin
        · -- a call
          simp only at h
          obtain ⟨k, w, hw4, hcall, hi⟩ := pm_stp_call hs
          obtain ⟨nn, ci, hm, rfl, hal, ho, hrc, hrf⟩ := pm_call_is hw4 hcall
          have hn : n = 3 := by rcases hi with ⟨-, rfl⟩ | ⟨-, rfl⟩ | ⟨-, rfl⟩ | ⟨-, rfl⟩ <;> exact sx_len1 hlen
          subst hn
          by_cases hz : 900 ≤ z
          · rw [if_pos hz] at h
            cases hb : pm_bif fqP d z as σ with
            | none => rw [hb] at h; simp at h
            | some q =>
              obtain ⟨r1, σ1⟩ := q
              rw [hb] at h
              simp only at h
              obtain ⟨⟨g1, g2⟩, g3⟩ := ih _ _ _ _ _ _ _ _ h h1000
              obtain ⟨b1, b2⟩ := pm_bif_same hb
              refine ⟨⟨by omega, by omega⟩, ?_⟩
              intro p l e R s m args below meth c Q H locs cells slots ls tc ts X hfr hlo hS hR hl htc hts htcR htsR fin
              refine sx_bif had X hm hz hb ho hi hd hfr hlo (by omega) hS hR hl.2.1 (by omega) (by omega) fun H1 locs1 hS1 hR1 => ?_
              exact g3 X hfr hlo hS1 hR1 hl (by omega) (by omega) htcR htsR fin
          · rw [if_neg hz] at h
            cases d with
            | zero => simp at h
            | succ d =>
              simp only at h
              by_cases hoa : pm_okW (pm_met fqP z).2.1 as = true
              · rw [if_pos hoa] at h
                cases hc1 : pm_ev fqP f d z 0 (pm_ent (pm_met fqP z).2.1 as) [] σ with
                | none => rw [hc1] at h; simp at h
                | some q =>
                  obtain ⟨r1, σ1⟩ := q
                  rw [hc1] at h
                  simp only at h
                  obtain ⟨⟨g1, g2⟩, g3⟩ := ih _ _ _ _ _ _ _ _ h h1000
                  have hrun := ih _ _ _ _ _ _ _ _ hc1 (by omega)
                  refine ⟨⟨Nat.le_trans hrun.1.1 g1, Nat.le_trans hrun.1.2 g2⟩, ?_⟩
                  have k1 := hrun.1.1
                  have k2 := hrun.1.2
                  intro p l e R s m args below meth c Q H locs cells slots ls tc ts X hfr hlo hS hR hl htc hts htcR htsR fin
                  obtain ⟨m1, -, -, -, -, m6⟩ := sx_mth hm
                  have hz1 : z < 187 := by
                    simp only [sx_mB, Bool.and_eq_true, Bool.or_eq_true, decide_eq_true_eq] at m1
                    exact (m1.2.resolve_left (fun q => hz q.1)).1
                  have hM := sx_met l hz1 m6 hoa hrun
                  refine sx_inv (n := 3) X hm (by omega) hal ho hrc hrf hi hd hM hfr hlo hS hR hl.2.1 (by omega) (by omega) fun H1 locs1 hS1 hR1 => ?_
                  exact g3 X hfr hlo hS1 hR1 hl (by omega) (by omega) htcR htsR fin
              · rw [if_neg hoa] at h; simp at h
        · -- an end
          simp only [Option.some.injEq, Prod.mk.injEq] at h
          obtain ⟨rfl, rfl⟩ := h
          refine ⟨⟨Nat.le_refl _, Nat.le_refl _⟩, ?_⟩
          intro p l e R s m args below meth c Q H locs cells slots ls tc ts X hfr hlo hS hR hl htc hts htcR htsR fin
          rw [Nat.sub_self, Nat.add_zero] at htc hts
          subst htc; subst hts
          have hri := pm_stp_end ad hs
          have hn : n = 1 := by
            unfold sx_ri at hri
            split at hri <;> first | exact sx_len1 hlen | exact hri.elim
          subst hn
          exact fin H locs ls pc i _ hf hri hS hR
end SB
