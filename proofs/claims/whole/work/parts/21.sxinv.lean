/-! SOUNDNESS: a call of one of our methods -/
theorem sx_sel {z : Nat} (h : z ∈ sx_virt) : Cond.selects (sx_nm z).cls (sx_nm z) (sx_nm z) ∈ sx_big := by
  have := List.all_eq_true.mp sx_sel_all z h
  unfold sx_selB at this
  split at this
  · exact sx_wB_mem this
  · split at this
    · simp only [Bool.and_eq_true, decide_eq_true_eq] at this
      exact sx_memP _ this.1 this.2
    · cases this
section SI
variable {base : Nat} {ad : Nat → Nat} {D : va_G} {cI cZ : ClassId} {ro : Nat → List Int32} {adV : Nat → Nat}
variable {p : Program} {l : Launch} {e : Env} {R : Room} {s : State} {m : MethodId} {args : Array Value} {below : List Frame} {meth : Method} {c : Code} {Q : State → Prop} {H : Heap} {locs : List Loc} {cells slots : Nat} {ls : Array Slot}
theorem sx_pu_map (r : Option Value) (S' : List Value) : (pm_pu r S').map (sx_v ad) = (r.map (sx_v ad)).toList ++ S'.map (sx_v ad) := by cases r <;> rfl
theorem sx_callK {pc mc ms : Nat} {st0 S' : List Value} {a : Array Value} {r : Option Value} {σ1 : pm_S} (hr : va_Run p l e R s m args below meth c H locs cells slots mc ms (F0 m pc ls st0) (S'.map (sx_v ad)) (sx_Qc base ad D cI cZ ro r σ1 a) (sx_A base)) (hS : va_S (sx_A base) s.heap H locs)
    (kk : ∀ (H1 : Heap) (locs1 : List Loc), va_S (sx_A base) s.heap H1 locs1 → sx_R base ad D cI cZ ro σ1 H1 → W p l e R s m args below meth c H1 locs1 (cells + mc) (slots + ms) Q (F0 m (pc + 3) ls ((pm_pu r S').map (sx_v ad)))) : W p l e R s m args below meth c H locs cells slots Q (F0 m pc ls st0) := by
  intro T hT X
  obtain ⟨v, st₀, t, T', L, h0, X', hL, e1, e2, ⟨hv, hR1, hz, hk⟩, st⟩ := hr T hT X
  cases hv
  rw [h0] at hz hk
  rw [← e1] at hR1 hz hk
  obtain ⟨t2, a1, b1⟩ := kk T'.heap (locs ++ L) ⟨Nat.le_trans hS.1 hz, fun q h1 h2 => (hk q (Nat.lt_of_lt_of_le h1 hS.1) h2).trans (hS.2.1 q h1 h2), fun q hq => by
      rcases List.mem_append.mp hq with h | h
      · exact hS.2.2 q h
      · exact hL q h⟩ hR1 T' rfl X'
  rw [sx_pu_map] at a1
  exact ⟨t2, st t2 a1, b1⟩
theorem sx_linkM {y k : Nat} {z : MethodName} (X : sx_X base ad D cI cZ ro adV y p s m args meth c) (h : (if (sx_mw (fq_met y).1 k).2 = true then decide (tables_1[(sx_mw (fq_met y).1 k).1]? = some (sx_lw (fq_met y).1 k z)) else sx_wB (sx_lw (fq_met y).1 k z) (sx_mw (fq_met y).1 k).1) = true) :
    ((sx_mw (fq_met y).1 k).2 = true ∧ (Cond.methodLinkNest (sx_own (fq_met y).1) k z sx_host).before args s = true) ∨ ((sx_mw (fq_met y).1 k).2 = false ∧ (Cond.methodLink (sx_own (fq_met y).1) k z).before args s = true) := by
  by_cases hn : (sx_mw (fq_met y).1 k).2 = true
  · rw [if_pos hn] at h
    have e : sx_lw (fq_met y).1 k z = .methodLinkNest (sx_own (fq_met y).1) k z sx_host := if_pos hn
    rw [e] at h
    have hm : Cond.methodLinkNest (sx_own (fq_met y).1) k z sx_host ∈ sx_nest := List.mem_filter.mpr ⟨sx_nB_mem h, rfl⟩
    exact Or.inl ⟨hn, va_Nw.use rfl (X.2.2.2.2.2.1.2.1 _ hm)⟩
  · rw [if_neg hn] at h
    have e : sx_lw (fq_met y).1 k z = .methodLink (sx_own (fq_met y).1) k z := if_neg hn
    rw [e] at h
    exact Or.inr ⟨by simpa using hn, X.2.2.2.1 _ (sx_wB_mem h)⟩
theorem sx_inv {y k w z nn ci d n pc : Nat} {i : Instr} {as S' : List Value} {σ σ1 : pm_S} {r : Option Value} (X : sx_X base ad D cI cZ ro adV y p s m args meth c)
    (hm : fq_mth (fq_met y).1 k = some (w, z, nn, ci)) (hz : z < 900) (hlen : as.length = nn) (ho : pm_okW 8 S' = true) (hrc : w = 1 → pm_rcv σ as ci) (hrf : w = 2 ∨ w = 3 → pm_ref1 as)
    (hi : (w = 0 ∧ i = .invokestatic k) ∨ (w = 1 ∧ i = .invokevirtual k) ∨ (w = 2 ∧ i = .invokespecial k) ∨ (w = 3 ∧ i = .invokevirtual k)) (hd : decode (sx_by y) pc = .ok (i, 3))
    (hM : sx_Met base ad D cI cZ ro adV l d z as σ r σ1) (hfr : d + 1 ≤ R.frames) (hlo : 40 * (d + 1) ≤ R.locals) (hS : va_S (sx_A base) s.heap H locs) (hR : sx_R base ad D cI cZ ro σ H) (hls : ls.size = (fq_met y).2.1)
    (hc : cells + (σ1.length - σ.length) ≤ R.cells) (hs : slots + (sx_sz σ1 - sx_sz σ) ≤ R.slots)
    (kk : ∀ (H1 : Heap) (locs1 : List Loc), va_S (sx_A base) s.heap H1 locs1 → sx_R base ad D cI cZ ro σ1 H1 → W p l e R s m args below meth c H1 locs1 (cells + (σ1.length - σ.length)) (slots + (sx_sz σ1 - sx_sz σ)) Q (F0 m (pc + 3) ls ((pm_pu r S').map (sx_v ad)))) :
    W p l e R s m args below meth c H locs cells slots Q (F0 m pc ls ((as.reverse ++ S').map (sx_v ad))) := by
  obtain ⟨m1, m2, m3, m4, m5, m6⟩ := sx_mth hm
  simp only [sx_mB, Bool.and_eq_true, Bool.or_eq_true, decide_eq_true_eq] at m1
  obtain ⟨m1, m7⟩ := m1
  have m7 := m7.resolve_left (fun q => by omega)
  obtain ⟨hz1, hpar, hn0, hcl, hini, hw3⟩ := m7
  have hbn : sx_bn z = sx_nm z := by
    unfold sx_bn
    split <;> first | rfl | (exfalso; omega)
  rw [hbn] at m1
  obtain ⟨w1, w2, w3, w4, w5, w6, w7, w8, w9, w10, w11⟩ := sx_yw_ok hz1 m6
  have hts := X.2.2.2.1
  have hG := sx_GoodIn hz1 m6
  have hpay := pay_in hts hG
  have hcm : Cond.code (sx_nm z) (sx_by z) (fq_met z).2.1 (sx_rt z) ∈ sx_ws z := List.mem_cons_self
  have hroom : 8 + ((fq_met z).2.1 + 11) + 40 * d ≤ R.locals := by omega
  have hfix : CallFix p m c (sx_by y) (fq_met y).2.1 s args sx_big (sx_own (fq_met y).1) := ⟨X.1, X.2.1, X.2.2.2.2.2.2.2, X.2.2.1, hts⟩
  have hPc : ∀ U : State, U.heap = H → s.WarmedH U.vm → sx_Pc base ad D cI cZ ro adV as σ (as.map (sx_v ad)).toArray U := fun U hU hW => ⟨rfl, by rw [hU]; exact hR, sx_P_warm hW (fun q h1 h2 => by rw [hU]; exact hS.2.1 q h1 h2) X.2.2.2.2.2.1, by rw [hU]; exact Nat.le_trans X.2.2.2.2.2.2.1 hS.1⟩
  have hlink := sx_linkM X m1
  have hrest : 2 * (F0 m pc ls ((as.reverse ++ S').map (sx_v ad))).monitorRoom + ((S'.map (sx_v ad)).map fun v => v.category).sum ≤ 8 := lv_room (by rw [sx_map_cat]; exact pm_okW_sum _ _ ho)
  have hsig : ∀ q : Nat, (if w = 0 then nn else nn - 1) = q → ∀ sig, parseMethodDescriptor (sx_nm z).desc = some sig → q = sig.parameters.length := by
    intro q hq sig hsg
    rw [hsg] at hpar
    have := Option.some.inj hpar
    exact hq.symm.trans this.symm
  have B : ∀ q : Nat, (if w = 0 then nn else nn - 1) = q → (Cond.methodLink (sx_own (fq_met y).1) k (sx_nm z)).before args s = true → CallB R s args (sx_own (fq_met y).1) k (sx_nm z) (sx_by z) (fq_met z).2.1 (sx_rt z) (sx_ws z) (sx_rm d (σ1.length - σ.length) (sx_sz σ1 - sx_sz σ)) (σ1.length - σ.length) (sx_sz σ1 - sx_sz σ) q :=
    fun q hq hl => ⟨rfl, rfl, hfr, hroom, hpay, hcm, hts _ w1, hts _ w2, w6, hsig q hq, hl⟩
  have BN : ∀ q : Nat, (if w = 0 then nn else nn - 1) = q → (Cond.methodLinkNest (sx_own (fq_met y).1) k (sx_nm z) sx_host).before args s = true → va_CN R s args (sx_own (fq_met y).1) k (sx_nm z) sx_host (sx_by z) (fq_met z).2.1 (sx_rt z) (sx_ws z) (sx_rm d (σ1.length - σ.length) (sx_sz σ1 - sx_sz σ)) (σ1.length - σ.length) (sx_sz σ1 - sx_sz σ) q :=
    fun q hq hl => ⟨⟨rfl, rfl, hfr, hroom, hpay, hcm⟩, hts _ w1, hts _ w2, w6, hsig q hq, hl⟩
  rcases hi with ⟨rfl, rfl⟩ | ⟨rfl, rfl⟩ | ⟨rfl, rfl⟩ | ⟨rfl, rfl⟩
  · -- static
    have hst := hts _ (w3 (m3 ⟨rfl, hz⟩))
    have hstack : (F0 m pc ls ((as.reverse ++ S').map (sx_v ad))).stack = (as.map (sx_v ad)).reverse ++ S'.map (sx_v ad) := by show (as.reverse ++ S').map (sx_v ad) = _; rw [List.map_append, List.map_reverse]
    rcases hlink with ⟨-, hl⟩ | ⟨-, hl⟩
    · exact sx_callK (va_runSN hfix hM ⟨BN nn rfl hl, hst, trivial⟩ ⟨sx_Pc_blind, hPc⟩ rfl (by rw [List.length_map]; exact hlen) hls hstack hrest hd ⟨hc, hs⟩) hS kk
    · exact sx_callK (va_runS hfix hM ⟨B nn rfl hl, hst⟩ ⟨sx_Pc_blind, hPc⟩ rfl (by rw [List.length_map]; exact hlen) hls hstack hrest hd ⟨hc, hs⟩) hS kk
  · -- of an object
    have hrc := hrc rfl
    match as, hlen, hrc, hM, hPc, hrest with
    | .ref b :: t, hlen, hrc, hM, hPc, hrest =>
      rw [pm_rcv_is] at hrc
      unfold pm_oO at hrc
      split at hrc
      next cb fs hb =>
        subst hrc
        obtain ⟨h4, h5⟩ := sx_hi hR hb
        obtain ⟨hc1, hc2⟩ := hcl rfl
        have hin := hts _ (w4 (m4 ⟨Or.inl rfl, hz⟩))
        have hsel : (Cond.selects (sx_clR cb).1 (sx_nm z) (sx_nm z)).before args s = true := by
          rw [hc2]
          exact hts _ (sx_sel (m2 rfl))
        have hrv := va_recv X.2.2.2.2.2.1.1 (sx_P1 h5) (sx_cl_get cb hc1) (q0 := 0) rfl
        have hstack : (F0 m pc ls (((Value.ref b :: t).reverse ++ S').map (sx_v ad))).stack = (t.map (sx_v ad)).reverse ++ .ref (ad b) :: S'.map (sx_v ad) := by
          show ((Value.ref b :: t).reverse ++ S').map (sx_v ad) = _
          rw [List.map_append, List.map_reverse, List.map_cons, List.reverse_cons, List.append_assoc]
          rfl
        have hl1 : (t.map (sx_v ad)).length = nn - 1 := by rw [List.length_map]; simp at hlen; omega
        rcases hlink with ⟨-, hl⟩ | ⟨-, hl⟩
        · exact sx_callK (va_runVN (C := (sx_clR cb).1) hfix hM ⟨BN (nn - 1) rfl hl, hin, hsel⟩ ⟨sx_Pc_blind, hrv, hPc⟩ rfl hl1 hls hstack hrest hd ⟨hc, hs⟩) hS kk
        · exact sx_callK (va_runV (C := (sx_clR cb).1) hfix hM ⟨B (nn - 1) rfl hl, hin, hsel⟩ ⟨sx_Pc_blind, hrv, hPc⟩ rfl hl1 hls hstack hrest hd ⟨hc, hs⟩) hS kk
      next => exact hrc.elim
  · -- a constructor
    have hrf := hrf (Or.inl rfl)
    match as, hlen, hrf, hM, hPc, hrest with
    | .ref b :: t, hlen, hrf, hM, hPc, hrest =>
      have hin := hts _ (w4 (m4 ⟨Or.inr rfl, hz⟩))
      obtain ⟨hnm, hrt⟩ := hini rfl
      have hstack : (F0 m pc ls (((Value.ref b :: t).reverse ++ S').map (sx_v ad))).stack = (t.map (sx_v ad)).reverse ++ .ref (ad b) :: S'.map (sx_v ad) := by
        show ((Value.ref b :: t).reverse ++ S').map (sx_v ad) = _
        rw [List.map_append, List.map_reverse, List.map_cons, List.reverse_cons, List.append_assoc]
        rfl
      have hl1 : (t.map (sx_v ad)).length = nn - 1 := by rw [List.length_map]; simp at hlen; omega
      rw [hrt] at B BN
      rcases hlink with ⟨-, hl⟩ | ⟨-, hl⟩
      · exact sx_callK (va_runIN hfix hM ⟨BN (nn - 1) rfl hl, hnm, hin⟩ ⟨sx_Pc_blind, hPc⟩ rfl hl1 hls hstack hrest hd ⟨hc, hs⟩) hS kk
      · exact sx_callK (va_runI hfix hM ⟨B (nn - 1) rfl hl, hnm, hin⟩ ⟨sx_Pc_blind, hPc⟩ rfl hl1 hls hstack hrest hd ⟨hc, hs⟩) hS kk
  · omega
end SI
