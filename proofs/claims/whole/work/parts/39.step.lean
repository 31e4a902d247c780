/-! WHAT A TIDE CHANGES -/
def SM (k : Nat) (s t : List Int32) : Prop := t.length = s.length ∧ ∀ i, k ≤ i → gd t i = gd s i
theorem sm_rf (k : Nat) (s : List Int32) : SM k s s := ⟨rfl, fun _ _ => rfl⟩
theorem sm_tr {k : Nat} {s t u : List Int32} (a : SM k s t) (b : SM k t u) : SM k s u := ⟨b.1.trans a.1, fun i hi => (b.2 i hi).trans (a.2 i hi)⟩
theorem sm_set {k i : Nat} {s : List Int32} {x : Int32} (hi : i < k) (hl : i < s.length) : SM k s (s.set i x) := ⟨by simp, fun j hj => by rw [gd_set j hl, if_neg (by omega)]⟩
theorem sm_up {k l : Nat} {s t : List Int32} (a : SM k s t) (h : k ≤ l) : SM l s t := ⟨a.1, fun i hi => a.2 i (by omega)⟩
theorem sm_nN {k i : Nat} {s t : List Int32} (a : SM k s t) (h : k ≤ i) : nN t i = nN s i := by unfold nN; rw [a.2 i h]
theorem sm_sl {k b n : Nat} {s t : List Int32} (a : SM k s t) (h : k ≤ b) (hl : b + n ≤ s.length) : sl t b n = sl s b n := by
  apply gd_ext (by rw [sl_len hl, sl_len (by rw [a.1]; exact hl)])
  intro j hj
  rw [sl_len (by rw [a.1]; exact hl)] at hj
  rw [gd_sl hj, gd_sl hj, a.2 _ (by omega)]
theorem sl_cut {s t : List Int32} {b n : Nat} (e : ∀ i, b ≤ i → gd t i = gd s i) (hl : t.length = s.length) : sl t b n = sl s b n := by
  have el : (sl t b n).length = (sl s b n).length := by unfold sl; simp [hl]
  apply gd_ext el
  intro j hj
  have hj2 : j < n := by unfold sl at hj; rw [List.length_take] at hj; omega
  rw [gd_sl hj2, gd_sl hj2, e _ (by omega)]
theorem sm_steps {s t : List Int32} (a : SM 22 s t) : stepsOf t = stepsOf s := by
  unfold stepsOf
  rw [a.2 29 (by omega), sm_nN a (by omega), sm_nN a (i := 229 + nN s 29) (by omega), sl_cut (fun i hi => a.2 i (by omega)) a.1]
theorem sm_quo {s t : List Int32} (a : SM 22 s t) : quo t = quo s := by
  unfold quo
  rw [a.2 29 (by omega), sm_nN a (by omega), a.2 (224 + nN s 29) (by omega)]
theorem sm_rsum {s t : List Int32} (a : SM 22 s t) (f : List Int32) : rsum t f = rsum s f := by unfold rsum; rw [sm_steps a]
theorem sm_CB {c : Nat} {s t : List Int32} {h : Nat → List Int32} (a : SM 22 s t) (hb : CB c s h) : CB c t h := by
  obtain ⟨b0, b1, b2, b3, b4, b5, b6, b7⟩ := hb
  exact ⟨b0, b1, b2, b3, by rw [sm_quo a, b4], b5, b6, fun f hf => by rw [sm_rsum a, b7 f hf]⟩
theorem cb_cg {c : Nat} {s : List Int32} {h h1 : Nat → List Int32} (hb : CB c s h) (e : ∀ k, c ≤ k → k < c + 4 → h1 k = h k) : CB c s h1 := by
  unfold CB at hb ⊢
  rw [e c (by omega) (by omega), e (c + 1) (by omega) (by omega), e (c + 2) (by omega) (by omega), e (c + 3) (by omega) (by omega)]
  exact hb
theorem lo_cg {s t : List Int32} (e : ∀ p, p < 6 → gd t (6 + p) = gd s (6 + p)) : loN t = loN s := msk_cg 6 fun p hp => by unfold nN; rw [e p hp]
theorem wf_T {T U : Nat} {s : List Int32} (h : WF T s) (hu : T ≤ U) : WF U s := ⟨h.1, fun i a b c => ⟨(h.2.1 i a b c).1, by have := (h.2.1 i a b c).2; unfold bnd at this ⊢; by_cases z : i = 0 <;> simp only [z, if_true, if_false] at this ⊢ <;> omega⟩, h.2.2⟩
theorem wf_set {T i a : Nat} {s : List Int32} (h : WF T s) (hi : i < 92 ∨ (108 ≤ i ∧ i < 229)) (h29 : ¬ i = 29) (ha : a ≤ bnd T i) (ha2 : a < 2 ^ 31) : WF T (s.set i (nI a)) := by
  obtain ⟨hl, hb, hp, hh, hr⟩ := h
  have g : ∀ j, gd (s.set i (nI a)) j = if j = i then nI a else gd s j := fun j => gd_set j (by omega)
  have g2 : ∀ j, nN (s.set i (nI a)) j = if j = i then a else nN s j := fun j => by
    unfold nN; rw [g]
    by_cases e : j = i
    · rw [if_pos e, if_pos e, ni_nat ha2]
    · rw [if_neg e, if_neg e]
  refine ⟨by simp [hl], fun j h1 h2 h3 => ?_, fun k hk => ?_, ?_, ?_⟩
  · rw [g2, g]
    by_cases e : j = i
    · rw [if_pos e, if_pos e]; exact ⟨rfl, e ▸ ha⟩
    · rw [if_neg e, if_neg e]; exact hb j h1 h2 h3
  · rw [g2, g2, g, if_neg (by omega), if_neg (by omega), if_neg (by omega)]
    exact hp k hk
  · rw [g2, g, if_neg (by omega), if_neg (by omega)]
    exact hh
  · have e : stepsOf (s.set i (nI a)) = stepsOf s := by
      have g29 : gd (s.set i (nI a)) 29 = gd s 29 := by rw [g, if_neg (by omega)]
      have n29 : nN (s.set i (nI a)) 29 = nN s 29 := by rw [g2, if_neg (by omega)]
      have n22 : nN (s.set i (nI a)) (229 + nN s 29) = nN s (229 + nN s 29) := by rw [g2, if_neg (by omega)]
      unfold stepsOf
      rw [g29, n29, n22, sl_cut (s := s) (t := s.set i (nI a)) (fun j hj => by rw [g, if_neg (by omega)]) (by simp)]
    rw [e]; exact hr
theorem wf_tide {T a : Nat} {s : List Int32} (h : WF T s) (ha : a ≤ T) (ha2 : a < 2 ^ 31) : WF T (s.set 0 (nI a)) := wf_set h (by omega) (by omega) (by unfold bnd; rw [if_pos rfl]; exact ha) ha2
theorem wf_vote {T m b : Nat} {s : List Int32} (h : WF T s) (hm : m < 5) (hb : b < 2) : WF T (s.set (1 + m) (nI b)) := wf_set h (by omega) (by omega) (Nat.le_trans (Nat.le_of_lt_succ hb) (Nat.le_of_eq (by unfold bnd; rw [if_neg (by omega), if_pos (by omega)]))) (by omega)
theorem voteF_lt (s : List Int32) (hr m : Nat) : voteF s hr m < 2 := by unfold voteF; split <;> omega
theorem cN_set {T m b : Nat} {s : List Int32} (h : WF T s) (hm : m < 5) (hb : b < 2) : cN (s.set (1 + m) (nI b)) = sb (cN s) m b := by
  have hw := wf_vote h hm hb
  have h1 := cN_lt hw
  have h2 := sb_lt5 _ (cN_lt h) m hm b hb
  apply msk_ext (by omega) (by omega)
  intro k hk
  rw [tb_sb _ (by have := cN_lt h; omega) m (by omega) b hb k hk]
  by_cases e : k = 5
  · subst e
    have z : ∀ x, x < 32 → tb x 5 = 0 := by decide
    rw [z _ h1, if_neg (by omega), z _ (cN_lt h)]
  · rw [tb_c hw (by omega), tb_c h (by omega)]
    unfold nN
    rw [gd_set _ (by rw [wf_len h]; omega)]
    by_cases e2 : k = m
    · rw [if_pos (by omega), if_pos e2, ni_nat (by omega)]
    · rw [if_neg (by omega), if_neg e2]
theorem vts_ok {T hr n : Nat} {s ag : List Int32} (h : WF T s) (ha : AG ag n) : ∀ k, k ≤ 5 → WF T (vts s hr ag k) ∧ SM 6 s (vts s hr ag k) ∧ gd (vts s hr ag k) 0 = gd s 0
  | 0, _ => ⟨h, sm_rf _ _, rfl⟩
  | k + 1, hk => by
    obtain ⟨i1, i2, i3⟩ := vts_ok h ha k (by omega)
    have hm := (ha.2.2 k (by omega)).2
    rw [vts, vt1]
    refine ⟨wf_vote i1 hm (voteF_lt _ _ _), sm_tr i2 (sm_set (by omega) (by rw [wf_len i1]; omega)), ?_⟩
    rw [gd_set _ (by rw [wf_len i1]; omega), if_neg (by omega)]; exact i3
theorem goBy_ok {T n : Nat} {s ag : List Int32} (h : WF T s) (ha : AG ag n) (hT : T < 2 ^ 30) : WF (T + 1) (goBy s ag n) ∧ SM 6 s (goBy s ag n) ∧ nN (goBy s ag n) 0 = nN s 0 + 1 := by
  obtain ⟨i1, i2, i3⟩ := vts_ok (hr := here s) h ha n ha.2.1
  obtain ⟨t1, t2⟩ := wf_t h
  have e : gd s 0 + 1 = nI (nN s 0 + 1) := by rw [t1]; exact ni_add _ 1
  have aux : ∀ s1, WF T s1 → SM 6 s s1 → WF (T + 1) (s1.set 0 (gd s 0 + 1)) ∧ SM 6 s (s1.set 0 (gd s 0 + 1)) ∧ nN (s1.set 0 (gd s 0 + 1)) 0 = nN s 0 + 1 := by
    intro s1 w1 m1
    rw [e]
    refine ⟨wf_tide (wf_T w1 (by omega)) (by omega) (by omega), sm_tr m1 (sm_set (by omega) (by rw [wf_len w1]; omega)), ?_⟩
    unfold nN at *
    rw [gd_set _ (by rw [wf_len w1]; omega), if_pos rfl, ni_nat (by omega)]
  unfold goBy
  by_cases q : quo s ≤ nI (pc (here s) 6)
  · simp only [q, if_true]; exact aux _ i1 i2
  · simp only [q, if_false]; exact aux _ h (sm_rf _ _)
theorem ag_of {T : Nat} {s : List Int32} (h : WF T s) : AG (sl s 72 5) (nN s 24) := by
  have hl := wf_len h
  refine ⟨sl_len (by omega), (wf_a h).2, fun k hk => ?_⟩
  have := wf_m h hk
  unfold nN at *
  rw [gd_sl hk]; exact this
theorem cs_f {b n : Nat} {s ag f : List Int32} {h : Nat → List Int32} (hc : CS b s ag n h) (hf : f.length = 6) : CS b s ag n (up h (b + 13) f) := by
  obtain ⟨c0, c5, c6, c7, c8, c9, c10, c11, c12, c13, cb⟩ := hc
  have u : ∀ k, ¬ k = b + 13 → up h (b + 13) f k = h k := fun k hk => up_ne hk
  exact ⟨by rw [u _ (by omega)]; exact c0, by rw [u _ (by omega)]; exact c5, by rw [u _ (by omega)]; exact c6, by rw [u _ (by omega)]; exact c7, by rw [u _ (by omega)]; exact c8, by rw [u _ (by omega)]; exact c9, by rw [u _ (by omega)]; exact c10, by rw [u _ (by omega)]; exact c11, by rw [u _ (by omega)]; exact c12, by rw [up_at]; exact hf, cb_cg cb fun k h1 h2 => u k (by omega)⟩
/-- the state behind, where only the tide's own cells changed -/
theorem cs_sm {b n : Nat} {s t ag : List Int32} {h h1 : Nat → List Int32} (hc : CS b s ag n h) (hm : SM 6 s t) (hl : s.length = 934) (h0 : h1 b = [nI n, nI (cN t), gd t 0]) (h13 : (h1 (b + 13)).length = 6) (e : ∀ k, b < k → k < b + 13 → h1 k = h k) : CS b t ag n h1 := by
  obtain ⟨c0, c5, c6, c7, c8, c9, c10, c11, c12, c13, cb⟩ := hc
  refine ⟨h0, ?_, ?_, ?_, ?_, ?_, ?_, ?_, ?_, h13, cb_cg (sm_CB (sm_up hm (by omega)) cb) fun k h1 h2 => e k (by omega) (by omega)⟩
  · rw [e _ (by omega) (by omega), c5, lo_cg fun p hp => hm.2 _ (by omega), hm.2 22 (by omega)]
  · rw [e _ (by omega) (by omega), c6, sm_sl hm (by omega) (by omega)]
  · rw [e _ (by omega) (by omega), c7, sm_sl hm (by omega) (by omega)]
  · rw [e _ (by omega) (by omega), c8, sm_sl hm (by omega) (by omega)]
  · rw [e _ (by omega) (by omega), c9, sm_sl hm (by omega) (by omega)]
  · rw [e _ (by omega) (by omega), c10, sm_sl hm (by omega) (by omega)]
  · rw [e _ (by omega) (by omega), c11, sm_sl hm (by omega) (by omega)]
  · rw [e _ (by omega) (by omega), c12]
