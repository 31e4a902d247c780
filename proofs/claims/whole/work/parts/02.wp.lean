/-! WHAT HOLDS BEHIND A RUN of the pure machine, and a row an instruction -/
theorem pm_ev_mono (P : pm_T) : ∀ (f d y pc : Nat) (L : pm_L) (S : List Value) (σ : pm_S) (x : Option Value × pm_S), pm_ev P f d y pc L S σ = some x → pm_ev P (f + 1) d y pc L S σ = some x := by
  intro f
  induction f with
  | zero => intro d y pc L S σ x h; simp [pm_ev] at h
  | succ f ih =>
    intro d y pc L S σ x h
    rw [pm_ev] at h ⊢
    cases hf : pm_fet P y pc with
    | none => rw [hf] at h; simp at h
    | some q =>
      obtain ⟨i, n⟩ := q
      rw [hf] at h
      simp only at h ⊢
      cases hs : pm_stp P y i n pc L S σ with
      | none => rw [hs] at h; simp at h
      | some a =>
        rw [hs] at h
        rcases a with ⟨pc', L', S', σ'⟩ | ⟨z, as, S'⟩ | r
        · simp only at h ⊢
          exact ih _ _ _ _ _ _ _ h
        · simp only at h ⊢
          by_cases hz : 900 ≤ z
          · rw [if_pos hz] at h ⊢
            cases hb : pm_bif P d z as σ with
            | none => rw [hb] at h; simp at h
            | some q =>
              obtain ⟨r, σ'⟩ := q
              rw [hb] at h
              simp only at h ⊢
              exact ih _ _ _ _ _ _ _ h
          · rw [if_neg hz] at h ⊢
            cases d with
            | zero => simp at h
            | succ d =>
              simp only at h ⊢
              by_cases ho : pm_okW (pm_met P z).2.1 as = true
              · rw [if_pos ho] at h ⊢
                cases hc : pm_ev P f d z 0 (pm_ent (pm_met P z).2.1 as) [] σ with
                | none => rw [hc] at h; simp at h
                | some q =>
                  obtain ⟨r, σ'⟩ := q
                  rw [hc] at h
                  rw [ih _ _ _ _ _ _ _ hc]
                  simp only at h ⊢
                  exact ih _ _ _ _ _ _ _ h
              · rw [if_neg ho] at h; simp at h
        · exact h
theorem pm_ev_le (P : pm_T) {f g d y pc : Nat} {L : pm_L} {S : List Value} {σ : pm_S} {x : Option Value × pm_S} (hg : f ≤ g) (h : pm_ev P f d y pc L S σ = some x) : pm_ev P g d y pc L S σ = some x := by
  obtain ⟨k, rfl⟩ := Nat.le.dest hg
  clear hg
  induction k with
  | zero => exact h
  | succ k ih => exact pm_ev_mono P _ _ _ _ _ _ _ _ ih
theorem pm_ev_same (P : pm_T) {f g d y pc : Nat} {L : pm_L} {S : List Value} {σ : pm_S} {x z : Option Value × pm_S} (h : pm_ev P f d y pc L S σ = some x) (h2 : pm_ev P g d y pc L S σ = some z) : x = z := by
  have a := pm_ev_le P (Nat.le_max_left f g) h
  have b := pm_ev_le P (Nat.le_max_right f g) h2
  rw [a] at b
  exact Option.some.inj b
/-- from here on the method ends, and behind it Q holds -/
def pm_W (P : pm_T) (d y pc : Nat) (L : pm_L) (S : List Value) (σ : pm_S) (Q : Option Value → pm_S → Prop) : Prop := ∃ (f : Nat) (r : Option Value) (σ' : pm_S), pm_ev P f d y pc L S σ = some (r, σ') ∧ Q r σ'
def pm_WB (o : Option (Option Value × pm_S)) (K : Option Value → pm_S → Prop) : Prop := match o with
  | some (r, σ') => K r σ'
  | none => False
/-- a call with d calls left ends, and behind it K holds -/
def pm_WC (P : pm_T) (d z : Nat) (as : List Value) (σ : pm_S) (K : Option Value → pm_S → Prop) : Prop :=
  if 900 ≤ z then pm_WB (pm_bif P d z as σ) K else match d with
    | 0 => False
    | d' + 1 => pm_okW (pm_met P z).2.1 as = true ∧ pm_W P d' z 0 (pm_ent (pm_met P z).2.1 as) [] σ K
theorem pm_W_mono {P : pm_T} {d y pc : Nat} {L : pm_L} {S : List Value} {σ : pm_S} {Q Q' : Option Value → pm_S → Prop} (h : pm_W P d y pc L S σ Q) (hq : ∀ r s, Q r s → Q' r s) : pm_W P d y pc L S σ Q' := by
  obtain ⟨f, r, σ', h1, h2⟩ := h
  exact ⟨f, r, σ', h1, hq _ _ h2⟩
theorem pm_WC_mono {P : pm_T} {d z : Nat} {as : List Value} {σ : pm_S} {Q Q' : Option Value → pm_S → Prop} (h : pm_WC P d z as σ Q) (hq : ∀ r s, Q r s → Q' r s) : pm_WC P d z as σ Q' := by
  unfold pm_WC at h ⊢
  by_cases hz : 900 ≤ z
  · rw [if_pos hz] at h ⊢
    cases hb : pm_bif P d z as σ with
    | none => rw [hb] at h; exact h
    | some q => rw [hb] at h; exact hq _ _ h
  · rw [if_neg hz] at h ⊢
    cases d with
    | zero => exact h
    | succ d => exact ⟨h.1, pm_W_mono h.2 hq⟩
theorem pm_W_det {P : pm_T} {d y pc : Nat} {L : pm_L} {S : List Value} {σ : pm_S} {r0 : Option Value} {s0 : pm_S} (h : pm_W P d y pc L S σ (fun r s => r = r0 ∧ s = s0)) (K : Option Value → pm_S → Prop) : pm_W P d y pc L S σ K = K r0 s0 := by
  obtain ⟨f, r, σ', h1, rfl, rfl⟩ := h
  refine propext ⟨fun h => ?_, fun h => ⟨f, _, _, h1, h⟩⟩
  obtain ⟨g, r2, s2, h3, h4⟩ := h
  cases pm_ev_same P h1 h3
  exact h4
/-- an exact answer -/
theorem pm_WC_det {P : pm_T} {d z : Nat} {as : List Value} {σ : pm_S} {r0 : Option Value} {s0 : pm_S} (h : pm_WC P d z as σ (fun r s => r = r0 ∧ s = s0)) (K : Option Value → pm_S → Prop) : pm_WC P d z as σ K = K r0 s0 := by
  unfold pm_WC at h ⊢
  by_cases hz : 900 ≤ z
  · rw [if_pos hz] at h ⊢
    cases hb : pm_bif P d z as σ with
    | none => rw [hb] at h; exact h.elim
    | some q => rw [hb] at h; obtain ⟨r, s⟩ := q; obtain ⟨rfl, rfl⟩ := h; rfl
  · rw [if_neg hz] at h ⊢
    cases d with
    | zero => exact h.elim
    | succ d =>
      simp only at h ⊢
      rw [pm_W_det h.2]
      exact propext ⟨fun q => q.2, fun q => ⟨h.1, q⟩⟩
def pm_isJ : Instr → Bool
  | .goto _ => true
  | .ifCond _ _ => true
  | .if_icmp _ _ => true
  | .tableswitch _ _ _ _ => true
  | .lookupswitch _ _ => true
  | _ => false
/-- the same over a written piece of code; a jump leaves it -/
def pm_WL (P : pm_T) (d y : Nat) : Nat → List pm_I → pm_L → List Value → pm_S → (Option Value → pm_S → Prop) → Prop
  | pc, [], L, S, σ, Q => pm_W P d y pc L S σ Q
  | pc, (i, n) :: r, L, S, σ, Q => match pm_stp P y i n pc L S σ with
    | none => False
    | some (.inl (pc', L', S', σ')) => if pm_isJ i = false ∧ pc' = pc + n then pm_WL P d y (pc + n) r L' S' σ' Q else pm_W P d y pc' L' S' σ' Q
    | some (.inr (.inr v)) => Q v σ
    | some (.inr (.inl (z, as, S'))) => pm_WC P d z as σ (fun v σ' => pm_WL P d y (pc + n) r L (pm_pu v S') σ' Q)
def pm_at (P : pm_T) (y : Nat) : Nat → List pm_I → Prop
  | _, [] => True
  | pc, (i, n) :: r => pm_fet P y pc = some (i, n) ∧ pm_at P y (pc + n) r
/-- one step of a run -/
theorem pm_W_one {P : pm_T} {d y pc n : Nat} {i : Instr} {L : pm_L} {S : List Value} {σ : pm_S} {Q : Option Value → pm_S → Prop} (hf : pm_fet P y pc = some (i, n)) : pm_W P d y pc L S σ Q ↔ (match pm_stp P y i n pc L S σ with
    | none => False
    | some (.inl (pc', L', S', σ')) => pm_W P d y pc' L' S' σ' Q
    | some (.inr (.inr v)) => Q v σ
    | some (.inr (.inl (z, as, S'))) => pm_WC P d z as σ (fun v σ' => pm_W P d y (pc + n) L (pm_pu v S') σ' Q)) := by
  constructor
  · rintro ⟨f, r, σ', h, hq⟩
    cases f with
    | zero => simp [pm_ev] at h
    | succ f =>
      rw [pm_ev, hf] at h
      simp only at h
      cases hs : pm_stp P y i n pc L S σ with
      | none => rw [hs] at h; simp at h
      | some a =>
        rw [hs] at h
        rcases a with ⟨pc', L', S', σ'⟩ | ⟨z, as, S'⟩ | v
        · exact ⟨f, _, _, h, hq⟩
        · simp only at h ⊢
          unfold pm_WC
          by_cases hz : 900 ≤ z
          · rw [if_pos hz] at h ⊢
            cases hb : pm_bif P d z as σ with
            | none => rw [hb] at h; simp at h
            | some q =>
              obtain ⟨r2, s2⟩ := q
              rw [hb] at h
              exact ⟨f, _, _, h, hq⟩
          · rw [if_neg hz] at h ⊢
            cases d with
            | zero => simp at h
            | succ d =>
              simp only at h ⊢
              by_cases ho : pm_okW (pm_met P z).2.1 as = true
              · rw [if_pos ho] at h
                refine ⟨ho, ?_⟩
                cases hc : pm_ev P f d z 0 (pm_ent (pm_met P z).2.1 as) [] σ with
                | none => rw [hc] at h; simp at h
                | some q =>
                  obtain ⟨r2, s2⟩ := q
                  rw [hc] at h
                  exact ⟨f, _, _, hc, f, _, _, h, hq⟩
              · rw [if_neg ho] at h; simp at h
        · simp only [Option.some.injEq, Prod.mk.injEq] at h
          obtain ⟨rfl, rfl⟩ := h
          exact hq
  · intro h
    cases hs : pm_stp P y i n pc L S σ with
    | none => rw [hs] at h; exact h.elim
    | some a =>
      rw [hs] at h
      rcases a with ⟨pc', L', S', σ'⟩ | ⟨z, as, S'⟩ | v
      · obtain ⟨f, r, s, h1, h2⟩ := h
        refine ⟨f + 1, r, s, ?_, h2⟩
        rw [pm_ev, hf]
        simp only [hs]
        exact h1
      · simp only at h
        unfold pm_WC at h
        by_cases hz : 900 ≤ z
        · rw [if_pos hz] at h
          cases hb : pm_bif P d z as σ with
          | none => rw [hb] at h; exact h.elim
          | some q =>
            obtain ⟨r2, s2⟩ := q
            rw [hb] at h
            obtain ⟨f, r, s, h1, h2⟩ := h
            refine ⟨f + 1, r, s, ?_, h2⟩
            rw [pm_ev, hf]
            simp only [hs, if_pos hz, hb]
            exact h1
        · rw [if_neg hz] at h
          cases d with
          | zero => exact h.elim
          | succ d =>
            obtain ⟨ho, f1, r1, s1, hc, f2, r, s, h1, h2⟩ := h
            refine ⟨max f1 f2 + 1, r, s, ?_, h2⟩
            rw [pm_ev, hf]
            simp only [hs, if_neg hz, if_pos ho, pm_ev_le P (Nat.le_max_left f1 f2) hc]
            exact pm_ev_le P (Nat.le_max_right f1 f2) h1
      · refine ⟨1, v, σ, ?_, h⟩
        rw [pm_ev, hf]
        simp only [hs]
theorem pm_W_WL {P : pm_T} {d y : Nat} : ∀ (lst : List pm_I) (pc : Nat) (L : pm_L) (S : List Value) (σ : pm_S) (Q : Option Value → pm_S → Prop), pm_at P y pc lst → pm_W P d y pc L S σ Q = pm_WL P d y pc lst L S σ Q := by
  intro lst
  induction lst with
  | nil => intro pc L S σ Q _; rfl
  | cons q r ih =>
    intro pc L S σ Q ha
    obtain ⟨i, n⟩ := q
    obtain ⟨hf, ha⟩ := ha
    rw [propext (pm_W_one hf), pm_WL]
    cases hs : pm_stp P y i n pc L S σ with
    | none => rfl
    | some a =>
      rcases a with ⟨pc', L', S', σ'⟩ | ⟨z, as, S'⟩ | v
      · simp only
        by_cases hj : pm_isJ i = false ∧ pc' = pc + n
        · rw [if_pos hj, hj.2, ih _ _ _ _ _ ha]
        · rw [if_neg hj]
      · simp only
        congr 1
        funext v s
        exact ih _ _ _ _ _ ha
      · rfl
