/-! WHAT EVERY RUN KEEPS: the script, and which object is of which class; what kind of answer comes -/
def KP (xs : List Int32) (σ : pm_S) : Prop := pm_hg σ 0 = some (.inr (2, xs)) ∧ ∃ fs, pm_hg σ 85 = some (.inl (8, fs))
theorem hg_hs {σ : pm_S} {k j : Nat} {c : pm_C} (h : ¬ j = k) : pm_hg (pm_hs σ k c) j = pm_hg σ j := by
  unfold pm_hg pm_hs
  rw [List.getElem?_set, if_neg (fun e => h e.symm)]
theorem hg_hse {σ : pm_S} {k : Nat} {c c0 : pm_C} (h : pm_hg σ k = some c0) : pm_hg (pm_hs σ k c) k = some c := by
  unfold pm_hg at h
  unfold pm_hg pm_hs
  have := (List.getElem?_eq_some_iff.mp h).1
  rw [List.getElem?_set, if_pos rfl, if_pos this]
theorem kp_arr {xs : List Int32} {σ : pm_S} {k t t2 : Nat} {ys zs : List Int32} (hk : KP xs σ) (h : pm_hg σ k = some (.inr (t, ys))) (ht : ¬ t = 2) : KP xs (pm_hs σ k (.inr (t2, zs))) := by
  obtain ⟨h1, fs, h2⟩ := hk
  refine ⟨?_, fs, ?_⟩
  · rw [hg_hs, h1]
    intro e
    subst e
    rw [h1] at h
    cases h
    exact ht rfl
  · rw [hg_hs, h2]
    intro e
    subst e
    rw [h2] at h
    cases h
theorem kp_obj {xs : List Int32} {σ : pm_S} {k c : Nat} {fs gs : List Value} (hk : KP xs σ) (h : pm_hg σ k = some (.inl (c, fs))) : KP xs (pm_hs σ k (.inl (c, gs))) := by
  obtain ⟨h1, es, h2⟩ := hk
  refine ⟨?_, ?_⟩
  · rw [hg_hs, h1]
    intro e
    subst e
    rw [h1] at h
    cases h
  · by_cases e : 85 = k
    · subst e
      rw [h2] at h
      cases h
      exact ⟨gs, hg_hse h2⟩
    · exact ⟨es, by rw [hg_hs e, h2]⟩
theorem kp_obj2 {xs : List Int32} {σ : pm_S} {k c c' : Nat} {fs gs : List Value} {R : Prop} (hk : KP xs σ) (h : pm_hg σ k = some (.inl (c', fs))) (e : c = c' ∧ R) : KP xs (pm_hs σ k (.inl (c, gs))) := by
  obtain ⟨rfl, _⟩ := e
  exact kp_obj hk h
theorem kp_app {xs : List Int32} {σ t : pm_S} (hk : KP xs σ) : KP xs (σ ++ t) := by
  obtain ⟨h1, es, h2⟩ := hk
  unfold pm_hg at h1 h2
  refine ⟨?_, es, ?_⟩
  · unfold pm_hg
    rw [List.getElem?_append_left (List.getElem?_eq_some_iff.mp h1).1, h1]
  · unfold pm_hg
    rw [List.getElem?_append_left (List.getElem?_eq_some_iff.mp h2).1, h2]
theorem cgo_no {σ : pm_S} {z ci : Nat} {S as : List Value} {w : Nat} {a : Nat × pm_L × List Value × pm_S} : ¬ pm_cgo σ z ci S w as = some (.inl a) := by
  intro h
  unfold pm_cgo at h
  repeat' (split at h)
  all_goals cases h
theorem call_no {P : pm_T} {y idx way : Nat} {S : List Value} {σ : pm_S} {a : Nat × pm_L × List Value × pm_S} : ¬ pm_call P y idx way S σ = some (.inl a) := by
  intro h
  unfold pm_call at h
  repeat' (split at h)
  all_goals first | (cases h; done) | exact cgo_no h
theorem cgo_nr {σ : pm_S} {z ci : Nat} {S as : List Value} {w : Nat} {a : Option Value} : ¬ pm_cgo σ z ci S w as = some (.inr (.inr a)) := by
  intro h
  unfold pm_cgo at h
  repeat' (split at h)
  all_goals cases h
theorem call_nr {P : pm_T} {y idx way : Nat} {S : List Value} {σ : pm_S} {a : Option Value} : ¬ pm_call P y idx way S σ = some (.inr (.inr a)) := by
  intro h
  unfold pm_call at h
  repeat' (split at h)
  all_goals first | (cases h; done) | exact cgo_nr h
theorem kp_stp {P : pm_T} {y n pc pc' : Nat} {i : Instr} {L L' : pm_L} {S S' : List Value} {σ σ' : pm_S} {xs : List Int32} (h : pm_stp P y i n pc L S σ = some (.inl (pc', L', S', σ'))) (hk : KP xs σ) : KP xs σ' := by
  unfold pm_stp at h
  split at h <;> (try unfold pm_ldI pm_ldA pm_ldL at h) <;> (try unfold pm_ldI at h) <;> (try unfold pm_ldA at h) <;> (try unfold pm_ldL at h) <;> (try unfold pm_stI at h) <;> (try unfold pm_stA at h) <;> (try unfold pm_stL at h) <;> (try unfold pm_b2 at h) <;> (try unfold pm_l2 at h)
  all_goals repeat' (split at h)
  all_goals first
    | (cases h; done)
    | exact absurd h call_no
    | (simp only [pm_nx, Option.some.injEq, Sum.inl.injEq, Prod.mk.injEq] at h
       obtain ⟨_, _, _, rfl⟩ := h
       first
         | exact hk
         | exact kp_app hk
         | exact kp_arr hk (by assumption) (by omega)
         | exact kp_obj2 hk (by assumption) (by assumption))
theorem ret_stp {P : pm_T} {y n pc : Nat} {i : Instr} {L : pm_L} {S : List Value} {σ : pm_S} {r : Option Value} (h : pm_stp P y i n pc L S σ = some (.inr (.inr r))) : (i = .ireturn ∧ ∃ x, r = some (.int x)) ∨ (i = .lreturn ∧ ∃ x, r = some (.long x)) ∨ i = .return_ := by
  unfold pm_stp at h
  split at h <;> (try unfold pm_ldI pm_ldA pm_ldL at h) <;> (try unfold pm_ldI at h) <;> (try unfold pm_ldA at h) <;> (try unfold pm_ldL at h) <;> (try unfold pm_stI at h) <;> (try unfold pm_stA at h) <;> (try unfold pm_stL at h) <;> (try unfold pm_b2 at h) <;> (try unfold pm_l2 at h)
  all_goals repeat' (split at h)
  all_goals first
    | (cases h; done)
    | (simp only [pm_nx] at h; cases h; done)
    | exact absurd h call_nr
    | (cases h; exact Or.inl ⟨rfl, _, rfl⟩)
    | (cases h; exact Or.inr (Or.inl ⟨rfl, _, rfl⟩))
    | exact Or.inr (Or.inr rfl)
theorem kp_bif {P : pm_T} {d z : Nat} {as : List Value} {σ σ' : pm_S} {r : Option Value} {xs : List Int32} (h : pm_bif P d z as σ = some (r, σ')) (hk : KP xs σ) : KP xs σ' := by
  unfold pm_bif at h
  repeat' (split at h)
  all_goals first
    | (cases h; done)
    | (cases h; exact hk)
    | (cases h; exact kp_arr hk (by assumption) (by omega))
def noR (e : Nat × pm_I) : Bool := match e.2.1 with
  | .lreturn => false
  | .return_ => false
  | _ => true
def noI (e : Nat × pm_I) : Bool := match e.2.1 with
  | .ireturn => false
  | .return_ => false
  | _ => true
def RT (z : Nat) (r : Option Value) : Prop := ((fq_code.getD z []).all noR = true → ∃ x, r = some (.int x)) ∧ ((fq_code.getD z []).all noI = true → ∃ x, r = some (.long x))
theorem look_mem {α : Type} : ∀ (l : List (Nat × α)) (k : Nat) (v : α), l.lookup k = some v → (k, v) ∈ l
  | [], k, v, h => by simp at h
  | (a, b) :: l, k, v, h => by
    rw [List.lookup_cons] at h
    by_cases e : k = a
    · subst e
      simp at h
      subst h
      exact List.mem_cons_self
    · have : (k == a) = false := by simpa using e
      rw [this] at h
      exact List.mem_cons_of_mem _ (look_mem l k v h)
theorem kp_ev {xs : List Int32} : ∀ (f d y pc : Nat) (L : pm_L) (S : List Value) (σ σ' : pm_S) (r : Option Value), pm_ev fqP f d y pc L S σ = some (r, σ') → KP xs σ → KP xs σ' ∧ RT y r := by
  intro f
  induction f with
  | zero => intro d y pc L S σ σ' r h; simp [pm_ev] at h
  | succ f ih =>
    intro d y pc L S σ σ' r h hk
    rw [pm_ev] at h
    cases hf : pm_fet fqP y pc with
    | none => rw [hf] at h; simp at h
    | some q =>
      obtain ⟨i, n⟩ := q
      rw [hf] at h
      simp only at h
      cases hs : pm_stp fqP y i n pc L S σ with
      | none => rw [hs] at h; simp at h
      | some a =>
        rw [hs] at h
        rcases a with ⟨pc2, L2, S2, σ2⟩ | ⟨z, as, S2⟩ | v
        · simp only at h
          exact ih _ _ _ _ _ _ _ _ h (kp_stp hs hk)
        · simp only at h
          by_cases hz : 900 ≤ z
          · rw [if_pos hz] at h
            cases hb : pm_bif fqP d z as σ with
            | none => rw [hb] at h; simp at h
            | some q =>
              obtain ⟨r2, σ2⟩ := q
              rw [hb] at h
              simp only at h
              exact ih _ _ _ _ _ _ _ _ h (kp_bif hb hk)
          · rw [if_neg hz] at h
            cases d with
            | zero => simp at h
            | succ d =>
              simp only at h
              by_cases ho : pm_okW (pm_met fqP z).2.1 as = true
              · rw [if_pos ho] at h
                cases hc : pm_ev fqP f d z 0 (pm_ent (pm_met fqP z).2.1 as) [] σ with
                | none => rw [hc] at h; simp at h
                | some q =>
                  obtain ⟨r2, σ2⟩ := q
                  rw [hc] at h
                  simp only at h
                  exact ih _ _ _ _ _ _ _ _ h (ih _ _ _ _ _ _ _ _ hc hk).1
              · rw [if_neg ho] at h; simp at h
        · simp only [Option.some.injEq, Prod.mk.injEq] at h
          obtain ⟨rfl, rfl⟩ := h
          have hm : (pc, (i, n)) ∈ fq_code.getD y [] := look_mem _ _ _ hf
          refine ⟨hk, fun ha => ?_, fun ha => ?_⟩
          · have := List.all_eq_true.mp ha _ hm
            rcases ret_stp hs with ⟨rfl, q⟩ | ⟨rfl, q⟩ | rfl
            · exact q
            · exact Bool.noConfusion this
            · exact Bool.noConfusion this
          · have := List.all_eq_true.mp ha _ hm
            rcases ret_stp hs with ⟨rfl, q⟩ | ⟨rfl, q⟩ | rfl
            · exact Bool.noConfusion this
            · exact q
            · exact Bool.noConfusion this
theorem wc_more {d z : Nat} {as : List Value} {σ : pm_S} {xs : List Int32} {K : Option Value → pm_S → Prop} (hz : z < 900) (h : pm_WC fqP d z as σ K) (hk : KP xs σ) : pm_WC fqP d z as σ (fun r s => K r s ∧ KP xs s ∧ RT z r) := by
  unfold pm_WC at h ⊢
  rw [if_neg (by omega)] at h ⊢
  cases d with
  | zero => exact h
  | succ d =>
    obtain ⟨h1, f, r, σ', h2, h3⟩ := h
    obtain ⟨k1, k2⟩ := kp_ev _ _ _ _ _ _ _ _ _ h2 hk
    exact ⟨h1, f, r, σ', h2, h3, k1, k2⟩
