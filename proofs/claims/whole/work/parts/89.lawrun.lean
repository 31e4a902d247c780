/-! THE LAW on the pure machine -/
theorem law_runs (scr : List Int32) (h : scr.length ≤ 2048) : ∃ (f : Nat) (σ' : pm_S), pm_ev fqP f 100 sx_law 0 (pm_ent 4 [.ref 0]) [] (sx_st0 scr) = some (some (.int 1), σ') ∧ σ'.length ≤ 1000 ∧ sx_sz σ' ≤ 100000 := by
  sorry
