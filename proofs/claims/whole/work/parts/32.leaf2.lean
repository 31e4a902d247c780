/-! THE LEAVES of the class -/
def cl (xs : List Int32) (i : Int32) : Int32 := if 0 ≤ i ∧ i < nI xs.length then pm_rd xs i else 0
def pt (xs : List Int32) (i x : Int32) : List Int32 := if 0 ≤ i ∧ i < nI xs.length then pm_wr xs i x else xs
def bt (b i : Int32) : Int32 := (b >>> (i &&& 31)) &&& 1
def wb (b i : Int32) (c : Prop) [Decidable c] : Int32 := if c then b ||| (1 <<< (i &&& 31)) else b &&& ((1 <<< (i &&& 31)) ^^^ (-1))
theorem pm_inR_of {i : Int32} {n : Nat} (h0 : 0 ≤ i) (h1 : i < nI n) : pm_inR i n := by
  rw [Int32.le_iff_toInt_le] at h0
  rw [Int32.lt_iff_toInt_lt] at h1
  refine ⟨h0, Int.lt_of_lt_of_le h1 ?_⟩
  show (Int32.ofNat n).toInt ≤ n
  rw [Int32.toInt_ofNat']
  exact Int.bmod_le_of_nonneg (by omega)
theorem c_X_isMotion {d : Nat} {n : Int32} {σ : pm_S} {K : Option Value → pm_S → Prop} : pm_WC fqP (d + 1) 87 [.int n] σ K = K (some (.int (pm_bo (0 ≤ n ∧ n < 5)))) σ := by
  simp only [pm_WL_nil, bi_900, bi_901, bi_904, bi_905, pm_lget_0, pm_lget_s, pm_oI_s, pm_oA_s, pm_oJ_s, pm_oK_s, pm_oR_s, pm_oO_s, pm_oN_s, pm_oF_s, pm_oM_s, pm_oP_s, pm_pu_n, pm_pu_s, pm_bo_ne, pm_bo_eq, Nat.reduceAdd, Nat.reduceSub, Nat.reduceLT, Nat.reduceLeDiff, Nat.reduceEqDiff, Nat.zero_add, Nat.lt_add_one, Nat.zero_ne_one, Nat.succ_ne_self, List.length_cons, List.length_nil, true_and, and_true, true_or, or_true, false_or, or_false, false_implies, true_implies, implies_true, not_true_eq_false, not_false_eq_true, ne_eq, eq_self, e_X_isMotion, pm_okW_0, pm_okW_i, pm_okW_r, pm_okW_l, pm_ent_0, pm_ent_i, pm_ent_r, pm_ent_l, List.reduceReplicate, b_X_isMotion_0, b_X_isMotion_4, b_X_isMotion_9, b_X_isMotion_13, b_X_isMotion_14, w_iload0, w_if_lt, pm_tgt_is, Int.cast_ofNat_Int, Int.reduceNeg, Int.reduceAdd, Int.reduceToNat, Int.zero_add, Int.zero_le_ofNat, Int.reduceLE, w_iconst, ki_5, w_icmp_ge, ki_1, w_goto, ki_0, w_iret, lg_87, pm_fit_b, pm_fit_0, pm_fit_1, Bool.false_eq_true]
  by_cases a : n < 0 <;> by_cases b : 5 ≤ n <;> simp [a, b, pm_bo]
  all_goals sorry
theorem c_X_cell {d : Nat} {k : Nat} {n : Int32} {σ : pm_S} {K : Option Value → pm_S → Prop} (ha : pm_isA σ k) : pm_WC fqP (d + 1) 91 [.ref k, .int n] σ K = K (some (.int (cl (pm_ar σ k) n))) σ := by
  obtain ⟨t, xs, hk, ht⟩ := ha
  simp only [pm_WL_nil, bi_900, bi_901, bi_904, bi_905, pm_lget_0, pm_lget_s, pm_oI_s, pm_oA_s, pm_oJ_s, pm_oK_s, pm_oR_s, pm_oO_s, pm_oN_s, pm_oF_s, pm_oM_s, pm_oP_s, pm_pu_n, pm_pu_s, pm_bo_ne, pm_bo_eq, Nat.reduceAdd, Nat.reduceSub, Nat.reduceLT, Nat.reduceLeDiff, Nat.reduceEqDiff, Nat.zero_add, Nat.lt_add_one, Nat.zero_ne_one, Nat.succ_ne_self, List.length_cons, List.length_nil, true_and, and_true, true_or, or_true, false_or, or_false, false_implies, true_implies, implies_true, not_true_eq_false, not_false_eq_true, ne_eq, eq_self, e_X_cell, pm_okW_0, pm_okW_i, pm_okW_r, pm_okW_l, pm_ent_0, pm_ent_i, pm_ent_r, pm_ent_l, List.reduceReplicate, b_X_cell_0, b_X_cell_4, b_X_cell_10, b_X_cell_16, b_X_cell_17, w_iload1, w_if_lt, pm_tgt_is, Int.cast_ofNat_Int, Int.reduceNeg, Int.reduceAdd, Int.reduceToNat, Int.zero_add, Int.zero_le_ofNat, Int.reduceLE, w_aload0, w_alen, w_icmp_ge, w_iaload, w_goto, w_iconst, ki_0, w_iret, lg_91, pm_fit_b, pm_fit_0, pm_fit_1, Bool.false_eq_true, hk]
  trace_state
  sorry
