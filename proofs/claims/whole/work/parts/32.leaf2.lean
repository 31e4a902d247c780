/-! THE LEAVES of the class -/
def cl (xs : List Int32) (i : Int32) : Int32 := if 0 ≤ i ∧ i < nI xs.length then pm_rd xs i else 0
def pt (xs : List Int32) (i x : Int32) : List Int32 := if 0 ≤ i ∧ i < nI xs.length then pm_wr xs i x else xs
def bt (b i : Int32) : Int32 := (b >>> (i &&& 31)) &&& 1
def wb (b i : Int32) (c : Prop) [Decidable c] : Int32 := if c then b ||| (1 <<< (i &&& 31)) else b &&& ((1 <<< (i &&& 31)) ^^^ (-1))
theorem i_nlt (a b : Int32) : (¬ a < b) = (b ≤ a) := propext Int32.not_lt
theorem i_nle (a b : Int32) : (¬ a ≤ b) = (b < a) := propext Int32.not_le
theorem pm_inR_of {i : Int32} {n : Nat} (h0 : 0 ≤ i) (h1 : i < nI n) : pm_inR i n := by
  rw [Int32.le_iff_toInt_le] at h0
  rw [Int32.lt_iff_toInt_lt] at h1
  refine ⟨h0, Int.lt_of_lt_of_le h1 ?_⟩
  show (Int32.ofNat n).toInt ≤ n
  rw [Int32.toInt_ofNat']
  have e : (Int32.size : Int) = 4294967296 := rfl
  rw [Int.bmod_def, e]
  split <;> omega
theorem c_X_isMotion {d : Nat} {n : Int32} {σ : pm_S} {K : Option Value → pm_S → Prop} : pm_WC fqP (d + 1) 87 [.int n] σ K = K (some (.int (pm_bo (0 ≤ n ∧ n < 5)))) σ := by
  simp only [pm_WL_nil, bi_900, bi_901, bi_904, bi_905, pm_lget_0, pm_lget_s, pm_oI_s, pm_oA_s, pm_oJ_s, pm_oK_s, pm_oR_s, pm_oO_s, pm_oN_s, pm_oF_s, pm_oM_s, pm_oP_s, pm_pu_n, pm_pu_s, pm_bo_ne, pm_bo_eq, Nat.reduceAdd, Nat.reduceSub, Nat.reduceLT, Nat.reduceLeDiff, Nat.reduceEqDiff, Nat.zero_add, Nat.lt_add_one, Nat.zero_ne_one, Nat.succ_ne_self, List.length_cons, List.length_nil, true_and, and_true, true_or, or_true, false_or, or_false, false_implies, true_implies, implies_true, not_true_eq_false, not_false_eq_true, ne_eq, eq_self, e_X_isMotion, pm_okW_0, pm_okW_i, pm_okW_r, pm_okW_l, pm_ent_0, pm_ent_i, pm_ent_r, pm_ent_l, List.reduceReplicate, b_X_isMotion_0, b_X_isMotion_4, b_X_isMotion_9, b_X_isMotion_13, b_X_isMotion_14, w_iload0, w_if_lt, pm_tgt_is, Int.cast_ofNat_Int, Int.reduceNeg, Int.reduceAdd, Int.reduceToNat, Int.zero_add, Int.zero_le_ofNat, Int.reduceLE, w_iconst, ki_5, w_icmp_ge, ki_1, w_goto, ki_0, w_iret, lg_87, pm_fit_b, pm_fit_0, pm_fit_1, Bool.false_eq_true]
  by_cases a : n < 0
  · rw [if_pos a]; simp [pm_bo, Int32.not_le.mpr a]
  · rw [if_neg a]
    by_cases b : 5 ≤ n
    · rw [if_pos b]; simp [pm_bo, Int32.not_lt.mpr b]
    · rw [if_neg b]; simp [pm_bo, Int32.not_lt.mp a, Int32.not_le.mp b]
theorem c_X_cell {d : Nat} {k : Nat} {n : Int32} {σ : pm_S} {K : Option Value → pm_S → Prop} (ha : pm_isA σ k) : pm_WC fqP (d + 1) 91 [.ref k, .int n] σ K = K (some (.int (cl (pm_ar σ k) n))) σ := by
  obtain ⟨t, xs, hk, ht⟩ := ha
  simp only [pm_WL_nil, bi_900, bi_901, bi_904, bi_905, pm_lget_0, pm_lget_s, pm_oI_s, pm_oA_s, pm_oJ_s, pm_oK_s, pm_oR_s, pm_oO_s, pm_oN_s, pm_oF_s, pm_oM_s, pm_oP_s, pm_pu_n, pm_pu_s, pm_bo_ne, pm_bo_eq, Nat.reduceAdd, Nat.reduceSub, Nat.reduceLT, Nat.reduceLeDiff, Nat.reduceEqDiff, Nat.zero_add, Nat.lt_add_one, Nat.zero_ne_one, Nat.succ_ne_self, List.length_cons, List.length_nil, true_and, and_true, true_or, or_true, false_or, or_false, false_implies, true_implies, implies_true, not_true_eq_false, not_false_eq_true, ne_eq, eq_self, e_X_cell, pm_okW_0, pm_okW_i, pm_okW_r, pm_okW_l, pm_ent_0, pm_ent_i, pm_ent_r, pm_ent_l, List.reduceReplicate, b_X_cell_0, b_X_cell_4, b_X_cell_10, b_X_cell_16, b_X_cell_17, w_iload1, w_if_lt, pm_tgt_is, Int.cast_ofNat_Int, Int.reduceNeg, Int.reduceAdd, Int.reduceToNat, Int.zero_add, Int.zero_le_ofNat, Int.reduceLE, w_aload0, w_alen, w_icmp_ge, w_iaload, w_goto, w_iconst, ki_0, w_iret, lg_91, pm_fit_b, pm_fit_0, pm_fit_1, Bool.false_eq_true, hk]
  have e : pm_ar σ k = xs := by simp [pm_ar, hk]
  rw [e]
  by_cases a : n < 0
  · rw [if_pos a, cl, if_neg (fun q => Int32.not_le.mpr a q.1)]
  · rw [if_neg a]
    by_cases b : nI xs.length ≤ n
    · rw [if_pos b, cl, if_neg (fun q => Int32.not_lt.mpr b q.2)]
    · rw [if_neg b, cl, if_pos ⟨Int32.not_lt.mp a, Int32.not_le.mp b⟩]
      exact propext ⟨fun q => q.2, fun q => ⟨⟨ht, pm_inR_of (Int32.not_lt.mp a) (Int32.not_le.mp b)⟩, q⟩⟩
theorem c_X_put {d : Nat} {k : Nat} {n x : Int32} {σ : pm_S} {K : Option Value → pm_S → Prop} (ha : pm_isW σ k) : pm_WC fqP (d + 1) 92 [.ref k, .int n, .int x] σ K = K none (pm_hs σ k (.inr (0, pt (pm_ar σ k) n x))) := by
  obtain ⟨xs, hk⟩ := ha
  simp only [pm_WL_nil, bi_900, bi_901, bi_904, bi_905, pm_lget_0, pm_lget_s, pm_oI_s, pm_oA_s, pm_oJ_s, pm_oK_s, pm_oR_s, pm_oO_s, pm_oN_s, pm_oF_s, pm_oM_s, pm_oP_s, pm_pu_n, pm_pu_s, pm_bo_ne, pm_bo_eq, Nat.reduceAdd, Nat.reduceSub, Nat.reduceLT, Nat.reduceLeDiff, Nat.reduceEqDiff, Nat.zero_add, Nat.lt_add_one, Nat.zero_ne_one, Nat.succ_ne_self, List.length_cons, List.length_nil, true_and, and_true, true_or, or_true, false_or, or_false, false_implies, true_implies, implies_true, not_true_eq_false, not_false_eq_true, ne_eq, eq_self, e_X_put, pm_okW_0, pm_okW_i, pm_okW_r, pm_okW_l, pm_ent_0, pm_ent_i, pm_ent_r, pm_ent_l, List.reduceReplicate, b_X_put_0, b_X_put_4, b_X_put_10, b_X_put_14, w_iload1, w_if_lt, pm_tgt_is, Int.cast_ofNat_Int, Int.reduceNeg, Int.reduceAdd, Int.reduceToNat, Int.zero_add, Int.zero_le_ofNat, Int.reduceLE, w_aload0, w_alen, w_icmp_ge, w_iload2, w_iastore, w_ret, hk]
  have e : pm_ar σ k = xs := by simp [pm_ar, hk]
  have e2 : pm_hs σ k (.inr (0, xs)) = σ := by
    unfold pm_hs pm_hg at *
    obtain ⟨hlt, hv⟩ := List.getElem?_eq_some_iff.mp hk
    rw [← hv]; exact List.set_getElem_self hlt
  rw [e]
  by_cases a : n < 0
  · rw [if_pos a, pt, if_neg (fun q => Int32.not_le.mpr a q.1), e2]
  · rw [if_neg a]
    by_cases b : nI xs.length ≤ n
    · rw [if_pos b, pt, if_neg (fun q => Int32.not_lt.mpr b q.2), e2]
    · rw [if_neg b, pt, if_pos ⟨Int32.not_lt.mp a, Int32.not_le.mp b⟩]
      exact propext ⟨fun q => q.2, fun q => ⟨pm_inR_of (Int32.not_lt.mp a) (Int32.not_le.mp b), q⟩⟩
theorem c_X_copy {d : Nat} {a b : Nat} {σ : pm_S} {K : Option Value → pm_S → Prop} (ha : pm_isW σ a) (hb : pm_isW σ b) (hl : (pm_ar σ a).length = (pm_ar σ b).length) (hl2 : (pm_ar σ a).length < 2 ^ 31) : pm_WC fqP (d + 6) 94 [.ref a, .ref b] σ K = K none (pm_hs σ b (.inr (0, pm_ar σ a))) := by
  obtain ⟨xs, hk⟩ := ha
  obtain ⟨ys, hj⟩ := hb
  have e : pm_ar σ a = xs := by simp [pm_ar, hk]
  have e2 : pm_ar σ b = ys := by simp [pm_ar, hj]
  rw [e] at hl hl2; rw [e2] at hl
  simp only [pm_WL_nil, bi_900, bi_901, bi_904, bi_905, pm_lget_0, pm_lget_s, pm_oI_s, pm_oA_s, pm_oJ_s, pm_oK_s, pm_oR_s, pm_oO_s, pm_oN_s, pm_oF_s, pm_oM_s, pm_oP_s, pm_pu_n, pm_pu_s, pm_bo_ne, pm_bo_eq, Nat.reduceAdd, Nat.reduceSub, Nat.reduceLT, Nat.reduceLeDiff, Nat.reduceEqDiff, Nat.zero_add, Nat.lt_add_one, Nat.zero_ne_one, Nat.succ_ne_self, List.length_cons, List.length_nil, true_and, and_true, true_or, or_true, false_or, or_false, false_implies, true_implies, implies_true, not_true_eq_false, not_false_eq_true, ne_eq, eq_self, e_X_copy, pm_okW_0, pm_okW_i, pm_okW_r, pm_okW_l, pm_ent_0, pm_ent_i, pm_ent_r, pm_ent_l, List.reduceReplicate, b_X_copy_0, w_aload0, w_iconst, ki_0, w_aload1, w_alen, w_invs, lg_94, lm_7_306, pm_pop_0, pm_pop_s, pm_rcv_is, pm_ref1_is, lm_7_311, w_ret, hk, hj, e]
  rw [← hl]
  simp [Int32.lt_irrefl, hl2]
theorem c_X_bit {d : Nat} {b n : Int32} {σ : pm_S} {K : Option Value → pm_S → Prop} : pm_WC fqP (d + 1) 95 [.int b, .int n] σ K = K (some (.int (bt b n))) σ := by
  simp only [pm_WL_nil, bi_900, bi_901, bi_904, bi_905, pm_lget_0, pm_lget_s, pm_oI_s, pm_oA_s, pm_oJ_s, pm_oK_s, pm_oR_s, pm_oO_s, pm_oN_s, pm_oF_s, pm_oM_s, pm_oP_s, pm_pu_n, pm_pu_s, pm_bo_ne, pm_bo_eq, Nat.reduceAdd, Nat.reduceSub, Nat.reduceLT, Nat.reduceLeDiff, Nat.reduceEqDiff, Nat.zero_add, Nat.lt_add_one, Nat.zero_ne_one, Nat.succ_ne_self, List.length_cons, List.length_nil, true_and, and_true, true_or, or_true, false_or, or_false, false_implies, true_implies, implies_true, not_true_eq_false, not_false_eq_true, ne_eq, eq_self, e_X_bit, pm_okW_0, pm_okW_i, pm_okW_r, pm_okW_l, pm_ent_0, pm_ent_i, pm_ent_r, pm_ent_l, List.reduceReplicate, b_X_bit_0, w_iload0, w_iload1, w_ishr, w_iconst, ki_1, w_iand, w_iret, lg_95, pm_fit_b, pm_fit_0, pm_fit_1, Bool.false_eq_true]
  rfl
theorem c_X_withBit {d : Nat} {b n z : Int32} {σ : pm_S} {K : Option Value → pm_S → Prop} : pm_WC fqP (d + 1) 96 [.int b, .int n, .int z] σ K = K (some (.int (wb b n (¬ z = 0)))) σ := by
  simp only [pm_WL_nil, bi_900, bi_901, bi_904, bi_905, pm_lget_0, pm_lget_s, pm_oI_s, pm_oA_s, pm_oJ_s, pm_oK_s, pm_oR_s, pm_oO_s, pm_oN_s, pm_oF_s, pm_oM_s, pm_oP_s, pm_pu_n, pm_pu_s, pm_bo_ne, pm_bo_eq, Nat.reduceAdd, Nat.reduceSub, Nat.reduceLT, Nat.reduceLeDiff, Nat.reduceEqDiff, Nat.zero_add, Nat.lt_add_one, Nat.zero_ne_one, Nat.succ_ne_self, List.length_cons, List.length_nil, true_and, and_true, true_or, or_true, false_or, or_false, false_implies, true_implies, implies_true, not_true_eq_false, not_false_eq_true, ne_eq, eq_self, e_X_withBit, pm_okW_0, pm_okW_i, pm_okW_r, pm_okW_l, pm_ent_0, pm_ent_i, pm_ent_r, pm_ent_l, List.reduceReplicate, b_X_withBit_0, b_X_withBit_4, b_X_withBit_12, b_X_withBit_19, w_iload2, w_if_eq, pm_tgt_is, Int.cast_ofNat_Int, Int.reduceNeg, Int.reduceAdd, Int.reduceToNat, Int.zero_add, Int.zero_le_ofNat, Int.reduceLE, w_iload0, w_iconst, ki_1, w_iload1, w_ishl, w_ior, w_goto, ki_m1, w_ixor, w_iand, w_iret, lg_96, pm_fit_b, pm_fit_0, pm_fit_1, Bool.false_eq_true]
  by_cases a : z = 0
  · rw [if_pos a, wb, if_neg (fun q => q a)]
  · rw [if_neg a, wb, if_pos a]
