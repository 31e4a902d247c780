/-! MORE LEAVES -/
theorem isA_W {σ : pm_S} {k : Nat} (h : pm_isW σ k) : pm_isA σ k := by obtain ⟨xs, h⟩ := h; exact ⟨0, xs, h, by decide⟩
theorem isW_hs {σ : pm_S} {k : Nat} {l : List Int32} (h : pm_isW σ k) : pm_hs σ k (.inr (0, l)) = pm_hs σ k (.inr (0, l)) := rfl
theorem i_le4 (m : Int32) : (m ≤ 4) = (m < 5) := by rw [Int32.le_iff_toInt_le, Int32.lt_iff_toInt_lt]; exact propext (show m.toInt ≤ 4 ↔ m.toInt < 5 by omega)
theorem i_le9 (m : Int32) : (m ≤ 9) = (m < 10) := by rw [Int32.le_iff_toInt_le, Int32.lt_iff_toInt_lt]; exact propext (show m.toInt ≤ 9 ↔ m.toInt < 10 by omega)
/-- what is between 0 and n is a natural -/
theorem i_rng {p : Int32} {n : Nat} (hn : n < 2 ^ 31) (h : 0 ≤ p ∧ p < nI n) : ∃ i, i < n ∧ p = nI i := by
  obtain ⟨h0, h1⟩ := h
  rw [Int32.le_iff_toInt_le] at h0
  rw [Int32.lt_iff_toInt_lt, ni_int hn] at h1
  have h0 : 0 ≤ p.toInt := h0
  refine ⟨p.toInt.toNat, by omega, ?_⟩
  apply Int32.toInt_inj.mp
  rw [ni_int (by omega)]
  omega
theorem i_rng_is {p : Int32} {n : Nat} (hn : n < 2 ^ 31) : (0 ≤ p ∧ p < nI n) = (∃ i, i < n ∧ p = nI i) := by
  refine propext ⟨i_rng hn, ?_⟩
  rintro ⟨i, hi, rfl⟩
  constructor
  · show nI 0 ≤ nI i; rw [ni_le (by omega) (by omega)]; omega
  · rw [ni_lt (by omega) hn]; exact hi
theorem c_X_isNumber {d : Nat} {n : Int32} {σ : pm_S} {K : Option Value → pm_S → Prop} : pm_WC fqP (d + 1) 86 [.int n] σ K = K (some (.int (pm_bo (0 ≤ n ∧ n < 10)))) σ := by
  simp (maxDischargeDepth := 20) (maxSteps := 2000000) only [pm_WL_nil, bi_900, bi_901, bi_904, bi_905, pm_lget_0, pm_lget_s, pm_oI_s, pm_oA_s, pm_oJ_s, pm_oK_s, pm_oR_s, pm_oO_s, pm_oN_s, pm_oF_s, pm_oM_s, pm_oP_s, pm_pu_n, pm_pu_s, pm_bo_ne, pm_bo_eq, Nat.reduceAdd, Nat.reduceSub, Nat.reduceLT, Nat.reduceLeDiff, Nat.reduceEqDiff, Nat.zero_add, Nat.lt_add_one, Nat.zero_ne_one, Nat.succ_ne_self, List.length_cons, List.length_nil, true_and, and_true, true_or, or_true, false_or, or_false, false_implies, true_implies, implies_true, not_true_eq_false, not_false_eq_true, ne_eq, eq_self, e_X_isNumber, pm_okW_0, pm_okW_i, pm_okW_r, pm_okW_l, pm_ent_0, pm_ent_i, pm_ent_r, pm_ent_l, List.reduceReplicate, b_X_isNumber_0, b_X_isNumber_4, b_X_isNumber_10, b_X_isNumber_14, b_X_isNumber_15, w_iload0, w_if_lt, pm_tgt_is, Int.cast_ofNat_Int, Int.reduceNeg, Int.reduceAdd, Int.reduceToNat, Int.zero_add, Int.zero_le_ofNat, Int.reduceLE, w_bipush, kb_9, w_icmp_gt, w_iconst, ki_1, w_goto, ki_0, w_iret, lg_86, pm_fit_b, pm_fit_0, pm_fit_1, Bool.false_eq_true]
  simp only [← i_le9]
  by_cases a : n < 0
  · rw [if_pos a]; simp [pm_bo, Int32.not_le.mpr a]
  · rw [if_neg a]
    by_cases b : 9 < n
    · rw [if_pos b]; simp [pm_bo, Int32.not_le.mpr b]
    · rw [if_neg b]; simp [pm_bo, Int32.not_lt.mp a, Int32.not_lt.mp b]
theorem c_X_isKind {d : Nat} {n : Int32} {σ : pm_S} {K : Option Value → pm_S → Prop} : pm_WC fqP (d + 1) 88 [.int n] σ K = K (some (.int (pm_bo (0 ≤ n ∧ n < 7)))) σ := by
  simp (maxDischargeDepth := 20) (maxSteps := 2000000) only [pm_WL_nil, bi_900, bi_901, bi_904, bi_905, pm_lget_0, pm_lget_s, pm_oI_s, pm_oA_s, pm_oJ_s, pm_oK_s, pm_oR_s, pm_oO_s, pm_oN_s, pm_oF_s, pm_oM_s, pm_oP_s, pm_pu_n, pm_pu_s, pm_bo_ne, pm_bo_eq, Nat.reduceAdd, Nat.reduceSub, Nat.reduceLT, Nat.reduceLeDiff, Nat.reduceEqDiff, Nat.zero_add, Nat.lt_add_one, Nat.zero_ne_one, Nat.succ_ne_self, List.length_cons, List.length_nil, true_and, and_true, true_or, or_true, false_or, or_false, false_implies, true_implies, implies_true, not_true_eq_false, not_false_eq_true, ne_eq, eq_self, e_X_isKind, pm_okW_0, pm_okW_i, pm_okW_r, pm_okW_l, pm_ent_0, pm_ent_i, pm_ent_r, pm_ent_l, List.reduceReplicate, b_X_isKind_0, b_X_isKind_4, b_X_isKind_10, b_X_isKind_14, b_X_isKind_15, w_iload0, w_if_lt, pm_tgt_is, Int.cast_ofNat_Int, Int.reduceNeg, Int.reduceAdd, Int.reduceToNat, Int.zero_add, Int.zero_le_ofNat, Int.reduceLE, w_bipush, kb_7, w_icmp_ge, w_iconst, ki_1, w_goto, ki_0, w_iret, lg_88, pm_fit_b, pm_fit_0, pm_fit_1, Bool.false_eq_true]
  by_cases a : n < 0
  · rw [if_pos a]; simp [pm_bo, Int32.not_le.mpr a]
  · rw [if_neg a]
    by_cases b : 7 ≤ n
    · rw [if_pos b]; simp [pm_bo, Int32.not_lt.mpr b]
    · rw [if_neg b]; simp [pm_bo, Int32.not_lt.mp a, Int32.not_le.mp b]
theorem c_X_isPart {d : Nat} {n : Int32} {σ : pm_S} {K : Option Value → pm_S → Prop} : pm_WC fqP (d + 1) 89 [.int n] σ K = K (some (.int (pm_bo (n = 0 ∨ n = 1)))) σ := by
  simp (maxDischargeDepth := 20) (maxSteps := 2000000) only [pm_WL_nil, bi_900, bi_901, bi_904, bi_905, pm_lget_0, pm_lget_s, pm_oI_s, pm_oA_s, pm_oJ_s, pm_oK_s, pm_oR_s, pm_oO_s, pm_oN_s, pm_oF_s, pm_oM_s, pm_oP_s, pm_pu_n, pm_pu_s, pm_bo_ne, pm_bo_eq, Nat.reduceAdd, Nat.reduceSub, Nat.reduceLT, Nat.reduceLeDiff, Nat.reduceEqDiff, Nat.zero_add, Nat.lt_add_one, Nat.zero_ne_one, Nat.succ_ne_self, List.length_cons, List.length_nil, true_and, and_true, true_or, or_true, false_or, or_false, false_implies, true_implies, implies_true, not_true_eq_false, not_false_eq_true, ne_eq, eq_self, e_X_isPart, pm_okW_0, pm_okW_i, pm_okW_r, pm_okW_l, pm_ent_0, pm_ent_i, pm_ent_r, pm_ent_l, List.reduceReplicate, b_X_isPart_0, b_X_isPart_4, b_X_isPart_9, b_X_isPart_13, b_X_isPart_14, w_iload0, w_if_eq, pm_tgt_is, Int.cast_ofNat_Int, Int.reduceNeg, Int.reduceAdd, Int.reduceToNat, Int.zero_add, Int.zero_le_ofNat, Int.reduceLE, w_iconst, ki_1, w_icmp_ne, w_goto, ki_0, w_iret, lg_89, pm_fit_b, pm_fit_0, pm_fit_1, Bool.false_eq_true]
  by_cases a : n = 0
  · simp [pm_bo, a]
  · by_cases b : n = 1
    · simp [pm_bo, b]
    · simp [pm_bo, a, b]
theorem c_X_exchange {d : Nat} {k : Nat} {n x : Int32} {σ : pm_S} {K : Option Value → pm_S → Prop} (ha : pm_isW σ k) : pm_WC fqP (d + 2) 93 [.ref k, .int n, .int x] σ K = K (some (.int (cl (pm_ar σ k) n))) (pm_hs σ k (.inr (0, pt (pm_ar σ k) n x))) := by
  have hb := isA_W ha
  simp (maxDischargeDepth := 20) (maxSteps := 2000000) only [pm_WL_nil, bi_900, bi_901, bi_904, bi_905, pm_lget_0, pm_lget_s, pm_oI_s, pm_oA_s, pm_oJ_s, pm_oK_s, pm_oR_s, pm_oO_s, pm_oN_s, pm_oF_s, pm_oM_s, pm_oP_s, pm_pu_n, pm_pu_s, pm_bo_ne, pm_bo_eq, Nat.reduceAdd, Nat.reduceSub, Nat.reduceLT, Nat.reduceLeDiff, Nat.reduceEqDiff, Nat.zero_add, Nat.lt_add_one, Nat.zero_ne_one, Nat.succ_ne_self, List.length_cons, List.length_nil, true_and, and_true, true_or, or_true, false_or, or_false, false_implies, true_implies, implies_true, not_true_eq_false, not_false_eq_true, ne_eq, eq_self, e_X_exchange, pm_okW_0, pm_okW_i, pm_okW_r, pm_okW_l, pm_ent_0, pm_ent_i, pm_ent_r, pm_ent_l, List.reduceReplicate, b_X_exchange_0, w_aload0, w_iload1, w_invs, lg_93, lm_7_113, pm_pop_0, pm_pop_s, pm_rcv_is, pm_ref1_is, w_istore3, pm_lset_0, pm_lset_1, pm_lset_n, pm_no2_n, pm_no2_i, pm_no2_r, pm_no2_l, w_iload2, lm_7_56, w_iload3, w_iret, pm_fit_b, pm_fit_0, pm_fit_1, Bool.false_eq_true, c_X_cell, c_X_put, ha, hb]
theorem c_M_in {d : Nat} {n a b : Int32} {σ : pm_S} {K : Option Value → pm_S → Prop} : pm_WC fqP (d + 1) 101 [.int n, .int a, .int b] σ K = K (some (.int (pm_bo (a ≤ n ∧ n ≤ b)))) σ := by
  simp (maxDischargeDepth := 20) (maxSteps := 2000000) only [pm_WL_nil, bi_900, bi_901, bi_904, bi_905, pm_lget_0, pm_lget_s, pm_oI_s, pm_oA_s, pm_oJ_s, pm_oK_s, pm_oR_s, pm_oO_s, pm_oN_s, pm_oF_s, pm_oM_s, pm_oP_s, pm_pu_n, pm_pu_s, pm_bo_ne, pm_bo_eq, Nat.reduceAdd, Nat.reduceSub, Nat.reduceLT, Nat.reduceLeDiff, Nat.reduceEqDiff, Nat.zero_add, Nat.lt_add_one, Nat.zero_ne_one, Nat.succ_ne_self, List.length_cons, List.length_nil, true_and, and_true, true_or, or_true, false_or, or_false, false_implies, true_implies, implies_true, not_true_eq_false, not_false_eq_true, ne_eq, eq_self, e_M_in, pm_okW_0, pm_okW_i, pm_okW_r, pm_okW_l, pm_ent_0, pm_ent_i, pm_ent_r, pm_ent_l, List.reduceReplicate, b_M_in_0, b_M_in_5, b_M_in_10, b_M_in_14, b_M_in_15, w_iload0, w_iload1, w_icmp_lt, pm_tgt_is, Int.cast_ofNat_Int, Int.reduceNeg, Int.reduceAdd, Int.reduceToNat, Int.zero_add, Int.zero_le_ofNat, Int.reduceLE, w_iload2, w_icmp_gt, w_iconst, ki_1, w_goto, ki_0, w_iret, lg_101, pm_fit_b, pm_fit_0, pm_fit_1, Bool.false_eq_true]
  by_cases p : n < a
  · rw [if_pos p]; simp [pm_bo, Int32.not_le.mpr p]
  · rw [if_neg p]
    by_cases q : b < n
    · rw [if_pos q]; simp [pm_bo, Int32.not_le.mpr q]
    · rw [if_neg q]; simp [pm_bo, Int32.not_lt.mp p, Int32.not_lt.mp q]
theorem c_M_isDigit {d : Nat} {n : Int32} {σ : pm_S} {K : Option Value → pm_S → Prop} : pm_WC fqP (d + 2) 102 [.int n] σ K = K (some (.int (pm_bo (0 ≤ n ∧ n < 10)))) σ := by
  simp only [← i_le9]
  simp (maxDischargeDepth := 20) (maxSteps := 2000000) only [pm_WL_nil, bi_900, bi_901, bi_904, bi_905, pm_lget_0, pm_lget_s, pm_oI_s, pm_oA_s, pm_oJ_s, pm_oK_s, pm_oR_s, pm_oO_s, pm_oN_s, pm_oF_s, pm_oM_s, pm_oP_s, pm_pu_n, pm_pu_s, pm_bo_ne, pm_bo_eq, Nat.reduceAdd, Nat.reduceSub, Nat.reduceLT, Nat.reduceLeDiff, Nat.reduceEqDiff, Nat.zero_add, Nat.lt_add_one, Nat.zero_ne_one, Nat.succ_ne_self, List.length_cons, List.length_nil, true_and, and_true, true_or, or_true, false_or, or_false, false_implies, true_implies, implies_true, not_true_eq_false, not_false_eq_true, ne_eq, eq_self, e_M_isDigit, pm_okW_0, pm_okW_i, pm_okW_r, pm_okW_l, pm_ent_0, pm_ent_i, pm_ent_r, pm_ent_l, List.reduceReplicate, b_M_isDigit_0, w_iload0, w_iconst, ki_0, w_bipush, kb_9, w_invs, lg_102, lm_8_41, pm_pop_0, pm_pop_s, pm_rcv_is, pm_ref1_is, w_iret, pm_fit_b, pm_fit_0, pm_fit_1, Bool.false_eq_true, c_M_in]
theorem c_M_isMotion {d : Nat} {n : Int32} {σ : pm_S} {K : Option Value → pm_S → Prop} : pm_WC fqP (d + 2) 103 [.int n] σ K = K (some (.int (pm_bo (0 ≤ n ∧ n < 5)))) σ := by
  simp only [← i_le4]
  simp (maxDischargeDepth := 20) (maxSteps := 2000000) only [pm_WL_nil, bi_900, bi_901, bi_904, bi_905, pm_lget_0, pm_lget_s, pm_oI_s, pm_oA_s, pm_oJ_s, pm_oK_s, pm_oR_s, pm_oO_s, pm_oN_s, pm_oF_s, pm_oM_s, pm_oP_s, pm_pu_n, pm_pu_s, pm_bo_ne, pm_bo_eq, Nat.reduceAdd, Nat.reduceSub, Nat.reduceLT, Nat.reduceLeDiff, Nat.reduceEqDiff, Nat.zero_add, Nat.lt_add_one, Nat.zero_ne_one, Nat.succ_ne_self, List.length_cons, List.length_nil, true_and, and_true, true_or, or_true, false_or, or_false, false_implies, true_implies, implies_true, not_true_eq_false, not_false_eq_true, ne_eq, eq_self, e_M_isMotion, pm_okW_0, pm_okW_i, pm_okW_r, pm_okW_l, pm_ent_0, pm_ent_i, pm_ent_r, pm_ent_l, List.reduceReplicate, b_M_isMotion_0, w_iload0, w_iconst, ki_0, ki_4, w_invs, lg_103, lm_8_41, pm_pop_0, pm_pop_s, pm_rcv_is, pm_ref1_is, w_iret, pm_fit_b, pm_fit_0, pm_fit_1, Bool.false_eq_true, c_M_in]
theorem cl_n {xs : List Int32} {i : Nat} (hi : i < xs.length) (hl : xs.length < 2 ^ 31) : cl xs (nI i) = gd xs i := by
  unfold cl
  rw [if_pos ⟨by show nI 0 ≤ nI i; rw [ni_le (by omega) (by omega)]; omega, by rw [ni_lt (by omega) hl]; exact hi⟩, ni_rd xs (by omega)]
theorem pt_n {xs : List Int32} {i : Nat} {x : Int32} (hi : i < xs.length) (hl : xs.length < 2 ^ 31) : pt xs (nI i) x = xs.set i x := by
  unfold pt
  rw [if_pos ⟨by show nI 0 ≤ nI i; rw [ni_le (by omega) (by omega)]; omega, by rw [ni_lt (by omega) hl]; exact hi⟩, ni_wr xs x (by omega)]
theorem pt_len (xs : List Int32) (i x : Int32) : (pt xs i x).length = xs.length := by
  unfold pt pm_wr; split <;> simp
theorem gd_set {xs : List Int32} {i : Nat} {x : Int32} (k : Nat) (hi : i < xs.length) : gd (xs.set i x) k = if k = i then x else gd xs k := by
  unfold gd
  rw [List.getD_eq_getElem?_getD, List.getD_eq_getElem?_getD, List.getElem?_set]
  by_cases e : i = k
  · subst e; simp [hi]
  · rw [if_neg e, if_neg (fun q => e q.symm)]
theorem gd_ext {xs ys : List Int32} (hl : xs.length = ys.length) (h : ∀ k, k < xs.length → gd xs k = gd ys k) : xs = ys := by
  apply List.ext_getElem hl
  intro k h1 h2
  have := h k h1
  unfold gd at this
  simpa [List.getD_eq_getElem?_getD, h1, h2] using this
def sl (s : List Int32) (a n : Nat) : List Int32 := (s.drop a).take n
theorem sl_len {s : List Int32} {a n : Nat} (h : a + n ≤ s.length) : (sl s a n).length = n := by unfold sl; simp; omega
theorem gd_sl {s : List Int32} {a n i : Nat} (h : i < n) : gd (sl s a n) i = gd s (a + i) := by
  unfold sl gd; simp [List.getD_eq_getElem?_getD, List.getElem?_take, h]
theorem sl_set {s : List Int32} {a n i : Nat} {x : Int32} (hi : i < n) (hl : a + n ≤ s.length) : (sl s a n).set i x = sl (s.set (a + i) x) a n := by
  have l1 := sl_len hl
  have l2 : (sl (s.set (a + i) x) a n).length = n := sl_len (by simpa using hl)
  apply gd_ext (by rw [List.length_set, l1, l2])
  intro k hk
  rw [List.length_set, l1] at hk
  rw [gd_set k (by omega), gd_sl hk, gd_sl hk, gd_set (a + k) (by omega)]
  by_cases e : k = i
  · rw [if_pos e, if_pos (by omega)]
  · rw [if_neg e, if_neg (by omega)]
theorem sl_ne {s : List Int32} {a n j : Nat} {x : Int32} (h : j < a ∨ a + n ≤ j) (hl : a + n ≤ s.length) : sl (s.set j x) a n = sl s a n := by
  by_cases hj : j < s.length
  · apply gd_ext (by rw [sl_len hl, sl_len (by simpa using hl)])
    intro k hk
    rw [sl_len (by simpa using hl)] at hk
    rw [gd_sl hk, gd_sl hk, gd_set _ hj, if_neg (by omega)]
  · rw [List.set_eq_of_length_le (by omega)]
