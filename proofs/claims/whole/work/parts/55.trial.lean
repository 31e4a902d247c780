/-! THE TRIAL -/
def tcp (h : Nat → List Int32) : Nat → List Int32 := up (up (up (up (up (up (up (up (up (up (up (up (up h 63 (h 8)) 64 (h 9)) 65 (h 10)) 62 (h 7)) 67 (h 12)) 68 (h 13)) 69 (h 14)) 70 (h 15)) 71 (h 16)) 66 (h 11)) 72 (h 17)) 73 (h 18)) 61 (h 6)
theorem c_copyT {d : Nat} {h : Nat → List Int32} {K : Option Value → pm_S → Prop} (hL : LN h) : pm_WC fqP (d + 9) 38 [.ref 61, .ref 6] (mk h) K = K none (mk (tcp h)) := c_Shore_copy_61_6 hL
theorem tcp_o {h : Nat → List Int32} {k : Nat} (hk : k < 61 ∨ 74 ≤ k) : tcp h k = h k := by
  unfold tcp
  rw [up_ne (by omega), up_ne (by omega), up_ne (by omega), up_ne (by omega), up_ne (by omega), up_ne (by omega), up_ne (by omega), up_ne (by omega), up_ne (by omega), up_ne (by omega), up_ne (by omega), up_ne (by omega), up_ne (by omega)]
theorem ln_tcp {h : Nat → List Int32} (hL : LN h) : LN (tcp h) :=
  ln_up (ln_up (ln_up (ln_up (ln_up (ln_up (ln_up (ln_up (ln_up (ln_up (ln_up (ln_up (ln_up hL (hL 8 (by omega) (by omega))) (hL 9 (by omega) (by omega))) (hL 10 (by omega) (by omega))) (hL 7 (by omega) (by omega))) (hL 12 (by omega) (by omega))) (hL 13 (by omega) (by omega))) (hL 14 (by omega) (by omega))) (hL 15 (by omega) (by omega))) (hL 16 (by omega) (by omega))) (hL 11 (by omega) (by omega))) (hL 17 (by omega) (by omega))) (hL 18 (by omega) (by omega))) (hL 6 (by omega) (by omega))
theorem cs_tcp {n : Nat} {s ag : List Int32} {h : Nat → List Int32} (hc : CS 6 s ag n h) (hL : LN h) : CS 61 s ag n (tcp h) := by
  obtain ⟨c0, c5, c6, c7, c8, c9, c10, c11, c12, c13, ⟨b0, b1, b2, b3, b4, b5, b6, b7⟩⟩ := hc
  simp only [Nat.reduceAdd] at c0 c5 c6 c7 c8 c9 c10 c11 c12 c13 b0 b1 b2 b3 b4 b5 b6 b7
  have t61 : tcp h 61 = h 6 := by unfold tcp; simp only [up_at, up_ne, Nat.reduceEqDiff, not_false_eq_true]
  have t62 : tcp h 62 = h 7 := by unfold tcp; simp only [up_at, up_ne, Nat.reduceEqDiff, not_false_eq_true]
  have t63 : tcp h 63 = h 8 := by unfold tcp; simp only [up_at, up_ne, Nat.reduceEqDiff, not_false_eq_true]
  have t64 : tcp h 64 = h 9 := by unfold tcp; simp only [up_at, up_ne, Nat.reduceEqDiff, not_false_eq_true]
  have t65 : tcp h 65 = h 10 := by unfold tcp; simp only [up_at, up_ne, Nat.reduceEqDiff, not_false_eq_true]
  have t66 : tcp h 66 = h 11 := by unfold tcp; simp only [up_at, up_ne, Nat.reduceEqDiff, not_false_eq_true]
  have t67 : tcp h 67 = h 12 := by unfold tcp; simp only [up_at, up_ne, Nat.reduceEqDiff, not_false_eq_true]
  have t68 : tcp h 68 = h 13 := by unfold tcp; simp only [up_at, up_ne, Nat.reduceEqDiff, not_false_eq_true]
  have t69 : tcp h 69 = h 14 := by unfold tcp; simp only [up_at, up_ne, Nat.reduceEqDiff, not_false_eq_true]
  have t70 : tcp h 70 = h 15 := by unfold tcp; simp only [up_at, up_ne, Nat.reduceEqDiff, not_false_eq_true]
  have t71 : tcp h 71 = h 16 := by unfold tcp; simp only [up_at, up_ne, Nat.reduceEqDiff, not_false_eq_true]
  have t72 : tcp h 72 = h 17 := by unfold tcp; simp only [up_at, up_ne, Nat.reduceEqDiff, not_false_eq_true]
  have t73 : tcp h 73 = h 18 := by unfold tcp; simp only [up_at, up_ne, Nat.reduceEqDiff, not_false_eq_true]
  have t74 : tcp h 74 = h 74 := tcp_o (by omega)
  refine ⟨?_, ?_, ?_, ?_, ?_, ?_, ?_, ?_, ?_, ?_, ?_, ?_, ?_, ?_, ?_, ?_, ?_, ?_⟩ <;> simp only [Nat.reduceAdd, t61, t62, t63, t64, t65, t66, t67, t68, t69, t70, t71, t72, t73, t74]
  case refine_10 => exact hL 74 (by omega) (by omega)
  all_goals assumption
theorem ln_cs {n : Nat} {s ag : List Int32} {h h1 : Nat → List Int32} (hL : LN h) (hc : CS 61 s ag n h1) (hs : s.length = 934) (ha : ag.length = 5) (e : ∀ k, (k < 61 ∨ 75 ≤ k) → h1 k = h k) : LN h1 := by
  obtain ⟨c0, c5, c6, c7, c8, c9, c10, c11, c12, c13, ⟨b0, b1, b2, b3, b4, b5, b6, b7⟩⟩ := hc
  simp only [Nat.reduceAdd] at c0 c5 c6 c7 c8 c9 c10 c11 c12 c13 b0 b1 b2 b3 b4 b5 b6 b7
  intro k k1 k2
  by_cases q : k < 61 ∨ 75 ≤ k
  · rw [e k q]; exact hL k k1 k2
  · rcases (by omega : k = 61 ∨ k = 62 ∨ k = 63 ∨ k = 64 ∨ k = 65 ∨ k = 66 ∨ k = 67 ∨ k = 68 ∨ k = 69 ∨ k = 70 ∨ k = 71 ∨ k = 72 ∨ k = 73 ∨ k = 74) with rfl | rfl | rfl | rfl | rfl | rfl | rfl | rfl | rfl | rfl | rfl | rfl | rfl | rfl
    · rw [c0]; rfl
    · exact b0
    · exact b1
    · exact b2
    · exact b3
    · rw [c5]; rfl
    · rw [c6]; exact sl_len (by omega)
    · rw [c7]; exact sl_len (by omega)
    · rw [c8]; exact sl_len (by omega)
    · rw [c9]; exact sl_len (by omega)
    · rw [c10]; exact sl_len (by omega)
    · rw [c11]; exact sl_len (by omega)
    · rw [c12]; exact ha
    · exact c13
theorem rs_mk {h : Nat → List Int32} : mk h = mk (rs h (h 86) (h 89) (h 90)) := by rw [rs_id]
/-- behind a question: the reference has its row back, the class's trial is otherwise -/
theorem inv_fin {scr : List Int32} {h h1 : Nat → List Int32} {l f xs : List Int32} (hi : INV scr h) (hL : LN h1) (e : ∀ k, ¬ k = 19 → (k < 61 ∨ 81 ≤ k) → ¬ k = 83 → ¬ k = 84 → ¬ k = 91 → ¬ k = 92 → h1 k = h k) (hl : l.length = 22) (hf : f.length = 6) (hx : xs.length = 64) : INV scr (rs (up h1 88 l) (h 86) f xs) := by
  have h86 : (h 86).length = 934 := hi.2.2.1.1
  refine inv_q hi (ln_up (ln_up (ln_up (ln_up hL hl) h86) hf) hx) ?_ ?_ ?_
  · intro k hk
    by_cases q : k = 86
    · subst q; exact rs_86 _ _ _ _
    · rw [rs_ne q (by omega) (by omega), up_ne (by omega)]
      exact e k (by omega) (by omega) (by omega) (by omega) (by omega) (by omega)
  · rw [rs_ne (by decide) (by decide) (by decide), up_ne (by decide), e 85 (by omega) (by omega) (by omega) (by omega) (by omega) (by omega)]
  · rw [rs_ne (by decide) (by decide) (by decide), up_ne (by decide), e 85 (by omega) (by omega) (by omega) (by omega) (by omega) (by omega)]
theorem rng_le {w : Int32} {n : Nat} (hn : n < 1000) (a : ¬ w < 0) (b : ¬ nI n < w) : ∃ i, i ≤ n ∧ w = nI i := by
  obtain ⟨i, h1, h2⟩ := i_rng (n := n + 1) (by omega) ⟨Int32.not_lt.mp a, by
    have := Int32.le_iff_toInt_le.mp (Int32.not_lt.mp b)
    rw [Int32.lt_iff_toInt_lt, ni_int (by omega)]
    rw [ni_int (by omega)] at this
    omega⟩
  exact ⟨i, by omega, h2⟩
theorem q_on {scr : List Int32} {d : Nat} {h : Nat → List Int32} (hi : INV scr h) (n w : Int32) : BOTH scr (d + 40) 57 144 [.int n, .int w] h := by
  have hi0 := hi
  obtain ⟨hL, ⟨ro0, ro1, ro2, ro3⟩, hw, hc, hk, ha⟩ := hi
  have hc0 := hc
  obtain ⟨⟨c0, c5, c6, c7, c8, c9, c10, c11, c12, c13, cb⟩, d0, d15, d16, d17, d18, d19, d20, d21, d22, d24, d25, d26, dis⟩ := hc
  simp only [Nat.reduceAdd] at c0 c5 c6 c7 c8 c9 c10 c11 c12 c13 cb d0 d15 d16 d17 d18 d19 d20 d21 d22 d24 d25 d26
  have hl := wf_len hw
  obtain ⟨hn, hn6⟩ := wf_n hw
  have ha5 := (wf_a hw).2
  unfold BOTH
  have hag := ag_of hw
  by_cases w0 : w < 0
  · have y1 := eq_true w0
    have y2 : (0 ≤ w ∧ w ≤ 1) = False := eq_false (fun q => Int32.not_le.mpr w0 q.1)
    simp (maxDischargeDepth := 20) (maxSteps := 2000000) only [↓reduceIte, pm_WL_nil, bi_900, bi_901, bi_904, bi_905, pm_lget_0, pm_lget_s, pm_oI_s, pm_oA_s, pm_oJ_s, pm_oK_s, pm_oR_s, pm_oO_s, pm_oN_s, pm_oF_s, pm_oM_s, pm_oP_s, pm_pu_n, pm_pu_s, pm_bo_ne, pm_bo_eq, Nat.reduceAdd, Nat.reduceSub, Nat.reduceLT, Nat.reduceLeDiff, Nat.reduceEqDiff, Nat.zero_add, Nat.lt_add_one, Nat.zero_ne_one, Nat.succ_ne_self, List.length_cons, List.length_nil, true_and, and_true, true_or, or_true, false_or, or_false, false_implies, true_implies, implies_true, not_true_eq_false, not_false_eq_true, ne_eq, eq_self, e_X_on, pm_okW_0, pm_okW_i, pm_okW_r, pm_okW_l, pm_ent_0, pm_ent_i, pm_ent_r, pm_ent_l, List.reduceReplicate, b_X_on_0, b_X_on_4, b_X_on_9, b_X_on_11, b_X_on_15, b_X_on_21, b_X_on_24, b_X_on_50, b_X_on_60, b_X_on_67, f_iloadn2, w_if_lt, pm_tgt_is, Int.cast_ofNat_Int, Int.reduceNeg, Int.reduceAdd, Int.reduceToNat, Int.zero_add, Int.zero_le_ofNat, Int.reduceLE, nz_1, nz_m1, if_true, if_false, w_iconst, ki_1, w_icmp_le, ki_m1, w_iret, lg_57, pm_fit_b, pm_fit_0, pm_fit_1, Bool.false_eq_true, f_iloadn1, w_bipush, kb_60, kb_m2, f_aloadn0, gf_57_24_4, gf_57_12_4, gf_57_70_5, gf_57_70_33, iv_57_182_6, iv_57_182_34, iv_57_182_61, kk_n, kk_s, iv_57_178_6, iv_57_178_34, iv_57_178_61, w_if_ne, gf_57_166_6, gf_57_166_34, gf_57_166_61, w_goto, iv_57_133_6, iv_57_133_34, iv_57_133_61, y1]
    simp (maxDischargeDepth := 20) (maxSteps := 2000000) only [↓reduceIte, pm_WL_nil, bi_900, bi_901, bi_904, bi_905, pm_lget_0, pm_lget_s, pm_oI_s, pm_oA_s, pm_oJ_s, pm_oK_s, pm_oR_s, pm_oO_s, pm_oN_s, pm_oF_s, pm_oM_s, pm_oP_s, pm_pu_n, pm_pu_s, pm_bo_ne, pm_bo_eq, Nat.reduceAdd, Nat.reduceSub, Nat.reduceLT, Nat.reduceLeDiff, Nat.reduceEqDiff, Nat.zero_add, Nat.lt_add_one, Nat.zero_ne_one, Nat.succ_ne_self, List.length_cons, List.length_nil, true_and, and_true, true_or, or_true, false_or, or_false, false_implies, true_implies, implies_true, not_true_eq_false, not_false_eq_true, ne_eq, eq_self, e_M_on, pm_okW_0, pm_okW_i, pm_okW_r, pm_okW_l, pm_ent_0, pm_ent_i, pm_ent_r, pm_ent_l, List.reduceReplicate, b_M_on_0, b_M_on_9, b_M_on_11, b_M_on_21, b_M_on_24, b_M_on_37, b_M_on_44, b_M_on_48, f_iloadn2, w_iconst, ki_0, ki_1, iv_144_41, kk_n, kk_s, w_if_ne, pm_tgt_is, Int.cast_ofNat_Int, Int.reduceNeg, Int.reduceAdd, Int.reduceToNat, Int.zero_add, Int.zero_le_ofNat, Int.reduceLE, nz_1, nz_m1, if_true, if_false, ki_m1, w_iret, lg_144, pm_fit_b, pm_fit_0, pm_fit_1, Bool.false_eq_true, f_iloadn1, w_bipush, kb_60, kb_m2, f_aloadn0, iv_144_171_85, iv_144_168_85, iv_144_174_85, w_goto, iv_144_154_85, w_istore3, pm_lset_0, pm_lset_1, pm_lset_n, pm_no2_n, pm_no2_i, pm_no2_r, pm_no2_l, iv_144_177_85, f_iloadn3, c_M_in, y2]
    exact po_i hi0
  have y1 := eq_false w0
  by_cases w1 : 1 < w
  · have z1 := eq_false (Int32.not_le.mpr w1)
    have y2 : (0 ≤ w ∧ w ≤ 1) = False := eq_false (fun q => Int32.not_le.mpr w1 q.2)
    simp (maxDischargeDepth := 20) (maxSteps := 2000000) only [↓reduceIte, pm_WL_nil, bi_900, bi_901, bi_904, bi_905, pm_lget_0, pm_lget_s, pm_oI_s, pm_oA_s, pm_oJ_s, pm_oK_s, pm_oR_s, pm_oO_s, pm_oN_s, pm_oF_s, pm_oM_s, pm_oP_s, pm_pu_n, pm_pu_s, pm_bo_ne, pm_bo_eq, Nat.reduceAdd, Nat.reduceSub, Nat.reduceLT, Nat.reduceLeDiff, Nat.reduceEqDiff, Nat.zero_add, Nat.lt_add_one, Nat.zero_ne_one, Nat.succ_ne_self, List.length_cons, List.length_nil, true_and, and_true, true_or, or_true, false_or, or_false, false_implies, true_implies, implies_true, not_true_eq_false, not_false_eq_true, ne_eq, eq_self, e_X_on, pm_okW_0, pm_okW_i, pm_okW_r, pm_okW_l, pm_ent_0, pm_ent_i, pm_ent_r, pm_ent_l, List.reduceReplicate, b_X_on_0, b_X_on_4, b_X_on_9, b_X_on_11, b_X_on_15, b_X_on_21, b_X_on_24, b_X_on_50, b_X_on_60, b_X_on_67, f_iloadn2, w_if_lt, pm_tgt_is, Int.cast_ofNat_Int, Int.reduceNeg, Int.reduceAdd, Int.reduceToNat, Int.zero_add, Int.zero_le_ofNat, Int.reduceLE, nz_1, nz_m1, if_true, if_false, w_iconst, ki_1, w_icmp_le, ki_m1, w_iret, lg_57, pm_fit_b, pm_fit_0, pm_fit_1, Bool.false_eq_true, f_iloadn1, w_bipush, kb_60, kb_m2, f_aloadn0, gf_57_24_4, gf_57_12_4, gf_57_70_5, gf_57_70_33, iv_57_182_6, iv_57_182_34, iv_57_182_61, kk_n, kk_s, iv_57_178_6, iv_57_178_34, iv_57_178_61, w_if_ne, gf_57_166_6, gf_57_166_34, gf_57_166_61, w_goto, iv_57_133_6, iv_57_133_34, iv_57_133_61, y1, z1]
    simp (maxDischargeDepth := 20) (maxSteps := 2000000) only [↓reduceIte, pm_WL_nil, bi_900, bi_901, bi_904, bi_905, pm_lget_0, pm_lget_s, pm_oI_s, pm_oA_s, pm_oJ_s, pm_oK_s, pm_oR_s, pm_oO_s, pm_oN_s, pm_oF_s, pm_oM_s, pm_oP_s, pm_pu_n, pm_pu_s, pm_bo_ne, pm_bo_eq, Nat.reduceAdd, Nat.reduceSub, Nat.reduceLT, Nat.reduceLeDiff, Nat.reduceEqDiff, Nat.zero_add, Nat.lt_add_one, Nat.zero_ne_one, Nat.succ_ne_self, List.length_cons, List.length_nil, true_and, and_true, true_or, or_true, false_or, or_false, false_implies, true_implies, implies_true, not_true_eq_false, not_false_eq_true, ne_eq, eq_self, e_M_on, pm_okW_0, pm_okW_i, pm_okW_r, pm_okW_l, pm_ent_0, pm_ent_i, pm_ent_r, pm_ent_l, List.reduceReplicate, b_M_on_0, b_M_on_9, b_M_on_11, b_M_on_21, b_M_on_24, b_M_on_37, b_M_on_44, b_M_on_48, f_iloadn2, w_iconst, ki_0, ki_1, iv_144_41, kk_n, kk_s, w_if_ne, pm_tgt_is, Int.cast_ofNat_Int, Int.reduceNeg, Int.reduceAdd, Int.reduceToNat, Int.zero_add, Int.zero_le_ofNat, Int.reduceLE, nz_1, nz_m1, if_true, if_false, ki_m1, w_iret, lg_144, pm_fit_b, pm_fit_0, pm_fit_1, Bool.false_eq_true, f_iloadn1, w_bipush, kb_60, kb_m2, f_aloadn0, iv_144_171_85, iv_144_168_85, iv_144_174_85, w_goto, iv_144_154_85, w_istore3, pm_lset_0, pm_lset_1, pm_lset_n, pm_no2_n, pm_no2_i, pm_no2_r, pm_no2_l, iv_144_177_85, f_iloadn3, c_M_in, y2]
    exact po_i hi0
  have z1 := eq_true (Int32.not_lt.mp w1)
  have y2 : (0 ≤ w ∧ w ≤ 1) = True := eq_true ⟨Int32.not_lt.mp w0, Int32.not_lt.mp w1⟩
  by_cases n0 : n < 0
  · have y3 := eq_true n0
    have y4 : (0 ≤ n ∧ n ≤ 60) = False := eq_false (fun q => Int32.not_le.mpr n0 q.1)
    simp (maxDischargeDepth := 20) (maxSteps := 2000000) only [↓reduceIte, pm_WL_nil, bi_900, bi_901, bi_904, bi_905, pm_lget_0, pm_lget_s, pm_oI_s, pm_oA_s, pm_oJ_s, pm_oK_s, pm_oR_s, pm_oO_s, pm_oN_s, pm_oF_s, pm_oM_s, pm_oP_s, pm_pu_n, pm_pu_s, pm_bo_ne, pm_bo_eq, Nat.reduceAdd, Nat.reduceSub, Nat.reduceLT, Nat.reduceLeDiff, Nat.reduceEqDiff, Nat.zero_add, Nat.lt_add_one, Nat.zero_ne_one, Nat.succ_ne_self, List.length_cons, List.length_nil, true_and, and_true, true_or, or_true, false_or, or_false, false_implies, true_implies, implies_true, not_true_eq_false, not_false_eq_true, ne_eq, eq_self, e_X_on, pm_okW_0, pm_okW_i, pm_okW_r, pm_okW_l, pm_ent_0, pm_ent_i, pm_ent_r, pm_ent_l, List.reduceReplicate, b_X_on_0, b_X_on_4, b_X_on_9, b_X_on_11, b_X_on_15, b_X_on_21, b_X_on_24, b_X_on_50, b_X_on_60, b_X_on_67, f_iloadn2, w_if_lt, pm_tgt_is, Int.cast_ofNat_Int, Int.reduceNeg, Int.reduceAdd, Int.reduceToNat, Int.zero_add, Int.zero_le_ofNat, Int.reduceLE, nz_1, nz_m1, if_true, if_false, w_iconst, ki_1, w_icmp_le, ki_m1, w_iret, lg_57, pm_fit_b, pm_fit_0, pm_fit_1, Bool.false_eq_true, f_iloadn1, w_bipush, kb_60, kb_m2, f_aloadn0, gf_57_24_4, gf_57_12_4, gf_57_70_5, gf_57_70_33, iv_57_182_6, iv_57_182_34, iv_57_182_61, kk_n, kk_s, iv_57_178_6, iv_57_178_34, iv_57_178_61, w_if_ne, gf_57_166_6, gf_57_166_34, gf_57_166_61, w_goto, iv_57_133_6, iv_57_133_34, iv_57_133_61, y1, z1, y3]
    simp (maxDischargeDepth := 20) (maxSteps := 2000000) only [↓reduceIte, pm_WL_nil, bi_900, bi_901, bi_904, bi_905, pm_lget_0, pm_lget_s, pm_oI_s, pm_oA_s, pm_oJ_s, pm_oK_s, pm_oR_s, pm_oO_s, pm_oN_s, pm_oF_s, pm_oM_s, pm_oP_s, pm_pu_n, pm_pu_s, pm_bo_ne, pm_bo_eq, Nat.reduceAdd, Nat.reduceSub, Nat.reduceLT, Nat.reduceLeDiff, Nat.reduceEqDiff, Nat.zero_add, Nat.lt_add_one, Nat.zero_ne_one, Nat.succ_ne_self, List.length_cons, List.length_nil, true_and, and_true, true_or, or_true, false_or, or_false, false_implies, true_implies, implies_true, not_true_eq_false, not_false_eq_true, ne_eq, eq_self, e_M_on, pm_okW_0, pm_okW_i, pm_okW_r, pm_okW_l, pm_ent_0, pm_ent_i, pm_ent_r, pm_ent_l, List.reduceReplicate, b_M_on_0, b_M_on_9, b_M_on_11, b_M_on_21, b_M_on_24, b_M_on_37, b_M_on_44, b_M_on_48, f_iloadn2, w_iconst, ki_0, ki_1, iv_144_41, kk_n, kk_s, w_if_ne, pm_tgt_is, Int.cast_ofNat_Int, Int.reduceNeg, Int.reduceAdd, Int.reduceToNat, Int.zero_add, Int.zero_le_ofNat, Int.reduceLE, nz_1, nz_m1, if_true, if_false, ki_m1, w_iret, lg_144, pm_fit_b, pm_fit_0, pm_fit_1, Bool.false_eq_true, f_iloadn1, w_bipush, kb_60, kb_m2, f_aloadn0, iv_144_171_85, iv_144_168_85, iv_144_174_85, w_goto, iv_144_154_85, w_istore3, pm_lset_0, pm_lset_1, pm_lset_n, pm_no2_n, pm_no2_i, pm_no2_r, pm_no2_l, iv_144_177_85, f_iloadn3, c_M_in, y2, y4]
    exact po_i hi0
  have y3 := eq_false n0
  by_cases n1 : 60 < n
  · have z3 := eq_false (Int32.not_le.mpr n1)
    have y4 : (0 ≤ n ∧ n ≤ 60) = False := eq_false (fun q => Int32.not_le.mpr n1 q.2)
    simp (maxDischargeDepth := 20) (maxSteps := 2000000) only [↓reduceIte, pm_WL_nil, bi_900, bi_901, bi_904, bi_905, pm_lget_0, pm_lget_s, pm_oI_s, pm_oA_s, pm_oJ_s, pm_oK_s, pm_oR_s, pm_oO_s, pm_oN_s, pm_oF_s, pm_oM_s, pm_oP_s, pm_pu_n, pm_pu_s, pm_bo_ne, pm_bo_eq, Nat.reduceAdd, Nat.reduceSub, Nat.reduceLT, Nat.reduceLeDiff, Nat.reduceEqDiff, Nat.zero_add, Nat.lt_add_one, Nat.zero_ne_one, Nat.succ_ne_self, List.length_cons, List.length_nil, true_and, and_true, true_or, or_true, false_or, or_false, false_implies, true_implies, implies_true, not_true_eq_false, not_false_eq_true, ne_eq, eq_self, e_X_on, pm_okW_0, pm_okW_i, pm_okW_r, pm_okW_l, pm_ent_0, pm_ent_i, pm_ent_r, pm_ent_l, List.reduceReplicate, b_X_on_0, b_X_on_4, b_X_on_9, b_X_on_11, b_X_on_15, b_X_on_21, b_X_on_24, b_X_on_50, b_X_on_60, b_X_on_67, f_iloadn2, w_if_lt, pm_tgt_is, Int.cast_ofNat_Int, Int.reduceNeg, Int.reduceAdd, Int.reduceToNat, Int.zero_add, Int.zero_le_ofNat, Int.reduceLE, nz_1, nz_m1, if_true, if_false, w_iconst, ki_1, w_icmp_le, ki_m1, w_iret, lg_57, pm_fit_b, pm_fit_0, pm_fit_1, Bool.false_eq_true, f_iloadn1, w_bipush, kb_60, kb_m2, f_aloadn0, gf_57_24_4, gf_57_12_4, gf_57_70_5, gf_57_70_33, iv_57_182_6, iv_57_182_34, iv_57_182_61, kk_n, kk_s, iv_57_178_6, iv_57_178_34, iv_57_178_61, w_if_ne, gf_57_166_6, gf_57_166_34, gf_57_166_61, w_goto, iv_57_133_6, iv_57_133_34, iv_57_133_61, y1, z1, y3, z3]
    simp (maxDischargeDepth := 20) (maxSteps := 2000000) only [↓reduceIte, pm_WL_nil, bi_900, bi_901, bi_904, bi_905, pm_lget_0, pm_lget_s, pm_oI_s, pm_oA_s, pm_oJ_s, pm_oK_s, pm_oR_s, pm_oO_s, pm_oN_s, pm_oF_s, pm_oM_s, pm_oP_s, pm_pu_n, pm_pu_s, pm_bo_ne, pm_bo_eq, Nat.reduceAdd, Nat.reduceSub, Nat.reduceLT, Nat.reduceLeDiff, Nat.reduceEqDiff, Nat.zero_add, Nat.lt_add_one, Nat.zero_ne_one, Nat.succ_ne_self, List.length_cons, List.length_nil, true_and, and_true, true_or, or_true, false_or, or_false, false_implies, true_implies, implies_true, not_true_eq_false, not_false_eq_true, ne_eq, eq_self, e_M_on, pm_okW_0, pm_okW_i, pm_okW_r, pm_okW_l, pm_ent_0, pm_ent_i, pm_ent_r, pm_ent_l, List.reduceReplicate, b_M_on_0, b_M_on_9, b_M_on_11, b_M_on_21, b_M_on_24, b_M_on_37, b_M_on_44, b_M_on_48, f_iloadn2, w_iconst, ki_0, ki_1, iv_144_41, kk_n, kk_s, w_if_ne, pm_tgt_is, Int.cast_ofNat_Int, Int.reduceNeg, Int.reduceAdd, Int.reduceToNat, Int.zero_add, Int.zero_le_ofNat, Int.reduceLE, nz_1, nz_m1, if_true, if_false, ki_m1, w_iret, lg_144, pm_fit_b, pm_fit_0, pm_fit_1, Bool.false_eq_true, f_iloadn1, w_bipush, kb_60, kb_m2, f_aloadn0, iv_144_171_85, iv_144_168_85, iv_144_174_85, w_goto, iv_144_154_85, w_istore3, pm_lset_0, pm_lset_1, pm_lset_n, pm_no2_n, pm_no2_i, pm_no2_r, pm_no2_l, iv_144_177_85, f_iloadn3, c_M_in, y2, y4]
    exact po_i hi0
  have z3 := eq_true (Int32.not_lt.mp n1)
  have y4 : (0 ≤ n ∧ n ≤ 60) = True := eq_true ⟨Int32.not_lt.mp n0, Int32.not_lt.mp n1⟩
  obtain ⟨i, hi60, rfl⟩ := rng_le (n := 60) (by omega) n0 n1
  have ct := fun K => @c_copyT (d + 30) h K hL
  obtain ⟨gw, gm, gt⟩ := goesN_ok hw i (by omega)
  have gis := goesN_is hw i (by omega)
  simp (maxDischargeDepth := 20) (maxSteps := 2000000) only [↓reduceIte, pm_WL_nil, bi_900, bi_901, bi_904, bi_905, pm_lget_0, pm_lget_s, pm_oI_s, pm_oA_s, pm_oJ_s, pm_oK_s, pm_oR_s, pm_oO_s, pm_oN_s, pm_oF_s, pm_oM_s, pm_oP_s, pm_pu_n, pm_pu_s, pm_bo_ne, pm_bo_eq, Nat.reduceAdd, Nat.reduceSub, Nat.reduceLT, Nat.reduceLeDiff, Nat.reduceEqDiff, Nat.zero_add, Nat.lt_add_one, Nat.zero_ne_one, Nat.succ_ne_self, List.length_cons, List.length_nil, true_and, and_true, true_or, or_true, false_or, or_false, false_implies, true_implies, implies_true, not_true_eq_false, not_false_eq_true, ne_eq, eq_self, e_X_on, pm_okW_0, pm_okW_i, pm_okW_r, pm_okW_l, pm_ent_0, pm_ent_i, pm_ent_r, pm_ent_l, List.reduceReplicate, b_X_on_0, b_X_on_4, b_X_on_9, b_X_on_11, b_X_on_15, b_X_on_21, b_X_on_24, b_X_on_50, b_X_on_60, b_X_on_67, f_iloadn2, w_if_lt, pm_tgt_is, Int.cast_ofNat_Int, Int.reduceNeg, Int.reduceAdd, Int.reduceToNat, Int.zero_add, Int.zero_le_ofNat, Int.reduceLE, nz_1, nz_m1, if_true, if_false, w_iconst, ki_1, w_icmp_le, ki_m1, w_iret, lg_57, pm_fit_b, pm_fit_0, pm_fit_1, Bool.false_eq_true, f_iloadn1, w_bipush, kb_60, kb_m2, f_aloadn0, gf_57_24_4, gf_57_12_4, gf_57_70_5, gf_57_70_33, iv_57_182_6, iv_57_182_34, iv_57_182_61, kk_n, kk_s, iv_57_178_6, iv_57_178_34, iv_57_178_61, w_if_ne, gf_57_166_6, gf_57_166_34, gf_57_166_61, w_goto, iv_57_133_6, iv_57_133_34, iv_57_133_61, hs_4, hs_5, hs_6, hs_61, y1, z1, y3, z3, ct]
  refine pm_WC_mono (c_Shore_goTides_61 (d := d + 32) (cs_tcp hc0.1 hL) hag hw (by omega)) ?_
  rintro r σ ⟨rfl, h1, rfl, hc1, hf1⟩
  rw [← gis] at hc1
  have fr : ∀ k, (k < 61 ∨ 75 ≤ k) → h1 k = h k := fun k hk => by rw [hf1 k (by omega) (by omega), tcp_o (by omega)]
  have hL1 : LN h1 := ln_cs hL hc1 (wf_len gw) hag.1 fr
  have l88 : (h1 88).length = 22 := hL1 88 (by omega) (by omega)
  have h86 : h1 86 = h 86 := fr 86 (by omega)
  have k1 := fun K => @c_M_keeps (d + 38) h1 (h 86) (h1 89) (h1 90) K hl l88
  have mk1 : mk h1 = mk (rs h1 (h 86) (h1 89) (h1 90)) := by rw [← h86, rs_id]
  have goal2 : ∀ v : Nat, (if w = 0 then nI (cN (goesN (h 86) i)) else nI (here (goesN (h 86) i))) = nI v → pm_WC fqP (d + 40) 144 [.ref 85, .int (nI i), .int w] (mk h1) (fun r' σ' => PO scr (some (.int (nI v))) r' σ') := by
    intro v hv
    rw [mk1]
    simp (maxDischargeDepth := 20) (maxSteps := 2000000) only [↓reduceIte, pm_WL_nil, bi_900, bi_901, bi_904, bi_905, pm_lget_0, pm_lget_s, pm_oI_s, pm_oA_s, pm_oJ_s, pm_oK_s, pm_oR_s, pm_oO_s, pm_oN_s, pm_oF_s, pm_oM_s, pm_oP_s, pm_pu_n, pm_pu_s, pm_bo_ne, pm_bo_eq, Nat.reduceAdd, Nat.reduceSub, Nat.reduceLT, Nat.reduceLeDiff, Nat.reduceEqDiff, Nat.zero_add, Nat.lt_add_one, Nat.zero_ne_one, Nat.succ_ne_self, List.length_cons, List.length_nil, true_and, and_true, true_or, or_true, false_or, or_false, false_implies, true_implies, implies_true, not_true_eq_false, not_false_eq_true, ne_eq, eq_self, e_M_on, pm_okW_0, pm_okW_i, pm_okW_r, pm_okW_l, pm_ent_0, pm_ent_i, pm_ent_r, pm_ent_l, List.reduceReplicate, b_M_on_0, b_M_on_9, b_M_on_11, b_M_on_21, b_M_on_24, b_M_on_37, b_M_on_44, b_M_on_48, f_iloadn2, w_iconst, ki_0, ki_1, iv_144_41, kk_n, kk_s, w_if_ne, pm_tgt_is, Int.cast_ofNat_Int, Int.reduceNeg, Int.reduceAdd, Int.reduceToNat, Int.zero_add, Int.zero_le_ofNat, Int.reduceLE, nz_1, nz_m1, if_true, if_false, ki_m1, w_iret, lg_144, pm_fit_b, pm_fit_0, pm_fit_1, Bool.false_eq_true, f_iloadn1, w_bipush, kb_60, kb_m2, f_aloadn0, iv_144_171_85, iv_144_168_85, iv_144_174_85, w_goto, iv_144_154_85, w_istore3, pm_lset_0, pm_lset_1, pm_lset_n, pm_no2_n, pm_no2_i, pm_no2_r, pm_no2_l, iv_144_177_85, f_iloadn3, c_M_in, y2, y4, k1]
    refine c_M_goesOn (d := d + 33) hw (by omega) (hL1 89 (by omega) (by omega)) (hL1 90 (by omega) (by omega)) ?_
    intro f xs hf hx
    have b1 := fun K => @c_M_carriedOnes (d + 38) (9999 + i) (up h1 88 (sl (h 86) 0 22)) (goesN (h 86) i) f xs K gw
    have b2 := fun K => @c_M_hereOnes (d + 37) (9999 + i) (up h1 88 (sl (h 86) 0 22)) (goesN (h 86) i) f xs K gw (by omega)
    have b3 : ∀ K, pm_WC fqP (d + 39) 106 [.ref 85] (mk (rs (up h1 88 (sl (h 86) 0 22)) (goesN (h 86) i) f xs)) K = K none (mk (rs (up h1 88 (sl (h 86) 0 22)) (h 86) f xs)) := fun K => by
      rw [c_M_goesBack (wf_len gw) (by rw [up_at]; exact sl_len (by omega)), up_at, giv_bk hl (sm_up gm (by omega))]
    have fin : INV scr (rs (up h1 88 (sl (h 86) 0 22)) (h 86) f xs) := inv_fin hi0 hL1 (fun k _ q _ _ _ _ => fr k (by omega)) (sl_len (by omega)) hf hx
    by_cases q : w = 0
    · have q1 := eq_true q
      rw [if_pos q] at hv
      rw [← hv]
      have bq1 := b1
      have bq3 := b3
      simp (maxDischargeDepth := 20) (maxSteps := 2000000) only [↓reduceIte, pm_WL_nil, bi_900, bi_901, bi_904, bi_905, pm_lget_0, pm_lget_s, pm_oI_s, pm_oA_s, pm_oJ_s, pm_oK_s, pm_oR_s, pm_oO_s, pm_oN_s, pm_oF_s, pm_oM_s, pm_oP_s, pm_pu_n, pm_pu_s, pm_bo_ne, pm_bo_eq, Nat.reduceAdd, Nat.reduceSub, Nat.reduceLT, Nat.reduceLeDiff, Nat.reduceEqDiff, Nat.zero_add, Nat.lt_add_one, Nat.zero_ne_one, Nat.succ_ne_self, List.length_cons, List.length_nil, true_and, and_true, true_or, or_true, false_or, or_false, false_implies, true_implies, implies_true, not_true_eq_false, not_false_eq_true, ne_eq, eq_self, e_M_on, pm_okW_0, pm_okW_i, pm_okW_r, pm_okW_l, pm_ent_0, pm_ent_i, pm_ent_r, pm_ent_l, List.reduceReplicate, b_M_on_0, b_M_on_9, b_M_on_11, b_M_on_21, b_M_on_24, b_M_on_37, b_M_on_44, b_M_on_48, f_iloadn2, w_iconst, ki_0, ki_1, iv_144_41, kk_n, kk_s, w_if_ne, pm_tgt_is, Int.cast_ofNat_Int, Int.reduceNeg, Int.reduceAdd, Int.reduceToNat, Int.zero_add, Int.zero_le_ofNat, Int.reduceLE, nz_1, nz_m1, if_true, if_false, ki_m1, w_iret, lg_144, pm_fit_b, pm_fit_0, pm_fit_1, Bool.false_eq_true, f_iloadn1, w_bipush, kb_60, kb_m2, f_aloadn0, iv_144_171_85, iv_144_168_85, iv_144_174_85, w_goto, iv_144_154_85, w_istore3, pm_lset_0, pm_lset_1, pm_lset_n, pm_no2_n, pm_no2_i, pm_no2_r, pm_no2_l, iv_144_177_85, f_iloadn3, q1, bq1, bq3]
      exact po_i fin
    · have q1 := eq_false q
      rw [if_neg q] at hv
      rw [← hv]
      have bq2 := b2
      have bq3 := b3
      simp (maxDischargeDepth := 20) (maxSteps := 2000000) only [↓reduceIte, pm_WL_nil, bi_900, bi_901, bi_904, bi_905, pm_lget_0, pm_lget_s, pm_oI_s, pm_oA_s, pm_oJ_s, pm_oK_s, pm_oR_s, pm_oO_s, pm_oN_s, pm_oF_s, pm_oM_s, pm_oP_s, pm_pu_n, pm_pu_s, pm_bo_ne, pm_bo_eq, Nat.reduceAdd, Nat.reduceSub, Nat.reduceLT, Nat.reduceLeDiff, Nat.reduceEqDiff, Nat.zero_add, Nat.lt_add_one, Nat.zero_ne_one, Nat.succ_ne_self, List.length_cons, List.length_nil, true_and, and_true, true_or, or_true, false_or, or_false, false_implies, true_implies, implies_true, not_true_eq_false, not_false_eq_true, ne_eq, eq_self, e_M_on, pm_okW_0, pm_okW_i, pm_okW_r, pm_okW_l, pm_ent_0, pm_ent_i, pm_ent_r, pm_ent_l, List.reduceReplicate, b_M_on_0, b_M_on_9, b_M_on_11, b_M_on_21, b_M_on_24, b_M_on_37, b_M_on_44, b_M_on_48, f_iloadn2, w_iconst, ki_0, ki_1, iv_144_41, kk_n, kk_s, w_if_ne, pm_tgt_is, Int.cast_ofNat_Int, Int.reduceNeg, Int.reduceAdd, Int.reduceToNat, Int.zero_add, Int.zero_le_ofNat, Int.reduceLE, nz_1, nz_m1, if_true, if_false, ki_m1, w_iret, lg_144, pm_fit_b, pm_fit_0, pm_fit_1, Bool.false_eq_true, f_iloadn1, w_bipush, kb_60, kb_m2, f_aloadn0, iv_144_171_85, iv_144_168_85, iv_144_174_85, w_goto, iv_144_154_85, w_istore3, pm_lset_0, pm_lset_1, pm_lset_n, pm_no2_n, pm_no2_i, pm_no2_r, pm_no2_l, iv_144_177_85, f_iloadn3, q1, bq2, bq3]
      exact po_i fin
  have t0 := hc1.1
  have th := fun K => @c_Shore_thoseIn_61 (d + 37) _ (9999 + i) h1 (goesN (h 86) i) _ K hc1 gw (by omega)
  by_cases q : w = 0
  · have q1 := eq_true q
    simp (maxDischargeDepth := 20) (maxSteps := 2000000) only [↓reduceIte, pm_WL_nil, bi_900, bi_901, bi_904, bi_905, pm_lget_0, pm_lget_s, pm_oI_s, pm_oA_s, pm_oJ_s, pm_oK_s, pm_oR_s, pm_oO_s, pm_oN_s, pm_oF_s, pm_oM_s, pm_oP_s, pm_pu_n, pm_pu_s, pm_bo_ne, pm_bo_eq, Nat.reduceAdd, Nat.reduceSub, Nat.reduceLT, Nat.reduceLeDiff, Nat.reduceEqDiff, Nat.zero_add, Nat.lt_add_one, Nat.zero_ne_one, Nat.succ_ne_self, List.length_cons, List.length_nil, true_and, and_true, true_or, or_true, false_or, or_false, false_implies, true_implies, implies_true, not_true_eq_false, not_false_eq_true, ne_eq, eq_self, e_X_on, pm_okW_0, pm_okW_i, pm_okW_r, pm_okW_l, pm_ent_0, pm_ent_i, pm_ent_r, pm_ent_l, List.reduceReplicate, b_X_on_0, b_X_on_4, b_X_on_9, b_X_on_11, b_X_on_15, b_X_on_21, b_X_on_24, b_X_on_50, b_X_on_60, b_X_on_67, f_iloadn2, w_if_lt, pm_tgt_is, Int.cast_ofNat_Int, Int.reduceNeg, Int.reduceAdd, Int.reduceToNat, Int.zero_add, Int.zero_le_ofNat, Int.reduceLE, nz_1, nz_m1, if_true, if_false, w_iconst, ki_1, w_icmp_le, ki_m1, w_iret, lg_57, pm_fit_b, pm_fit_0, pm_fit_1, Bool.false_eq_true, f_iloadn1, w_bipush, kb_60, kb_m2, f_aloadn0, gf_57_24_4, gf_57_12_4, gf_57_70_5, gf_57_70_33, iv_57_182_6, iv_57_182_34, iv_57_182_61, kk_n, kk_s, iv_57_178_6, iv_57_178_34, iv_57_178_61, w_if_ne, gf_57_166_6, gf_57_166_34, gf_57_166_61, w_goto, iv_57_133_6, iv_57_133_34, iv_57_133_61, hs_4, hs_61, up_at, up_ne, up_up, gd_0, gd_s, t0, q1]
    exact goal2 _ (by rw [if_pos q])
  · have q1 := eq_false q
    simp (maxDischargeDepth := 20) (maxSteps := 2000000) only [↓reduceIte, pm_WL_nil, bi_900, bi_901, bi_904, bi_905, pm_lget_0, pm_lget_s, pm_oI_s, pm_oA_s, pm_oJ_s, pm_oK_s, pm_oR_s, pm_oO_s, pm_oN_s, pm_oF_s, pm_oM_s, pm_oP_s, pm_pu_n, pm_pu_s, pm_bo_ne, pm_bo_eq, Nat.reduceAdd, Nat.reduceSub, Nat.reduceLT, Nat.reduceLeDiff, Nat.reduceEqDiff, Nat.zero_add, Nat.lt_add_one, Nat.zero_ne_one, Nat.succ_ne_self, List.length_cons, List.length_nil, true_and, and_true, true_or, or_true, false_or, or_false, false_implies, true_implies, implies_true, not_true_eq_false, not_false_eq_true, ne_eq, eq_self, e_X_on, pm_okW_0, pm_okW_i, pm_okW_r, pm_okW_l, pm_ent_0, pm_ent_i, pm_ent_r, pm_ent_l, List.reduceReplicate, b_X_on_0, b_X_on_4, b_X_on_9, b_X_on_11, b_X_on_15, b_X_on_21, b_X_on_24, b_X_on_50, b_X_on_60, b_X_on_67, f_iloadn2, w_if_lt, pm_tgt_is, Int.cast_ofNat_Int, Int.reduceNeg, Int.reduceAdd, Int.reduceToNat, Int.zero_add, Int.zero_le_ofNat, Int.reduceLE, nz_1, nz_m1, if_true, if_false, w_iconst, ki_1, w_icmp_le, ki_m1, w_iret, lg_57, pm_fit_b, pm_fit_0, pm_fit_1, Bool.false_eq_true, f_iloadn1, w_bipush, kb_60, kb_m2, f_aloadn0, gf_57_24_4, gf_57_12_4, gf_57_70_5, gf_57_70_33, iv_57_182_6, iv_57_182_34, iv_57_182_61, kk_n, kk_s, iv_57_178_6, iv_57_178_34, iv_57_178_61, w_if_ne, gf_57_166_6, gf_57_166_34, gf_57_166_61, w_goto, iv_57_133_6, iv_57_133_34, iv_57_133_61, hs_4, hs_61, up_at, up_ne, up_up, gd_0, gd_s, t0, q1, th]
    exact goal2 _ (by rw [if_neg q])
