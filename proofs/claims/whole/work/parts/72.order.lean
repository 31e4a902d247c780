/-! ORDER: all rows of the five -/
def lnT (rest : Nat) (G : Nat → List (List Int32)) : Nat → List (List Int32)
  | 0 => []
  | j + 1 => (if tb rest (4 - j) = 1 then G (4 - j) else []) ++ lnT rest G j
def lns : Nat → Nat → List Int32 → List (List Int32)
  | 0, _, pre => [pre]
  | f + 1, rest, pre => lnT rest (fun m => lns f (rest - 2 ^ m) (pre ++ [nI m])) 5
def prs : List (List Int32) := lns 5 31 []
def prm (i : Nat) : List Int32 := prs.getD i []
theorem prs_len : prs.length = 120 := by decide +kernel
theorem prm_0 : prm 0 = [0, 1, 2, 3, 4] := by decide +kernel
theorem prm_ag : ∀ i, i < 120 → AG (prm i) 5 := by unfold AG; decide +kernel
/-- the next row -/
def fiN (xs : List Int32) : Nat → Nat
  | 0 => 0
  | k + 1 => if cl xs (nI k) ≤ cl xs (nI (k + 1)) then k + 1 else fiN xs k
def fjN (xs : List Int32) (i : Nat) : Nat → Nat
  | 0 => 0
  | j + 1 => if j + 1 ≤ i then j + 1 else if cl xs (nI i) ≤ cl xs (nI (j + 1)) then j + 1 else fjN xs i j
def swp (xs : List Int32) (a b : Nat) : List Int32 := pt (pt xs (nI b) (cl xs (nI a))) (nI a) (cl xs (nI b))
def frN : Nat → Nat → Nat → List Int32 → List Int32
  | 0, _, _, xs => xs
  | f + 1, a, b, xs => if b ≤ a then xs else frN f (a + 1) (b - 1) (swp xs a b)
def nxF (xs : List Int32) : List Int32 := if fiN xs 4 = 0 then xs else frN 5 (fiN xs 4) 4 (swp xs (fiN xs 4 - 1) (fjN xs (fiN xs 4 - 1) 4))
theorem prm_nx : ∀ i, i < 119 → nxF (prm i) = prm (i + 1) := by decide +kernel
theorem swp_len (xs : List Int32) (a b : Nat) : (swp xs a b).length = xs.length := by unfold swp; rw [pt_len, pt_len]
theorem fiN_le (xs : List Int32) : ∀ k, fiN xs k ≤ k
  | 0 => Nat.le_refl _
  | k + 1 => by
    rw [fiN]
    split
    · exact Nat.le_refl _
    · exact Nat.le_succ_of_le (fiN_le xs k)
theorem fjN_le (xs : List Int32) (i : Nat) : ∀ k, fjN xs i k ≤ k
  | 0 => Nat.le_refl _
  | k + 1 => by
    rw [fjN]
    split
    · exact Nat.le_refl _
    · split
      · exact Nat.le_refl _
      · exact Nat.le_succ_of_le (fjN_le xs i k)
def viN (k : Nat) : Int32 := if k = 0 then -1 else nI (k - 1)
theorem c_nextRow {d : Nat} {h : Nat → List Int32} {K : Option Value → pm_S → Prop} (h5 : (h 83).length = 5) : pm_WC fqP (d + 3) 98 [.ref 83] (mk h) K = K none (mk (up h 83 (nxF (h 83)))) := by
  have rev : ∀ (f a b : Nat) (xs : List Int32) (x1 x2 : Option Value), b ≤ a + f → a < 10 → b < 10 → pm_W fqP (d + 2) 98 89 [some (.ref 83), x1, x2, some (.int (nI a)), some (.int (nI b))] [] (mk (up h 83 xs)) K = K none (mk (up h 83 (frN f a b xs))) := by
    intro f
    induction f with
    | zero =>
      intro a b xs x1 x2 hb ha hb2
      have e1 : (nI b ≤ nI a) = True := by rw [ni_le (by omega) (by omega)]; exact eq_true (by omega)
      rw [b_X_goToNextRow_89]
      simp (maxDischargeDepth := 20) (maxSteps := 2000000) only [↓reduceIte, pm_WL_nil, bi_900, bi_901, bi_904, bi_905, pm_lget_0, pm_lget_s, pm_oI_s, pm_oA_s, pm_oJ_s, pm_oK_s, pm_oR_s, pm_oO_s, pm_oN_s, pm_oF_s, pm_oM_s, pm_oP_s, pm_pu_n, pm_pu_s, pm_bo_ne, pm_bo_eq, Nat.reduceAdd, Nat.reduceSub, Nat.reduceLT, Nat.reduceLeDiff, Nat.reduceEqDiff, Nat.zero_add, Nat.lt_add_one, Nat.zero_ne_one, Nat.succ_ne_self, List.length_cons, List.length_nil, true_and, and_true, true_or, or_true, false_or, or_false, false_implies, true_implies, implies_true, not_true_eq_false, not_false_eq_true, ne_eq, eq_self, e_X_goToNextRow, pm_okW_0, pm_okW_i, pm_okW_r, pm_okW_l, pm_ent_0, pm_ent_i, pm_ent_r, pm_ent_l, List.reduceReplicate, b_X_goToNextRow_0, b_X_goToNextRow_9, b_X_goToNextRow_24, b_X_goToNextRow_30, b_X_goToNextRow_34, b_X_goToNextRow_35, b_X_goToNextRow_45, b_X_goToNextRow_58, b_X_goToNextRow_64, b_X_goToNextRow_95, b_X_goToNextRow_120, f_aloadn0, w_iconst, ki_2, w_isub, w_istore1, pm_lset_0, pm_lset_1, pm_lset_n, pm_no2_n, pm_no2_i, pm_no2_r, pm_no2_l, f_iloadn1, w_if_lt, pm_tgt_is, Int.cast_ofNat_Int, Int.reduceNeg, Int.reduceAdd, Int.reduceToNat, Int.zero_add, Int.zero_le_ofNat, Int.reduceLE, nz_1, nz_m1, if_true, if_false, iv_98_113, kk_n, kk_s, ki_1, w_iadd, w_icmp_le, f_iinc1, ki_m1, w_goto, w_if_ge, w_ret, w_istore2, f_iloadn2, w_icmp_ge, f_iinc2, iv_98_143, iv_98_56, w_istore3, w_istore, f_iloadn3, f_iload4, f_iinc3, f_iinc4, e1]
      rfl
    | succ f ih =>
      intro a b xs x1 x2 hb ha hb2
      rw [b_X_goToNextRow_89, frN]
      by_cases q : b ≤ a
      · have e1 : (nI b ≤ nI a) = True := by rw [ni_le (by omega) (by omega)]; exact eq_true q
        rw [if_pos q]
        simp (maxDischargeDepth := 20) (maxSteps := 2000000) only [↓reduceIte, pm_WL_nil, bi_900, bi_901, bi_904, bi_905, pm_lget_0, pm_lget_s, pm_oI_s, pm_oA_s, pm_oJ_s, pm_oK_s, pm_oR_s, pm_oO_s, pm_oN_s, pm_oF_s, pm_oM_s, pm_oP_s, pm_pu_n, pm_pu_s, pm_bo_ne, pm_bo_eq, Nat.reduceAdd, Nat.reduceSub, Nat.reduceLT, Nat.reduceLeDiff, Nat.reduceEqDiff, Nat.zero_add, Nat.lt_add_one, Nat.zero_ne_one, Nat.succ_ne_self, List.length_cons, List.length_nil, true_and, and_true, true_or, or_true, false_or, or_false, false_implies, true_implies, implies_true, not_true_eq_false, not_false_eq_true, ne_eq, eq_self, e_X_goToNextRow, pm_okW_0, pm_okW_i, pm_okW_r, pm_okW_l, pm_ent_0, pm_ent_i, pm_ent_r, pm_ent_l, List.reduceReplicate, b_X_goToNextRow_0, b_X_goToNextRow_9, b_X_goToNextRow_24, b_X_goToNextRow_30, b_X_goToNextRow_34, b_X_goToNextRow_35, b_X_goToNextRow_45, b_X_goToNextRow_58, b_X_goToNextRow_64, b_X_goToNextRow_95, b_X_goToNextRow_120, f_aloadn0, w_iconst, ki_2, w_isub, w_istore1, pm_lset_0, pm_lset_1, pm_lset_n, pm_no2_n, pm_no2_i, pm_no2_r, pm_no2_l, f_iloadn1, w_if_lt, pm_tgt_is, Int.cast_ofNat_Int, Int.reduceNeg, Int.reduceAdd, Int.reduceToNat, Int.zero_add, Int.zero_le_ofNat, Int.reduceLE, nz_1, nz_m1, if_true, if_false, iv_98_113, kk_n, kk_s, ki_1, w_iadd, w_icmp_le, f_iinc1, ki_m1, w_goto, w_if_ge, w_ret, w_istore2, f_iloadn2, w_icmp_ge, f_iinc2, iv_98_143, iv_98_56, w_istore3, w_istore, f_iloadn3, f_iload4, f_iinc3, f_iinc4, e1]
      · have e1 : (nI b ≤ nI a) = False := by rw [ni_le (by omega) (by omega)]; exact eq_false q
        obtain ⟨b, rfl⟩ : ∃ c, b = c + 1 := ⟨b - 1, by omega⟩
        rw [if_neg q]
        simp (maxDischargeDepth := 20) (maxSteps := 2000000) only [↓reduceIte, pm_WL_nil, bi_900, bi_901, bi_904, bi_905, pm_lget_0, pm_lget_s, pm_oI_s, pm_oA_s, pm_oJ_s, pm_oK_s, pm_oR_s, pm_oO_s, pm_oN_s, pm_oF_s, pm_oM_s, pm_oP_s, pm_pu_n, pm_pu_s, pm_bo_ne, pm_bo_eq, Nat.reduceAdd, Nat.reduceSub, Nat.reduceLT, Nat.reduceLeDiff, Nat.reduceEqDiff, Nat.zero_add, Nat.lt_add_one, Nat.zero_ne_one, Nat.succ_ne_self, List.length_cons, List.length_nil, true_and, and_true, true_or, or_true, false_or, or_false, false_implies, true_implies, implies_true, not_true_eq_false, not_false_eq_true, ne_eq, eq_self, e_X_goToNextRow, pm_okW_0, pm_okW_i, pm_okW_r, pm_okW_l, pm_ent_0, pm_ent_i, pm_ent_r, pm_ent_l, List.reduceReplicate, b_X_goToNextRow_0, b_X_goToNextRow_9, b_X_goToNextRow_24, b_X_goToNextRow_30, b_X_goToNextRow_34, b_X_goToNextRow_35, b_X_goToNextRow_45, b_X_goToNextRow_58, b_X_goToNextRow_64, b_X_goToNextRow_95, b_X_goToNextRow_120, f_aloadn0, w_iconst, ki_2, w_isub, w_istore1, pm_lset_0, pm_lset_1, pm_lset_n, pm_no2_n, pm_no2_i, pm_no2_r, pm_no2_l, f_iloadn1, w_if_lt, pm_tgt_is, Int.cast_ofNat_Int, Int.reduceNeg, Int.reduceAdd, Int.reduceToNat, Int.zero_add, Int.zero_le_ofNat, Int.reduceLE, nz_1, nz_m1, if_true, if_false, iv_98_113, kk_n, kk_s, ki_1, w_iadd, w_icmp_le, f_iinc1, ki_m1, w_goto, w_if_ge, w_ret, w_istore2, f_iloadn2, w_icmp_ge, f_iinc2, iv_98_143, iv_98_56, w_istore3, w_istore, f_iloadn3, f_iload4, f_iinc3, f_iinc4, f_iald_83, f_alen_83, ia_83, ar_83, f_iast_83, iw_83, hs_83, up_at, up_ne, up_up, gd_0, gd_s, c_X_cell, c_X_put, c_X_exchange, e1, ni_1, ni_neg1]
        exact ih (a + 1) b (swp xs a (b + 1)) x1 (pm_no2 x2) (by omega) (by omega) (by omega)
  have fj : ∀ (j i : Nat) (x3 x4 : Option Value), j < 10 → i < 10 → pm_W fqP (d + 2) 98 40 [some (.ref 83), some (.int (nI i)), some (.int (nI j)), x3, x4] [] (mk h) K = pm_W fqP (d + 2) 98 64 [some (.ref 83), some (.int (nI i)), some (.int (nI (fjN (h 83) i j))), x3, x4] [] (mk h) K := by
    intro j
    induction j with
    | zero =>
      intro i x3 x4 hj hi
      have e1 : (nI 0 ≤ nI i) = True := by rw [ni_le (by omega) (by omega)]; exact eq_true (by omega)
      rw [b_X_goToNextRow_40]
      simp (maxDischargeDepth := 20) (maxSteps := 2000000) only [↓reduceIte, pm_WL_nil, bi_900, bi_901, bi_904, bi_905, pm_lget_0, pm_lget_s, pm_oI_s, pm_oA_s, pm_oJ_s, pm_oK_s, pm_oR_s, pm_oO_s, pm_oN_s, pm_oF_s, pm_oM_s, pm_oP_s, pm_pu_n, pm_pu_s, pm_bo_ne, pm_bo_eq, Nat.reduceAdd, Nat.reduceSub, Nat.reduceLT, Nat.reduceLeDiff, Nat.reduceEqDiff, Nat.zero_add, Nat.lt_add_one, Nat.zero_ne_one, Nat.succ_ne_self, List.length_cons, List.length_nil, true_and, and_true, true_or, or_true, false_or, or_false, false_implies, true_implies, implies_true, not_true_eq_false, not_false_eq_true, ne_eq, eq_self, e_X_goToNextRow, pm_okW_0, pm_okW_i, pm_okW_r, pm_okW_l, pm_ent_0, pm_ent_i, pm_ent_r, pm_ent_l, List.reduceReplicate, b_X_goToNextRow_0, b_X_goToNextRow_9, b_X_goToNextRow_24, b_X_goToNextRow_30, b_X_goToNextRow_34, b_X_goToNextRow_35, b_X_goToNextRow_45, b_X_goToNextRow_58, b_X_goToNextRow_95, b_X_goToNextRow_120, f_aloadn0, w_iconst, ki_2, w_isub, w_istore1, pm_lset_0, pm_lset_1, pm_lset_n, pm_no2_n, pm_no2_i, pm_no2_r, pm_no2_l, f_iloadn1, w_if_lt, pm_tgt_is, Int.cast_ofNat_Int, Int.reduceNeg, Int.reduceAdd, Int.reduceToNat, Int.zero_add, Int.zero_le_ofNat, Int.reduceLE, nz_1, nz_m1, if_true, if_false, iv_98_113, kk_n, kk_s, ki_1, w_iadd, w_icmp_le, f_iinc1, ki_m1, w_goto, w_if_ge, w_ret, w_istore2, f_iloadn2, w_icmp_ge, f_iinc2, iv_98_143, iv_98_56, w_istore3, w_istore, f_iloadn3, f_iload4, f_iinc3, f_iinc4, e1]
      rfl
    | succ j ih =>
      intro i x3 x4 hj hi
      rw [b_X_goToNextRow_40, fjN]
      by_cases q : j + 1 ≤ i
      · have e1 : (nI (j + 1) ≤ nI i) = True := by rw [ni_le (by omega) (by omega)]; exact eq_true q
        rw [if_pos q]
        simp (maxDischargeDepth := 20) (maxSteps := 2000000) only [↓reduceIte, pm_WL_nil, bi_900, bi_901, bi_904, bi_905, pm_lget_0, pm_lget_s, pm_oI_s, pm_oA_s, pm_oJ_s, pm_oK_s, pm_oR_s, pm_oO_s, pm_oN_s, pm_oF_s, pm_oM_s, pm_oP_s, pm_pu_n, pm_pu_s, pm_bo_ne, pm_bo_eq, Nat.reduceAdd, Nat.reduceSub, Nat.reduceLT, Nat.reduceLeDiff, Nat.reduceEqDiff, Nat.zero_add, Nat.lt_add_one, Nat.zero_ne_one, Nat.succ_ne_self, List.length_cons, List.length_nil, true_and, and_true, true_or, or_true, false_or, or_false, false_implies, true_implies, implies_true, not_true_eq_false, not_false_eq_true, ne_eq, eq_self, e_X_goToNextRow, pm_okW_0, pm_okW_i, pm_okW_r, pm_okW_l, pm_ent_0, pm_ent_i, pm_ent_r, pm_ent_l, List.reduceReplicate, b_X_goToNextRow_0, b_X_goToNextRow_9, b_X_goToNextRow_24, b_X_goToNextRow_30, b_X_goToNextRow_34, b_X_goToNextRow_35, b_X_goToNextRow_45, b_X_goToNextRow_58, b_X_goToNextRow_95, b_X_goToNextRow_120, f_aloadn0, w_iconst, ki_2, w_isub, w_istore1, pm_lset_0, pm_lset_1, pm_lset_n, pm_no2_n, pm_no2_i, pm_no2_r, pm_no2_l, f_iloadn1, w_if_lt, pm_tgt_is, Int.cast_ofNat_Int, Int.reduceNeg, Int.reduceAdd, Int.reduceToNat, Int.zero_add, Int.zero_le_ofNat, Int.reduceLE, nz_1, nz_m1, if_true, if_false, iv_98_113, kk_n, kk_s, ki_1, w_iadd, w_icmp_le, f_iinc1, ki_m1, w_goto, w_if_ge, w_ret, w_istore2, f_iloadn2, w_icmp_ge, f_iinc2, iv_98_143, iv_98_56, w_istore3, w_istore, f_iloadn3, f_iload4, f_iinc3, f_iinc4, e1]
      · have e1 : (nI (j + 1) ≤ nI i) = False := by rw [ni_le (by omega) (by omega)]; exact eq_false q
        rw [if_neg q]
        by_cases z : cl (h 83) (nI i) ≤ cl (h 83) (nI (j + 1))
        · have z1 := eq_true z
          rw [if_pos z]
          simp (maxDischargeDepth := 20) (maxSteps := 2000000) only [↓reduceIte, pm_WL_nil, bi_900, bi_901, bi_904, bi_905, pm_lget_0, pm_lget_s, pm_oI_s, pm_oA_s, pm_oJ_s, pm_oK_s, pm_oR_s, pm_oO_s, pm_oN_s, pm_oF_s, pm_oM_s, pm_oP_s, pm_pu_n, pm_pu_s, pm_bo_ne, pm_bo_eq, Nat.reduceAdd, Nat.reduceSub, Nat.reduceLT, Nat.reduceLeDiff, Nat.reduceEqDiff, Nat.zero_add, Nat.lt_add_one, Nat.zero_ne_one, Nat.succ_ne_self, List.length_cons, List.length_nil, true_and, and_true, true_or, or_true, false_or, or_false, false_implies, true_implies, implies_true, not_true_eq_false, not_false_eq_true, ne_eq, eq_self, e_X_goToNextRow, pm_okW_0, pm_okW_i, pm_okW_r, pm_okW_l, pm_ent_0, pm_ent_i, pm_ent_r, pm_ent_l, List.reduceReplicate, b_X_goToNextRow_0, b_X_goToNextRow_9, b_X_goToNextRow_24, b_X_goToNextRow_30, b_X_goToNextRow_34, b_X_goToNextRow_35, b_X_goToNextRow_45, b_X_goToNextRow_58, b_X_goToNextRow_95, b_X_goToNextRow_120, f_aloadn0, w_iconst, ki_2, w_isub, w_istore1, pm_lset_0, pm_lset_1, pm_lset_n, pm_no2_n, pm_no2_i, pm_no2_r, pm_no2_l, f_iloadn1, w_if_lt, pm_tgt_is, Int.cast_ofNat_Int, Int.reduceNeg, Int.reduceAdd, Int.reduceToNat, Int.zero_add, Int.zero_le_ofNat, Int.reduceLE, nz_1, nz_m1, if_true, if_false, iv_98_113, kk_n, kk_s, ki_1, w_iadd, w_icmp_le, f_iinc1, ki_m1, w_goto, w_if_ge, w_ret, w_istore2, f_iloadn2, w_icmp_ge, f_iinc2, iv_98_143, iv_98_56, w_istore3, w_istore, f_iloadn3, f_iload4, f_iinc3, f_iinc4, f_iald_83, f_alen_83, ia_83, ar_83, f_iast_83, iw_83, hs_83, c_X_cell, e1, z1]
        · have z1 := eq_false z
          rw [if_neg z]
          simp (maxDischargeDepth := 20) (maxSteps := 2000000) only [↓reduceIte, pm_WL_nil, bi_900, bi_901, bi_904, bi_905, pm_lget_0, pm_lget_s, pm_oI_s, pm_oA_s, pm_oJ_s, pm_oK_s, pm_oR_s, pm_oO_s, pm_oN_s, pm_oF_s, pm_oM_s, pm_oP_s, pm_pu_n, pm_pu_s, pm_bo_ne, pm_bo_eq, Nat.reduceAdd, Nat.reduceSub, Nat.reduceLT, Nat.reduceLeDiff, Nat.reduceEqDiff, Nat.zero_add, Nat.lt_add_one, Nat.zero_ne_one, Nat.succ_ne_self, List.length_cons, List.length_nil, true_and, and_true, true_or, or_true, false_or, or_false, false_implies, true_implies, implies_true, not_true_eq_false, not_false_eq_true, ne_eq, eq_self, e_X_goToNextRow, pm_okW_0, pm_okW_i, pm_okW_r, pm_okW_l, pm_ent_0, pm_ent_i, pm_ent_r, pm_ent_l, List.reduceReplicate, b_X_goToNextRow_0, b_X_goToNextRow_9, b_X_goToNextRow_24, b_X_goToNextRow_30, b_X_goToNextRow_34, b_X_goToNextRow_35, b_X_goToNextRow_45, b_X_goToNextRow_58, b_X_goToNextRow_95, b_X_goToNextRow_120, f_aloadn0, w_iconst, ki_2, w_isub, w_istore1, pm_lset_0, pm_lset_1, pm_lset_n, pm_no2_n, pm_no2_i, pm_no2_r, pm_no2_l, f_iloadn1, w_if_lt, pm_tgt_is, Int.cast_ofNat_Int, Int.reduceNeg, Int.reduceAdd, Int.reduceToNat, Int.zero_add, Int.zero_le_ofNat, Int.reduceLE, nz_1, nz_m1, if_true, if_false, iv_98_113, kk_n, kk_s, ki_1, w_iadd, w_icmp_le, f_iinc1, ki_m1, w_goto, w_if_ge, w_ret, w_istore2, f_iloadn2, w_icmp_ge, f_iinc2, iv_98_143, iv_98_56, w_istore3, w_istore, f_iloadn3, f_iload4, f_iinc3, f_iinc4, f_iald_83, f_alen_83, ia_83, ar_83, f_iast_83, iw_83, hs_83, c_X_cell, e1, z1, ni_neg1]
          exact ih i x3 x4 (by omega) hi
  have fi : ∀ (k : Nat) (x2 x3 x4 : Option Value), k < 10 → pm_W fqP (d + 2) 98 5 [some (.ref 83), some (.int (viN k)), x2, x3, x4] [] (mk h) K = pm_W fqP (d + 2) 98 30 [some (.ref 83), some (.int (viN (fiN (h 83) k))), x2, x3, x4] [] (mk h) K := by
    intro k
    induction k with
    | zero =>
      intro x2 x3 x4 hk
      have e1 : (viN 0 < 0) = True := eq_true (by decide)
      rw [b_X_goToNextRow_5]
      simp (maxDischargeDepth := 20) (maxSteps := 2000000) only [↓reduceIte, pm_WL_nil, bi_900, bi_901, bi_904, bi_905, pm_lget_0, pm_lget_s, pm_oI_s, pm_oA_s, pm_oJ_s, pm_oK_s, pm_oR_s, pm_oO_s, pm_oN_s, pm_oF_s, pm_oM_s, pm_oP_s, pm_pu_n, pm_pu_s, pm_bo_ne, pm_bo_eq, Nat.reduceAdd, Nat.reduceSub, Nat.reduceLT, Nat.reduceLeDiff, Nat.reduceEqDiff, Nat.zero_add, Nat.lt_add_one, Nat.zero_ne_one, Nat.succ_ne_self, List.length_cons, List.length_nil, true_and, and_true, true_or, or_true, false_or, or_false, false_implies, true_implies, implies_true, not_true_eq_false, not_false_eq_true, ne_eq, eq_self, e_X_goToNextRow, pm_okW_0, pm_okW_i, pm_okW_r, pm_okW_l, pm_ent_0, pm_ent_i, pm_ent_r, pm_ent_l, List.reduceReplicate, b_X_goToNextRow_0, b_X_goToNextRow_9, b_X_goToNextRow_24, b_X_goToNextRow_34, b_X_goToNextRow_35, b_X_goToNextRow_45, b_X_goToNextRow_58, b_X_goToNextRow_64, b_X_goToNextRow_95, b_X_goToNextRow_120, f_aloadn0, w_iconst, ki_2, w_isub, w_istore1, pm_lset_0, pm_lset_1, pm_lset_n, pm_no2_n, pm_no2_i, pm_no2_r, pm_no2_l, f_iloadn1, w_if_lt, pm_tgt_is, Int.cast_ofNat_Int, Int.reduceNeg, Int.reduceAdd, Int.reduceToNat, Int.zero_add, Int.zero_le_ofNat, Int.reduceLE, nz_1, nz_m1, if_true, if_false, iv_98_113, kk_n, kk_s, ki_1, w_iadd, w_icmp_le, f_iinc1, ki_m1, w_goto, w_if_ge, w_ret, w_istore2, f_iloadn2, w_icmp_ge, f_iinc2, iv_98_143, iv_98_56, w_istore3, w_istore, f_iloadn3, f_iload4, f_iinc3, f_iinc4, e1]
      rfl
    | succ k ih =>
      intro x2 x3 x4 hk
      have v0 : viN (k + 1) = nI k := by unfold viN; rw [if_neg (by omega)]; rfl
      have e1 := nlt0 k (by omega)
      rw [b_X_goToNextRow_5, fiN]
      by_cases z : cl (h 83) (nI k) ≤ cl (h 83) (nI (k + 1))
      · have z1 := eq_true z
        rw [if_pos z]
        simp (maxDischargeDepth := 20) (maxSteps := 2000000) only [↓reduceIte, pm_WL_nil, bi_900, bi_901, bi_904, bi_905, pm_lget_0, pm_lget_s, pm_oI_s, pm_oA_s, pm_oJ_s, pm_oK_s, pm_oR_s, pm_oO_s, pm_oN_s, pm_oF_s, pm_oM_s, pm_oP_s, pm_pu_n, pm_pu_s, pm_bo_ne, pm_bo_eq, Nat.reduceAdd, Nat.reduceSub, Nat.reduceLT, Nat.reduceLeDiff, Nat.reduceEqDiff, Nat.zero_add, Nat.lt_add_one, Nat.zero_ne_one, Nat.succ_ne_self, List.length_cons, List.length_nil, true_and, and_true, true_or, or_true, false_or, or_false, false_implies, true_implies, implies_true, not_true_eq_false, not_false_eq_true, ne_eq, eq_self, e_X_goToNextRow, pm_okW_0, pm_okW_i, pm_okW_r, pm_okW_l, pm_ent_0, pm_ent_i, pm_ent_r, pm_ent_l, List.reduceReplicate, b_X_goToNextRow_0, b_X_goToNextRow_9, b_X_goToNextRow_24, b_X_goToNextRow_34, b_X_goToNextRow_35, b_X_goToNextRow_45, b_X_goToNextRow_58, b_X_goToNextRow_64, b_X_goToNextRow_95, b_X_goToNextRow_120, f_aloadn0, w_iconst, ki_2, w_isub, w_istore1, pm_lset_0, pm_lset_1, pm_lset_n, pm_no2_n, pm_no2_i, pm_no2_r, pm_no2_l, f_iloadn1, w_if_lt, pm_tgt_is, Int.cast_ofNat_Int, Int.reduceNeg, Int.reduceAdd, Int.reduceToNat, Int.zero_add, Int.zero_le_ofNat, Int.reduceLE, nz_1, nz_m1, if_true, if_false, iv_98_113, kk_n, kk_s, ki_1, w_iadd, w_icmp_le, f_iinc1, ki_m1, w_goto, w_if_ge, w_ret, w_istore2, f_iloadn2, w_icmp_ge, f_iinc2, iv_98_143, iv_98_56, w_istore3, w_istore, f_iloadn3, f_iload4, f_iinc3, f_iinc4, f_iald_83, f_alen_83, ia_83, ar_83, f_iast_83, iw_83, hs_83, c_X_cell, v0, e1, z1, ni_1]
      · have z1 := eq_false z
        have v1 : nI k + -1 = viN k := by
          cases k with
          | zero => rfl
          | succ k => rw [ni_neg1]; unfold viN; rw [if_neg (by omega)]; rfl
        rw [if_neg z]
        simp (maxDischargeDepth := 20) (maxSteps := 2000000) only [↓reduceIte, pm_WL_nil, bi_900, bi_901, bi_904, bi_905, pm_lget_0, pm_lget_s, pm_oI_s, pm_oA_s, pm_oJ_s, pm_oK_s, pm_oR_s, pm_oO_s, pm_oN_s, pm_oF_s, pm_oM_s, pm_oP_s, pm_pu_n, pm_pu_s, pm_bo_ne, pm_bo_eq, Nat.reduceAdd, Nat.reduceSub, Nat.reduceLT, Nat.reduceLeDiff, Nat.reduceEqDiff, Nat.zero_add, Nat.lt_add_one, Nat.zero_ne_one, Nat.succ_ne_self, List.length_cons, List.length_nil, true_and, and_true, true_or, or_true, false_or, or_false, false_implies, true_implies, implies_true, not_true_eq_false, not_false_eq_true, ne_eq, eq_self, e_X_goToNextRow, pm_okW_0, pm_okW_i, pm_okW_r, pm_okW_l, pm_ent_0, pm_ent_i, pm_ent_r, pm_ent_l, List.reduceReplicate, b_X_goToNextRow_0, b_X_goToNextRow_9, b_X_goToNextRow_24, b_X_goToNextRow_34, b_X_goToNextRow_35, b_X_goToNextRow_45, b_X_goToNextRow_58, b_X_goToNextRow_64, b_X_goToNextRow_95, b_X_goToNextRow_120, f_aloadn0, w_iconst, ki_2, w_isub, w_istore1, pm_lset_0, pm_lset_1, pm_lset_n, pm_no2_n, pm_no2_i, pm_no2_r, pm_no2_l, f_iloadn1, w_if_lt, pm_tgt_is, Int.cast_ofNat_Int, Int.reduceNeg, Int.reduceAdd, Int.reduceToNat, Int.zero_add, Int.zero_le_ofNat, Int.reduceLE, nz_1, nz_m1, if_true, if_false, iv_98_113, kk_n, kk_s, ki_1, w_iadd, w_icmp_le, f_iinc1, ki_m1, w_goto, w_if_ge, w_ret, w_istore2, f_iloadn2, w_icmp_ge, f_iinc2, iv_98_143, iv_98_56, w_istore3, w_istore, f_iloadn3, f_iload4, f_iinc3, f_iinc4, f_iald_83, f_alen_83, ia_83, ar_83, f_iast_83, iw_83, hs_83, c_X_cell, v0, e1, z1, ni_1, v1]
        exact ih x2 x3 x4 (by omega)
  have l2 : nI 5 - 2 = viN 4 := by decide
  have l1 : nI 5 - 1 = nI 4 := by decide
  have hfi := fiN_le (h 83) 4
  simp (maxDischargeDepth := 20) (maxSteps := 2000000) only [↓reduceIte, pm_WL_nil, bi_900, bi_901, bi_904, bi_905, pm_lget_0, pm_lget_s, pm_oI_s, pm_oA_s, pm_oJ_s, pm_oK_s, pm_oR_s, pm_oO_s, pm_oN_s, pm_oF_s, pm_oM_s, pm_oP_s, pm_pu_n, pm_pu_s, pm_bo_ne, pm_bo_eq, Nat.reduceAdd, Nat.reduceSub, Nat.reduceLT, Nat.reduceLeDiff, Nat.reduceEqDiff, Nat.zero_add, Nat.lt_add_one, Nat.zero_ne_one, Nat.succ_ne_self, List.length_cons, List.length_nil, true_and, and_true, true_or, or_true, false_or, or_false, false_implies, true_implies, implies_true, not_true_eq_false, not_false_eq_true, ne_eq, eq_self, e_X_goToNextRow, pm_okW_0, pm_okW_i, pm_okW_r, pm_okW_l, pm_ent_0, pm_ent_i, pm_ent_r, pm_ent_l, List.reduceReplicate, b_X_goToNextRow_0, b_X_goToNextRow_9, b_X_goToNextRow_24, b_X_goToNextRow_30, b_X_goToNextRow_34, b_X_goToNextRow_35, b_X_goToNextRow_45, b_X_goToNextRow_58, b_X_goToNextRow_64, b_X_goToNextRow_95, b_X_goToNextRow_120, f_aloadn0, w_iconst, ki_2, w_isub, w_istore1, pm_lset_0, pm_lset_1, pm_lset_n, pm_no2_n, pm_no2_i, pm_no2_r, pm_no2_l, f_iloadn1, w_if_lt, pm_tgt_is, Int.cast_ofNat_Int, Int.reduceNeg, Int.reduceAdd, Int.reduceToNat, Int.zero_add, Int.zero_le_ofNat, Int.reduceLE, nz_1, nz_m1, if_true, if_false, iv_98_113, kk_n, kk_s, ki_1, w_iadd, w_icmp_le, f_iinc1, ki_m1, w_goto, w_if_ge, w_ret, w_istore2, f_iloadn2, w_icmp_ge, f_iinc2, iv_98_143, iv_98_56, w_istore3, w_istore, f_iloadn3, f_iload4, f_iinc3, f_iinc4, f_iald_83, f_alen_83, ia_83, ar_83, f_iast_83, iw_83, hs_83, h5, l2]
  rw [fi 4 _ _ _ (by omega), b_X_goToNextRow_30]
  unfold nxF
  by_cases z : fiN (h 83) 4 = 0
  · have e1 : (viN (fiN (h 83) 4) < 0) = True := by rw [z]; exact eq_true (by decide)
    have e2 : ((0 : Int32) ≤ viN (fiN (h 83) 4)) = False := by rw [z]; exact eq_false (by decide)
    rw [if_pos z, up_id]
    simp (maxDischargeDepth := 20) (maxSteps := 2000000) only [↓reduceIte, pm_WL_nil, bi_900, bi_901, bi_904, bi_905, pm_lget_0, pm_lget_s, pm_oI_s, pm_oA_s, pm_oJ_s, pm_oK_s, pm_oR_s, pm_oO_s, pm_oN_s, pm_oF_s, pm_oM_s, pm_oP_s, pm_pu_n, pm_pu_s, pm_bo_ne, pm_bo_eq, Nat.reduceAdd, Nat.reduceSub, Nat.reduceLT, Nat.reduceLeDiff, Nat.reduceEqDiff, Nat.zero_add, Nat.lt_add_one, Nat.zero_ne_one, Nat.succ_ne_self, List.length_cons, List.length_nil, true_and, and_true, true_or, or_true, false_or, or_false, false_implies, true_implies, implies_true, not_true_eq_false, not_false_eq_true, ne_eq, eq_self, e_X_goToNextRow, pm_okW_0, pm_okW_i, pm_okW_r, pm_okW_l, pm_ent_0, pm_ent_i, pm_ent_r, pm_ent_l, List.reduceReplicate, b_X_goToNextRow_0, b_X_goToNextRow_9, b_X_goToNextRow_24, b_X_goToNextRow_30, b_X_goToNextRow_34, b_X_goToNextRow_35, b_X_goToNextRow_45, b_X_goToNextRow_58, b_X_goToNextRow_64, b_X_goToNextRow_95, b_X_goToNextRow_120, f_aloadn0, w_iconst, ki_2, w_isub, w_istore1, pm_lset_0, pm_lset_1, pm_lset_n, pm_no2_n, pm_no2_i, pm_no2_r, pm_no2_l, f_iloadn1, w_if_lt, pm_tgt_is, Int.cast_ofNat_Int, Int.reduceNeg, Int.reduceAdd, Int.reduceToNat, Int.zero_add, Int.zero_le_ofNat, Int.reduceLE, nz_1, nz_m1, if_true, if_false, iv_98_113, kk_n, kk_s, ki_1, w_iadd, w_icmp_le, f_iinc1, ki_m1, w_goto, w_if_ge, w_ret, w_istore2, f_iloadn2, w_icmp_ge, f_iinc2, iv_98_143, iv_98_56, w_istore3, w_istore, f_iloadn3, f_iload4, f_iinc3, f_iinc4, f_iald_83, f_alen_83, ia_83, ar_83, f_iast_83, iw_83, hs_83, e1, e2]
  · obtain ⟨i, ei⟩ : ∃ i, fiN (h 83) 4 = i + 1 := ⟨fiN (h 83) 4 - 1, by omega⟩
    have v0 : viN (fiN (h 83) 4) = nI i := by rw [ei]; unfold viN; rw [if_neg (by omega)]; rfl
    have e1 := nlt0 i (by omega)
    have e2 : ((0 : Int32) ≤ nI i) = True := by rw [li_le 0 i (by omega) (by omega)]; exact eq_true (by omega)
    rw [if_neg z, v0, ei]
    simp (maxDischargeDepth := 20) (maxSteps := 2000000) only [↓reduceIte, pm_WL_nil, bi_900, bi_901, bi_904, bi_905, pm_lget_0, pm_lget_s, pm_oI_s, pm_oA_s, pm_oJ_s, pm_oK_s, pm_oR_s, pm_oO_s, pm_oN_s, pm_oF_s, pm_oM_s, pm_oP_s, pm_pu_n, pm_pu_s, pm_bo_ne, pm_bo_eq, Nat.reduceAdd, Nat.reduceSub, Nat.reduceLT, Nat.reduceLeDiff, Nat.reduceEqDiff, Nat.zero_add, Nat.lt_add_one, Nat.zero_ne_one, Nat.succ_ne_self, List.length_cons, List.length_nil, true_and, and_true, true_or, or_true, false_or, or_false, false_implies, true_implies, implies_true, not_true_eq_false, not_false_eq_true, ne_eq, eq_self, e_X_goToNextRow, pm_okW_0, pm_okW_i, pm_okW_r, pm_okW_l, pm_ent_0, pm_ent_i, pm_ent_r, pm_ent_l, List.reduceReplicate, b_X_goToNextRow_0, b_X_goToNextRow_9, b_X_goToNextRow_24, b_X_goToNextRow_30, b_X_goToNextRow_34, b_X_goToNextRow_35, b_X_goToNextRow_45, b_X_goToNextRow_58, b_X_goToNextRow_64, b_X_goToNextRow_95, b_X_goToNextRow_120, f_aloadn0, w_iconst, ki_2, w_isub, w_istore1, pm_lset_0, pm_lset_1, pm_lset_n, pm_no2_n, pm_no2_i, pm_no2_r, pm_no2_l, f_iloadn1, w_if_lt, pm_tgt_is, Int.cast_ofNat_Int, Int.reduceNeg, Int.reduceAdd, Int.reduceToNat, Int.zero_add, Int.zero_le_ofNat, Int.reduceLE, nz_1, nz_m1, if_true, if_false, iv_98_113, kk_n, kk_s, ki_1, w_iadd, w_icmp_le, f_iinc1, ki_m1, w_goto, w_if_ge, w_ret, w_istore2, f_iloadn2, w_icmp_ge, f_iinc2, iv_98_143, iv_98_56, w_istore3, w_istore, f_iloadn3, f_iload4, f_iinc3, f_iinc4, f_iald_83, f_alen_83, ia_83, ar_83, f_iast_83, iw_83, hs_83, h5, l1, e1, e2]
    rw [fj 4 i _ _ (by omega) (by omega), b_X_goToNextRow_64]
    have l5 : ∀ a b c e : Int32, (pt (pt (h 83) a b) c e).length = 5 := fun a b c e => by rw [pt_len, pt_len, h5]
    simp (maxDischargeDepth := 20) (maxSteps := 2000000) only [↓reduceIte, pm_WL_nil, bi_900, bi_901, bi_904, bi_905, pm_lget_0, pm_lget_s, pm_oI_s, pm_oA_s, pm_oJ_s, pm_oK_s, pm_oR_s, pm_oO_s, pm_oN_s, pm_oF_s, pm_oM_s, pm_oP_s, pm_pu_n, pm_pu_s, pm_bo_ne, pm_bo_eq, Nat.reduceAdd, Nat.reduceSub, Nat.reduceLT, Nat.reduceLeDiff, Nat.reduceEqDiff, Nat.zero_add, Nat.lt_add_one, Nat.zero_ne_one, Nat.succ_ne_self, List.length_cons, List.length_nil, true_and, and_true, true_or, or_true, false_or, or_false, false_implies, true_implies, implies_true, not_true_eq_false, not_false_eq_true, ne_eq, eq_self, e_X_goToNextRow, pm_okW_0, pm_okW_i, pm_okW_r, pm_okW_l, pm_ent_0, pm_ent_i, pm_ent_r, pm_ent_l, List.reduceReplicate, b_X_goToNextRow_0, b_X_goToNextRow_9, b_X_goToNextRow_24, b_X_goToNextRow_30, b_X_goToNextRow_34, b_X_goToNextRow_35, b_X_goToNextRow_45, b_X_goToNextRow_58, b_X_goToNextRow_64, b_X_goToNextRow_95, b_X_goToNextRow_120, f_aloadn0, w_iconst, ki_2, w_isub, w_istore1, pm_lset_0, pm_lset_1, pm_lset_n, pm_no2_n, pm_no2_i, pm_no2_r, pm_no2_l, f_iloadn1, w_if_lt, pm_tgt_is, Int.cast_ofNat_Int, Int.reduceNeg, Int.reduceAdd, Int.reduceToNat, Int.zero_add, Int.zero_le_ofNat, Int.reduceLE, nz_1, nz_m1, if_true, if_false, iv_98_113, kk_n, kk_s, ki_1, w_iadd, w_icmp_le, f_iinc1, ki_m1, w_goto, w_if_ge, w_ret, w_istore2, f_iloadn2, w_icmp_ge, f_iinc2, iv_98_143, iv_98_56, w_istore3, w_istore, f_iloadn3, f_iload4, f_iinc3, f_iinc4, f_iald_83, f_alen_83, ia_83, ar_83, f_iast_83, iw_83, hs_83, up_at, up_ne, up_up, gd_0, gd_s, c_X_cell, c_X_put, c_X_exchange, l5, l1, ni_1]
    exact rev 5 (i + 1) 4 _ _ _ (by omega) (by omega) (by omega)
/-! how many are as told, and the best so far -/
def eqc (a b : Nat) : Nat → Nat
  | 0 => 0
  | k + 1 => eqc a b k + (if tb a k = tb b k then 1 else 0)
theorem eqc_le (a b : Nat) : ∀ k, eqc a b k ≤ k
  | 0 => Nat.le_refl _
  | k + 1 => by
    have := eqc_le a b k
    rw [eqc]; split <;> omega
theorem eqc_x : ∀ a, a < 32 → ∀ b, b < 32 → nI a ^^^ nI b = nI (a ^^^ b) ∧ a ^^^ b < 32 ∧ (5 : Int32) - nI (pc (a ^^^ b) 10) = nI (eqc a b 5) := by decide +kernel
abbrev bM : Type := Option (Nat × List Int32)
def vM : bM → Int32
  | none => -1
  | some (m, _) => nI m
def stO (x : Nat) (ag : List Int32) : bM → bM
  | none => some (x, ag)
  | some (m, b) => if m < x then some (x, ag) else some (m, b)
def scF (s : List Int32) (set : Nat) (ag : List Int32) : Nat := eqc (cN (goBy s ag 5)) set 5
def foO (s : List Int32) (set : Nat) (M : bM) (L : List (List Int32)) : bM := L.foldl (fun M ag => stO (scF s set ag) ag M) M
def oM : bM → Nat
  | none => 0
  | some (m, _) => m
def OB (M : bM) (b : List Int32) : Prop := oM M ≤ 5 ∧ ∀ m c, M = some (m, c) → c = b
theorem vM_le {M : bM} {x : Nat} (h5 : oM M ≤ 5) (hx : x ≤ 5) : (nI x ≤ vM M) = (¬ stO x [] M = some (x, []) ∨ M = some (x, [])) := by
  cases M with
  | none =>
    have : (nI x ≤ -1) = False := eq_false (by
      have h0 : (0 : Int32) ≤ nI x := by rw [li_le 0 x (by omega) (by omega)]; omega
      intro q
      exact absurd (Int32.le_trans h0 q) (by decide))
    show (nI x ≤ -1) = _
    rw [this]; simp [stO]
  | some mb =>
    obtain ⟨m, b⟩ := mb
    have h5 : m ≤ 5 := h5
    show (nI x ≤ nI m) = _
    rw [ni_le (by omega) (by omega)]
    simp only [stO]
    apply propext
    by_cases q : m < x
    · rw [if_pos q]
      exact ⟨fun h => by omega, fun h => h.elim (fun h => absurd rfl h) fun h => by simp at h; omega⟩
    · rw [if_neg q]
      refine ⟨fun h => ?_, fun h => by omega⟩
      by_cases e : (some (m, b) : bM) = some (x, [])
      · exact Or.inr e
      · exact Or.inl e
theorem st_le {M : bM} {x : Nat} {ag : List Int32} (h5 : oM M ≤ 5) (hx : x ≤ 5) (q : nI x ≤ vM M) : stO x ag M = M := by
  cases M with
  | none =>
    exfalso
    have h0 : (0 : Int32) ≤ nI x := by rw [li_le 0 x (by omega) (by omega)]; omega
    have q : nI x ≤ -1 := q
    exact absurd (Int32.le_trans h0 q) (by decide)
  | some mb =>
    obtain ⟨m, b⟩ := mb
    have h5 : m ≤ 5 := h5
    have q : nI x ≤ nI m := q
    rw [ni_le (by omega) (by omega)] at q
    rw [stO, if_neg (by omega)]
theorem st_gt {M : bM} {x : Nat} {ag : List Int32} (h5 : oM M ≤ 5) (hx : x ≤ 5) (q : ¬ nI x ≤ vM M) : stO x ag M = some (x, ag) := by
  cases M with
  | none => rfl
  | some mb =>
    obtain ⟨m, b⟩ := mb
    have h5 : m ≤ 5 := h5
    have q : ¬ nI x ≤ nI m := q
    rw [ni_le (by omega) (by omega)] at q
    rw [stO, if_pos (by omega)]
def FO (h h1 : Nat → List Int32) : Prop := LN h1 ∧ ∀ k, (k < 61 ∨ 75 ≤ k) → ¬ k = 83 → ¬ k = 84 → h1 k = h k
theorem set5 {xs : List Int32} (hx : xs.length = 5) : ((((xs.set 0 0).set 1 1).set 2 2).set 3 3).set 4 4 = [0, 1, 2, 3, 4] := by
  match xs, hx with
  | [_, _, _, _, _], _ => rfl
theorem take_1 (i : Nat) (hi : i < 120) : prs.take (i + 1) = prs.take i ++ [prm i] := by
  have hl : i < prs.length := by rw [prs_len]; exact hi
  rw [List.take_succ, List.getElem?_eq_getElem hl]
  unfold prm
  rw [List.getD_eq_getElem?_getD, List.getElem?_eq_getElem hl]
  rfl
theorem foO_1 (s : List Int32) (set i : Nat) (hi : i < 120) : foO s set none (prs.take (i + 1)) = stO (scF s set (prm i)) (prm i) (foO s set none (prs.take i)) := by
  unfold foO
  rw [take_1 i hi, List.foldl_append]
  rfl
theorem c_findBest {scr : List Int32} {d set : Nat} {h : Nat → List Int32} (hi : INV scr h) (hset : set < 32) : pm_WC fqP (d + 39) 79 [.ref 4, .int (nI set)] (mk h) (fun r σ => r = some (.int (vM (foO (h 86) set none (prs.take 120)))) ∧ ∃ h2, σ = mk h2 ∧ FO h h2 ∧ OB (foO (h 86) set none (prs.take 120)) (h2 84)) := by
  have hL := hi.1
  have hw := hi.2.2.1
  have hl := wf_len hw
  have hc0 := hi.2.2.2.1
  have c0 := hc0.1.1
  simp only [Nat.reduceAdd] at c0
  obtain ⟨t1, t2⟩ := wf_t hw
  have ct := fun K => @c_copyT (d + 29) h K hL
  have key : ∀ (j i : Nat) (t ag : List Int32) (n : Nat) (h1 : Nat → List Int32) (x4 : Option Value), j + i = 120 → CS 61 t ag n h1 → ag.length = 5 → SM 6 (h 86) t → FO h h1 → (i < 120 → h1 83 = prm i) → (h1 83).length = 5 → OB (foO (h 86) set none (prs.take i)) (h1 84) → pm_W fqP (d + 38) 79 40 [some (.ref 4), some (.int (nI set)), some (.int (vM (foO (h 86) set none (prs.take i)))), some (.int (nI i)), x4] [] (mk h1) (fun r σ => r = some (.int (vM (foO (h 86) set none (prs.take 120)))) ∧ ∃ h2, σ = mk h2 ∧ FO h h2 ∧ OB (foO (h 86) set none (prs.take 120)) (h2 84)) := by
    intro j
    induction j with
    | zero =>
      intro i t ag n h1 x4 hj hc1 hag hx hf h83 l83 hob
      have e1 : ((120 : Int32) ≤ nI i) = True := by rw [li_le 120 i (by omega) (by omega)]; exact eq_true (by omega)
      rw [b_X_findBestRow_40]
      simp (maxDischargeDepth := 20) (maxSteps := 2000000) only [↓reduceIte, pm_WL_nil, bi_900, bi_901, bi_904, bi_905, pm_lget_0, pm_lget_s, pm_oI_s, pm_oA_s, pm_oJ_s, pm_oK_s, pm_oR_s, pm_oO_s, pm_oN_s, pm_oF_s, pm_oM_s, pm_oP_s, pm_pu_n, pm_pu_s, pm_bo_ne, pm_bo_eq, Nat.reduceAdd, Nat.reduceSub, Nat.reduceLT, Nat.reduceLeDiff, Nat.reduceEqDiff, Nat.zero_add, Nat.lt_add_one, Nat.zero_ne_one, Nat.succ_ne_self, List.length_cons, List.length_nil, true_and, and_true, true_or, or_true, false_or, or_false, false_implies, true_implies, implies_true, not_true_eq_false, not_false_eq_true, ne_eq, eq_self, e_X_findBestRow, pm_okW_0, pm_okW_i, pm_okW_r, pm_okW_l, pm_ent_0, pm_ent_i, pm_ent_r, pm_ent_l, List.reduceReplicate, b_X_findBestRow_0, b_X_findBestRow_21, b_X_findBestRow_36, b_X_findBestRow_46, b_X_findBestRow_111, b_X_findBestRow_125, b_X_findBestRow_138, f_aloadn0, gf_79_24_4, gf_79_12_4, gf_79_70_5, gf_79_70_33, iv_79_182_6, iv_79_182_34, iv_79_182_61, kk_n, kk_s, w_iconst, ki_0, w_istore2, pm_lset_0, pm_lset_1, pm_lset_n, pm_no2_n, pm_no2_i, pm_no2_r, pm_no2_l, f_iloadn2, ki_5, w_icmp_ge, pm_tgt_is, Int.cast_ofNat_Int, Int.reduceNeg, Int.reduceAdd, Int.reduceToNat, Int.zero_add, Int.zero_le_ofNat, Int.reduceLE, if_true, if_false, gf_79_42_4, iv_79_56, f_iinc2, ki_1, w_goto, ki_m1, w_istore3, f_iloadn3, w_bipush, kb_120, gf_79_163_6, gf_79_163_34, gf_79_163_61, iv_79_282, pf_79_154_6, pf_79_154_34, pf_79_154_61, pm_fit_b, pm_fit_0, pm_fit_1, iv_79_286_6, iv_79_286_34, iv_79_286_61, iv_79_185_6, iv_79_185_34, iv_79_185_61, gf_79_166_6, gf_79_166_34, gf_79_166_61, f_iloadn1, w_ixor, iv_79_195, w_isub, w_istore, f_iload4, w_icmp_le, gf_79_46_4, iv_79_289, f_iinc3, w_iret, lg_79, Bool.false_eq_true, e1]
      rw [show i = 120 by omega] at hob ⊢
      exact ⟨rfl, h1, rfl, hf, hob⟩
    | succ j ih =>
      intro i t ag n h1 x4 hj hc1 hag hx hf h83 l83 hob
      have h83 := h83 (by omega)
      have e1 : ((120 : Int32) ≤ nI i) = False := by rw [li_le 120 i (by omega) (by omega)]; exact eq_false (by omega)
      have hA := prm_ag i (by omega)
      have tl : t.length = 934 := hx.1.trans hl
      have d0 := hc1.1
      have l73 : (h1 73).length = 5 := by rw [show h1 73 = ag from hc1.2.2.2.2.2.2.2.2.1]; exact hag
      have l84 : (h1 84).length = 5 := hf.1 84 (by omega) (by omega)
      have d6 : h1 6 = [nI (nN (h 86) 24), nI (cN (h 86)), gd (h 86) 0] := by rw [hf.2 6 (by omega) (by omega) (by omega), c0]
      have f2 : ∀ l, gd (up h1 73 l 61) 0 = nI n := fun l => by rw [up_ne (by decide), d0]; rfl
      obtain ⟨gw, gm, gt⟩ := goBy_ok hw hA (by omega)
      rw [b_X_findBestRow_40]
      simp (maxDischargeDepth := 20) (maxSteps := 2000000) only [↓reduceIte, pm_WL_nil, bi_900, bi_901, bi_904, bi_905, pm_lget_0, pm_lget_s, pm_oI_s, pm_oA_s, pm_oJ_s, pm_oK_s, pm_oR_s, pm_oO_s, pm_oN_s, pm_oF_s, pm_oM_s, pm_oP_s, pm_pu_n, pm_pu_s, pm_bo_ne, pm_bo_eq, Nat.reduceAdd, Nat.reduceSub, Nat.reduceLT, Nat.reduceLeDiff, Nat.reduceEqDiff, Nat.zero_add, Nat.lt_add_one, Nat.zero_ne_one, Nat.succ_ne_self, List.length_cons, List.length_nil, true_and, and_true, true_or, or_true, false_or, or_false, false_implies, true_implies, implies_true, not_true_eq_false, not_false_eq_true, ne_eq, eq_self, e_X_findBestRow, pm_okW_0, pm_okW_i, pm_okW_r, pm_okW_l, pm_ent_0, pm_ent_i, pm_ent_r, pm_ent_l, List.reduceReplicate, b_X_findBestRow_0, b_X_findBestRow_21, b_X_findBestRow_36, b_X_findBestRow_46, b_X_findBestRow_111, b_X_findBestRow_125, b_X_findBestRow_138, f_aloadn0, gf_79_24_4, gf_79_12_4, gf_79_70_5, gf_79_70_33, iv_79_182_6, iv_79_182_34, iv_79_182_61, kk_n, kk_s, w_iconst, ki_0, w_istore2, pm_lset_0, pm_lset_1, pm_lset_n, pm_no2_n, pm_no2_i, pm_no2_r, pm_no2_l, f_iloadn2, ki_5, w_icmp_ge, pm_tgt_is, Int.cast_ofNat_Int, Int.reduceNeg, Int.reduceAdd, Int.reduceToNat, Int.zero_add, Int.zero_le_ofNat, Int.reduceLE, if_true, if_false, gf_79_42_4, iv_79_56, f_iinc2, ki_1, w_goto, ki_m1, w_istore3, f_iloadn3, w_bipush, kb_120, gf_79_163_6, gf_79_163_34, gf_79_163_61, iv_79_282, pf_79_154_6, pf_79_154_34, pf_79_154_61, pm_fit_b, pm_fit_0, pm_fit_1, iv_79_286_6, iv_79_286_34, iv_79_286_61, iv_79_185_6, iv_79_185_34, iv_79_185_61, gf_79_166_6, gf_79_166_34, gf_79_166_61, f_iloadn1, w_ixor, iv_79_195, w_isub, w_istore, f_iload4, w_icmp_le, gf_79_46_4, iv_79_289, f_iinc3, w_iret, lg_79, Bool.false_eq_true, hs_4, hs_5, hs_6, hs_61, f_iald_73, f_alen_73, ia_73, ar_73, f_iast_73, iw_73, hs_73, f_iald_83, f_alen_83, ia_83, ar_83, f_iast_83, iw_83, hs_83, up_at, up_ne, up_up, gd_0, gd_s, c_X_copy, Nat.reducePow, c_Shore_goBack, d6, d0, e1, h83, l73, hA.1]
      have hc2 : CS 61 (h 86) (prm i) 5 (up (up h1 73 (prm i)) 61 [5, nI (cN (h 86)), gd (h 86) 0]) := by
        refine cs_mod (n := n) hc1 tl hl (fun k k1 _ => (hx.2 k (by omega)).symm) ?_ ?_ ?_ ?_ ?_ ?_ ?_ ?_
        · rw [up_at]; rfl
        · rw [up_ne (by decide), up_ne (by decide), hc1.2.1, lo_cg fun p hp => hx.2 _ (by omega), hx.2 22 (by omega)]
        · rw [up_ne (by decide), up_ne (by decide), hc1.2.2.2.1, sm_sl hx (by omega) (by omega)]
        · rw [up_ne (by decide), up_ne (by decide), hc1.2.2.2.2.2.1, sm_sl hx (by omega) (by omega)]
        · rw [up_ne (by decide), up_ne (by decide), hc1.2.2.2.2.2.2.2.1, sm_sl hx (by omega) (by omega)]
        · rw [up_ne (by decide), up_at]
        · rw [up_ne (by decide), up_ne (by decide)]; exact hc1.2.2.2.2.2.2.2.2.2.1
        · intro k hk; rw [up_ne (by omega), up_ne (by omega)]
      refine pm_WC_mono (c_Shore_goTide_61 (d := d + 32) hc2 hA hw (by omega)) ?_
      rintro r σ ⟨rfl, h2, rfl, hc3, hf3⟩
      have t0 := hc3.1
      have cl32 := cN_lt gw
      obtain ⟨x1, x2, x3⟩ := eqc_x _ cl32 set hset
      have bq := fun (σ : pm_S) K => @c_Integer_bitCount (d + 37) (cN (goBy (h 86) (prm i) 5) ^^^ set) σ K (by omega)
      have sc5 : scF (h 86) set (prm i) ≤ 5 := eqc_le _ _ _
      have xsc : (5 : Int32) - nI (pc (cN (goBy (h 86) (prm i) 5) ^^^ set) 10) = nI (scF (h 86) set (prm i)) := x3
      have o83 : h2 83 = prm i := by rw [hf3 83 (by omega) (by omega), up_ne (by decide), up_ne (by decide), h83]
      have o84 : h2 84 = h1 84 := by rw [hf3 84 (by omega) (by omega), up_ne (by decide), up_ne (by decide)]
      have n83 : (h2 83).length = 5 := by rw [o83]; exact hA.1
      have n84 : (h2 84).length = 5 := by rw [o84]; exact l84
      have hF2 : FO h h2 := by
        refine ⟨?_, fun k k1 k2 k3 => by rw [hf3 k (by omega) (by omega), up_ne (by omega), up_ne (by omega)]; exact hf.2 k k1 k2 k3⟩
        refine ln_cs (h := h1) hf.1 hc3 (wf_len gw) hA.1 fun k hk => by rw [hf3 k (by omega) (by omega), up_ne (by omega), up_ne (by omega)]
      have nx : i + 1 < 120 → nxF (prm i) = prm (i + 1) := fun q => prm_nx i (by omega)
      have nxl : (nxF (prm i)).length = 5 := by
        by_cases q : i + 1 < 120
        · rw [nx q]; exact (prm_ag (i + 1) q).1
        · rw [show i = 119 by omega]; decide +kernel
      by_cases q : nI (scF (h 86) set (prm i)) ≤ vM (foO (h 86) set none (prs.take i))
      · have q1 := eq_true q
        have es : foO (h 86) set none (prs.take (i + 1)) = foO (h 86) set none (prs.take i) := by rw [foO_1 _ _ _ (by omega)]; exact st_le hob.1 sc5 q
        have nr := fun K => @c_nextRow (d + 35) h2 K n83
        simp (maxDischargeDepth := 20) (maxSteps := 2000000) only [↓reduceIte, pm_WL_nil, bi_900, bi_901, bi_904, bi_905, pm_lget_0, pm_lget_s, pm_oI_s, pm_oA_s, pm_oJ_s, pm_oK_s, pm_oR_s, pm_oO_s, pm_oN_s, pm_oF_s, pm_oM_s, pm_oP_s, pm_pu_n, pm_pu_s, pm_bo_ne, pm_bo_eq, Nat.reduceAdd, Nat.reduceSub, Nat.reduceLT, Nat.reduceLeDiff, Nat.reduceEqDiff, Nat.zero_add, Nat.lt_add_one, Nat.zero_ne_one, Nat.succ_ne_self, List.length_cons, List.length_nil, true_and, and_true, true_or, or_true, false_or, or_false, false_implies, true_implies, implies_true, not_true_eq_false, not_false_eq_true, ne_eq, eq_self, e_X_findBestRow, pm_okW_0, pm_okW_i, pm_okW_r, pm_okW_l, pm_ent_0, pm_ent_i, pm_ent_r, pm_ent_l, List.reduceReplicate, b_X_findBestRow_0, b_X_findBestRow_21, b_X_findBestRow_36, b_X_findBestRow_46, b_X_findBestRow_111, b_X_findBestRow_125, b_X_findBestRow_138, f_aloadn0, gf_79_24_4, gf_79_12_4, gf_79_70_5, gf_79_70_33, iv_79_182_6, iv_79_182_34, iv_79_182_61, kk_n, kk_s, w_iconst, ki_0, w_istore2, pm_lset_0, pm_lset_1, pm_lset_n, pm_no2_n, pm_no2_i, pm_no2_r, pm_no2_l, f_iloadn2, ki_5, w_icmp_ge, pm_tgt_is, Int.cast_ofNat_Int, Int.reduceNeg, Int.reduceAdd, Int.reduceToNat, Int.zero_add, Int.zero_le_ofNat, Int.reduceLE, if_true, if_false, gf_79_42_4, iv_79_56, f_iinc2, ki_1, w_goto, ki_m1, w_istore3, f_iloadn3, w_bipush, kb_120, gf_79_163_6, gf_79_163_34, gf_79_163_61, iv_79_282, pf_79_154_6, pf_79_154_34, pf_79_154_61, pm_fit_b, pm_fit_0, pm_fit_1, iv_79_286_6, iv_79_286_34, iv_79_286_61, iv_79_185_6, iv_79_185_34, iv_79_185_61, gf_79_166_6, gf_79_166_34, gf_79_166_61, f_iloadn1, w_ixor, iv_79_195, w_isub, w_istore, f_iload4, w_icmp_le, gf_79_46_4, iv_79_289, f_iinc3, w_iret, lg_79, Bool.false_eq_true, hs_4, hs_61, f_iald_83, f_alen_83, ia_83, ar_83, f_iast_83, iw_83, hs_83, up_at, up_ne, up_up, gd_0, gd_s, t0, x1, bq, xsc, q1, nr, o83, ni_1]
        rw [← es]
        refine ih (i + 1) _ (prm i) 5 _ _ (by omega) (cs_cg hc3 fun k k1 k2 => up_ne (by omega)) hA.1 gm ⟨ln_up hF2.1 nxl, fun k k1 k2 k3 => by rw [up_ne k2]; exact hF2.2 k k1 k2 k3⟩ (fun z => by rw [up_at]; exact nx z) (by rw [up_at]; exact nxl) ?_
        rw [es, up_ne (by decide), o84]; exact hob
      · have q1 := eq_false q
        have es : foO (h 86) set none (prs.take (i + 1)) = some (scF (h 86) set (prm i), prm i) := by rw [foO_1 _ _ _ (by omega)]; exact st_gt hob.1 sc5 q
        have nr := fun l K => @c_nextRow (d + 35) (up h2 84 l) K (by rw [up_ne (by decide)]; exact n83)
        simp (maxDischargeDepth := 20) (maxSteps := 2000000) only [↓reduceIte, pm_WL_nil, bi_900, bi_901, bi_904, bi_905, pm_lget_0, pm_lget_s, pm_oI_s, pm_oA_s, pm_oJ_s, pm_oK_s, pm_oR_s, pm_oO_s, pm_oN_s, pm_oF_s, pm_oM_s, pm_oP_s, pm_pu_n, pm_pu_s, pm_bo_ne, pm_bo_eq, Nat.reduceAdd, Nat.reduceSub, Nat.reduceLT, Nat.reduceLeDiff, Nat.reduceEqDiff, Nat.zero_add, Nat.lt_add_one, Nat.zero_ne_one, Nat.succ_ne_self, List.length_cons, List.length_nil, true_and, and_true, true_or, or_true, false_or, or_false, false_implies, true_implies, implies_true, not_true_eq_false, not_false_eq_true, ne_eq, eq_self, e_X_findBestRow, pm_okW_0, pm_okW_i, pm_okW_r, pm_okW_l, pm_ent_0, pm_ent_i, pm_ent_r, pm_ent_l, List.reduceReplicate, b_X_findBestRow_0, b_X_findBestRow_21, b_X_findBestRow_36, b_X_findBestRow_46, b_X_findBestRow_111, b_X_findBestRow_125, b_X_findBestRow_138, f_aloadn0, gf_79_24_4, gf_79_12_4, gf_79_70_5, gf_79_70_33, iv_79_182_6, iv_79_182_34, iv_79_182_61, kk_n, kk_s, w_iconst, ki_0, w_istore2, pm_lset_0, pm_lset_1, pm_lset_n, pm_no2_n, pm_no2_i, pm_no2_r, pm_no2_l, f_iloadn2, ki_5, w_icmp_ge, pm_tgt_is, Int.cast_ofNat_Int, Int.reduceNeg, Int.reduceAdd, Int.reduceToNat, Int.zero_add, Int.zero_le_ofNat, Int.reduceLE, if_true, if_false, gf_79_42_4, iv_79_56, f_iinc2, ki_1, w_goto, ki_m1, w_istore3, f_iloadn3, w_bipush, kb_120, gf_79_163_6, gf_79_163_34, gf_79_163_61, iv_79_282, pf_79_154_6, pf_79_154_34, pf_79_154_61, pm_fit_b, pm_fit_0, pm_fit_1, iv_79_286_6, iv_79_286_34, iv_79_286_61, iv_79_185_6, iv_79_185_34, iv_79_185_61, gf_79_166_6, gf_79_166_34, gf_79_166_61, f_iloadn1, w_ixor, iv_79_195, w_isub, w_istore, f_iload4, w_icmp_le, gf_79_46_4, iv_79_289, f_iinc3, w_iret, lg_79, Bool.false_eq_true, hs_4, hs_61, f_iald_83, f_alen_83, ia_83, ar_83, f_iast_83, iw_83, hs_83, f_iald_84, f_alen_84, ia_84, ar_84, f_iast_84, iw_84, hs_84, up_at, up_ne, up_up, gd_0, gd_s, t0, x1, bq, xsc, q1, nr, o83, n84, hA.1, c_X_copy, Nat.reducePow, ni_1]
        have := ih (i + 1) _ (prm i) 5 (up (up h2 84 (prm i)) 83 (nxF (prm i))) (some (.int (nI (scF (h 86) set (prm i))))) (by omega) (cs_cg hc3 fun k k1 k2 => by rw [up_ne (by omega), up_ne (by omega)]) hA.1 gm ⟨ln_up (ln_up hF2.1 hA.1) nxl, fun k k1 k2 k3 => by rw [up_ne k2, up_ne k3]; exact hF2.2 k k1 k2 k3⟩ (fun z => by rw [up_at]; exact nx z) (by rw [up_at]; exact nxl)
        rw [es] at this
        refine Eq.mp ?_ (this ⟨sc5, fun m c z => by cases z; rw [up_ne (by decide), up_at]⟩)
        rw [up_cm (k := 84) (j := 83) (by decide)]
        rfl
  have l83 : (h 83).length = 5 := hL 83 (by omega) (by omega)
  have T83 : (tcp h 83).length = 5 := by rw [tcp_o (by omega)]; exact l83
  have p5 : ∀ (xs : List Int32) (k : Nat) (x : Int32), xs.length = 5 → k < 5 → pt xs (nI k) x = xs.set k x := fun xs k x hx hk => pt_n (by omega) (by omega)
  have p0 : ∀ x, pt (tcp h 83) 0 x = (tcp h 83).set 0 x := fun x => p5 _ 0 x T83 (by omega)
  have p1 : ∀ x a, pt ((tcp h 83).set 0 a) 1 x = ((tcp h 83).set 0 a).set 1 x := fun x a => p5 _ 1 x (by rw [len_set]; exact T83) (by omega)
  have p2 : ∀ x a b, pt (((tcp h 83).set 0 a).set 1 b) 2 x = (((tcp h 83).set 0 a).set 1 b).set 2 x := fun x a b => p5 _ 2 x (by rw [len_set, len_set]; exact T83) (by omega)
  have p3 : ∀ x a b c, pt ((((tcp h 83).set 0 a).set 1 b).set 2 c) 3 x = ((((tcp h 83).set 0 a).set 1 b).set 2 c).set 3 x := fun x a b c => p5 _ 3 x (by rw [len_set, len_set, len_set]; exact T83) (by omega)
  have p4 : ∀ x a b c e, pt (((((tcp h 83).set 0 a).set 1 b).set 2 c).set 3 e) 4 x = (((((tcp h 83).set 0 a).set 1 b).set 2 c).set 3 e).set 4 x := fun x a b c e => p5 _ 4 x (by rw [len_set, len_set, len_set, len_set]; exact T83) (by omega)
  simp (maxDischargeDepth := 20) (maxSteps := 2000000) only [↓reduceIte, pm_WL_nil, bi_900, bi_901, bi_904, bi_905, pm_lget_0, pm_lget_s, pm_oI_s, pm_oA_s, pm_oJ_s, pm_oK_s, pm_oR_s, pm_oO_s, pm_oN_s, pm_oF_s, pm_oM_s, pm_oP_s, pm_pu_n, pm_pu_s, pm_bo_ne, pm_bo_eq, Nat.reduceAdd, Nat.reduceSub, Nat.reduceLT, Nat.reduceLeDiff, Nat.reduceEqDiff, Nat.zero_add, Nat.lt_add_one, Nat.zero_ne_one, Nat.succ_ne_self, List.length_cons, List.length_nil, true_and, and_true, true_or, or_true, false_or, or_false, false_implies, true_implies, implies_true, not_true_eq_false, not_false_eq_true, ne_eq, eq_self, e_X_findBestRow, pm_okW_0, pm_okW_i, pm_okW_r, pm_okW_l, pm_ent_0, pm_ent_i, pm_ent_r, pm_ent_l, List.reduceReplicate, b_X_findBestRow_0, b_X_findBestRow_21, b_X_findBestRow_36, b_X_findBestRow_46, b_X_findBestRow_111, b_X_findBestRow_125, b_X_findBestRow_138, f_aloadn0, gf_79_24_4, gf_79_12_4, gf_79_70_5, gf_79_70_33, iv_79_182_6, iv_79_182_34, iv_79_182_61, kk_n, kk_s, w_iconst, ki_0, w_istore2, pm_lset_0, pm_lset_1, pm_lset_n, pm_no2_n, pm_no2_i, pm_no2_r, pm_no2_l, f_iloadn2, ki_5, w_icmp_ge, pm_tgt_is, Int.cast_ofNat_Int, Int.reduceNeg, Int.reduceAdd, Int.reduceToNat, Int.zero_add, Int.zero_le_ofNat, Int.reduceLE, if_true, if_false, gf_79_42_4, iv_79_56, f_iinc2, ki_1, w_goto, ki_m1, w_istore3, f_iloadn3, w_bipush, kb_120, gf_79_163_6, gf_79_163_34, gf_79_163_61, iv_79_282, pf_79_154_6, pf_79_154_34, pf_79_154_61, pm_fit_b, pm_fit_0, pm_fit_1, iv_79_286_6, iv_79_286_34, iv_79_286_61, iv_79_185_6, iv_79_185_34, iv_79_185_61, gf_79_166_6, gf_79_166_34, gf_79_166_61, f_iloadn1, w_ixor, iv_79_195, w_isub, w_istore, f_iload4, w_icmp_le, gf_79_46_4, iv_79_289, f_iinc3, w_iret, lg_79, Bool.false_eq_true, hs_4, hs_5, ct]
  rw [b_X_findBestRow_16]
  simp (maxDischargeDepth := 20) (maxSteps := 2000000) only [↓reduceIte, pm_WL_nil, bi_900, bi_901, bi_904, bi_905, pm_lget_0, pm_lget_s, pm_oI_s, pm_oA_s, pm_oJ_s, pm_oK_s, pm_oR_s, pm_oO_s, pm_oN_s, pm_oF_s, pm_oM_s, pm_oP_s, pm_pu_n, pm_pu_s, pm_bo_ne, pm_bo_eq, Nat.reduceAdd, Nat.reduceSub, Nat.reduceLT, Nat.reduceLeDiff, Nat.reduceEqDiff, Nat.zero_add, Nat.lt_add_one, Nat.zero_ne_one, Nat.succ_ne_self, List.length_cons, List.length_nil, true_and, and_true, true_or, or_true, false_or, or_false, false_implies, true_implies, implies_true, not_true_eq_false, not_false_eq_true, ne_eq, eq_self, e_X_findBestRow, pm_okW_0, pm_okW_i, pm_okW_r, pm_okW_l, pm_ent_0, pm_ent_i, pm_ent_r, pm_ent_l, List.reduceReplicate, b_X_findBestRow_0, b_X_findBestRow_21, b_X_findBestRow_36, b_X_findBestRow_46, b_X_findBestRow_111, b_X_findBestRow_125, b_X_findBestRow_138, f_aloadn0, gf_79_24_4, gf_79_12_4, gf_79_70_5, gf_79_70_33, iv_79_182_6, iv_79_182_34, iv_79_182_61, kk_n, kk_s, w_iconst, ki_0, w_istore2, pm_lset_0, pm_lset_1, pm_lset_n, pm_no2_n, pm_no2_i, pm_no2_r, pm_no2_l, f_iloadn2, ki_5, w_icmp_ge, pm_tgt_is, Int.cast_ofNat_Int, Int.reduceNeg, Int.reduceAdd, Int.reduceToNat, Int.zero_add, Int.zero_le_ofNat, Int.reduceLE, if_true, if_false, gf_79_42_4, iv_79_56, f_iinc2, ki_1, w_goto, ki_m1, w_istore3, f_iloadn3, w_bipush, kb_120, gf_79_163_6, gf_79_163_34, gf_79_163_61, iv_79_282, pf_79_154_6, pf_79_154_34, pf_79_154_61, pm_fit_b, pm_fit_0, pm_fit_1, iv_79_286_6, iv_79_286_34, iv_79_286_61, iv_79_185_6, iv_79_185_34, iv_79_185_61, gf_79_166_6, gf_79_166_34, gf_79_166_61, f_iloadn1, w_ixor, iv_79_195, w_isub, w_istore, f_iload4, w_icmp_le, gf_79_46_4, iv_79_289, f_iinc3, w_iret, lg_79, Bool.false_eq_true, hs_4, f_iald_83, f_alen_83, ia_83, ar_83, f_iast_83, iw_83, hs_83, up_at, up_ne, up_up, gd_0, gd_s, c_X_put, p0, Int32.reduceLE, Int32.reduceAdd]
  rw [b_X_findBestRow_16]
  simp (maxDischargeDepth := 20) (maxSteps := 2000000) only [↓reduceIte, pm_WL_nil, bi_900, bi_901, bi_904, bi_905, pm_lget_0, pm_lget_s, pm_oI_s, pm_oA_s, pm_oJ_s, pm_oK_s, pm_oR_s, pm_oO_s, pm_oN_s, pm_oF_s, pm_oM_s, pm_oP_s, pm_pu_n, pm_pu_s, pm_bo_ne, pm_bo_eq, Nat.reduceAdd, Nat.reduceSub, Nat.reduceLT, Nat.reduceLeDiff, Nat.reduceEqDiff, Nat.zero_add, Nat.lt_add_one, Nat.zero_ne_one, Nat.succ_ne_self, List.length_cons, List.length_nil, true_and, and_true, true_or, or_true, false_or, or_false, false_implies, true_implies, implies_true, not_true_eq_false, not_false_eq_true, ne_eq, eq_self, e_X_findBestRow, pm_okW_0, pm_okW_i, pm_okW_r, pm_okW_l, pm_ent_0, pm_ent_i, pm_ent_r, pm_ent_l, List.reduceReplicate, b_X_findBestRow_0, b_X_findBestRow_21, b_X_findBestRow_36, b_X_findBestRow_46, b_X_findBestRow_111, b_X_findBestRow_125, b_X_findBestRow_138, f_aloadn0, gf_79_24_4, gf_79_12_4, gf_79_70_5, gf_79_70_33, iv_79_182_6, iv_79_182_34, iv_79_182_61, kk_n, kk_s, w_iconst, ki_0, w_istore2, pm_lset_0, pm_lset_1, pm_lset_n, pm_no2_n, pm_no2_i, pm_no2_r, pm_no2_l, f_iloadn2, ki_5, w_icmp_ge, pm_tgt_is, Int.cast_ofNat_Int, Int.reduceNeg, Int.reduceAdd, Int.reduceToNat, Int.zero_add, Int.zero_le_ofNat, Int.reduceLE, if_true, if_false, gf_79_42_4, iv_79_56, f_iinc2, ki_1, w_goto, ki_m1, w_istore3, f_iloadn3, w_bipush, kb_120, gf_79_163_6, gf_79_163_34, gf_79_163_61, iv_79_282, pf_79_154_6, pf_79_154_34, pf_79_154_61, pm_fit_b, pm_fit_0, pm_fit_1, iv_79_286_6, iv_79_286_34, iv_79_286_61, iv_79_185_6, iv_79_185_34, iv_79_185_61, gf_79_166_6, gf_79_166_34, gf_79_166_61, f_iloadn1, w_ixor, iv_79_195, w_isub, w_istore, f_iload4, w_icmp_le, gf_79_46_4, iv_79_289, f_iinc3, w_iret, lg_79, Bool.false_eq_true, hs_4, f_iald_83, f_alen_83, ia_83, ar_83, f_iast_83, iw_83, hs_83, up_at, up_ne, up_up, gd_0, gd_s, c_X_put, p1, Int32.reduceLE, Int32.reduceAdd]
  rw [b_X_findBestRow_16]
  simp (maxDischargeDepth := 20) (maxSteps := 2000000) only [↓reduceIte, pm_WL_nil, bi_900, bi_901, bi_904, bi_905, pm_lget_0, pm_lget_s, pm_oI_s, pm_oA_s, pm_oJ_s, pm_oK_s, pm_oR_s, pm_oO_s, pm_oN_s, pm_oF_s, pm_oM_s, pm_oP_s, pm_pu_n, pm_pu_s, pm_bo_ne, pm_bo_eq, Nat.reduceAdd, Nat.reduceSub, Nat.reduceLT, Nat.reduceLeDiff, Nat.reduceEqDiff, Nat.zero_add, Nat.lt_add_one, Nat.zero_ne_one, Nat.succ_ne_self, List.length_cons, List.length_nil, true_and, and_true, true_or, or_true, false_or, or_false, false_implies, true_implies, implies_true, not_true_eq_false, not_false_eq_true, ne_eq, eq_self, e_X_findBestRow, pm_okW_0, pm_okW_i, pm_okW_r, pm_okW_l, pm_ent_0, pm_ent_i, pm_ent_r, pm_ent_l, List.reduceReplicate, b_X_findBestRow_0, b_X_findBestRow_21, b_X_findBestRow_36, b_X_findBestRow_46, b_X_findBestRow_111, b_X_findBestRow_125, b_X_findBestRow_138, f_aloadn0, gf_79_24_4, gf_79_12_4, gf_79_70_5, gf_79_70_33, iv_79_182_6, iv_79_182_34, iv_79_182_61, kk_n, kk_s, w_iconst, ki_0, w_istore2, pm_lset_0, pm_lset_1, pm_lset_n, pm_no2_n, pm_no2_i, pm_no2_r, pm_no2_l, f_iloadn2, ki_5, w_icmp_ge, pm_tgt_is, Int.cast_ofNat_Int, Int.reduceNeg, Int.reduceAdd, Int.reduceToNat, Int.zero_add, Int.zero_le_ofNat, Int.reduceLE, if_true, if_false, gf_79_42_4, iv_79_56, f_iinc2, ki_1, w_goto, ki_m1, w_istore3, f_iloadn3, w_bipush, kb_120, gf_79_163_6, gf_79_163_34, gf_79_163_61, iv_79_282, pf_79_154_6, pf_79_154_34, pf_79_154_61, pm_fit_b, pm_fit_0, pm_fit_1, iv_79_286_6, iv_79_286_34, iv_79_286_61, iv_79_185_6, iv_79_185_34, iv_79_185_61, gf_79_166_6, gf_79_166_34, gf_79_166_61, f_iloadn1, w_ixor, iv_79_195, w_isub, w_istore, f_iload4, w_icmp_le, gf_79_46_4, iv_79_289, f_iinc3, w_iret, lg_79, Bool.false_eq_true, hs_4, f_iald_83, f_alen_83, ia_83, ar_83, f_iast_83, iw_83, hs_83, up_at, up_ne, up_up, gd_0, gd_s, c_X_put, p2, Int32.reduceLE, Int32.reduceAdd]
  rw [b_X_findBestRow_16]
  simp (maxDischargeDepth := 20) (maxSteps := 2000000) only [↓reduceIte, pm_WL_nil, bi_900, bi_901, bi_904, bi_905, pm_lget_0, pm_lget_s, pm_oI_s, pm_oA_s, pm_oJ_s, pm_oK_s, pm_oR_s, pm_oO_s, pm_oN_s, pm_oF_s, pm_oM_s, pm_oP_s, pm_pu_n, pm_pu_s, pm_bo_ne, pm_bo_eq, Nat.reduceAdd, Nat.reduceSub, Nat.reduceLT, Nat.reduceLeDiff, Nat.reduceEqDiff, Nat.zero_add, Nat.lt_add_one, Nat.zero_ne_one, Nat.succ_ne_self, List.length_cons, List.length_nil, true_and, and_true, true_or, or_true, false_or, or_false, false_implies, true_implies, implies_true, not_true_eq_false, not_false_eq_true, ne_eq, eq_self, e_X_findBestRow, pm_okW_0, pm_okW_i, pm_okW_r, pm_okW_l, pm_ent_0, pm_ent_i, pm_ent_r, pm_ent_l, List.reduceReplicate, b_X_findBestRow_0, b_X_findBestRow_21, b_X_findBestRow_36, b_X_findBestRow_46, b_X_findBestRow_111, b_X_findBestRow_125, b_X_findBestRow_138, f_aloadn0, gf_79_24_4, gf_79_12_4, gf_79_70_5, gf_79_70_33, iv_79_182_6, iv_79_182_34, iv_79_182_61, kk_n, kk_s, w_iconst, ki_0, w_istore2, pm_lset_0, pm_lset_1, pm_lset_n, pm_no2_n, pm_no2_i, pm_no2_r, pm_no2_l, f_iloadn2, ki_5, w_icmp_ge, pm_tgt_is, Int.cast_ofNat_Int, Int.reduceNeg, Int.reduceAdd, Int.reduceToNat, Int.zero_add, Int.zero_le_ofNat, Int.reduceLE, if_true, if_false, gf_79_42_4, iv_79_56, f_iinc2, ki_1, w_goto, ki_m1, w_istore3, f_iloadn3, w_bipush, kb_120, gf_79_163_6, gf_79_163_34, gf_79_163_61, iv_79_282, pf_79_154_6, pf_79_154_34, pf_79_154_61, pm_fit_b, pm_fit_0, pm_fit_1, iv_79_286_6, iv_79_286_34, iv_79_286_61, iv_79_185_6, iv_79_185_34, iv_79_185_61, gf_79_166_6, gf_79_166_34, gf_79_166_61, f_iloadn1, w_ixor, iv_79_195, w_isub, w_istore, f_iload4, w_icmp_le, gf_79_46_4, iv_79_289, f_iinc3, w_iret, lg_79, Bool.false_eq_true, hs_4, f_iald_83, f_alen_83, ia_83, ar_83, f_iast_83, iw_83, hs_83, up_at, up_ne, up_up, gd_0, gd_s, c_X_put, p3, Int32.reduceLE, Int32.reduceAdd]
  rw [b_X_findBestRow_16]
  simp (maxDischargeDepth := 20) (maxSteps := 2000000) only [↓reduceIte, pm_WL_nil, bi_900, bi_901, bi_904, bi_905, pm_lget_0, pm_lget_s, pm_oI_s, pm_oA_s, pm_oJ_s, pm_oK_s, pm_oR_s, pm_oO_s, pm_oN_s, pm_oF_s, pm_oM_s, pm_oP_s, pm_pu_n, pm_pu_s, pm_bo_ne, pm_bo_eq, Nat.reduceAdd, Nat.reduceSub, Nat.reduceLT, Nat.reduceLeDiff, Nat.reduceEqDiff, Nat.zero_add, Nat.lt_add_one, Nat.zero_ne_one, Nat.succ_ne_self, List.length_cons, List.length_nil, true_and, and_true, true_or, or_true, false_or, or_false, false_implies, true_implies, implies_true, not_true_eq_false, not_false_eq_true, ne_eq, eq_self, e_X_findBestRow, pm_okW_0, pm_okW_i, pm_okW_r, pm_okW_l, pm_ent_0, pm_ent_i, pm_ent_r, pm_ent_l, List.reduceReplicate, b_X_findBestRow_0, b_X_findBestRow_21, b_X_findBestRow_36, b_X_findBestRow_46, b_X_findBestRow_111, b_X_findBestRow_125, b_X_findBestRow_138, f_aloadn0, gf_79_24_4, gf_79_12_4, gf_79_70_5, gf_79_70_33, iv_79_182_6, iv_79_182_34, iv_79_182_61, kk_n, kk_s, w_iconst, ki_0, w_istore2, pm_lset_0, pm_lset_1, pm_lset_n, pm_no2_n, pm_no2_i, pm_no2_r, pm_no2_l, f_iloadn2, ki_5, w_icmp_ge, pm_tgt_is, Int.cast_ofNat_Int, Int.reduceNeg, Int.reduceAdd, Int.reduceToNat, Int.zero_add, Int.zero_le_ofNat, Int.reduceLE, if_true, if_false, gf_79_42_4, iv_79_56, f_iinc2, ki_1, w_goto, ki_m1, w_istore3, f_iloadn3, w_bipush, kb_120, gf_79_163_6, gf_79_163_34, gf_79_163_61, iv_79_282, pf_79_154_6, pf_79_154_34, pf_79_154_61, pm_fit_b, pm_fit_0, pm_fit_1, iv_79_286_6, iv_79_286_34, iv_79_286_61, iv_79_185_6, iv_79_185_34, iv_79_185_61, gf_79_166_6, gf_79_166_34, gf_79_166_61, f_iloadn1, w_ixor, iv_79_195, w_isub, w_istore, f_iload4, w_icmp_le, gf_79_46_4, iv_79_289, f_iinc3, w_iret, lg_79, Bool.false_eq_true, hs_4, f_iald_83, f_alen_83, ia_83, ar_83, f_iast_83, iw_83, hs_83, up_at, up_ne, up_up, gd_0, gd_s, c_X_put, p4, Int32.reduceLE, Int32.reduceAdd]
  rw [b_X_findBestRow_16]
  simp (maxDischargeDepth := 20) (maxSteps := 2000000) only [↓reduceIte, pm_WL_nil, bi_900, bi_901, bi_904, bi_905, pm_lget_0, pm_lget_s, pm_oI_s, pm_oA_s, pm_oJ_s, pm_oK_s, pm_oR_s, pm_oO_s, pm_oN_s, pm_oF_s, pm_oM_s, pm_oP_s, pm_pu_n, pm_pu_s, pm_bo_ne, pm_bo_eq, Nat.reduceAdd, Nat.reduceSub, Nat.reduceLT, Nat.reduceLeDiff, Nat.reduceEqDiff, Nat.zero_add, Nat.lt_add_one, Nat.zero_ne_one, Nat.succ_ne_self, List.length_cons, List.length_nil, true_and, and_true, true_or, or_true, false_or, or_false, false_implies, true_implies, implies_true, not_true_eq_false, not_false_eq_true, ne_eq, eq_self, e_X_findBestRow, pm_okW_0, pm_okW_i, pm_okW_r, pm_okW_l, pm_ent_0, pm_ent_i, pm_ent_r, pm_ent_l, List.reduceReplicate, b_X_findBestRow_0, b_X_findBestRow_21, b_X_findBestRow_36, b_X_findBestRow_46, b_X_findBestRow_111, b_X_findBestRow_125, b_X_findBestRow_138, f_aloadn0, gf_79_24_4, gf_79_12_4, gf_79_70_5, gf_79_70_33, iv_79_182_6, iv_79_182_34, iv_79_182_61, kk_n, kk_s, w_iconst, ki_0, w_istore2, pm_lset_0, pm_lset_1, pm_lset_n, pm_no2_n, pm_no2_i, pm_no2_r, pm_no2_l, f_iloadn2, ki_5, w_icmp_ge, pm_tgt_is, Int.cast_ofNat_Int, Int.reduceNeg, Int.reduceAdd, Int.reduceToNat, Int.zero_add, Int.zero_le_ofNat, Int.reduceLE, if_true, if_false, gf_79_42_4, iv_79_56, f_iinc2, ki_1, w_goto, ki_m1, w_istore3, f_iloadn3, w_bipush, kb_120, gf_79_163_6, gf_79_163_34, gf_79_163_61, iv_79_282, pf_79_154_6, pf_79_154_34, pf_79_154_61, pm_fit_b, pm_fit_0, pm_fit_1, iv_79_286_6, iv_79_286_34, iv_79_286_61, iv_79_185_6, iv_79_185_34, iv_79_185_61, gf_79_166_6, gf_79_166_34, gf_79_166_61, f_iloadn1, w_ixor, iv_79_195, w_isub, w_istore, f_iload4, w_icmp_le, gf_79_46_4, iv_79_289, f_iinc3, w_iret, lg_79, Bool.false_eq_true, hs_4, f_iald_83, f_alen_83, ia_83, ar_83, f_iast_83, iw_83, hs_83, up_at, up_ne, up_up, gd_0, gd_s, set5, T83, Int32.reduceLE, Int32.reduceAdd]
  refine key 120 0 (h 86) (sl (h 86) 72 5) (nN (h 86) 24) _ none rfl (cs_cg (cs_tcp hc0.1 hL) fun k k1 k2 => up_ne (by omega)) (sl_len (by omega)) (sm_rf _ _) ⟨ln_up (ln_tcp hL) rfl, fun k k1 k2 k3 => by rw [up_ne k2, tcp_o (by omega)]⟩ (fun _ => by rw [up_at, prm_0]) (by rw [up_at]; rfl) ?_
  exact ⟨Nat.zero_le _, fun m c z => by cases z⟩
