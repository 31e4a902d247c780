/-! FRACTIONS, WEIGHTS -/
def nL (a : Nat) : Int64 := Int64.ofNat a
theorem nl_int {n : Nat} (h : n < 2 ^ 63) : (nL n).toInt = n := Int64.toInt_ofNat_of_lt h
theorem nl_eq {a b : Nat} (ha : a < 2 ^ 63) (hb : b < 2 ^ 63) : (nL a = nL b) = (a = b) := by rw [← Int64.toInt_inj, nl_int ha, nl_int hb]; exact propext Int.ofNat_inj
theorem nl_lt {a b : Nat} (ha : a < 2 ^ 63) (hb : b < 2 ^ 63) : (nL a < nL b) = (a < b) := by rw [Int64.lt_iff_toInt_lt, nl_int ha, nl_int hb]; exact propext Int.ofNat_lt
theorem nl_le {a b : Nat} (ha : a < 2 ^ 63) (hb : b < 2 ^ 63) : (nL a ≤ nL b) = (a ≤ b) := by rw [Int64.le_iff_toInt_le, nl_int ha, nl_int hb]; exact propext Int.ofNat_le
theorem nl_add (a b : Nat) : nL a + nL b = nL (a + b) := (Int64.ofNat_add a b).symm
theorem nl_mul (a b : Nat) : nL a * nL b = nL (a * b) := (Int64.ofNat_mul a b).symm
theorem nl_sub {a b : Nat} (h : b ≤ a) : nL a - nL b = nL (a - b) := by
  have : nL a = nL (a - b) + nL b := by rw [nl_add]; congr 1; omega
  rw [this, Int64.add_sub_cancel]
theorem nl_div {a b : Nat} (ha : a < 2 ^ 63) (hb : b < 2 ^ 63) : nL a / nL b = nL (a / b) := by
  apply Int64.toInt_inj.mp
  have h2 : a / b < 2 ^ 63 := Nat.lt_of_le_of_lt (Nat.div_le_self a b) ha
  rw [Int64.toInt_div, nl_int ha, nl_int hb, nl_int h2, ← Int.ofNat_tdiv, Int.bmod_def]
  generalize a / b = q at h2 ⊢
  split <;> omega
theorem nl_mod {a b : Nat} (ha : a < 2 ^ 63) (hb : b < 2 ^ 63) : nL a - nL a / nL b * nL b = nL (a % b) := by
  rw [nl_div ha hb, nl_mul, nl_sub (Nat.div_mul_le_self a b)]
  congr 1
  have := Nat.mod_add_div a b
  rw [Nat.mul_comm] at this
  omega
theorem i2l_n {a : Nat} (h : a < 2 ^ 31) : (nI a).toInt64 = nL a := by
  apply Int64.toInt_inj.mp
  rw [Int32.toInt_toInt64, ni_int h, nl_int (by omega)]
theorem cmp_0 {y : Nat} (h : y < 2 ^ 63) : lg_cmp (nL y) 0 = if y = 0 then 0 else 1 := by
  unfold lg_cmp
  have e1 : (nL y > 0) = (0 < y) := nl_lt (a := 0) (by omega) h
  have e2 : (nL y = 0) = (y = 0) := nl_eq (b := 0) h (by omega)
  by_cases q : y = 0
  · have q1 : ¬ nL y > 0 := by rw [e1]; omega
    have q2 : nL y = 0 := by rw [e2]; exact q
    rw [if_neg q1, if_pos q2, if_pos q]
  · have q1 : nL y > 0 := by rw [e1]; omega
    rw [if_pos q1, if_neg q]
theorem mod_half {x y : Nat} (h : 0 < y) (hx : y ≤ x) : 2 * (x % y) < x := by
  have h1 : x % y < y := Nat.mod_lt _ h
  have h2 := Nat.mod_add_div x y
  have h3 : 1 ≤ x / y := (Nat.le_div_iff_mul_le h).mpr (by omega)
  have h4 : y * 1 ≤ y * (x / y) := Nat.mul_le_mul_left y h3
  omega
theorem c_X_fraction {d a b : Nat} {p : Int32} {σ : pm_S} {K : Option Value → pm_S → Prop} (ha : a < 2 ^ 31) (hb : 0 < b) (hb2 : b < 2 ^ 30) : pm_WC fqP (d + 1) 99 [.long (nL a), .long (nL b), .int p] σ K = K (some (.long (if p = 0 then nL (a / Nat.gcd a b) else nL (b / Nat.gcd a b)))) σ := by
  have key : ∀ (n x y i : Nat) (x10 x11 : Option Value), x < 2 ^ 31 → y < 2 ^ 31 → 0 < x + y → y < 2 ^ n → 2 * n + i ≤ 99 → Nat.gcd x y = Nat.gcd a b → pm_W fqP d 99 9 [some (.long (nL a)), none, some (.long (nL b)), none, some (.int p), some (.long (nL x)), none, some (.long (nL y)), none, some (.int (nI i)), x10, x11] [] σ K = K (some (.long (if p = 0 then nL (a / Nat.gcd a b) else nL (b / Nat.gcd a b)))) σ := by
    have stop : ∀ (x y i : Nat) (x10 x11 : Option Value), x < 2 ^ 31 → y = 0 → 0 < x + y → i ≤ 99 → Nat.gcd x y = Nat.gcd a b → pm_W fqP d 99 9 [some (.long (nL a)), none, some (.long (nL b)), none, some (.int p), some (.long (nL x)), none, some (.long (nL y)), none, some (.int (nI i)), x10, x11] [] σ K = K (some (.long (if p = 0 then nL (a / Nat.gcd a b) else nL (b / Nat.gcd a b)))) σ := by
      intro x y i x10 x11 hx hy hxy hi hg
      subst hy
      rw [Nat.gcd_zero_right] at hg
      have e1 : ((100 : Int32) ≤ nI i) = False := by rw [li_le 100 i (by omega) (by omega)]; exact eq_false (by omega)
      have e2 : lg_cmp (nL 0) 0 = 0 := cmp_0 (by omega)
      have e3 : lg_cmp (nL x) 0 = 1 := by rw [cmp_0 (by omega), if_neg (by omega)]
      have e4 : (nL x = 0) = False := by rw [show (0 : Int64) = nL 0 from rfl, nl_eq (by omega) (by omega)]; exact eq_false (by omega)
      rw [b_X_fraction_9]
      by_cases q : p = 0
      · have q1 := eq_true q
        simp (maxDischargeDepth := 20) (maxSteps := 2000000) only [↓reduceIte, pm_WL_nil, bi_900, bi_901, bi_904, bi_905, pm_lget_0, pm_lget_s, pm_oI_s, pm_oA_s, pm_oJ_s, pm_oK_s, pm_oR_s, pm_oO_s, pm_oN_s, pm_oF_s, pm_oM_s, pm_oP_s, pm_pu_n, pm_pu_s, pm_bo_ne, pm_bo_eq, Nat.reduceAdd, Nat.reduceSub, Nat.reduceLT, Nat.reduceLeDiff, Nat.reduceEqDiff, Nat.zero_add, Nat.lt_add_one, Nat.zero_ne_one, Nat.succ_ne_self, List.length_cons, List.length_nil, true_and, and_true, true_or, or_true, false_or, or_false, false_implies, true_implies, implies_true, not_true_eq_false, not_false_eq_true, ne_eq, eq_self, e_X_fraction, pm_okW_0, pm_okW_i, pm_okW_r, pm_okW_l, pm_ent_0, pm_ent_i, pm_ent_r, pm_ent_l, List.reduceReplicate, b_X_fraction_0, b_X_fraction_16, b_X_fraction_23, b_X_fraction_44, b_X_fraction_51, b_X_fraction_55, b_X_fraction_60, b_X_fraction_67, b_X_fraction_71, f_lloadn0, w_lstore, pm_lset2_0, pm_lset2_1, pm_lset2_n, pm_no2_n, pm_no2_i, pm_no2_r, pm_no2_l, f_lloadn2, w_iconst, ki_0, w_istore, pm_lset_0, pm_lset_1, pm_lset_n, f_iload9, w_bipush, kb_100, w_icmp_ge, pm_tgt_is, Int.cast_ofNat_Int, Int.reduceNeg, Int.reduceAdd, Int.reduceToNat, Int.zero_add, Int.zero_le_ofNat, Int.reduceLE, if_true, if_false, f_lload7, w_lconst0, w_lcmp, w_if_eq, nz_1, nz_m1, f_lload5, w_lrem, f_lload10, f_iinc9, ki_1, w_goto, w_if_ne, w_ldc2, lg_99, lk_7_221, w_lret, f_iload4, w_ldiv, e1, e2, e3, e4, q1]
        rw [nl_div (by omega) (by omega), hg]
      · have q1 := eq_false q
        simp (maxDischargeDepth := 20) (maxSteps := 2000000) only [↓reduceIte, pm_WL_nil, bi_900, bi_901, bi_904, bi_905, pm_lget_0, pm_lget_s, pm_oI_s, pm_oA_s, pm_oJ_s, pm_oK_s, pm_oR_s, pm_oO_s, pm_oN_s, pm_oF_s, pm_oM_s, pm_oP_s, pm_pu_n, pm_pu_s, pm_bo_ne, pm_bo_eq, Nat.reduceAdd, Nat.reduceSub, Nat.reduceLT, Nat.reduceLeDiff, Nat.reduceEqDiff, Nat.zero_add, Nat.lt_add_one, Nat.zero_ne_one, Nat.succ_ne_self, List.length_cons, List.length_nil, true_and, and_true, true_or, or_true, false_or, or_false, false_implies, true_implies, implies_true, not_true_eq_false, not_false_eq_true, ne_eq, eq_self, e_X_fraction, pm_okW_0, pm_okW_i, pm_okW_r, pm_okW_l, pm_ent_0, pm_ent_i, pm_ent_r, pm_ent_l, List.reduceReplicate, b_X_fraction_0, b_X_fraction_16, b_X_fraction_23, b_X_fraction_44, b_X_fraction_51, b_X_fraction_55, b_X_fraction_60, b_X_fraction_67, b_X_fraction_71, f_lloadn0, w_lstore, pm_lset2_0, pm_lset2_1, pm_lset2_n, pm_no2_n, pm_no2_i, pm_no2_r, pm_no2_l, f_lloadn2, w_iconst, ki_0, w_istore, pm_lset_0, pm_lset_1, pm_lset_n, f_iload9, w_bipush, kb_100, w_icmp_ge, pm_tgt_is, Int.cast_ofNat_Int, Int.reduceNeg, Int.reduceAdd, Int.reduceToNat, Int.zero_add, Int.zero_le_ofNat, Int.reduceLE, if_true, if_false, f_lload7, w_lconst0, w_lcmp, w_if_eq, nz_1, nz_m1, f_lload5, w_lrem, f_lload10, f_iinc9, ki_1, w_goto, w_if_ne, w_ldc2, lg_99, lk_7_221, w_lret, f_iload4, w_ldiv, e1, e2, e3, e4, q1]
        rw [nl_div (by omega) (by omega), hg]
    have one : ∀ (x y i : Nat) (x10 x11 : Option Value), x < 2 ^ 31 → y < 2 ^ 31 → ¬ y = 0 → i ≤ 99 → ∃ z10 z11, pm_W fqP d 99 9 [some (.long (nL a)), none, some (.long (nL b)), none, some (.int p), some (.long (nL x)), none, some (.long (nL y)), none, some (.int (nI i)), x10, x11] [] σ K = pm_W fqP d 99 9 [some (.long (nL a)), none, some (.long (nL b)), none, some (.int p), some (.long (nL y)), none, some (.long (nL (x % y))), none, some (.int (nI (i + 1))), z10, z11] [] σ K := by
      intro x y i x10 x11 hx hy hy0 hi
      have e1 : ((100 : Int32) ≤ nI i) = False := by rw [li_le 100 i (by omega) (by omega)]; exact eq_false (by omega)
      have e2 : lg_cmp (nL y) 0 = 1 := by rw [cmp_0 (by omega), if_neg hy0]
      have e4 : (nL y = 0) = False := by rw [show (0 : Int64) = nL 0 from rfl, nl_eq (by omega) (by omega)]; exact eq_false hy0
      have e5 : nL x - nL x / nL y * nL y = nL (x % y) := nl_mod (by omega) (by omega)
      refine ⟨some (.long (nL (x % y))), none, ?_⟩
      rw [b_X_fraction_9]
      simp (maxDischargeDepth := 20) (maxSteps := 2000000) only [↓reduceIte, pm_WL_nil, bi_900, bi_901, bi_904, bi_905, pm_lget_0, pm_lget_s, pm_oI_s, pm_oA_s, pm_oJ_s, pm_oK_s, pm_oR_s, pm_oO_s, pm_oN_s, pm_oF_s, pm_oM_s, pm_oP_s, pm_pu_n, pm_pu_s, pm_bo_ne, pm_bo_eq, Nat.reduceAdd, Nat.reduceSub, Nat.reduceLT, Nat.reduceLeDiff, Nat.reduceEqDiff, Nat.zero_add, Nat.lt_add_one, Nat.zero_ne_one, Nat.succ_ne_self, List.length_cons, List.length_nil, true_and, and_true, true_or, or_true, false_or, or_false, false_implies, true_implies, implies_true, not_true_eq_false, not_false_eq_true, ne_eq, eq_self, e_X_fraction, pm_okW_0, pm_okW_i, pm_okW_r, pm_okW_l, pm_ent_0, pm_ent_i, pm_ent_r, pm_ent_l, List.reduceReplicate, b_X_fraction_0, b_X_fraction_16, b_X_fraction_23, b_X_fraction_44, b_X_fraction_51, b_X_fraction_55, b_X_fraction_60, b_X_fraction_67, b_X_fraction_71, f_lloadn0, w_lstore, pm_lset2_0, pm_lset2_1, pm_lset2_n, pm_no2_n, pm_no2_i, pm_no2_r, pm_no2_l, f_lloadn2, w_iconst, ki_0, w_istore, pm_lset_0, pm_lset_1, pm_lset_n, f_iload9, w_bipush, kb_100, w_icmp_ge, pm_tgt_is, Int.cast_ofNat_Int, Int.reduceNeg, Int.reduceAdd, Int.reduceToNat, Int.zero_add, Int.zero_le_ofNat, Int.reduceLE, if_true, if_false, f_lload7, w_lconst0, w_lcmp, w_if_eq, nz_1, nz_m1, f_lload5, w_lrem, f_lload10, f_iinc9, ki_1, w_goto, w_if_ne, w_ldc2, lg_99, lk_7_221, w_lret, f_iload4, w_ldiv, e1, e2, e4, e5, ni_1]
    intro n
    induction n with
    | zero =>
      intro x y i x10 x11 hx hy hxy hyn hi hg
      exact stop x y i x10 x11 hx (by simp at hyn; omega) hxy (by omega) hg
    | succ n ih =>
      intro x y i x10 x11 hx hy hxy hyn hi hg
      by_cases y0 : y = 0
      · exact stop x y i x10 x11 hx y0 hxy (by omega) hg
      obtain ⟨z10, z11, e⟩ := one x y i x10 x11 hx hy y0 (by omega)
      rw [e]
      have m1 : x % y < y := Nat.mod_lt _ (by omega)
      have hg2 : Nat.gcd y (x % y) = Nat.gcd a b := by rw [← hg, Nat.gcd_comm x y, Nat.gcd_rec y x, Nat.gcd_comm]
      by_cases r0 : x % y = 0
      · exact stop y (x % y) (i + 1) z10 z11 hy r0 (by omega) (by omega) hg2
      obtain ⟨w10, w11, e'⟩ := one y (x % y) (i + 1) z10 z11 hy (by omega) r0 (by omega)
      rw [e']
      have m2 := mod_half (x := y) (y := x % y) (by omega) (by omega)
      have m3 : y % (x % y) < x % y := Nat.mod_lt _ (by omega)
      rw [Nat.pow_succ] at hyn
      exact ih _ _ (i + 1 + 1) w10 w11 (by omega) (by omega) (by omega) (by omega) (by omega) (by rw [← hg2, Nat.gcd_comm y (x % y), Nat.gcd_rec (x % y) y, Nat.gcd_comm])
  simp (maxDischargeDepth := 20) (maxSteps := 2000000) only [↓reduceIte, pm_WL_nil, bi_900, bi_901, bi_904, bi_905, pm_lget_0, pm_lget_s, pm_oI_s, pm_oA_s, pm_oJ_s, pm_oK_s, pm_oR_s, pm_oO_s, pm_oN_s, pm_oF_s, pm_oM_s, pm_oP_s, pm_pu_n, pm_pu_s, pm_bo_ne, pm_bo_eq, Nat.reduceAdd, Nat.reduceSub, Nat.reduceLT, Nat.reduceLeDiff, Nat.reduceEqDiff, Nat.zero_add, Nat.lt_add_one, Nat.zero_ne_one, Nat.succ_ne_self, List.length_cons, List.length_nil, true_and, and_true, true_or, or_true, false_or, or_false, false_implies, true_implies, implies_true, not_true_eq_false, not_false_eq_true, ne_eq, eq_self, e_X_fraction, pm_okW_0, pm_okW_i, pm_okW_r, pm_okW_l, pm_ent_0, pm_ent_i, pm_ent_r, pm_ent_l, List.reduceReplicate, b_X_fraction_0, b_X_fraction_16, b_X_fraction_23, b_X_fraction_44, b_X_fraction_51, b_X_fraction_55, b_X_fraction_60, b_X_fraction_67, b_X_fraction_71, f_lloadn0, w_lstore, pm_lset2_0, pm_lset2_1, pm_lset2_n, pm_no2_n, pm_no2_i, pm_no2_r, pm_no2_l, f_lloadn2, w_iconst, ki_0, w_istore, pm_lset_0, pm_lset_1, pm_lset_n, f_iload9, w_bipush, kb_100, w_icmp_ge, pm_tgt_is, Int.cast_ofNat_Int, Int.reduceNeg, Int.reduceAdd, Int.reduceToNat, Int.zero_add, Int.zero_le_ofNat, Int.reduceLE, if_true, if_false, f_lload7, w_lconst0, w_lcmp, w_if_eq, nz_1, nz_m1, f_lload5, w_lrem, f_lload10, f_iinc9, ki_1, w_goto, w_if_ne, w_ldc2, lg_99, lk_7_221, w_lret, f_iload4, w_ldiv]
  exact key 30 a b 0 none none ha (by omega) (by omega) hb2 (by omega) rfl
theorem c_M_lowest {d a b : Nat} {p : Int32} {σ : pm_S} {K : Option Value → pm_S → Prop} (ha : a < 2 ^ 31) (hb : 0 < b) (hb2 : b < 2 ^ 30) : pm_WC fqP (d + 1) 160 [.long (nL a), .long (nL b), .int p] σ K = K (some (.long (if p = 0 then nL (a / Nat.gcd a b) else nL (b / Nat.gcd a b)))) σ := by
  have key : ∀ (n x y : Nat) (x9 x10 : Option Value), y ≤ n → x < 2 ^ 31 → y < 2 ^ 31 → 0 < x + y → Nat.gcd x y = Nat.gcd a b → pm_W fqP d 160 17 [some (.long (nL a)), none, some (.long (nL b)), none, some (.int p), some (.long (nL x)), none, some (.long (nL y)), none, x9, x10] [] σ K = K (some (.long (if p = 0 then nL (a / Nat.gcd a b) else nL (b / Nat.gcd a b)))) σ := by
    intro n
    induction n with
    | zero =>
      intro x y x9 x10 hn hx hy hxy hg
      have : y = 0 := by omega
      subst this
      rw [Nat.gcd_zero_right] at hg
      have e2 : lg_cmp (nL 0) 0 = 0 := cmp_0 (by omega)
      have e4 : (nL x = 0) = False := by rw [show (0 : Int64) = nL 0 from rfl, nl_eq (by omega) (by omega)]; exact eq_false (by omega)
      rw [b_M_lowest_17]
      by_cases q : p = 0
      · have q1 := eq_true q
        simp (maxDischargeDepth := 20) (maxSteps := 2000000) only [↓reduceIte, pm_WL_nil, bi_900, bi_901, bi_904, bi_905, pm_lget_0, pm_lget_s, pm_oI_s, pm_oA_s, pm_oJ_s, pm_oK_s, pm_oR_s, pm_oO_s, pm_oN_s, pm_oF_s, pm_oM_s, pm_oP_s, pm_pu_n, pm_pu_s, pm_bo_ne, pm_bo_eq, Nat.reduceAdd, Nat.reduceSub, Nat.reduceLT, Nat.reduceLeDiff, Nat.reduceEqDiff, Nat.zero_add, Nat.lt_add_one, Nat.zero_ne_one, Nat.succ_ne_self, List.length_cons, List.length_nil, true_and, and_true, true_or, or_true, false_or, or_false, false_implies, true_implies, implies_true, not_true_eq_false, not_false_eq_true, ne_eq, eq_self, e_M_lowest, pm_okW_0, pm_okW_i, pm_okW_r, pm_okW_l, pm_ent_0, pm_ent_i, pm_ent_r, pm_ent_l, List.reduceReplicate, b_M_lowest_0, b_M_lowest_6, b_M_lowest_11, b_M_lowest_12, b_M_lowest_24, b_M_lowest_42, b_M_lowest_47, b_M_lowest_51, b_M_lowest_52, f_lloadn0, w_lconst0, w_lcmp, w_if_ge, pm_tgt_is, Int.cast_ofNat_Int, Int.reduceNeg, Int.reduceAdd, Int.reduceToNat, Int.zero_add, Int.zero_le_ofNat, Int.reduceLE, nz_1, nz_m1, if_true, if_false, w_lneg, w_goto, w_lstore, pm_lset2_0, pm_lset2_1, pm_lset2_n, pm_no2_n, pm_no2_i, pm_no2_r, pm_no2_l, f_lloadn2, f_lload7, w_if_eq, f_lload5, w_lrem, f_lload9, f_iload4, w_if_ne, w_ldiv, w_lret, e2, e4, q1]
        rw [nl_div (by omega) (by omega), hg]
      · have q1 := eq_false q
        simp (maxDischargeDepth := 20) (maxSteps := 2000000) only [↓reduceIte, pm_WL_nil, bi_900, bi_901, bi_904, bi_905, pm_lget_0, pm_lget_s, pm_oI_s, pm_oA_s, pm_oJ_s, pm_oK_s, pm_oR_s, pm_oO_s, pm_oN_s, pm_oF_s, pm_oM_s, pm_oP_s, pm_pu_n, pm_pu_s, pm_bo_ne, pm_bo_eq, Nat.reduceAdd, Nat.reduceSub, Nat.reduceLT, Nat.reduceLeDiff, Nat.reduceEqDiff, Nat.zero_add, Nat.lt_add_one, Nat.zero_ne_one, Nat.succ_ne_self, List.length_cons, List.length_nil, true_and, and_true, true_or, or_true, false_or, or_false, false_implies, true_implies, implies_true, not_true_eq_false, not_false_eq_true, ne_eq, eq_self, e_M_lowest, pm_okW_0, pm_okW_i, pm_okW_r, pm_okW_l, pm_ent_0, pm_ent_i, pm_ent_r, pm_ent_l, List.reduceReplicate, b_M_lowest_0, b_M_lowest_6, b_M_lowest_11, b_M_lowest_12, b_M_lowest_24, b_M_lowest_42, b_M_lowest_47, b_M_lowest_51, b_M_lowest_52, f_lloadn0, w_lconst0, w_lcmp, w_if_ge, pm_tgt_is, Int.cast_ofNat_Int, Int.reduceNeg, Int.reduceAdd, Int.reduceToNat, Int.zero_add, Int.zero_le_ofNat, Int.reduceLE, nz_1, nz_m1, if_true, if_false, w_lneg, w_goto, w_lstore, pm_lset2_0, pm_lset2_1, pm_lset2_n, pm_no2_n, pm_no2_i, pm_no2_r, pm_no2_l, f_lloadn2, f_lload7, w_if_eq, f_lload5, w_lrem, f_lload9, f_iload4, w_if_ne, w_ldiv, w_lret, e2, e4, q1]
        rw [nl_div (by omega) (by omega), hg]
    | succ n ih =>
      intro x y x9 x10 hn hx hy hxy hg
      by_cases y0 : y = 0
      · subst y0
        rw [Nat.gcd_zero_right] at hg
        have e2 : lg_cmp (nL 0) 0 = 0 := cmp_0 (by omega)
        have e4 : (nL x = 0) = False := by rw [show (0 : Int64) = nL 0 from rfl, nl_eq (by omega) (by omega)]; exact eq_false (by omega)
        rw [b_M_lowest_17]
        by_cases q : p = 0
        · have q1 := eq_true q
          simp (maxDischargeDepth := 20) (maxSteps := 2000000) only [↓reduceIte, pm_WL_nil, bi_900, bi_901, bi_904, bi_905, pm_lget_0, pm_lget_s, pm_oI_s, pm_oA_s, pm_oJ_s, pm_oK_s, pm_oR_s, pm_oO_s, pm_oN_s, pm_oF_s, pm_oM_s, pm_oP_s, pm_pu_n, pm_pu_s, pm_bo_ne, pm_bo_eq, Nat.reduceAdd, Nat.reduceSub, Nat.reduceLT, Nat.reduceLeDiff, Nat.reduceEqDiff, Nat.zero_add, Nat.lt_add_one, Nat.zero_ne_one, Nat.succ_ne_self, List.length_cons, List.length_nil, true_and, and_true, true_or, or_true, false_or, or_false, false_implies, true_implies, implies_true, not_true_eq_false, not_false_eq_true, ne_eq, eq_self, e_M_lowest, pm_okW_0, pm_okW_i, pm_okW_r, pm_okW_l, pm_ent_0, pm_ent_i, pm_ent_r, pm_ent_l, List.reduceReplicate, b_M_lowest_0, b_M_lowest_6, b_M_lowest_11, b_M_lowest_12, b_M_lowest_24, b_M_lowest_42, b_M_lowest_47, b_M_lowest_51, b_M_lowest_52, f_lloadn0, w_lconst0, w_lcmp, w_if_ge, pm_tgt_is, Int.cast_ofNat_Int, Int.reduceNeg, Int.reduceAdd, Int.reduceToNat, Int.zero_add, Int.zero_le_ofNat, Int.reduceLE, nz_1, nz_m1, if_true, if_false, w_lneg, w_goto, w_lstore, pm_lset2_0, pm_lset2_1, pm_lset2_n, pm_no2_n, pm_no2_i, pm_no2_r, pm_no2_l, f_lloadn2, f_lload7, w_if_eq, f_lload5, w_lrem, f_lload9, f_iload4, w_if_ne, w_ldiv, w_lret, e2, e4, q1]
          rw [nl_div (by omega) (by omega), hg]
        · have q1 := eq_false q
          simp (maxDischargeDepth := 20) (maxSteps := 2000000) only [↓reduceIte, pm_WL_nil, bi_900, bi_901, bi_904, bi_905, pm_lget_0, pm_lget_s, pm_oI_s, pm_oA_s, pm_oJ_s, pm_oK_s, pm_oR_s, pm_oO_s, pm_oN_s, pm_oF_s, pm_oM_s, pm_oP_s, pm_pu_n, pm_pu_s, pm_bo_ne, pm_bo_eq, Nat.reduceAdd, Nat.reduceSub, Nat.reduceLT, Nat.reduceLeDiff, Nat.reduceEqDiff, Nat.zero_add, Nat.lt_add_one, Nat.zero_ne_one, Nat.succ_ne_self, List.length_cons, List.length_nil, true_and, and_true, true_or, or_true, false_or, or_false, false_implies, true_implies, implies_true, not_true_eq_false, not_false_eq_true, ne_eq, eq_self, e_M_lowest, pm_okW_0, pm_okW_i, pm_okW_r, pm_okW_l, pm_ent_0, pm_ent_i, pm_ent_r, pm_ent_l, List.reduceReplicate, b_M_lowest_0, b_M_lowest_6, b_M_lowest_11, b_M_lowest_12, b_M_lowest_24, b_M_lowest_42, b_M_lowest_47, b_M_lowest_51, b_M_lowest_52, f_lloadn0, w_lconst0, w_lcmp, w_if_ge, pm_tgt_is, Int.cast_ofNat_Int, Int.reduceNeg, Int.reduceAdd, Int.reduceToNat, Int.zero_add, Int.zero_le_ofNat, Int.reduceLE, nz_1, nz_m1, if_true, if_false, w_lneg, w_goto, w_lstore, pm_lset2_0, pm_lset2_1, pm_lset2_n, pm_no2_n, pm_no2_i, pm_no2_r, pm_no2_l, f_lloadn2, f_lload7, w_if_eq, f_lload5, w_lrem, f_lload9, f_iload4, w_if_ne, w_ldiv, w_lret, e2, e4, q1]
          rw [nl_div (by omega) (by omega), hg]
      have e2 : lg_cmp (nL y) 0 = 1 := by rw [cmp_0 (by omega), if_neg y0]
      have e4 : (nL y = 0) = False := by rw [show (0 : Int64) = nL 0 from rfl, nl_eq (by omega) (by omega)]; exact eq_false y0
      have e5 : nL x - nL x / nL y * nL y = nL (x % y) := nl_mod (by omega) (by omega)
      have m1 : x % y < y := Nat.mod_lt _ (by omega)
      rw [b_M_lowest_17]
      simp (maxDischargeDepth := 20) (maxSteps := 2000000) only [↓reduceIte, pm_WL_nil, bi_900, bi_901, bi_904, bi_905, pm_lget_0, pm_lget_s, pm_oI_s, pm_oA_s, pm_oJ_s, pm_oK_s, pm_oR_s, pm_oO_s, pm_oN_s, pm_oF_s, pm_oM_s, pm_oP_s, pm_pu_n, pm_pu_s, pm_bo_ne, pm_bo_eq, Nat.reduceAdd, Nat.reduceSub, Nat.reduceLT, Nat.reduceLeDiff, Nat.reduceEqDiff, Nat.zero_add, Nat.lt_add_one, Nat.zero_ne_one, Nat.succ_ne_self, List.length_cons, List.length_nil, true_and, and_true, true_or, or_true, false_or, or_false, false_implies, true_implies, implies_true, not_true_eq_false, not_false_eq_true, ne_eq, eq_self, e_M_lowest, pm_okW_0, pm_okW_i, pm_okW_r, pm_okW_l, pm_ent_0, pm_ent_i, pm_ent_r, pm_ent_l, List.reduceReplicate, b_M_lowest_0, b_M_lowest_6, b_M_lowest_11, b_M_lowest_12, b_M_lowest_24, b_M_lowest_42, b_M_lowest_47, b_M_lowest_51, b_M_lowest_52, f_lloadn0, w_lconst0, w_lcmp, w_if_ge, pm_tgt_is, Int.cast_ofNat_Int, Int.reduceNeg, Int.reduceAdd, Int.reduceToNat, Int.zero_add, Int.zero_le_ofNat, Int.reduceLE, nz_1, nz_m1, if_true, if_false, w_lneg, w_goto, w_lstore, pm_lset2_0, pm_lset2_1, pm_lset2_n, pm_no2_n, pm_no2_i, pm_no2_r, pm_no2_l, f_lloadn2, f_lload7, w_if_eq, f_lload5, w_lrem, f_lload9, f_iload4, w_if_ne, w_ldiv, w_lret, e2, e4, e5]
      exact ih y (x % y) _ _ (by omega) hy (by omega) (by omega) (by rw [← hg, Nat.gcd_comm x y, Nat.gcd_rec y x, Nat.gcd_comm])
  have e1 : lg_cmp (nL a) 0 = if a = 0 then 0 else 1 := cmp_0 (by omega)
  by_cases q : a = 0
  · rw [if_pos q] at e1
    have e3 : ((0 : Int32) < 0) = False := eq_false (by decide)
    simp (maxDischargeDepth := 20) (maxSteps := 2000000) only [↓reduceIte, pm_WL_nil, bi_900, bi_901, bi_904, bi_905, pm_lget_0, pm_lget_s, pm_oI_s, pm_oA_s, pm_oJ_s, pm_oK_s, pm_oR_s, pm_oO_s, pm_oN_s, pm_oF_s, pm_oM_s, pm_oP_s, pm_pu_n, pm_pu_s, pm_bo_ne, pm_bo_eq, Nat.reduceAdd, Nat.reduceSub, Nat.reduceLT, Nat.reduceLeDiff, Nat.reduceEqDiff, Nat.zero_add, Nat.lt_add_one, Nat.zero_ne_one, Nat.succ_ne_self, List.length_cons, List.length_nil, true_and, and_true, true_or, or_true, false_or, or_false, false_implies, true_implies, implies_true, not_true_eq_false, not_false_eq_true, ne_eq, eq_self, e_M_lowest, pm_okW_0, pm_okW_i, pm_okW_r, pm_okW_l, pm_ent_0, pm_ent_i, pm_ent_r, pm_ent_l, List.reduceReplicate, b_M_lowest_0, b_M_lowest_6, b_M_lowest_11, b_M_lowest_12, b_M_lowest_24, b_M_lowest_42, b_M_lowest_47, b_M_lowest_51, b_M_lowest_52, f_lloadn0, w_lconst0, w_lcmp, w_if_ge, pm_tgt_is, Int.cast_ofNat_Int, Int.reduceNeg, Int.reduceAdd, Int.reduceToNat, Int.zero_add, Int.zero_le_ofNat, Int.reduceLE, nz_1, nz_m1, if_true, if_false, w_lneg, w_goto, w_lstore, pm_lset2_0, pm_lset2_1, pm_lset2_n, pm_no2_n, pm_no2_i, pm_no2_r, pm_no2_l, f_lloadn2, f_lload7, w_if_eq, f_lload5, w_lrem, f_lload9, f_iload4, w_if_ne, w_ldiv, w_lret, e1, Int32.lt_irrefl, Int32.le_refl]
    exact key b a b none none (Nat.le_refl _) ha (by omega) (by omega) rfl
  · rw [if_neg q] at e1
    have e3 : ((0 : Int32) ≤ 1) = True := eq_true (by decide)
    simp (maxDischargeDepth := 20) (maxSteps := 2000000) only [↓reduceIte, pm_WL_nil, bi_900, bi_901, bi_904, bi_905, pm_lget_0, pm_lget_s, pm_oI_s, pm_oA_s, pm_oJ_s, pm_oK_s, pm_oR_s, pm_oO_s, pm_oN_s, pm_oF_s, pm_oM_s, pm_oP_s, pm_pu_n, pm_pu_s, pm_bo_ne, pm_bo_eq, Nat.reduceAdd, Nat.reduceSub, Nat.reduceLT, Nat.reduceLeDiff, Nat.reduceEqDiff, Nat.zero_add, Nat.lt_add_one, Nat.zero_ne_one, Nat.succ_ne_self, List.length_cons, List.length_nil, true_and, and_true, true_or, or_true, false_or, or_false, false_implies, true_implies, implies_true, not_true_eq_false, not_false_eq_true, ne_eq, eq_self, e_M_lowest, pm_okW_0, pm_okW_i, pm_okW_r, pm_okW_l, pm_ent_0, pm_ent_i, pm_ent_r, pm_ent_l, List.reduceReplicate, b_M_lowest_0, b_M_lowest_6, b_M_lowest_11, b_M_lowest_12, b_M_lowest_24, b_M_lowest_42, b_M_lowest_47, b_M_lowest_51, b_M_lowest_52, f_lloadn0, w_lconst0, w_lcmp, w_if_ge, pm_tgt_is, Int.cast_ofNat_Int, Int.reduceNeg, Int.reduceAdd, Int.reduceToNat, Int.zero_add, Int.zero_le_ofNat, Int.reduceLE, nz_1, nz_m1, if_true, if_false, w_lneg, w_goto, w_lstore, pm_lset2_0, pm_lset2_1, pm_lset2_n, pm_no2_n, pm_no2_i, pm_no2_r, pm_no2_l, f_lloadn2, f_lload7, w_if_eq, f_lload5, w_lrem, f_lload9, f_iload4, w_if_ne, w_ldiv, w_lret, e1, e3]
    exact key b a b none none (Nat.le_refl _) ha (by omega) (by omega) rfl
/-- the weights of those in a set -/
def wtF (s : List Int32) (m : Nat) : Nat → Nat
  | 0 => 0
  | k + 1 => wtF s m k + tb m k * nN s (42 + k)
theorem wf_w {T p : Nat} {s : List Int32} (h : WF T s) (hp : p < 6) : gd s (42 + p) = nI (nN s (42 + p)) ∧ nN s (42 + p) ≤ 9 := ⟨wf_g h _ (by omega) (by omega) (by omega), wf_b h _ 9 (by omega) (by omega) (by omega) (Nat.le_of_eq (by unfold bnd; rw [if_neg (by omega), if_neg (by omega), if_neg (by omega), if_neg (by omega), if_neg (by omega), if_neg (by omega), if_neg (by omega), if_neg (by omega), if_pos (by omega)]))⟩
theorem wt_le {T : Nat} {s : List Int32} (h : WF T s) (m : Nat) : ∀ k, k ≤ 6 → wtF s m k ≤ 9 * k
  | 0, _ => by simp [wtF]
  | k + 1, hk => by
    have := wt_le h m k (by omega)
    have w := (wf_w h (p := k) (by omega)).2
    rw [wtF]
    rcases (by have := tb_lt m k; omega : tb m k = 0 ∨ tb m k = 1) with z | z <;> rw [z] <;> omega
theorem c_Things_weightOf {d T n m : Nat} {h : Nat → List Int32} {s : List Int32} {K : Option Value → pm_S → Prop} (hw : WF T s) (c5 : gd (h 11) 1 = nI (nN s 22)) (c8 : h 14 = sl s 42 6) (hm : m < 64) : pm_WC fqP (d + 2) 42 [.ref 11, .int (nI m)] (mk h) K = K (some (.int (nI (wtF s m (nN s 22))))) (mk h) := by
  obtain ⟨hn, hn6⟩ := wf_n hw
  have hl := wf_len hw
  have key : ∀ j k : Nat, j + k = nN s 22 → pm_W fqP (d + 1) 42 4 [some (.ref 11), some (.int (nI m)), some (.int (nI (wtF s m k))), some (.int (nI k))] [] (mk h) K = K (some (.int (nI (wtF s m (nN s 22))))) (mk h) := by
    intro j
    induction j with
    | zero =>
      intro k hk
      have e1 : (nI (nN s 22) ≤ nI k) = True := by rw [ni_le (by omega) (by omega)]; exact eq_true (by omega)
      rw [b_Things_weightOf_4]
      simp (maxDischargeDepth := 20) (maxSteps := 2000000) only [↓reduceIte, pm_WL_nil, bi_900, bi_901, bi_904, bi_905, pm_lget_0, pm_lget_s, pm_oI_s, pm_oA_s, pm_oJ_s, pm_oK_s, pm_oR_s, pm_oO_s, pm_oN_s, pm_oF_s, pm_oM_s, pm_oP_s, pm_pu_n, pm_pu_s, pm_bo_ne, pm_bo_eq, Nat.reduceAdd, Nat.reduceSub, Nat.reduceLT, Nat.reduceLeDiff, Nat.reduceEqDiff, Nat.zero_add, Nat.lt_add_one, Nat.zero_ne_one, Nat.succ_ne_self, List.length_cons, List.length_nil, true_and, and_true, true_or, or_true, false_or, or_false, false_implies, true_implies, implies_true, not_true_eq_false, not_false_eq_true, ne_eq, eq_self, e_Things_weightOf, pm_okW_0, pm_okW_i, pm_okW_r, pm_okW_l, pm_ent_0, pm_ent_i, pm_ent_r, pm_ent_l, List.reduceReplicate, b_Things_weightOf_0, b_Things_weightOf_12, b_Things_weightOf_35, w_iconst, ki_0, w_istore2, pm_lset_0, pm_lset_1, pm_lset_n, pm_no2_n, pm_no2_i, pm_no2_r, pm_no2_l, w_istore3, f_iloadn3, f_aloadn0, gf_42_27_11, gf_42_27_39, gf_42_27_66, w_icmp_ge, pm_tgt_is, Int.cast_ofNat_Int, Int.reduceNeg, Int.reduceAdd, Int.reduceToNat, Int.zero_add, Int.zero_le_ofNat, Int.reduceLE, if_true, if_false, f_iloadn2, f_iloadn1, iv_42_42, kk_n, kk_s, gf_42_18_11, gf_42_18_39, gf_42_18_66, iv_42_46, w_imul, w_iadd, f_iinc3, ki_1, w_goto, w_iret, lg_42, pm_fit_b, pm_fit_0, pm_fit_1, Bool.false_eq_true, hs_11, c5, e1]
      rw [show k = nN s 22 by omega]
    | succ j ih =>
      intro k hk
      have e1 : (nI (nN s 22) ≤ nI k) = False := by rw [ni_le (by omega) (by omega)]; exact eq_false (by omega)
      have e2 : bt (nI m) (nI k) = nI (tb m k) := bt_n _ (by omega) _ (by omega)
      have e3 : cl (h 14) (nI k) = nI (nN s (42 + k)) := by rw [c8, cl_n (by rw [sl_len (by omega)]; omega) (by rw [sl_len (by omega)]; omega), gd_sl (by omega), (wf_w hw (p := k) (by omega)).1]
      rw [b_Things_weightOf_4]
      simp (maxDischargeDepth := 20) (maxSteps := 2000000) only [↓reduceIte, pm_WL_nil, bi_900, bi_901, bi_904, bi_905, pm_lget_0, pm_lget_s, pm_oI_s, pm_oA_s, pm_oJ_s, pm_oK_s, pm_oR_s, pm_oO_s, pm_oN_s, pm_oF_s, pm_oM_s, pm_oP_s, pm_pu_n, pm_pu_s, pm_bo_ne, pm_bo_eq, Nat.reduceAdd, Nat.reduceSub, Nat.reduceLT, Nat.reduceLeDiff, Nat.reduceEqDiff, Nat.zero_add, Nat.lt_add_one, Nat.zero_ne_one, Nat.succ_ne_self, List.length_cons, List.length_nil, true_and, and_true, true_or, or_true, false_or, or_false, false_implies, true_implies, implies_true, not_true_eq_false, not_false_eq_true, ne_eq, eq_self, e_Things_weightOf, pm_okW_0, pm_okW_i, pm_okW_r, pm_okW_l, pm_ent_0, pm_ent_i, pm_ent_r, pm_ent_l, List.reduceReplicate, b_Things_weightOf_0, b_Things_weightOf_12, b_Things_weightOf_35, w_iconst, ki_0, w_istore2, pm_lset_0, pm_lset_1, pm_lset_n, pm_no2_n, pm_no2_i, pm_no2_r, pm_no2_l, w_istore3, f_iloadn3, f_aloadn0, gf_42_27_11, gf_42_27_39, gf_42_27_66, w_icmp_ge, pm_tgt_is, Int.cast_ofNat_Int, Int.reduceNeg, Int.reduceAdd, Int.reduceToNat, Int.zero_add, Int.zero_le_ofNat, Int.reduceLE, if_true, if_false, f_iloadn2, f_iloadn1, iv_42_42, kk_n, kk_s, gf_42_18_11, gf_42_18_39, gf_42_18_66, iv_42_46, w_imul, w_iadd, f_iinc3, ki_1, w_goto, w_iret, lg_42, pm_fit_b, pm_fit_0, pm_fit_1, Bool.false_eq_true, hs_11, f_iald_14, f_alen_14, ia_14, ar_14, f_iast_14, iw_14, hs_14, c_X_bit, c_X_cell, c5, e1, e2, e3, ni_mul, ni_add, ni_1]
      have := ih (k + 1) (by omega)
      rw [wtF] at this
      exact this
  simp (maxDischargeDepth := 20) (maxSteps := 2000000) only [↓reduceIte, pm_WL_nil, bi_900, bi_901, bi_904, bi_905, pm_lget_0, pm_lget_s, pm_oI_s, pm_oA_s, pm_oJ_s, pm_oK_s, pm_oR_s, pm_oO_s, pm_oN_s, pm_oF_s, pm_oM_s, pm_oP_s, pm_pu_n, pm_pu_s, pm_bo_ne, pm_bo_eq, Nat.reduceAdd, Nat.reduceSub, Nat.reduceLT, Nat.reduceLeDiff, Nat.reduceEqDiff, Nat.zero_add, Nat.lt_add_one, Nat.zero_ne_one, Nat.succ_ne_self, List.length_cons, List.length_nil, true_and, and_true, true_or, or_true, false_or, or_false, false_implies, true_implies, implies_true, not_true_eq_false, not_false_eq_true, ne_eq, eq_self, e_Things_weightOf, pm_okW_0, pm_okW_i, pm_okW_r, pm_okW_l, pm_ent_0, pm_ent_i, pm_ent_r, pm_ent_l, List.reduceReplicate, b_Things_weightOf_0, b_Things_weightOf_12, b_Things_weightOf_35, w_iconst, ki_0, w_istore2, pm_lset_0, pm_lset_1, pm_lset_n, pm_no2_n, pm_no2_i, pm_no2_r, pm_no2_l, w_istore3, f_iloadn3, f_aloadn0, gf_42_27_11, gf_42_27_39, gf_42_27_66, w_icmp_ge, pm_tgt_is, Int.cast_ofNat_Int, Int.reduceNeg, Int.reduceAdd, Int.reduceToNat, Int.zero_add, Int.zero_le_ofNat, Int.reduceLE, if_true, if_false, f_iloadn2, f_iloadn1, iv_42_42, kk_n, kk_s, gf_42_18_11, gf_42_18_39, gf_42_18_66, iv_42_46, w_imul, w_iadd, f_iinc3, ki_1, w_goto, w_iret, lg_42, pm_fit_b, pm_fit_0, pm_fit_1, Bool.false_eq_true]
  exact key (nN s 22) 0 (by omega)
theorem c_M_weightsOf {d T m : Nat} {h : Nat → List Int32} {K : Option Value → pm_S → Prop} (hw : WF T (h 86)) (hm : m < 64) : pm_WC fqP (d + 2) 162 [.ref 85, .int (nI m)] (mk h) K = K (some (.int (nI (wtF (h 86) m (nN (h 86) 22))))) (mk h) := by
  obtain ⟨hn, hn6⟩ := wf_n hw
  have hl := wf_len hw
  have key : ∀ j k : Nat, j + k = nN (h 86) 22 → pm_W fqP (d + 1) 162 4 [some (.ref 85), some (.int (nI m)), some (.int (nI (wtF (h 86) m k))), some (.int (nI k))] [] (mk h) K = K (some (.int (nI (wtF (h 86) m (nN (h 86) 22))))) (mk h) := by
    intro j
    induction j with
    | zero =>
      intro k hk
      have e1 : (nI (nN (h 86) 22) ≤ nI k) = True := by rw [ni_le (by omega) (by omega)]; exact eq_true (by omega)
      rw [b_M_weightsOf_4]
      simp (maxDischargeDepth := 20) (maxSteps := 2000000) only [↓reduceIte, pm_WL_nil, bi_900, bi_901, bi_904, bi_905, pm_lget_0, pm_lget_s, pm_oI_s, pm_oA_s, pm_oJ_s, pm_oK_s, pm_oR_s, pm_oO_s, pm_oN_s, pm_oF_s, pm_oM_s, pm_oP_s, pm_pu_n, pm_pu_s, pm_bo_ne, pm_bo_eq, Nat.reduceAdd, Nat.reduceSub, Nat.reduceLT, Nat.reduceLeDiff, Nat.reduceEqDiff, Nat.zero_add, Nat.lt_add_one, Nat.zero_ne_one, Nat.succ_ne_self, List.length_cons, List.length_nil, true_and, and_true, true_or, or_true, false_or, or_false, false_implies, true_implies, implies_true, not_true_eq_false, not_false_eq_true, ne_eq, eq_self, e_M_weightsOf, pm_okW_0, pm_okW_i, pm_okW_r, pm_okW_l, pm_ent_0, pm_ent_i, pm_ent_r, pm_ent_l, List.reduceReplicate, b_M_weightsOf_0, b_M_weightsOf_15, b_M_weightsOf_39, w_iconst, ki_0, w_istore2, pm_lset_0, pm_lset_1, pm_lset_n, pm_no2_n, pm_no2_i, pm_no2_r, pm_no2_l, w_istore3, f_iloadn3, f_aloadn0, gf_162_9_85, w_bipush, kb_22, w_icmp_ge, pm_tgt_is, Int.cast_ofNat_Int, Int.reduceNeg, Int.reduceAdd, Int.reduceToNat, Int.zero_add, Int.zero_le_ofNat, Int.reduceLE, if_true, if_false, f_iloadn2, f_iloadn1, w_ishr, ki_1, w_iand, kb_42, w_iadd, w_imul, f_iinc3, w_goto, w_iret, lg_162, pm_fit_b, pm_fit_0, pm_fit_1, Bool.false_eq_true, hs_85, f_iald_86, f_alen_86, ia_86, ar_86, f_iast_86, iw_86, hs_86, lia_0, lrd_0, lin_0, lwr_0, lia_1, lrd_1, lin_1, lwr_1, lia_2, lrd_2, lin_2, lwr_2, lia_3, lrd_3, lin_3, lwr_3, lia_4, lrd_4, lin_4, lwr_4, lia_5, lrd_5, lin_5, lwr_5, lia_6, lrd_6, lin_6, lwr_6, lia_12, lrd_12, lin_12, lwr_12, lia_18, lrd_18, lin_18, lwr_18, lia_22, lrd_22, lin_22, lwr_22, lia_23, lrd_23, lin_23, lwr_23, lia_24, lrd_24, lin_24, lwr_24, lia_25, lrd_25, lin_25, lwr_25, lia_26, lrd_26, lin_26, lwr_26, lia_27, lrd_27, lin_27, lwr_27, lia_28, lrd_28, lin_28, lwr_28, lia_29, lrd_29, lin_29, lwr_29, lia_30, lrd_30, lin_30, lwr_30, lia_36, lrd_36, lin_36, lwr_36, lia_42, lrd_42, lin_42, lwr_42, lia_48, lrd_48, lin_48, lwr_48, lia_72, lrd_72, lin_72, lwr_72, lia_77, lrd_77, lin_77, lwr_77, lia_82, lrd_82, lin_82, lwr_82, lia_87, lrd_87, lin_87, lwr_87, lia_92, lrd_92, lin_92, lwr_92, lia_100, lrd_100, lin_100, lwr_100, lia_108, lrd_108, lin_108, lwr_108, lia_116, lrd_116, lin_116, lwr_116, lia_124, lrd_124, lin_124, lwr_124, lia_224, lrd_224, lin_224, lwr_224, lia_229, lrd_229, lin_229, lwr_229, lia_234, lrd_234, lin_234, lwr_234, hl, hn, e1]
      rw [show k = nN (h 86) 22 by omega]
    | succ j ih =>
      intro k hk
      have e1 : (nI (nN (h 86) 22) ≤ nI k) = False := by rw [ni_le (by omega) (by omega)]; exact eq_false (by omega)
      have e2 : nI m >>> (nI k &&& 31) &&& 1 = nI (tb m k) := bt_n _ (by omega) _ (by omega)
      obtain ⟨ra, rb, rc⟩ := ix (j := 42 + k) (by omega)
      have e3 := (wf_w hw (p := k) (by omega)).1
      rw [b_M_weightsOf_4]
      simp (maxDischargeDepth := 20) (maxSteps := 2000000) only [↓reduceIte, pm_WL_nil, bi_900, bi_901, bi_904, bi_905, pm_lget_0, pm_lget_s, pm_oI_s, pm_oA_s, pm_oJ_s, pm_oK_s, pm_oR_s, pm_oO_s, pm_oN_s, pm_oF_s, pm_oM_s, pm_oP_s, pm_pu_n, pm_pu_s, pm_bo_ne, pm_bo_eq, Nat.reduceAdd, Nat.reduceSub, Nat.reduceLT, Nat.reduceLeDiff, Nat.reduceEqDiff, Nat.zero_add, Nat.lt_add_one, Nat.zero_ne_one, Nat.succ_ne_self, List.length_cons, List.length_nil, true_and, and_true, true_or, or_true, false_or, or_false, false_implies, true_implies, implies_true, not_true_eq_false, not_false_eq_true, ne_eq, eq_self, e_M_weightsOf, pm_okW_0, pm_okW_i, pm_okW_r, pm_okW_l, pm_ent_0, pm_ent_i, pm_ent_r, pm_ent_l, List.reduceReplicate, b_M_weightsOf_0, b_M_weightsOf_15, b_M_weightsOf_39, w_iconst, ki_0, w_istore2, pm_lset_0, pm_lset_1, pm_lset_n, pm_no2_n, pm_no2_i, pm_no2_r, pm_no2_l, w_istore3, f_iloadn3, f_aloadn0, gf_162_9_85, w_bipush, kb_22, w_icmp_ge, pm_tgt_is, Int.cast_ofNat_Int, Int.reduceNeg, Int.reduceAdd, Int.reduceToNat, Int.zero_add, Int.zero_le_ofNat, Int.reduceLE, if_true, if_false, f_iloadn2, f_iloadn1, w_ishr, ki_1, w_iand, kb_42, w_iadd, w_imul, f_iinc3, w_goto, w_iret, lg_162, pm_fit_b, pm_fit_0, pm_fit_1, Bool.false_eq_true, hs_85, f_iald_86, f_alen_86, ia_86, ar_86, f_iast_86, iw_86, hs_86, lia_0, lrd_0, lin_0, lwr_0, lia_1, lrd_1, lin_1, lwr_1, lia_2, lrd_2, lin_2, lwr_2, lia_3, lrd_3, lin_3, lwr_3, lia_4, lrd_4, lin_4, lwr_4, lia_5, lrd_5, lin_5, lwr_5, lia_6, lrd_6, lin_6, lwr_6, lia_12, lrd_12, lin_12, lwr_12, lia_18, lrd_18, lin_18, lwr_18, lia_22, lrd_22, lin_22, lwr_22, lia_23, lrd_23, lin_23, lwr_23, lia_24, lrd_24, lin_24, lwr_24, lia_25, lrd_25, lin_25, lwr_25, lia_26, lrd_26, lin_26, lwr_26, lia_27, lrd_27, lin_27, lwr_27, lia_28, lrd_28, lin_28, lwr_28, lia_29, lrd_29, lin_29, lwr_29, lia_30, lrd_30, lin_30, lwr_30, lia_36, lrd_36, lin_36, lwr_36, lia_42, lrd_42, lin_42, lwr_42, lia_48, lrd_48, lin_48, lwr_48, lia_72, lrd_72, lin_72, lwr_72, lia_77, lrd_77, lin_77, lwr_77, lia_82, lrd_82, lin_82, lwr_82, lia_87, lrd_87, lin_87, lwr_87, lia_92, lrd_92, lin_92, lwr_92, lia_100, lrd_100, lin_100, lwr_100, lia_108, lrd_108, lin_108, lwr_108, lia_116, lrd_116, lin_116, lwr_116, lia_124, lrd_124, lin_124, lwr_124, lia_224, lrd_224, lin_224, lwr_224, lia_229, lrd_229, lin_229, lwr_229, lia_234, lrd_234, lin_234, lwr_234, hl, hn, e1, e2, e3, ra, rc, ni_mul, ni_add, ni_1]
      have := ih (k + 1) (by omega)
      rw [wtF] at this
      exact this
  simp (maxDischargeDepth := 20) (maxSteps := 2000000) only [↓reduceIte, pm_WL_nil, bi_900, bi_901, bi_904, bi_905, pm_lget_0, pm_lget_s, pm_oI_s, pm_oA_s, pm_oJ_s, pm_oK_s, pm_oR_s, pm_oO_s, pm_oN_s, pm_oF_s, pm_oM_s, pm_oP_s, pm_pu_n, pm_pu_s, pm_bo_ne, pm_bo_eq, Nat.reduceAdd, Nat.reduceSub, Nat.reduceLT, Nat.reduceLeDiff, Nat.reduceEqDiff, Nat.zero_add, Nat.lt_add_one, Nat.zero_ne_one, Nat.succ_ne_self, List.length_cons, List.length_nil, true_and, and_true, true_or, or_true, false_or, or_false, false_implies, true_implies, implies_true, not_true_eq_false, not_false_eq_true, ne_eq, eq_self, e_M_weightsOf, pm_okW_0, pm_okW_i, pm_okW_r, pm_okW_l, pm_ent_0, pm_ent_i, pm_ent_r, pm_ent_l, List.reduceReplicate, b_M_weightsOf_0, b_M_weightsOf_15, b_M_weightsOf_39, w_iconst, ki_0, w_istore2, pm_lset_0, pm_lset_1, pm_lset_n, pm_no2_n, pm_no2_i, pm_no2_r, pm_no2_l, w_istore3, f_iloadn3, f_aloadn0, gf_162_9_85, w_bipush, kb_22, w_icmp_ge, pm_tgt_is, Int.cast_ofNat_Int, Int.reduceNeg, Int.reduceAdd, Int.reduceToNat, Int.zero_add, Int.zero_le_ofNat, Int.reduceLE, if_true, if_false, f_iloadn2, f_iloadn1, w_ishr, ki_1, w_iand, kb_42, w_iadd, w_imul, f_iinc3, w_goto, w_iret, lg_162, pm_fit_b, pm_fit_0, pm_fit_1, Bool.false_eq_true]
  exact key (nN (h 86) 22) 0 (by omega)
theorem i_part (w : Int32) : (0 ≤ w ∧ w ≤ 1) = (w = 0 ∨ w = 1) := by
  refine propext ⟨fun q => ?_, fun q => by rcases q with rfl | rfl <;> decide⟩
  obtain ⟨i, hi, rfl⟩ := i_rng (n := 2) (by omega) ⟨q.1, by
    have := Int32.le_iff_toInt_le.mp q.2
    rw [Int32.lt_iff_toInt_lt]; exact Int.lt_of_le_of_lt this (by decide)⟩
  rcases (by omega : i = 0 ∨ i = 1) with rfl | rfl
  · exact Or.inl rfl
  · exact Or.inr rfl
theorem pc_pos : ∀ m, m < 64 → ¬ m = 0 → 0 < pc m 6 := by decide +kernel
theorem q_mean {scr : List Int32} {d : Nat} {h : Nat → List Int32} (hi : INV scr h) (w : Int32) : BOTH scr (d + 40) 67 165 [.int w] h := by
  have hi0 := hi
  obtain ⟨hL, ⟨ro0, ro1, ro2, ro3⟩, hw, hc, hk, ha⟩ := hi
  have hc0 := hc
  obtain ⟨⟨c0, c5, c6, c7, c8, c9, c10, c11, c12, c13, cb⟩, d0, d15, d16, d17, d18, d19, d20, d21, d22, d24, d25, d26, dis⟩ := hc
  simp only [Nat.reduceAdd] at c0 c5 c6 c7 c8 c9 c10 c11 c12 c13 cb d0 d15 d16 d17 d18 d19 d20 d21 d22 d24 d25 d26
  have hl := wf_len hw
  obtain ⟨hn, hn6⟩ := wf_n hw
  have ha5 := (wf_a hw).2
  unfold BOTH
  have hr6 := here_lt hw
  have e1 := fun K => @c_Shore_thoseIn_6 (d + 37) _ 9999 h (h 86) _ K hc0.1 hw (by omega)
  have e2 : ∀ K, pm_WC fqP (d + 39) 126 [.ref 85] (mk h) K = K (some (.int (nI (here (h 86))))) (mk h) := fun K => by
    have := @c_M_hereOnes (d + 37) 9999 h (h 86) (h 89) (h 90) K hw (by omega)
    rw [rs_id] at this; exact this
  have g1 := i_part w
  by_cases v : w = 0 ∨ w = 1
  case neg =>
    have v1 := eq_false v
    simp (maxDischargeDepth := 20) (maxSteps := 2000000) only [↓reduceIte, pm_WL_nil, bi_900, bi_901, bi_904, bi_905, pm_lget_0, pm_lget_s, pm_oI_s, pm_oA_s, pm_oJ_s, pm_oK_s, pm_oR_s, pm_oO_s, pm_oN_s, pm_oF_s, pm_oM_s, pm_oP_s, pm_pu_n, pm_pu_s, pm_bo_ne, pm_bo_eq, Nat.reduceAdd, Nat.reduceSub, Nat.reduceLT, Nat.reduceLeDiff, Nat.reduceEqDiff, Nat.zero_add, Nat.lt_add_one, Nat.zero_ne_one, Nat.succ_ne_self, List.length_cons, List.length_nil, true_and, and_true, true_or, or_true, false_or, or_false, false_implies, true_implies, implies_true, not_true_eq_false, not_false_eq_true, ne_eq, eq_self, e_X_mean, pm_okW_0, pm_okW_i, pm_okW_r, pm_okW_l, pm_ent_0, pm_ent_i, pm_ent_r, pm_ent_l, List.reduceReplicate, b_X_mean_0, b_X_mean_18, b_X_mean_22, b_X_mean_26, f_aloadn0, gf_67_12_4, gf_67_70_5, gf_67_70_33, iv_67_133_6, iv_67_133_34, iv_67_133_61, kk_n, kk_s, w_istore2, pm_lset_0, pm_lset_1, pm_lset_n, pm_no2_n, pm_no2_i, pm_no2_r, pm_no2_l, f_iloadn1, iv_67_218, w_if_eq, pm_tgt_is, Int.cast_ofNat_Int, Int.reduceNeg, Int.reduceAdd, Int.reduceToNat, Int.zero_add, Int.zero_le_ofNat, Int.reduceLE, nz_1, nz_m1, if_true, if_false, f_iloadn2, w_if_ne, w_ldc2, lg_67, lk_7_221, w_lret, gf_67_93_6, gf_67_93_34, gf_67_93_61, iv_67_236_11, iv_67_236_39, iv_67_236_66, w_i2l, iv_67_195, iv_67_223, hs_4, hs_5, hs_6, up_at, up_ne, up_up, gd_0, gd_s, e1, c_X_isPart, v1]
    simp (maxDischargeDepth := 20) (maxSteps := 2000000) only [↓reduceIte, pm_WL_nil, bi_900, bi_901, bi_904, bi_905, pm_lget_0, pm_lget_s, pm_oI_s, pm_oA_s, pm_oJ_s, pm_oK_s, pm_oR_s, pm_oO_s, pm_oN_s, pm_oF_s, pm_oM_s, pm_oP_s, pm_pu_n, pm_pu_s, pm_bo_ne, pm_bo_eq, Nat.reduceAdd, Nat.reduceSub, Nat.reduceLT, Nat.reduceLeDiff, Nat.reduceEqDiff, Nat.zero_add, Nat.lt_add_one, Nat.zero_ne_one, Nat.succ_ne_self, List.length_cons, List.length_nil, true_and, and_true, true_or, or_true, false_or, or_false, false_implies, true_implies, implies_true, not_true_eq_false, not_false_eq_true, ne_eq, eq_self, e_M_mean, pm_okW_0, pm_okW_i, pm_okW_r, pm_okW_l, pm_ent_0, pm_ent_i, pm_ent_r, pm_ent_l, List.reduceReplicate, b_M_mean_0, b_M_mean_14, b_M_mean_18, b_M_mean_24, b_M_mean_39, f_aloadn0, iv_165_154_85, kk_n, kk_s, w_istore2, pm_lset_0, pm_lset_1, pm_lset_n, pm_no2_n, pm_no2_i, pm_no2_r, pm_no2_l, f_iloadn1, w_iconst, ki_0, ki_1, iv_165_41, w_if_eq, pm_tgt_is, Int.cast_ofNat_Int, Int.reduceNeg, Int.reduceAdd, Int.reduceToNat, Int.zero_add, Int.zero_le_ofNat, Int.reduceLE, nz_1, nz_m1, if_true, if_false, f_iloadn2, w_if_ne, w_ldc2, lg_165, lk_8_209, w_goto, iv_165_211_85, w_i2l, iv_165_157, iv_165_218, w_lret, e2, c_M_in, g1, v1]
    exact po_i hi0
  have v1 := eq_true v
  by_cases q : here (h 86) = 0
  · have q1 : (nI (here (h 86)) = 0) = True := by rw [il_eq 0 _ (by omega) (by omega)]; exact eq_true q
    simp (maxDischargeDepth := 20) (maxSteps := 2000000) only [↓reduceIte, pm_WL_nil, bi_900, bi_901, bi_904, bi_905, pm_lget_0, pm_lget_s, pm_oI_s, pm_oA_s, pm_oJ_s, pm_oK_s, pm_oR_s, pm_oO_s, pm_oN_s, pm_oF_s, pm_oM_s, pm_oP_s, pm_pu_n, pm_pu_s, pm_bo_ne, pm_bo_eq, Nat.reduceAdd, Nat.reduceSub, Nat.reduceLT, Nat.reduceLeDiff, Nat.reduceEqDiff, Nat.zero_add, Nat.lt_add_one, Nat.zero_ne_one, Nat.succ_ne_self, List.length_cons, List.length_nil, true_and, and_true, true_or, or_true, false_or, or_false, false_implies, true_implies, implies_true, not_true_eq_false, not_false_eq_true, ne_eq, eq_self, e_X_mean, pm_okW_0, pm_okW_i, pm_okW_r, pm_okW_l, pm_ent_0, pm_ent_i, pm_ent_r, pm_ent_l, List.reduceReplicate, b_X_mean_0, b_X_mean_18, b_X_mean_22, b_X_mean_26, f_aloadn0, gf_67_12_4, gf_67_70_5, gf_67_70_33, iv_67_133_6, iv_67_133_34, iv_67_133_61, kk_n, kk_s, w_istore2, pm_lset_0, pm_lset_1, pm_lset_n, pm_no2_n, pm_no2_i, pm_no2_r, pm_no2_l, f_iloadn1, iv_67_218, w_if_eq, pm_tgt_is, Int.cast_ofNat_Int, Int.reduceNeg, Int.reduceAdd, Int.reduceToNat, Int.zero_add, Int.zero_le_ofNat, Int.reduceLE, nz_1, nz_m1, if_true, if_false, f_iloadn2, w_if_ne, w_ldc2, lg_67, lk_7_221, w_lret, gf_67_93_6, gf_67_93_34, gf_67_93_61, iv_67_236_11, iv_67_236_39, iv_67_236_66, w_i2l, iv_67_195, iv_67_223, hs_4, hs_5, hs_6, up_at, up_ne, up_up, gd_0, gd_s, e1, c_X_isPart, v1, q1]
    simp (maxDischargeDepth := 20) (maxSteps := 2000000) only [↓reduceIte, pm_WL_nil, bi_900, bi_901, bi_904, bi_905, pm_lget_0, pm_lget_s, pm_oI_s, pm_oA_s, pm_oJ_s, pm_oK_s, pm_oR_s, pm_oO_s, pm_oN_s, pm_oF_s, pm_oM_s, pm_oP_s, pm_pu_n, pm_pu_s, pm_bo_ne, pm_bo_eq, Nat.reduceAdd, Nat.reduceSub, Nat.reduceLT, Nat.reduceLeDiff, Nat.reduceEqDiff, Nat.zero_add, Nat.lt_add_one, Nat.zero_ne_one, Nat.succ_ne_self, List.length_cons, List.length_nil, true_and, and_true, true_or, or_true, false_or, or_false, false_implies, true_implies, implies_true, not_true_eq_false, not_false_eq_true, ne_eq, eq_self, e_M_mean, pm_okW_0, pm_okW_i, pm_okW_r, pm_okW_l, pm_ent_0, pm_ent_i, pm_ent_r, pm_ent_l, List.reduceReplicate, b_M_mean_0, b_M_mean_14, b_M_mean_18, b_M_mean_24, b_M_mean_39, f_aloadn0, iv_165_154_85, kk_n, kk_s, w_istore2, pm_lset_0, pm_lset_1, pm_lset_n, pm_no2_n, pm_no2_i, pm_no2_r, pm_no2_l, f_iloadn1, w_iconst, ki_0, ki_1, iv_165_41, w_if_eq, pm_tgt_is, Int.cast_ofNat_Int, Int.reduceNeg, Int.reduceAdd, Int.reduceToNat, Int.zero_add, Int.zero_le_ofNat, Int.reduceLE, nz_1, nz_m1, if_true, if_false, f_iloadn2, w_if_ne, w_ldc2, lg_165, lk_8_209, w_goto, iv_165_211_85, w_i2l, iv_165_157, iv_165_218, w_lret, e2, c_M_in, g1, v1, q1]
    exact po_i hi0
  have q1 : (nI (here (h 86)) = 0) = False := by rw [il_eq 0 _ (by omega) (by omega)]; exact eq_false q
  have e3 := fun K => @c_Things_weightOf (d + 37) 9999 0 (here (h 86)) h (h 86) K hw (by rw [c5]; exact hn) c8 hr6
  have e4 := fun K => @c_M_weightsOf (d + 37) 9999 (here (h 86)) h K hw hr6
  have wl := wt_le hw (here (h 86)) _ hn6
  have pl := pc_le (here (h 86)) 6
  have pp := pc_pos _ hr6 q
  have e5 : ∀ (σ : pm_S) (K : Option Value → pm_S → Prop), pm_WC fqP (d + 39) 185 [.int (nI (here (h 86)))] σ K = K (some (.int (nI (pc (here (h 86)) 6)))) σ := fun σ K => by rw [c_Integer_bitCount (by omega), pc_6 _ hr6]
  have e6 : ∀ (σ : pm_S) (K : Option Value → pm_S → Prop), pm_WC fqP (d + 39) 127 [.int (nI (here (h 86)))] σ K = K (some (.int (nI (pc (here (h 86)) 6)))) σ := fun σ K => c_M_countOf hr6
  have e7 : (nI (wtF (h 86) (here (h 86)) (nN (h 86) 22))).toInt64 = nL (wtF (h 86) (here (h 86)) (nN (h 86) 22)) := i2l_n (by omega)
  have e8 : (nI (pc (here (h 86)) 6)).toInt64 = nL (pc (here (h 86)) 6) := i2l_n (by omega)
  have e9 : ∀ (σ : pm_S) (K : Option Value → pm_S → Prop), pm_WC fqP (d + 39) 99 [.long (nL (wtF (h 86) (here (h 86)) (nN (h 86) 22))), .long (nL (pc (here (h 86)) 6)), .int w] σ K = _ := fun σ K => c_X_fraction (by omega) pp (by omega)
  have e10 : ∀ (σ : pm_S) (K : Option Value → pm_S → Prop), pm_WC fqP (d + 39) 160 [.long (nL (wtF (h 86) (here (h 86)) (nN (h 86) 22))), .long (nL (pc (here (h 86)) 6)), .int w] σ K = _ := fun σ K => c_M_lowest (by omega) pp (by omega)
  simp (maxDischargeDepth := 20) (maxSteps := 2000000) only [↓reduceIte, pm_WL_nil, bi_900, bi_901, bi_904, bi_905, pm_lget_0, pm_lget_s, pm_oI_s, pm_oA_s, pm_oJ_s, pm_oK_s, pm_oR_s, pm_oO_s, pm_oN_s, pm_oF_s, pm_oM_s, pm_oP_s, pm_pu_n, pm_pu_s, pm_bo_ne, pm_bo_eq, Nat.reduceAdd, Nat.reduceSub, Nat.reduceLT, Nat.reduceLeDiff, Nat.reduceEqDiff, Nat.zero_add, Nat.lt_add_one, Nat.zero_ne_one, Nat.succ_ne_self, List.length_cons, List.length_nil, true_and, and_true, true_or, or_true, false_or, or_false, false_implies, true_implies, implies_true, not_true_eq_false, not_false_eq_true, ne_eq, eq_self, e_X_mean, pm_okW_0, pm_okW_i, pm_okW_r, pm_okW_l, pm_ent_0, pm_ent_i, pm_ent_r, pm_ent_l, List.reduceReplicate, b_X_mean_0, b_X_mean_18, b_X_mean_22, b_X_mean_26, f_aloadn0, gf_67_12_4, gf_67_70_5, gf_67_70_33, iv_67_133_6, iv_67_133_34, iv_67_133_61, kk_n, kk_s, w_istore2, pm_lset_0, pm_lset_1, pm_lset_n, pm_no2_n, pm_no2_i, pm_no2_r, pm_no2_l, f_iloadn1, iv_67_218, w_if_eq, pm_tgt_is, Int.cast_ofNat_Int, Int.reduceNeg, Int.reduceAdd, Int.reduceToNat, Int.zero_add, Int.zero_le_ofNat, Int.reduceLE, nz_1, nz_m1, if_true, if_false, f_iloadn2, w_if_ne, w_ldc2, lg_67, lk_7_221, w_lret, gf_67_93_6, gf_67_93_34, gf_67_93_61, iv_67_236_11, iv_67_236_39, iv_67_236_66, w_i2l, iv_67_195, iv_67_223, hs_4, hs_5, hs_6, up_at, up_ne, up_up, gd_0, gd_s, e1, c_X_isPart, v1, q1, e3, e5, e7, e8, e9]
  simp (maxDischargeDepth := 20) (maxSteps := 2000000) only [↓reduceIte, pm_WL_nil, bi_900, bi_901, bi_904, bi_905, pm_lget_0, pm_lget_s, pm_oI_s, pm_oA_s, pm_oJ_s, pm_oK_s, pm_oR_s, pm_oO_s, pm_oN_s, pm_oF_s, pm_oM_s, pm_oP_s, pm_pu_n, pm_pu_s, pm_bo_ne, pm_bo_eq, Nat.reduceAdd, Nat.reduceSub, Nat.reduceLT, Nat.reduceLeDiff, Nat.reduceEqDiff, Nat.zero_add, Nat.lt_add_one, Nat.zero_ne_one, Nat.succ_ne_self, List.length_cons, List.length_nil, true_and, and_true, true_or, or_true, false_or, or_false, false_implies, true_implies, implies_true, not_true_eq_false, not_false_eq_true, ne_eq, eq_self, e_M_mean, pm_okW_0, pm_okW_i, pm_okW_r, pm_okW_l, pm_ent_0, pm_ent_i, pm_ent_r, pm_ent_l, List.reduceReplicate, b_M_mean_0, b_M_mean_14, b_M_mean_18, b_M_mean_24, b_M_mean_39, f_aloadn0, iv_165_154_85, kk_n, kk_s, w_istore2, pm_lset_0, pm_lset_1, pm_lset_n, pm_no2_n, pm_no2_i, pm_no2_r, pm_no2_l, f_iloadn1, w_iconst, ki_0, ki_1, iv_165_41, w_if_eq, pm_tgt_is, Int.cast_ofNat_Int, Int.reduceNeg, Int.reduceAdd, Int.reduceToNat, Int.zero_add, Int.zero_le_ofNat, Int.reduceLE, nz_1, nz_m1, if_true, if_false, f_iloadn2, w_if_ne, w_ldc2, lg_165, lk_8_209, w_goto, iv_165_211_85, w_i2l, iv_165_157, iv_165_218, w_lret, e2, c_M_in, g1, v1, q1, e4, e6, e7, e8, e10]
  exact po_i hi0
