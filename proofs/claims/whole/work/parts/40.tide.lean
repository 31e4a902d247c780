/-! A TIDE of the class -/
def goN (s ag : List Int32) (n : Nat) : Nat → List Int32
  | 0 => s
  | k + 1 => goBy (goN s ag n k) ag n
theorem goN_ok {T n : Nat} {s ag : List Int32} (h : WF T s) (ha : AG ag n) : ∀ k, T + k < 2 ^ 30 → WF (T + k) (goN s ag n k) ∧ SM 6 s (goN s ag n k) ∧ nN (goN s ag n k) 0 = nN s 0 + k
  | 0, _ => ⟨h, sm_rf _ _, rfl⟩
  | k + 1, hk => by
    obtain ⟨i1, i2, i3⟩ := goN_ok h ha k (by omega)
    obtain ⟨j1, j2, j3⟩ := goBy_ok i1 ha (by omega)
    exact ⟨j1, sm_tr i2 j2, by rw [goN, j3, i3]; omega⟩
theorem c_Shore_isVotedFor_6 {d n T m hr : Nat} {h : Nat → List Int32} {s ag : List Int32} (hc : CS 6 s ag n h) (hw : WF T s) (hT : T < 2 ^ 30) (hm : m < 5) (hh : hr < 64) : pm_WC fqP (d + 5) 33 [.ref 6, .int (nI m), .int (nI hr)] (mk h) (fun r σ => r = some (.int (nI (voteF s hr m))) ∧ ∃ f, f.length = 6 ∧ σ = mk (up h 19 f)) := by
  have hc0 := hc
  obtain ⟨c0, c5, c6, c7, c8, c9, c10, c11, c12, c13, cb⟩ := hc
  simp only [Nat.reduceAdd] at c0 c5 c8 c13
  obtain ⟨hn, hn6⟩ := wf_n hw
  have hl := wf_len hw
  have key : ∀ (j k : Nat) (x5 x6 : Option Value) (f : List Int32), f.length = 6 → j + k = nN s 22 → pm_W fqP (d + 4) 33 5 [some (.ref 6), some (.int (nI m)), some (.int (nI hr)), some (.int (balF s hr m k)), some (.int (nI k)), x5, x6] [] (mk (up h 19 f)) (fun r σ => r = some (.int (nI (voteF s hr m))) ∧ ∃ f, f.length = 6 ∧ σ = mk (up h 19 f)) := by
    intro j
    induction j with
    | zero =>
      intro k x5 x6 f hf hk
      have e1 : (nI (nN s 22) ≤ nI k) = True := by rw [ni_le (by omega) (by omega)]; exact eq_true (by omega)
      rw [b_Shore_isVotedFor_5]
      simp (maxDischargeDepth := 20) (maxSteps := 2000000) only [pm_WL_nil, bi_900, bi_901, bi_904, bi_905, pm_lget_0, pm_lget_s, pm_oI_s, pm_oA_s, pm_oJ_s, pm_oK_s, pm_oR_s, pm_oO_s, pm_oN_s, pm_oF_s, pm_oM_s, pm_oP_s, pm_pu_n, pm_pu_s, pm_bo_ne, pm_bo_eq, Nat.reduceAdd, Nat.reduceSub, Nat.reduceLT, Nat.reduceLeDiff, Nat.reduceEqDiff, Nat.zero_add, Nat.lt_add_one, Nat.zero_ne_one, Nat.succ_ne_self, List.length_cons, List.length_nil, true_and, and_true, true_or, or_true, false_or, or_false, false_implies, true_implies, implies_true, not_true_eq_false, not_false_eq_true, ne_eq, eq_self, e_Shore_isVotedFor, pm_okW_0, pm_okW_i, pm_okW_r, pm_okW_l, pm_ent_0, pm_ent_i, pm_ent_r, pm_ent_l, List.reduceReplicate, b_Shore_isVotedFor_0, b_Shore_isVotedFor_17, b_Shore_isVotedFor_26, b_Shore_isVotedFor_30, b_Shore_isVotedFor_37, b_Shore_isVotedFor_44, b_Shore_isVotedFor_48, b_Shore_isVotedFor_53, b_Shore_isVotedFor_57, b_Shore_isVotedFor_58, b_Shore_isVotedFor_84, b_Shore_isVotedFor_88, b_Shore_isVotedFor_92, b_Shore_isVotedFor_93, w_iconst, ki_0, w_istore3, pm_lset_0, pm_lset_1, pm_lset_n, pm_no2_n, pm_no2_i, pm_no2_r, pm_no2_l, w_istore, w_iload, w_aload0, w_getf, lg_33, lf_5_21, List.getElem?_cons_succ, List.getElem?_cons_zero, lf_5_53, w_icmp_ge, pm_tgt_is, Int.cast_ofNat_Int, Int.reduceNeg, Int.reduceAdd, Int.reduceToNat, Int.zero_add, Int.zero_le_ofNat, Int.reduceLE, if_true, if_false, w_iload2, w_invs, lm_5_49, pm_pop_0, pm_pop_s, pm_rcv_is, pm_ref1_is, w_if_ne, nz_1, nz_m1, w_goto, w_iload1, w_invv, lm_5_86, w_if_le, ki_1, w_if_ge, ki_m1, w_iload3, lf_5_89, lm_5_39, w_imul, w_iadd, w_iinc, w_iret, pm_fit_b, pm_fit_0, pm_fit_1, Bool.false_eq_true, hg_6, hs_6, hg_11, hs_11, up_at, up_ne, up_up, gd_0, gd_s, c0, c5, hn, e1]
      unfold voteF
      rw [show nN s 22 = k by omega]
      by_cases q : 0 < balF s hr m k
      · rw [if_neg (Int32.not_le.mpr q), if_pos q]; exact ⟨rfl, f, hf, rfl⟩
      · rw [if_pos (Int32.not_lt.mp q), if_neg q]; exact ⟨rfl, f, hf, rfl⟩
    | succ j ih =>
      intro k x5 x6 f hf hk
      have e1 : (nI (nN s 22) ≤ nI k) = False := by rw [ni_le (by omega) (by omega)]; exact eq_false (by omega)
      have e2 : bt (nI hr) (nI k) = nI (tb hr k) := bt_n _ (by omega) _ (by omega)
      have e3 : cl (h 14) (nI k) = gd s (42 + k) := by rw [c8, cl_n (by rw [sl_len (by omega)]; omega) (by rw [sl_len (by omega)]; omega), gd_sl (by omega)]
      have e4 : ∀ K, pm_WC fqP (d + 4) 34 [.ref 6, .int (nI k), .int (nI m)] (mk (up h 19 f)) K = K (some (.int (likeF s k m))) (mk (up h 19 (fl s k m))) := fun K => by
        have := @c_Shore_likes_6 d n T k m (up h 19 f) s ag K (cs_f hc0 hf) hw hT (by omega) hm
        rw [up_up] at this; exact this
      have := fun x5 x6 f hf => ih (k + 1) x5 x6 f hf (by omega)
      rw [balF] at this
      rw [b_Shore_isVotedFor_5]
      simp (maxDischargeDepth := 20) (maxSteps := 2000000) only [pm_WL_nil, bi_900, bi_901, bi_904, bi_905, pm_lget_0, pm_lget_s, pm_oI_s, pm_oA_s, pm_oJ_s, pm_oK_s, pm_oR_s, pm_oO_s, pm_oN_s, pm_oF_s, pm_oM_s, pm_oP_s, pm_pu_n, pm_pu_s, pm_bo_ne, pm_bo_eq, Nat.reduceAdd, Nat.reduceSub, Nat.reduceLT, Nat.reduceLeDiff, Nat.reduceEqDiff, Nat.zero_add, Nat.lt_add_one, Nat.zero_ne_one, Nat.succ_ne_self, List.length_cons, List.length_nil, true_and, and_true, true_or, or_true, false_or, or_false, false_implies, true_implies, implies_true, not_true_eq_false, not_false_eq_true, ne_eq, eq_self, e_Shore_isVotedFor, pm_okW_0, pm_okW_i, pm_okW_r, pm_okW_l, pm_ent_0, pm_ent_i, pm_ent_r, pm_ent_l, List.reduceReplicate, b_Shore_isVotedFor_0, b_Shore_isVotedFor_17, b_Shore_isVotedFor_26, b_Shore_isVotedFor_30, b_Shore_isVotedFor_37, b_Shore_isVotedFor_44, b_Shore_isVotedFor_48, b_Shore_isVotedFor_53, b_Shore_isVotedFor_57, b_Shore_isVotedFor_58, b_Shore_isVotedFor_84, b_Shore_isVotedFor_88, b_Shore_isVotedFor_92, b_Shore_isVotedFor_93, w_iconst, ki_0, w_istore3, pm_lset_0, pm_lset_1, pm_lset_n, pm_no2_n, pm_no2_i, pm_no2_r, pm_no2_l, w_istore, w_iload, w_aload0, w_getf, lg_33, lf_5_21, List.getElem?_cons_succ, List.getElem?_cons_zero, lf_5_53, w_icmp_ge, pm_tgt_is, Int.cast_ofNat_Int, Int.reduceNeg, Int.reduceAdd, Int.reduceToNat, Int.zero_add, Int.zero_le_ofNat, Int.reduceLE, if_true, if_false, w_iload2, w_invs, lm_5_49, pm_pop_0, pm_pop_s, pm_rcv_is, pm_ref1_is, w_if_ne, nz_1, nz_m1, w_goto, w_iload1, w_invv, lm_5_86, w_if_le, ki_1, w_if_ge, ki_m1, w_iload3, lf_5_89, lm_5_39, w_imul, w_iadd, w_iinc, w_iret, pm_fit_b, pm_fit_0, pm_fit_1, Bool.false_eq_true, hg_6, hs_6, hg_11, hs_11, hg_14, hs_14, ia_14, iw_14, ar_14, up_at, up_ne, up_up, gd_0, gd_s, c0, c5, hn, e1, e2, e3, e4, c_X_bit, c_X_cell, ni_1, Int32.zero_mul, Int32.one_mul, Int32.neg_mul]
      rcases (by have := tb_lt hr k; omega : tb hr k = 0 ∨ tb hr k = 1) with z | z
      · simp only [z, show ¬ (nI 0 = (0 : Int32)) ↔ False by decide, if_false, if_true, show ¬ ((0 : Nat) = 1) by decide, Int32.lt_irrefl, Int32.le_refl] at this ⊢
        exact this _ _ f hf
      · simp only [z, show ¬ (nI 1 = (0 : Int32)) ↔ True by decide, if_false, if_true, if_pos] at this ⊢
        by_cases q : 0 < likeF s k m
        · simp only [q, Int32.not_le.mpr q, if_true, if_false] at this ⊢
          exact this _ _ _ rfl
        · by_cases r : likeF s k m < 0
          · simp only [q, r, Int32.not_lt.mp q, Int32.not_le.mpr r, if_true, if_false] at this ⊢
            exact this _ _ _ rfl
          · simp only [q, r, Int32.not_lt.mp q, Int32.not_lt.mp r, if_true, if_false] at this ⊢
            exact this _ _ _ rfl
  simp (maxDischargeDepth := 20) (maxSteps := 2000000) only [pm_WL_nil, bi_900, bi_901, bi_904, bi_905, pm_lget_0, pm_lget_s, pm_oI_s, pm_oA_s, pm_oJ_s, pm_oK_s, pm_oR_s, pm_oO_s, pm_oN_s, pm_oF_s, pm_oM_s, pm_oP_s, pm_pu_n, pm_pu_s, pm_bo_ne, pm_bo_eq, Nat.reduceAdd, Nat.reduceSub, Nat.reduceLT, Nat.reduceLeDiff, Nat.reduceEqDiff, Nat.zero_add, Nat.lt_add_one, Nat.zero_ne_one, Nat.succ_ne_self, List.length_cons, List.length_nil, true_and, and_true, true_or, or_true, false_or, or_false, false_implies, true_implies, implies_true, not_true_eq_false, not_false_eq_true, ne_eq, eq_self, e_Shore_isVotedFor, pm_okW_0, pm_okW_i, pm_okW_r, pm_okW_l, pm_ent_0, pm_ent_i, pm_ent_r, pm_ent_l, List.reduceReplicate, b_Shore_isVotedFor_0, b_Shore_isVotedFor_17, b_Shore_isVotedFor_26, b_Shore_isVotedFor_30, b_Shore_isVotedFor_37, b_Shore_isVotedFor_44, b_Shore_isVotedFor_48, b_Shore_isVotedFor_53, b_Shore_isVotedFor_57, b_Shore_isVotedFor_58, b_Shore_isVotedFor_84, b_Shore_isVotedFor_88, b_Shore_isVotedFor_92, b_Shore_isVotedFor_93, w_iconst, ki_0, w_istore3, pm_lset_0, pm_lset_1, pm_lset_n, pm_no2_n, pm_no2_i, pm_no2_r, pm_no2_l, w_istore, w_iload, w_aload0, w_getf, lg_33, lf_5_21, List.getElem?_cons_succ, List.getElem?_cons_zero, lf_5_53, w_icmp_ge, pm_tgt_is, Int.cast_ofNat_Int, Int.reduceNeg, Int.reduceAdd, Int.reduceToNat, Int.zero_add, Int.zero_le_ofNat, Int.reduceLE, if_true, if_false, w_iload2, w_invs, lm_5_49, pm_pop_0, pm_pop_s, pm_rcv_is, pm_ref1_is, w_if_ne, nz_1, nz_m1, w_goto, w_iload1, w_invv, lm_5_86, w_if_le, ki_1, w_if_ge, ki_m1, w_iload3, lf_5_89, lm_5_39, w_imul, w_iadd, w_iinc, w_iret, pm_fit_b, pm_fit_0, pm_fit_1, Bool.false_eq_true, hg_6, hs_6]
  have := key (nN s 22) 0 none none (h 19) c13 (by omega)
  rw [up_id] at this
  exact this
theorem c_Shore_goTide_6 {d n T : Nat} {h : Nat → List Int32} {s ag : List Int32} (hc : CS 6 s ag n h) (ha : AG ag n) (hw : WF T s) (hT : T < 2 ^ 30) : pm_WC fqP (d + 6) 32 [.ref 6] (mk h) (fun r σ => r = none ∧ ∃ h1, σ = mk h1 ∧ CS 6 (goBy s ag n) ag n h1 ∧ ∀ k, ¬ k = 6 → ¬ k = 19 → h1 k = h k) := by
  have hc0 := hc
  obtain ⟨c0, c5, c6, c7, c8, c9, c10, c11, c12, c13, ⟨b0, b1, b2, b3, bq, b5⟩⟩ := hc
  simp only [Nat.reduceAdd] at c0 c12 c13 bq
  obtain ⟨a1, a2, a3⟩ := ha
  have hl := wf_len hw
  have hr6 := here_lt hw
  have e1 := fun K => @c_Shore_thoseIn_6 (d + 3) n T h s ag K hc0 hw hT
  have e2 : ∀ (σ : pm_S) (K : Option Value → pm_S → Prop), pm_WC fqP (d + 5) 185 [.int (nI (here s))] σ K = K (some (.int (nI (pc (here s) 6)))) σ := fun σ K => by rw [c_Integer_bitCount (by omega), pc_6 _ hr6]
  have fin2 : ∀ (x2 : Option Value) (s1 : List Int32) (h1 : Nat → List Int32), WF T s1 → CS 6 s1 ag n h1 → gd s1 0 = gd s 0 → (∀ k, ¬ k = 6 → ¬ k = 19 → h1 k = h k) → pm_W fqP (d + 5) 32 72 [some (.ref 6), some (.int (nI (here s))), x2] [] (mk h1) (fun r σ => r = none ∧ ∃ h1, σ = mk h1 ∧ CS 6 (s1.set 0 (gd s 0 + 1)) ag n h1 ∧ ∀ k, ¬ k = 6 → ¬ k = 19 → h1 k = h k) := by
    intro x2 s1 h1 w1 hc1 hg hfr
    have hc1' := hc1
    obtain ⟨d0, d5, d6, d7, d8, d9, d10, d11, d12, d13, db⟩ := hc1
    simp only [Nat.reduceAdd] at d0 d13
    simp (maxDischargeDepth := 20) (maxSteps := 2000000) only [pm_WL_nil, bi_900, bi_901, bi_904, bi_905, pm_lget_0, pm_lget_s, pm_oI_s, pm_oA_s, pm_oJ_s, pm_oK_s, pm_oR_s, pm_oO_s, pm_oN_s, pm_oF_s, pm_oM_s, pm_oP_s, pm_pu_n, pm_pu_s, pm_bo_ne, pm_bo_eq, Nat.reduceAdd, Nat.reduceSub, Nat.reduceLT, Nat.reduceLeDiff, Nat.reduceEqDiff, Nat.zero_add, Nat.lt_add_one, Nat.zero_ne_one, Nat.succ_ne_self, List.length_cons, List.length_nil, true_and, and_true, true_or, or_true, false_or, or_false, false_implies, true_implies, implies_true, not_true_eq_false, not_false_eq_true, ne_eq, eq_self, e_Shore_goTide, pm_okW_0, pm_okW_i, pm_okW_r, pm_okW_l, pm_ent_0, pm_ent_i, pm_ent_r, pm_ent_l, List.reduceReplicate, b_Shore_goTide_0, b_Shore_goTide_19, b_Shore_goTide_29, b_Shore_goTide_38, b_Shore_goTide_72, w_aload0, w_invv, lg_32, lm_5_69, pm_pop_0, pm_pop_s, pm_rcv_is, pm_ref1_is, w_istore1, pm_lset_0, pm_lset_1, pm_lset_n, pm_no2_n, pm_no2_i, pm_no2_r, pm_no2_l, w_iload1, w_invs, lm_5_73, w_getf, lf_5_12, List.getElem?_cons_succ, List.getElem?_cons_zero, lf_5_79, w_icmp_lt, pm_tgt_is, Int.cast_ofNat_Int, Int.reduceNeg, Int.reduceAdd, Int.reduceToNat, Int.zero_add, Int.zero_le_ofNat, Int.reduceLE, if_true, if_false, w_iconst, ki_0, w_istore2, w_iload2, lf_5_35, w_icmp_ge, lf_5_29, w_alen, lf_5_46, w_iaload, lm_5_82, lm_5_62, w_putf, lt_5_5, pm_fit_i, pm_fit_r, pm_fit_b, pm_fit_0, pm_fit_1, List.set_cons_succ, List.set_cons_zero, Bool.false_eq_true, w_iinc, ki_1, w_goto, w_dupi, w_dupa, lf_5_43, w_iadd, lt_5_6, w_ret, hg_6, hs_6, up_at, up_ne, up_up, gd_0, gd_s, d0, hg]
    have hl1 := wf_len w1
    refine ⟨_, rfl, cs_sm hc1' (sm_set (by omega) (by omega)) hl1 ?_ ?_ ?_, ?_⟩
    · rw [up_at]
      have e : cN (s1.set 0 (gd s 0 + 1)) = cN s1 := msk_cg 5 fun k hk => by unfold nN; rw [gd_set _ (by omega), if_neg (by omega)]
      rw [e, gd_set _ (by omega), if_pos rfl]
    · rw [up_ne (by decide)]; exact d13
    · intro k k1 k2; rw [up_ne (by omega)]
    · intro k k1 k2; rw [up_ne k1]; exact hfr k k1 k2
  have key : ∀ (j k : Nat) (h1 : Nat → List Int32), j + k = n → CS 6 (vts s (here s) ag k) ag n h1 → (∀ k, ¬ k = 6 → ¬ k = 19 → h1 k = h k) → pm_W fqP (d + 5) 32 21 [some (.ref 6), some (.int (nI (here s))), some (.int (nI k))] [] (mk h1) (fun r σ => r = none ∧ ∃ h1, σ = mk h1 ∧ CS 6 ((vts s (here s) ag n).set 0 (gd s 0 + 1)) ag n h1 ∧ ∀ k, ¬ k = 6 → ¬ k = 19 → h1 k = h k) := by
    intro j
    induction j with
    | zero =>
      intro k h1 hk hc1 hfr
      obtain ⟨w1, m1, g1⟩ := vts_ok (hr := here s) hw ⟨a1, a2, a3⟩ k (by omega)
      have hc1' := hc1
      obtain ⟨d0, d5, d6, d7, d8, d9, d10, d11, d12, d13, db⟩ := hc1
      simp only [Nat.reduceAdd] at d0 d12
      have e3 : (nI n ≤ nI k) = True := by rw [ni_le (by omega) (by omega)]; exact eq_true (by omega)
      have e4 : (nI 5 ≤ nI k) = (5 ≤ k) := li_le 5 k (by omega) (by omega)
      have e : k = n := by omega
      have := fin2 (some (.int (nI k))) _ h1 w1 hc1' g1 hfr
      rw [b_Shore_goTide_21]
      simp (maxDischargeDepth := 20) (maxSteps := 2000000) only [pm_WL_nil, bi_900, bi_901, bi_904, bi_905, pm_lget_0, pm_lget_s, pm_oI_s, pm_oA_s, pm_oJ_s, pm_oK_s, pm_oR_s, pm_oO_s, pm_oN_s, pm_oF_s, pm_oM_s, pm_oP_s, pm_pu_n, pm_pu_s, pm_bo_ne, pm_bo_eq, Nat.reduceAdd, Nat.reduceSub, Nat.reduceLT, Nat.reduceLeDiff, Nat.reduceEqDiff, Nat.zero_add, Nat.lt_add_one, Nat.zero_ne_one, Nat.succ_ne_self, List.length_cons, List.length_nil, true_and, and_true, true_or, or_true, false_or, or_false, false_implies, true_implies, implies_true, not_true_eq_false, not_false_eq_true, ne_eq, eq_self, e_Shore_goTide, pm_okW_0, pm_okW_i, pm_okW_r, pm_okW_l, pm_ent_0, pm_ent_i, pm_ent_r, pm_ent_l, List.reduceReplicate, b_Shore_goTide_0, b_Shore_goTide_19, b_Shore_goTide_29, b_Shore_goTide_38, w_aload0, w_invv, lg_32, lm_5_69, pm_pop_0, pm_pop_s, pm_rcv_is, pm_ref1_is, w_istore1, pm_lset_0, pm_lset_1, pm_lset_n, pm_no2_n, pm_no2_i, pm_no2_r, pm_no2_l, w_iload1, w_invs, lm_5_73, w_getf, lf_5_12, List.getElem?_cons_succ, List.getElem?_cons_zero, lf_5_79, w_icmp_lt, pm_tgt_is, Int.cast_ofNat_Int, Int.reduceNeg, Int.reduceAdd, Int.reduceToNat, Int.zero_add, Int.zero_le_ofNat, Int.reduceLE, if_true, if_false, w_iconst, ki_0, w_istore2, w_iload2, lf_5_35, w_icmp_ge, lf_5_29, w_alen, lf_5_46, w_iaload, lm_5_82, lm_5_62, w_putf, lt_5_5, pm_fit_i, pm_fit_r, pm_fit_b, pm_fit_0, pm_fit_1, List.set_cons_succ, List.set_cons_zero, Bool.false_eq_true, w_iinc, ki_1, w_goto, w_dupi, w_dupa, lf_5_43, w_iadd, lt_5_6, w_ret, hg_6, hs_6, hg_18, hs_18, ia_18, iw_18, ar_18, up_at, up_ne, up_up, gd_0, gd_s, d0, d12, a1, e3]
      rw [e] at this ⊢
      exact this
    | succ j ih =>
      intro k h1 hk hc1 hfr
      obtain ⟨w1, m1, g1⟩ := vts_ok (hr := here s) hw ⟨a1, a2, a3⟩ k (by omega)
      have hc1' := hc1
      obtain ⟨d0, d5, d6, d7, d8, d9, d10, d11, d12, d13, db⟩ := hc1
      simp only [Nat.reduceAdd] at d0 d12
      obtain ⟨m0, m5⟩ := a3 k (by omega)
      have e3 : (nI n ≤ nI k) = False := by rw [ni_le (by omega) (by omega)]; exact eq_false (by omega)
      have e4 : (nI 5 ≤ nI k) = False := by rw [ni_le (by omega) (by omega)]; exact eq_false (by omega)
      have e5 : pm_rd ag (nI k) = nI (nN ag k) := by rw [ni_rd _ (by omega), m0]
      have e6 : pm_inR (nI k) 5 = True := by rw [ni_inR (by omega)]; exact eq_true (by omega)
      rw [b_Shore_goTide_21]
      simp (maxDischargeDepth := 20) (maxSteps := 2000000) only [pm_WL_nil, bi_900, bi_901, bi_904, bi_905, pm_lget_0, pm_lget_s, pm_oI_s, pm_oA_s, pm_oJ_s, pm_oK_s, pm_oR_s, pm_oO_s, pm_oN_s, pm_oF_s, pm_oM_s, pm_oP_s, pm_pu_n, pm_pu_s, pm_bo_ne, pm_bo_eq, Nat.reduceAdd, Nat.reduceSub, Nat.reduceLT, Nat.reduceLeDiff, Nat.reduceEqDiff, Nat.zero_add, Nat.lt_add_one, Nat.zero_ne_one, Nat.succ_ne_self, List.length_cons, List.length_nil, true_and, and_true, true_or, or_true, false_or, or_false, false_implies, true_implies, implies_true, not_true_eq_false, not_false_eq_true, ne_eq, eq_self, e_Shore_goTide, pm_okW_0, pm_okW_i, pm_okW_r, pm_okW_l, pm_ent_0, pm_ent_i, pm_ent_r, pm_ent_l, List.reduceReplicate, b_Shore_goTide_0, b_Shore_goTide_19, b_Shore_goTide_29, b_Shore_goTide_38, b_Shore_goTide_72, w_aload0, w_invv, lg_32, lm_5_69, pm_pop_0, pm_pop_s, pm_rcv_is, pm_ref1_is, w_istore1, pm_lset_0, pm_lset_1, pm_lset_n, pm_no2_n, pm_no2_i, pm_no2_r, pm_no2_l, w_iload1, w_invs, lm_5_73, w_getf, lf_5_12, List.getElem?_cons_succ, List.getElem?_cons_zero, lf_5_79, w_icmp_lt, pm_tgt_is, Int.cast_ofNat_Int, Int.reduceNeg, Int.reduceAdd, Int.reduceToNat, Int.zero_add, Int.zero_le_ofNat, Int.reduceLE, if_true, if_false, w_iconst, ki_0, w_istore2, w_iload2, lf_5_35, w_icmp_ge, lf_5_29, w_alen, lf_5_46, w_iaload, lm_5_82, lm_5_62, w_putf, lt_5_5, pm_fit_i, pm_fit_r, pm_fit_b, pm_fit_0, pm_fit_1, List.set_cons_succ, List.set_cons_zero, Bool.false_eq_true, w_iinc, ki_1, w_goto, w_dupi, w_dupa, lf_5_43, w_iadd, lt_5_6, w_ret, hg_6, hs_6, hg_18, hs_18, ia_18, iw_18, ar_18, up_at, up_ne, up_up, gd_0, gd_s, d0, d12, a1, e3, e4, e5, e6]
      refine pm_WC_mono (c_Shore_isVotedFor_6 hc1' w1 hT m5 hr6) ?_
      rintro r σ ⟨rfl, f, hf, rfl⟩
      have hv := voteF_lt (vts s (here s) ag k) (here s) (nN ag k)
      have e7 : wb (nI (cN (vts s (here s) ag k))) (nI (nN ag k)) (¬ nI (voteF (vts s (here s) ag k) (here s) (nN ag k)) = 0) = nI (cN (vts s (here s) ag (k + 1))) := by
        rw [wb_n (by have := cN_lt w1; omega) (by omega), vts, vt1, cN_set w1 m5 hv]
        congr 2
        rcases (by omega : voteF (vts s (here s) ag k) (here s) (nN ag k) = 0 ∨ voteF (vts s (here s) ag k) (here s) (nN ag k) = 1) with z | z <;> rw [z] <;> decide
      simp (maxDischargeDepth := 20) (maxSteps := 2000000) only [pm_WL_nil, bi_900, bi_901, bi_904, bi_905, pm_lget_0, pm_lget_s, pm_oI_s, pm_oA_s, pm_oJ_s, pm_oK_s, pm_oR_s, pm_oO_s, pm_oN_s, pm_oF_s, pm_oM_s, pm_oP_s, pm_pu_n, pm_pu_s, pm_bo_ne, pm_bo_eq, Nat.reduceAdd, Nat.reduceSub, Nat.reduceLT, Nat.reduceLeDiff, Nat.reduceEqDiff, Nat.zero_add, Nat.lt_add_one, Nat.zero_ne_one, Nat.succ_ne_self, List.length_cons, List.length_nil, true_and, and_true, true_or, or_true, false_or, or_false, false_implies, true_implies, implies_true, not_true_eq_false, not_false_eq_true, ne_eq, eq_self, e_Shore_goTide, pm_okW_0, pm_okW_i, pm_okW_r, pm_okW_l, pm_ent_0, pm_ent_i, pm_ent_r, pm_ent_l, List.reduceReplicate, b_Shore_goTide_0, b_Shore_goTide_19, b_Shore_goTide_29, b_Shore_goTide_38, b_Shore_goTide_72, w_aload0, w_invv, lg_32, lm_5_69, pm_pop_0, pm_pop_s, pm_rcv_is, pm_ref1_is, w_istore1, pm_lset_0, pm_lset_1, pm_lset_n, pm_no2_n, pm_no2_i, pm_no2_r, pm_no2_l, w_iload1, w_invs, lm_5_73, w_getf, lf_5_12, List.getElem?_cons_succ, List.getElem?_cons_zero, lf_5_79, w_icmp_lt, pm_tgt_is, Int.cast_ofNat_Int, Int.reduceNeg, Int.reduceAdd, Int.reduceToNat, Int.zero_add, Int.zero_le_ofNat, Int.reduceLE, if_true, if_false, w_iconst, ki_0, w_istore2, w_iload2, lf_5_35, w_icmp_ge, lf_5_29, w_alen, lf_5_46, w_iaload, lm_5_82, lm_5_62, w_putf, lt_5_5, pm_fit_i, pm_fit_r, pm_fit_b, pm_fit_0, pm_fit_1, List.set_cons_succ, List.set_cons_zero, Bool.false_eq_true, w_iinc, ki_1, w_goto, w_dupi, w_dupa, lf_5_43, w_iadd, lt_5_6, w_ret, hg_6, hs_6, up_at, up_ne, up_up, gd_0, gd_s, d0, c_X_withBit, e7, ni_1]
      refine ih (k + 1) _ (by omega) (cs_sm hc1' ?_ (wf_len w1) ?_ ?_ ?_) ?_
      · rw [vts, vt1]; exact sm_set (by omega) (by rw [wf_len w1]; omega)
      · have e8 : gd (vts s (here s) ag (k + 1)) 0 = gd (vts s (here s) ag k) 0 := by rw [vts, vt1, gd_set _ (by rw [wf_len w1]; omega), if_neg (by omega)]
        rw [up_at, e8]
      · rw [up_ne (by decide), up_at]; exact hf
      · intro q q1 q2; rw [up_ne (by omega), up_ne (by omega)]
      · intro q q1 q2; rw [up_ne q1, up_ne q2]; exact hfr q q1 q2
  simp (maxDischargeDepth := 20) (maxSteps := 2000000) only [pm_WL_nil, bi_900, bi_901, bi_904, bi_905, pm_lget_0, pm_lget_s, pm_oI_s, pm_oA_s, pm_oJ_s, pm_oK_s, pm_oR_s, pm_oO_s, pm_oN_s, pm_oF_s, pm_oM_s, pm_oP_s, pm_pu_n, pm_pu_s, pm_bo_ne, pm_bo_eq, Nat.reduceAdd, Nat.reduceSub, Nat.reduceLT, Nat.reduceLeDiff, Nat.reduceEqDiff, Nat.zero_add, Nat.lt_add_one, Nat.zero_ne_one, Nat.succ_ne_self, List.length_cons, List.length_nil, true_and, and_true, true_or, or_true, false_or, or_false, false_implies, true_implies, implies_true, not_true_eq_false, not_false_eq_true, ne_eq, eq_self, e_Shore_goTide, pm_okW_0, pm_okW_i, pm_okW_r, pm_okW_l, pm_ent_0, pm_ent_i, pm_ent_r, pm_ent_l, List.reduceReplicate, b_Shore_goTide_0, b_Shore_goTide_19, b_Shore_goTide_29, b_Shore_goTide_38, w_aload0, w_invv, lg_32, lm_5_69, pm_pop_0, pm_pop_s, pm_rcv_is, pm_ref1_is, w_istore1, pm_lset_0, pm_lset_1, pm_lset_n, pm_no2_n, pm_no2_i, pm_no2_r, pm_no2_l, w_iload1, w_invs, lm_5_73, w_getf, lf_5_12, List.getElem?_cons_succ, List.getElem?_cons_zero, lf_5_79, w_icmp_lt, pm_tgt_is, Int.cast_ofNat_Int, Int.reduceNeg, Int.reduceAdd, Int.reduceToNat, Int.zero_add, Int.zero_le_ofNat, Int.reduceLE, if_true, if_false, w_iconst, ki_0, w_istore2, w_iload2, lf_5_35, w_icmp_ge, lf_5_29, w_alen, lf_5_46, w_iaload, lm_5_82, lm_5_62, w_putf, lt_5_5, pm_fit_i, pm_fit_r, pm_fit_b, pm_fit_0, pm_fit_1, List.set_cons_succ, List.set_cons_zero, Bool.false_eq_true, w_iinc, ki_1, w_goto, w_dupi, w_dupa, lf_5_43, w_iadd, lt_5_6, w_ret, hg_6, hs_6, hg_7, hs_7, up_at, up_ne, up_up, gd_0, gd_s, c0, bq, e1, e2]
  unfold goBy
  by_cases q : quo s ≤ nI (pc (here s) 6)
  · simp only [q, Int32.not_lt.mpr q, if_true, if_false]
    exact key n 0 h (by omega) hc0 (fun _ _ _ => rfl)
  · simp only [q, Int32.not_le.mp q, if_true, if_false]
    exact fin2 none s h hw hc0 rfl (fun _ _ _ => rfl)
theorem c_Shore_goTides_6 {d n T j : Nat} {h : Nat → List Int32} {s ag : List Int32} (hc : CS 6 s ag n h) (ha : AG ag n) (hw : WF T s) (hT : T + j < 2 ^ 30) : pm_WC fqP (d + 7) 31 [.ref 6, .int (nI j)] (mk h) (fun r σ => r = none ∧ ∃ h1, σ = mk h1 ∧ CS 6 (goN s ag n j) ag n h1 ∧ ∀ k, ¬ k = 6 → ¬ k = 19 → h1 k = h k) := by
  have key : ∀ (i k : Nat) (h1 : Nat → List Int32), i + k = j → CS 6 (goN s ag n k) ag n h1 → (∀ k, ¬ k = 6 → ¬ k = 19 → h1 k = h k) → pm_W fqP (d + 6) 31 2 [some (.ref 6), some (.int (nI j)), some (.int (nI k))] [] (mk h1) (fun r σ => r = none ∧ ∃ h1, σ = mk h1 ∧ CS 6 (goN s ag n j) ag n h1 ∧ ∀ k, ¬ k = 6 → ¬ k = 19 → h1 k = h k) := by
    intro i
    induction i with
    | zero =>
      intro k h1 hk hc1 hfr
      have e3 : (nI j ≤ nI k) = True := by rw [ni_le (by omega) (by omega)]; exact eq_true (by omega)
      rw [b_Shore_goTides_2]
      simp (maxDischargeDepth := 20) (maxSteps := 2000000) only [pm_WL_nil, bi_900, bi_901, bi_904, bi_905, pm_lget_0, pm_lget_s, pm_oI_s, pm_oA_s, pm_oJ_s, pm_oK_s, pm_oR_s, pm_oO_s, pm_oN_s, pm_oF_s, pm_oM_s, pm_oP_s, pm_pu_n, pm_pu_s, pm_bo_ne, pm_bo_eq, Nat.reduceAdd, Nat.reduceSub, Nat.reduceLT, Nat.reduceLeDiff, Nat.reduceEqDiff, Nat.zero_add, Nat.lt_add_one, Nat.zero_ne_one, Nat.succ_ne_self, List.length_cons, List.length_nil, true_and, and_true, true_or, or_true, false_or, or_false, false_implies, true_implies, implies_true, not_true_eq_false, not_false_eq_true, ne_eq, eq_self, e_Shore_goTides, pm_okW_0, pm_okW_i, pm_okW_r, pm_okW_l, pm_ent_0, pm_ent_i, pm_ent_r, pm_ent_l, List.reduceReplicate, b_Shore_goTides_0, b_Shore_goTides_7, b_Shore_goTides_17, w_iconst, ki_0, w_istore2, pm_lset_0, pm_lset_1, pm_lset_n, pm_no2_n, pm_no2_i, pm_no2_r, pm_no2_l, w_iload2, w_iload1, w_icmp_ge, pm_tgt_is, Int.cast_ofNat_Int, Int.reduceNeg, Int.reduceAdd, Int.reduceToNat, Int.zero_add, Int.zero_le_ofNat, Int.reduceLE, if_true, if_false, w_aload0, w_invv, lg_31, lm_5_66, pm_pop_0, pm_pop_s, pm_rcv_is, pm_ref1_is, w_iinc, ki_1, w_goto, w_ret, hg_6, hs_6, up_at, up_ne, up_up, gd_0, gd_s, e3]
      rw [← show k = j by omega]
      exact ⟨h1, rfl, hc1, hfr⟩
    | succ i ih =>
      intro k h1 hk hc1 hfr
      obtain ⟨w1, m1, t1⟩ := goN_ok hw ha k (by omega)
      have e3 : (nI j ≤ nI k) = False := by rw [ni_le (by omega) (by omega)]; exact eq_false (by omega)
      rw [b_Shore_goTides_2]
      simp (maxDischargeDepth := 20) (maxSteps := 2000000) only [pm_WL_nil, bi_900, bi_901, bi_904, bi_905, pm_lget_0, pm_lget_s, pm_oI_s, pm_oA_s, pm_oJ_s, pm_oK_s, pm_oR_s, pm_oO_s, pm_oN_s, pm_oF_s, pm_oM_s, pm_oP_s, pm_pu_n, pm_pu_s, pm_bo_ne, pm_bo_eq, Nat.reduceAdd, Nat.reduceSub, Nat.reduceLT, Nat.reduceLeDiff, Nat.reduceEqDiff, Nat.zero_add, Nat.lt_add_one, Nat.zero_ne_one, Nat.succ_ne_self, List.length_cons, List.length_nil, true_and, and_true, true_or, or_true, false_or, or_false, false_implies, true_implies, implies_true, not_true_eq_false, not_false_eq_true, ne_eq, eq_self, e_Shore_goTides, pm_okW_0, pm_okW_i, pm_okW_r, pm_okW_l, pm_ent_0, pm_ent_i, pm_ent_r, pm_ent_l, List.reduceReplicate, b_Shore_goTides_0, b_Shore_goTides_7, b_Shore_goTides_17, w_iconst, ki_0, w_istore2, pm_lset_0, pm_lset_1, pm_lset_n, pm_no2_n, pm_no2_i, pm_no2_r, pm_no2_l, w_iload2, w_iload1, w_icmp_ge, pm_tgt_is, Int.cast_ofNat_Int, Int.reduceNeg, Int.reduceAdd, Int.reduceToNat, Int.zero_add, Int.zero_le_ofNat, Int.reduceLE, if_true, if_false, w_aload0, w_invv, lg_31, lm_5_66, pm_pop_0, pm_pop_s, pm_rcv_is, pm_ref1_is, w_iinc, ki_1, w_goto, w_ret, hg_6, hs_6, up_at, up_ne, up_up, gd_0, gd_s, e3]
      refine pm_WC_mono (c_Shore_goTide_6 hc1 ha w1 (by omega)) ?_
      rintro r σ ⟨rfl, h2, rfl, hc2, hf2⟩
      simp (maxDischargeDepth := 20) (maxSteps := 2000000) only [pm_WL_nil, bi_900, bi_901, bi_904, bi_905, pm_lget_0, pm_lget_s, pm_oI_s, pm_oA_s, pm_oJ_s, pm_oK_s, pm_oR_s, pm_oO_s, pm_oN_s, pm_oF_s, pm_oM_s, pm_oP_s, pm_pu_n, pm_pu_s, pm_bo_ne, pm_bo_eq, Nat.reduceAdd, Nat.reduceSub, Nat.reduceLT, Nat.reduceLeDiff, Nat.reduceEqDiff, Nat.zero_add, Nat.lt_add_one, Nat.zero_ne_one, Nat.succ_ne_self, List.length_cons, List.length_nil, true_and, and_true, true_or, or_true, false_or, or_false, false_implies, true_implies, implies_true, not_true_eq_false, not_false_eq_true, ne_eq, eq_self, e_Shore_goTides, pm_okW_0, pm_okW_i, pm_okW_r, pm_okW_l, pm_ent_0, pm_ent_i, pm_ent_r, pm_ent_l, List.reduceReplicate, b_Shore_goTides_0, b_Shore_goTides_7, b_Shore_goTides_17, w_iconst, ki_0, w_istore2, pm_lset_0, pm_lset_1, pm_lset_n, pm_no2_n, pm_no2_i, pm_no2_r, pm_no2_l, w_iload2, w_iload1, w_icmp_ge, pm_tgt_is, Int.cast_ofNat_Int, Int.reduceNeg, Int.reduceAdd, Int.reduceToNat, Int.zero_add, Int.zero_le_ofNat, Int.reduceLE, if_true, if_false, w_aload0, w_invv, lg_31, lm_5_66, pm_pop_0, pm_pop_s, pm_rcv_is, pm_ref1_is, w_iinc, ki_1, w_goto, w_ret, hg_6, hs_6, up_at, up_ne, up_up, gd_0, gd_s, ni_1]
      exact ih (k + 1) h2 (by omega) hc2 (fun q q1 q2 => (hf2 q q1 q2).trans (hfr q q1 q2))
  simp (maxDischargeDepth := 20) (maxSteps := 2000000) only [pm_WL_nil, bi_900, bi_901, bi_904, bi_905, pm_lget_0, pm_lget_s, pm_oI_s, pm_oA_s, pm_oJ_s, pm_oK_s, pm_oR_s, pm_oO_s, pm_oN_s, pm_oF_s, pm_oM_s, pm_oP_s, pm_pu_n, pm_pu_s, pm_bo_ne, pm_bo_eq, Nat.reduceAdd, Nat.reduceSub, Nat.reduceLT, Nat.reduceLeDiff, Nat.reduceEqDiff, Nat.zero_add, Nat.lt_add_one, Nat.zero_ne_one, Nat.succ_ne_self, List.length_cons, List.length_nil, true_and, and_true, true_or, or_true, false_or, or_false, false_implies, true_implies, implies_true, not_true_eq_false, not_false_eq_true, ne_eq, eq_self, e_Shore_goTides, pm_okW_0, pm_okW_i, pm_okW_r, pm_okW_l, pm_ent_0, pm_ent_i, pm_ent_r, pm_ent_l, List.reduceReplicate, b_Shore_goTides_0, b_Shore_goTides_7, b_Shore_goTides_17, w_iconst, ki_0, w_istore2, pm_lset_0, pm_lset_1, pm_lset_n, pm_no2_n, pm_no2_i, pm_no2_r, pm_no2_l, w_iload2, w_iload1, w_icmp_ge, pm_tgt_is, Int.cast_ofNat_Int, Int.reduceNeg, Int.reduceAdd, Int.reduceToNat, Int.zero_add, Int.zero_le_ofNat, Int.reduceLE, if_true, if_false, w_aload0, w_invv, lg_31, lm_5_66, pm_pop_0, pm_pop_s, pm_rcv_is, pm_ref1_is, w_iinc, ki_1, w_goto, w_ret, hg_6, hs_6]
  exact key j 0 h (by omega) hc (fun _ _ _ => rfl)
theorem c_Shore_isVotedFor_61 {d n T m hr : Nat} {h : Nat → List Int32} {s ag : List Int32} (hc : CS 61 s ag n h) (hw : WF T s) (hT : T < 2 ^ 30) (hm : m < 5) (hh : hr < 64) : pm_WC fqP (d + 5) 33 [.ref 61, .int (nI m), .int (nI hr)] (mk h) (fun r σ => r = some (.int (nI (voteF s hr m))) ∧ ∃ f, f.length = 6 ∧ σ = mk (up h 74 f)) := by
  have hc0 := hc
  obtain ⟨c0, c5, c6, c7, c8, c9, c10, c11, c12, c13, cb⟩ := hc
  simp only [Nat.reduceAdd] at c0 c5 c8 c13
  obtain ⟨hn, hn6⟩ := wf_n hw
  have hl := wf_len hw
  have key : ∀ (j k : Nat) (x5 x6 : Option Value) (f : List Int32), f.length = 6 → j + k = nN s 22 → pm_W fqP (d + 4) 33 5 [some (.ref 61), some (.int (nI m)), some (.int (nI hr)), some (.int (balF s hr m k)), some (.int (nI k)), x5, x6] [] (mk (up h 74 f)) (fun r σ => r = some (.int (nI (voteF s hr m))) ∧ ∃ f, f.length = 6 ∧ σ = mk (up h 74 f)) := by
    intro j
    induction j with
    | zero =>
      intro k x5 x6 f hf hk
      have e1 : (nI (nN s 22) ≤ nI k) = True := by rw [ni_le (by omega) (by omega)]; exact eq_true (by omega)
      rw [b_Shore_isVotedFor_5]
      simp (maxDischargeDepth := 20) (maxSteps := 2000000) only [pm_WL_nil, bi_900, bi_901, bi_904, bi_905, pm_lget_0, pm_lget_s, pm_oI_s, pm_oA_s, pm_oJ_s, pm_oK_s, pm_oR_s, pm_oO_s, pm_oN_s, pm_oF_s, pm_oM_s, pm_oP_s, pm_pu_n, pm_pu_s, pm_bo_ne, pm_bo_eq, Nat.reduceAdd, Nat.reduceSub, Nat.reduceLT, Nat.reduceLeDiff, Nat.reduceEqDiff, Nat.zero_add, Nat.lt_add_one, Nat.zero_ne_one, Nat.succ_ne_self, List.length_cons, List.length_nil, true_and, and_true, true_or, or_true, false_or, or_false, false_implies, true_implies, implies_true, not_true_eq_false, not_false_eq_true, ne_eq, eq_self, e_Shore_isVotedFor, pm_okW_0, pm_okW_i, pm_okW_r, pm_okW_l, pm_ent_0, pm_ent_i, pm_ent_r, pm_ent_l, List.reduceReplicate, b_Shore_isVotedFor_0, b_Shore_isVotedFor_17, b_Shore_isVotedFor_26, b_Shore_isVotedFor_30, b_Shore_isVotedFor_37, b_Shore_isVotedFor_44, b_Shore_isVotedFor_48, b_Shore_isVotedFor_53, b_Shore_isVotedFor_57, b_Shore_isVotedFor_58, b_Shore_isVotedFor_84, b_Shore_isVotedFor_88, b_Shore_isVotedFor_92, b_Shore_isVotedFor_93, w_iconst, ki_0, w_istore3, pm_lset_0, pm_lset_1, pm_lset_n, pm_no2_n, pm_no2_i, pm_no2_r, pm_no2_l, w_istore, w_iload, w_aload0, w_getf, lg_33, lf_5_21, List.getElem?_cons_succ, List.getElem?_cons_zero, lf_5_53, w_icmp_ge, pm_tgt_is, Int.cast_ofNat_Int, Int.reduceNeg, Int.reduceAdd, Int.reduceToNat, Int.zero_add, Int.zero_le_ofNat, Int.reduceLE, if_true, if_false, w_iload2, w_invs, lm_5_49, pm_pop_0, pm_pop_s, pm_rcv_is, pm_ref1_is, w_if_ne, nz_1, nz_m1, w_goto, w_iload1, w_invv, lm_5_86, w_if_le, ki_1, w_if_ge, ki_m1, w_iload3, lf_5_89, lm_5_39, w_imul, w_iadd, w_iinc, w_iret, pm_fit_b, pm_fit_0, pm_fit_1, Bool.false_eq_true, hg_61, hs_61, hg_66, hs_66, up_at, up_ne, up_up, gd_0, gd_s, c0, c5, hn, e1]
      unfold voteF
      rw [show nN s 22 = k by omega]
      by_cases q : 0 < balF s hr m k
      · rw [if_neg (Int32.not_le.mpr q), if_pos q]; exact ⟨rfl, f, hf, rfl⟩
      · rw [if_pos (Int32.not_lt.mp q), if_neg q]; exact ⟨rfl, f, hf, rfl⟩
    | succ j ih =>
      intro k x5 x6 f hf hk
      have e1 : (nI (nN s 22) ≤ nI k) = False := by rw [ni_le (by omega) (by omega)]; exact eq_false (by omega)
      have e2 : bt (nI hr) (nI k) = nI (tb hr k) := bt_n _ (by omega) _ (by omega)
      have e3 : cl (h 69) (nI k) = gd s (42 + k) := by rw [c8, cl_n (by rw [sl_len (by omega)]; omega) (by rw [sl_len (by omega)]; omega), gd_sl (by omega)]
      have e4 : ∀ K, pm_WC fqP (d + 4) 34 [.ref 61, .int (nI k), .int (nI m)] (mk (up h 74 f)) K = K (some (.int (likeF s k m))) (mk (up h 74 (fl s k m))) := fun K => by
        have := @c_Shore_likes_61 d n T k m (up h 74 f) s ag K (cs_f hc0 hf) hw hT (by omega) hm
        rw [up_up] at this; exact this
      have := fun x5 x6 f hf => ih (k + 1) x5 x6 f hf (by omega)
      rw [balF] at this
      rw [b_Shore_isVotedFor_5]
      simp (maxDischargeDepth := 20) (maxSteps := 2000000) only [pm_WL_nil, bi_900, bi_901, bi_904, bi_905, pm_lget_0, pm_lget_s, pm_oI_s, pm_oA_s, pm_oJ_s, pm_oK_s, pm_oR_s, pm_oO_s, pm_oN_s, pm_oF_s, pm_oM_s, pm_oP_s, pm_pu_n, pm_pu_s, pm_bo_ne, pm_bo_eq, Nat.reduceAdd, Nat.reduceSub, Nat.reduceLT, Nat.reduceLeDiff, Nat.reduceEqDiff, Nat.zero_add, Nat.lt_add_one, Nat.zero_ne_one, Nat.succ_ne_self, List.length_cons, List.length_nil, true_and, and_true, true_or, or_true, false_or, or_false, false_implies, true_implies, implies_true, not_true_eq_false, not_false_eq_true, ne_eq, eq_self, e_Shore_isVotedFor, pm_okW_0, pm_okW_i, pm_okW_r, pm_okW_l, pm_ent_0, pm_ent_i, pm_ent_r, pm_ent_l, List.reduceReplicate, b_Shore_isVotedFor_0, b_Shore_isVotedFor_17, b_Shore_isVotedFor_26, b_Shore_isVotedFor_30, b_Shore_isVotedFor_37, b_Shore_isVotedFor_44, b_Shore_isVotedFor_48, b_Shore_isVotedFor_53, b_Shore_isVotedFor_57, b_Shore_isVotedFor_58, b_Shore_isVotedFor_84, b_Shore_isVotedFor_88, b_Shore_isVotedFor_92, b_Shore_isVotedFor_93, w_iconst, ki_0, w_istore3, pm_lset_0, pm_lset_1, pm_lset_n, pm_no2_n, pm_no2_i, pm_no2_r, pm_no2_l, w_istore, w_iload, w_aload0, w_getf, lg_33, lf_5_21, List.getElem?_cons_succ, List.getElem?_cons_zero, lf_5_53, w_icmp_ge, pm_tgt_is, Int.cast_ofNat_Int, Int.reduceNeg, Int.reduceAdd, Int.reduceToNat, Int.zero_add, Int.zero_le_ofNat, Int.reduceLE, if_true, if_false, w_iload2, w_invs, lm_5_49, pm_pop_0, pm_pop_s, pm_rcv_is, pm_ref1_is, w_if_ne, nz_1, nz_m1, w_goto, w_iload1, w_invv, lm_5_86, w_if_le, ki_1, w_if_ge, ki_m1, w_iload3, lf_5_89, lm_5_39, w_imul, w_iadd, w_iinc, w_iret, pm_fit_b, pm_fit_0, pm_fit_1, Bool.false_eq_true, hg_61, hs_61, hg_66, hs_66, hg_69, hs_69, ia_69, iw_69, ar_69, up_at, up_ne, up_up, gd_0, gd_s, c0, c5, hn, e1, e2, e3, e4, c_X_bit, c_X_cell, ni_1, Int32.zero_mul, Int32.one_mul, Int32.neg_mul]
      rcases (by have := tb_lt hr k; omega : tb hr k = 0 ∨ tb hr k = 1) with z | z
      · simp only [z, show ¬ (nI 0 = (0 : Int32)) ↔ False by decide, if_false, if_true, show ¬ ((0 : Nat) = 1) by decide, Int32.lt_irrefl, Int32.le_refl] at this ⊢
        exact this _ _ f hf
      · simp only [z, show ¬ (nI 1 = (0 : Int32)) ↔ True by decide, if_false, if_true, if_pos] at this ⊢
        by_cases q : 0 < likeF s k m
        · simp only [q, Int32.not_le.mpr q, if_true, if_false] at this ⊢
          exact this _ _ _ rfl
        · by_cases r : likeF s k m < 0
          · simp only [q, r, Int32.not_lt.mp q, Int32.not_le.mpr r, if_true, if_false] at this ⊢
            exact this _ _ _ rfl
          · simp only [q, r, Int32.not_lt.mp q, Int32.not_lt.mp r, if_true, if_false] at this ⊢
            exact this _ _ _ rfl
  simp (maxDischargeDepth := 20) (maxSteps := 2000000) only [pm_WL_nil, bi_900, bi_901, bi_904, bi_905, pm_lget_0, pm_lget_s, pm_oI_s, pm_oA_s, pm_oJ_s, pm_oK_s, pm_oR_s, pm_oO_s, pm_oN_s, pm_oF_s, pm_oM_s, pm_oP_s, pm_pu_n, pm_pu_s, pm_bo_ne, pm_bo_eq, Nat.reduceAdd, Nat.reduceSub, Nat.reduceLT, Nat.reduceLeDiff, Nat.reduceEqDiff, Nat.zero_add, Nat.lt_add_one, Nat.zero_ne_one, Nat.succ_ne_self, List.length_cons, List.length_nil, true_and, and_true, true_or, or_true, false_or, or_false, false_implies, true_implies, implies_true, not_true_eq_false, not_false_eq_true, ne_eq, eq_self, e_Shore_isVotedFor, pm_okW_0, pm_okW_i, pm_okW_r, pm_okW_l, pm_ent_0, pm_ent_i, pm_ent_r, pm_ent_l, List.reduceReplicate, b_Shore_isVotedFor_0, b_Shore_isVotedFor_17, b_Shore_isVotedFor_26, b_Shore_isVotedFor_30, b_Shore_isVotedFor_37, b_Shore_isVotedFor_44, b_Shore_isVotedFor_48, b_Shore_isVotedFor_53, b_Shore_isVotedFor_57, b_Shore_isVotedFor_58, b_Shore_isVotedFor_84, b_Shore_isVotedFor_88, b_Shore_isVotedFor_92, b_Shore_isVotedFor_93, w_iconst, ki_0, w_istore3, pm_lset_0, pm_lset_1, pm_lset_n, pm_no2_n, pm_no2_i, pm_no2_r, pm_no2_l, w_istore, w_iload, w_aload0, w_getf, lg_33, lf_5_21, List.getElem?_cons_succ, List.getElem?_cons_zero, lf_5_53, w_icmp_ge, pm_tgt_is, Int.cast_ofNat_Int, Int.reduceNeg, Int.reduceAdd, Int.reduceToNat, Int.zero_add, Int.zero_le_ofNat, Int.reduceLE, if_true, if_false, w_iload2, w_invs, lm_5_49, pm_pop_0, pm_pop_s, pm_rcv_is, pm_ref1_is, w_if_ne, nz_1, nz_m1, w_goto, w_iload1, w_invv, lm_5_86, w_if_le, ki_1, w_if_ge, ki_m1, w_iload3, lf_5_89, lm_5_39, w_imul, w_iadd, w_iinc, w_iret, pm_fit_b, pm_fit_0, pm_fit_1, Bool.false_eq_true, hg_61, hs_61]
  have := key (nN s 22) 0 none none (h 74) c13 (by omega)
  rw [up_id] at this
  exact this
theorem c_Shore_goTide_61 {d n T : Nat} {h : Nat → List Int32} {s ag : List Int32} (hc : CS 61 s ag n h) (ha : AG ag n) (hw : WF T s) (hT : T < 2 ^ 30) : pm_WC fqP (d + 6) 32 [.ref 61] (mk h) (fun r σ => r = none ∧ ∃ h1, σ = mk h1 ∧ CS 61 (goBy s ag n) ag n h1 ∧ ∀ k, ¬ k = 61 → ¬ k = 74 → h1 k = h k) := by
  have hc0 := hc
  obtain ⟨c0, c5, c6, c7, c8, c9, c10, c11, c12, c13, ⟨b0, b1, b2, b3, bq, b5⟩⟩ := hc
  simp only [Nat.reduceAdd] at c0 c12 c13 bq
  obtain ⟨a1, a2, a3⟩ := ha
  have hl := wf_len hw
  have hr6 := here_lt hw
  have e1 := fun K => @c_Shore_thoseIn_61 (d + 3) n T h s ag K hc0 hw hT
  have e2 : ∀ (σ : pm_S) (K : Option Value → pm_S → Prop), pm_WC fqP (d + 5) 185 [.int (nI (here s))] σ K = K (some (.int (nI (pc (here s) 6)))) σ := fun σ K => by rw [c_Integer_bitCount (by omega), pc_6 _ hr6]
  have fin2 : ∀ (x2 : Option Value) (s1 : List Int32) (h1 : Nat → List Int32), WF T s1 → CS 61 s1 ag n h1 → gd s1 0 = gd s 0 → (∀ k, ¬ k = 61 → ¬ k = 74 → h1 k = h k) → pm_W fqP (d + 5) 32 72 [some (.ref 61), some (.int (nI (here s))), x2] [] (mk h1) (fun r σ => r = none ∧ ∃ h1, σ = mk h1 ∧ CS 61 (s1.set 0 (gd s 0 + 1)) ag n h1 ∧ ∀ k, ¬ k = 61 → ¬ k = 74 → h1 k = h k) := by
    intro x2 s1 h1 w1 hc1 hg hfr
    have hc1' := hc1
    obtain ⟨d0, d5, d6, d7, d8, d9, d10, d11, d12, d13, db⟩ := hc1
    simp only [Nat.reduceAdd] at d0 d13
    simp (maxDischargeDepth := 20) (maxSteps := 2000000) only [pm_WL_nil, bi_900, bi_901, bi_904, bi_905, pm_lget_0, pm_lget_s, pm_oI_s, pm_oA_s, pm_oJ_s, pm_oK_s, pm_oR_s, pm_oO_s, pm_oN_s, pm_oF_s, pm_oM_s, pm_oP_s, pm_pu_n, pm_pu_s, pm_bo_ne, pm_bo_eq, Nat.reduceAdd, Nat.reduceSub, Nat.reduceLT, Nat.reduceLeDiff, Nat.reduceEqDiff, Nat.zero_add, Nat.lt_add_one, Nat.zero_ne_one, Nat.succ_ne_self, List.length_cons, List.length_nil, true_and, and_true, true_or, or_true, false_or, or_false, false_implies, true_implies, implies_true, not_true_eq_false, not_false_eq_true, ne_eq, eq_self, e_Shore_goTide, pm_okW_0, pm_okW_i, pm_okW_r, pm_okW_l, pm_ent_0, pm_ent_i, pm_ent_r, pm_ent_l, List.reduceReplicate, b_Shore_goTide_0, b_Shore_goTide_19, b_Shore_goTide_29, b_Shore_goTide_38, b_Shore_goTide_72, w_aload0, w_invv, lg_32, lm_5_69, pm_pop_0, pm_pop_s, pm_rcv_is, pm_ref1_is, w_istore1, pm_lset_0, pm_lset_1, pm_lset_n, pm_no2_n, pm_no2_i, pm_no2_r, pm_no2_l, w_iload1, w_invs, lm_5_73, w_getf, lf_5_12, List.getElem?_cons_succ, List.getElem?_cons_zero, lf_5_79, w_icmp_lt, pm_tgt_is, Int.cast_ofNat_Int, Int.reduceNeg, Int.reduceAdd, Int.reduceToNat, Int.zero_add, Int.zero_le_ofNat, Int.reduceLE, if_true, if_false, w_iconst, ki_0, w_istore2, w_iload2, lf_5_35, w_icmp_ge, lf_5_29, w_alen, lf_5_46, w_iaload, lm_5_82, lm_5_62, w_putf, lt_5_5, pm_fit_i, pm_fit_r, pm_fit_b, pm_fit_0, pm_fit_1, List.set_cons_succ, List.set_cons_zero, Bool.false_eq_true, w_iinc, ki_1, w_goto, w_dupi, w_dupa, lf_5_43, w_iadd, lt_5_6, w_ret, hg_61, hs_61, up_at, up_ne, up_up, gd_0, gd_s, d0, hg]
    have hl1 := wf_len w1
    refine ⟨_, rfl, cs_sm hc1' (sm_set (by omega) (by omega)) hl1 ?_ ?_ ?_, ?_⟩
    · rw [up_at]
      have e : cN (s1.set 0 (gd s 0 + 1)) = cN s1 := msk_cg 5 fun k hk => by unfold nN; rw [gd_set _ (by omega), if_neg (by omega)]
      rw [e, gd_set _ (by omega), if_pos rfl]
    · rw [up_ne (by decide)]; exact d13
    · intro k k1 k2; rw [up_ne (by omega)]
    · intro k k1 k2; rw [up_ne k1]; exact hfr k k1 k2
  have key : ∀ (j k : Nat) (h1 : Nat → List Int32), j + k = n → CS 61 (vts s (here s) ag k) ag n h1 → (∀ k, ¬ k = 61 → ¬ k = 74 → h1 k = h k) → pm_W fqP (d + 5) 32 21 [some (.ref 61), some (.int (nI (here s))), some (.int (nI k))] [] (mk h1) (fun r σ => r = none ∧ ∃ h1, σ = mk h1 ∧ CS 61 ((vts s (here s) ag n).set 0 (gd s 0 + 1)) ag n h1 ∧ ∀ k, ¬ k = 61 → ¬ k = 74 → h1 k = h k) := by
    intro j
    induction j with
    | zero =>
      intro k h1 hk hc1 hfr
      obtain ⟨w1, m1, g1⟩ := vts_ok (hr := here s) hw ⟨a1, a2, a3⟩ k (by omega)
      have hc1' := hc1
      obtain ⟨d0, d5, d6, d7, d8, d9, d10, d11, d12, d13, db⟩ := hc1
      simp only [Nat.reduceAdd] at d0 d12
      have e3 : (nI n ≤ nI k) = True := by rw [ni_le (by omega) (by omega)]; exact eq_true (by omega)
      have e4 : (nI 5 ≤ nI k) = (5 ≤ k) := li_le 5 k (by omega) (by omega)
      have e : k = n := by omega
      have := fin2 (some (.int (nI k))) _ h1 w1 hc1' g1 hfr
      rw [b_Shore_goTide_21]
      simp (maxDischargeDepth := 20) (maxSteps := 2000000) only [pm_WL_nil, bi_900, bi_901, bi_904, bi_905, pm_lget_0, pm_lget_s, pm_oI_s, pm_oA_s, pm_oJ_s, pm_oK_s, pm_oR_s, pm_oO_s, pm_oN_s, pm_oF_s, pm_oM_s, pm_oP_s, pm_pu_n, pm_pu_s, pm_bo_ne, pm_bo_eq, Nat.reduceAdd, Nat.reduceSub, Nat.reduceLT, Nat.reduceLeDiff, Nat.reduceEqDiff, Nat.zero_add, Nat.lt_add_one, Nat.zero_ne_one, Nat.succ_ne_self, List.length_cons, List.length_nil, true_and, and_true, true_or, or_true, false_or, or_false, false_implies, true_implies, implies_true, not_true_eq_false, not_false_eq_true, ne_eq, eq_self, e_Shore_goTide, pm_okW_0, pm_okW_i, pm_okW_r, pm_okW_l, pm_ent_0, pm_ent_i, pm_ent_r, pm_ent_l, List.reduceReplicate, b_Shore_goTide_0, b_Shore_goTide_19, b_Shore_goTide_29, b_Shore_goTide_38, w_aload0, w_invv, lg_32, lm_5_69, pm_pop_0, pm_pop_s, pm_rcv_is, pm_ref1_is, w_istore1, pm_lset_0, pm_lset_1, pm_lset_n, pm_no2_n, pm_no2_i, pm_no2_r, pm_no2_l, w_iload1, w_invs, lm_5_73, w_getf, lf_5_12, List.getElem?_cons_succ, List.getElem?_cons_zero, lf_5_79, w_icmp_lt, pm_tgt_is, Int.cast_ofNat_Int, Int.reduceNeg, Int.reduceAdd, Int.reduceToNat, Int.zero_add, Int.zero_le_ofNat, Int.reduceLE, if_true, if_false, w_iconst, ki_0, w_istore2, w_iload2, lf_5_35, w_icmp_ge, lf_5_29, w_alen, lf_5_46, w_iaload, lm_5_82, lm_5_62, w_putf, lt_5_5, pm_fit_i, pm_fit_r, pm_fit_b, pm_fit_0, pm_fit_1, List.set_cons_succ, List.set_cons_zero, Bool.false_eq_true, w_iinc, ki_1, w_goto, w_dupi, w_dupa, lf_5_43, w_iadd, lt_5_6, w_ret, hg_61, hs_61, hg_73, hs_73, ia_73, iw_73, ar_73, up_at, up_ne, up_up, gd_0, gd_s, d0, d12, a1, e3]
      rw [e] at this ⊢
      exact this
    | succ j ih =>
      intro k h1 hk hc1 hfr
      obtain ⟨w1, m1, g1⟩ := vts_ok (hr := here s) hw ⟨a1, a2, a3⟩ k (by omega)
      have hc1' := hc1
      obtain ⟨d0, d5, d6, d7, d8, d9, d10, d11, d12, d13, db⟩ := hc1
      simp only [Nat.reduceAdd] at d0 d12
      obtain ⟨m0, m5⟩ := a3 k (by omega)
      have e3 : (nI n ≤ nI k) = False := by rw [ni_le (by omega) (by omega)]; exact eq_false (by omega)
      have e4 : (nI 5 ≤ nI k) = False := by rw [ni_le (by omega) (by omega)]; exact eq_false (by omega)
      have e5 : pm_rd ag (nI k) = nI (nN ag k) := by rw [ni_rd _ (by omega), m0]
      have e6 : pm_inR (nI k) 5 = True := by rw [ni_inR (by omega)]; exact eq_true (by omega)
      rw [b_Shore_goTide_21]
      simp (maxDischargeDepth := 20) (maxSteps := 2000000) only [pm_WL_nil, bi_900, bi_901, bi_904, bi_905, pm_lget_0, pm_lget_s, pm_oI_s, pm_oA_s, pm_oJ_s, pm_oK_s, pm_oR_s, pm_oO_s, pm_oN_s, pm_oF_s, pm_oM_s, pm_oP_s, pm_pu_n, pm_pu_s, pm_bo_ne, pm_bo_eq, Nat.reduceAdd, Nat.reduceSub, Nat.reduceLT, Nat.reduceLeDiff, Nat.reduceEqDiff, Nat.zero_add, Nat.lt_add_one, Nat.zero_ne_one, Nat.succ_ne_self, List.length_cons, List.length_nil, true_and, and_true, true_or, or_true, false_or, or_false, false_implies, true_implies, implies_true, not_true_eq_false, not_false_eq_true, ne_eq, eq_self, e_Shore_goTide, pm_okW_0, pm_okW_i, pm_okW_r, pm_okW_l, pm_ent_0, pm_ent_i, pm_ent_r, pm_ent_l, List.reduceReplicate, b_Shore_goTide_0, b_Shore_goTide_19, b_Shore_goTide_29, b_Shore_goTide_38, b_Shore_goTide_72, w_aload0, w_invv, lg_32, lm_5_69, pm_pop_0, pm_pop_s, pm_rcv_is, pm_ref1_is, w_istore1, pm_lset_0, pm_lset_1, pm_lset_n, pm_no2_n, pm_no2_i, pm_no2_r, pm_no2_l, w_iload1, w_invs, lm_5_73, w_getf, lf_5_12, List.getElem?_cons_succ, List.getElem?_cons_zero, lf_5_79, w_icmp_lt, pm_tgt_is, Int.cast_ofNat_Int, Int.reduceNeg, Int.reduceAdd, Int.reduceToNat, Int.zero_add, Int.zero_le_ofNat, Int.reduceLE, if_true, if_false, w_iconst, ki_0, w_istore2, w_iload2, lf_5_35, w_icmp_ge, lf_5_29, w_alen, lf_5_46, w_iaload, lm_5_82, lm_5_62, w_putf, lt_5_5, pm_fit_i, pm_fit_r, pm_fit_b, pm_fit_0, pm_fit_1, List.set_cons_succ, List.set_cons_zero, Bool.false_eq_true, w_iinc, ki_1, w_goto, w_dupi, w_dupa, lf_5_43, w_iadd, lt_5_6, w_ret, hg_61, hs_61, hg_73, hs_73, ia_73, iw_73, ar_73, up_at, up_ne, up_up, gd_0, gd_s, d0, d12, a1, e3, e4, e5, e6]
      refine pm_WC_mono (c_Shore_isVotedFor_61 hc1' w1 hT m5 hr6) ?_
      rintro r σ ⟨rfl, f, hf, rfl⟩
      have hv := voteF_lt (vts s (here s) ag k) (here s) (nN ag k)
      have e7 : wb (nI (cN (vts s (here s) ag k))) (nI (nN ag k)) (¬ nI (voteF (vts s (here s) ag k) (here s) (nN ag k)) = 0) = nI (cN (vts s (here s) ag (k + 1))) := by
        rw [wb_n (by have := cN_lt w1; omega) (by omega), vts, vt1, cN_set w1 m5 hv]
        congr 2
        rcases (by omega : voteF (vts s (here s) ag k) (here s) (nN ag k) = 0 ∨ voteF (vts s (here s) ag k) (here s) (nN ag k) = 1) with z | z <;> rw [z] <;> decide
      simp (maxDischargeDepth := 20) (maxSteps := 2000000) only [pm_WL_nil, bi_900, bi_901, bi_904, bi_905, pm_lget_0, pm_lget_s, pm_oI_s, pm_oA_s, pm_oJ_s, pm_oK_s, pm_oR_s, pm_oO_s, pm_oN_s, pm_oF_s, pm_oM_s, pm_oP_s, pm_pu_n, pm_pu_s, pm_bo_ne, pm_bo_eq, Nat.reduceAdd, Nat.reduceSub, Nat.reduceLT, Nat.reduceLeDiff, Nat.reduceEqDiff, Nat.zero_add, Nat.lt_add_one, Nat.zero_ne_one, Nat.succ_ne_self, List.length_cons, List.length_nil, true_and, and_true, true_or, or_true, false_or, or_false, false_implies, true_implies, implies_true, not_true_eq_false, not_false_eq_true, ne_eq, eq_self, e_Shore_goTide, pm_okW_0, pm_okW_i, pm_okW_r, pm_okW_l, pm_ent_0, pm_ent_i, pm_ent_r, pm_ent_l, List.reduceReplicate, b_Shore_goTide_0, b_Shore_goTide_19, b_Shore_goTide_29, b_Shore_goTide_38, b_Shore_goTide_72, w_aload0, w_invv, lg_32, lm_5_69, pm_pop_0, pm_pop_s, pm_rcv_is, pm_ref1_is, w_istore1, pm_lset_0, pm_lset_1, pm_lset_n, pm_no2_n, pm_no2_i, pm_no2_r, pm_no2_l, w_iload1, w_invs, lm_5_73, w_getf, lf_5_12, List.getElem?_cons_succ, List.getElem?_cons_zero, lf_5_79, w_icmp_lt, pm_tgt_is, Int.cast_ofNat_Int, Int.reduceNeg, Int.reduceAdd, Int.reduceToNat, Int.zero_add, Int.zero_le_ofNat, Int.reduceLE, if_true, if_false, w_iconst, ki_0, w_istore2, w_iload2, lf_5_35, w_icmp_ge, lf_5_29, w_alen, lf_5_46, w_iaload, lm_5_82, lm_5_62, w_putf, lt_5_5, pm_fit_i, pm_fit_r, pm_fit_b, pm_fit_0, pm_fit_1, List.set_cons_succ, List.set_cons_zero, Bool.false_eq_true, w_iinc, ki_1, w_goto, w_dupi, w_dupa, lf_5_43, w_iadd, lt_5_6, w_ret, hg_61, hs_61, up_at, up_ne, up_up, gd_0, gd_s, d0, c_X_withBit, e7, ni_1]
      refine ih (k + 1) _ (by omega) (cs_sm hc1' ?_ (wf_len w1) ?_ ?_ ?_) ?_
      · rw [vts, vt1]; exact sm_set (by omega) (by rw [wf_len w1]; omega)
      · have e8 : gd (vts s (here s) ag (k + 1)) 0 = gd (vts s (here s) ag k) 0 := by rw [vts, vt1, gd_set _ (by rw [wf_len w1]; omega), if_neg (by omega)]
        rw [up_at, e8]
      · rw [up_ne (by decide), up_at]; exact hf
      · intro q q1 q2; rw [up_ne (by omega), up_ne (by omega)]
      · intro q q1 q2; rw [up_ne q1, up_ne q2]; exact hfr q q1 q2
  simp (maxDischargeDepth := 20) (maxSteps := 2000000) only [pm_WL_nil, bi_900, bi_901, bi_904, bi_905, pm_lget_0, pm_lget_s, pm_oI_s, pm_oA_s, pm_oJ_s, pm_oK_s, pm_oR_s, pm_oO_s, pm_oN_s, pm_oF_s, pm_oM_s, pm_oP_s, pm_pu_n, pm_pu_s, pm_bo_ne, pm_bo_eq, Nat.reduceAdd, Nat.reduceSub, Nat.reduceLT, Nat.reduceLeDiff, Nat.reduceEqDiff, Nat.zero_add, Nat.lt_add_one, Nat.zero_ne_one, Nat.succ_ne_self, List.length_cons, List.length_nil, true_and, and_true, true_or, or_true, false_or, or_false, false_implies, true_implies, implies_true, not_true_eq_false, not_false_eq_true, ne_eq, eq_self, e_Shore_goTide, pm_okW_0, pm_okW_i, pm_okW_r, pm_okW_l, pm_ent_0, pm_ent_i, pm_ent_r, pm_ent_l, List.reduceReplicate, b_Shore_goTide_0, b_Shore_goTide_19, b_Shore_goTide_29, b_Shore_goTide_38, w_aload0, w_invv, lg_32, lm_5_69, pm_pop_0, pm_pop_s, pm_rcv_is, pm_ref1_is, w_istore1, pm_lset_0, pm_lset_1, pm_lset_n, pm_no2_n, pm_no2_i, pm_no2_r, pm_no2_l, w_iload1, w_invs, lm_5_73, w_getf, lf_5_12, List.getElem?_cons_succ, List.getElem?_cons_zero, lf_5_79, w_icmp_lt, pm_tgt_is, Int.cast_ofNat_Int, Int.reduceNeg, Int.reduceAdd, Int.reduceToNat, Int.zero_add, Int.zero_le_ofNat, Int.reduceLE, if_true, if_false, w_iconst, ki_0, w_istore2, w_iload2, lf_5_35, w_icmp_ge, lf_5_29, w_alen, lf_5_46, w_iaload, lm_5_82, lm_5_62, w_putf, lt_5_5, pm_fit_i, pm_fit_r, pm_fit_b, pm_fit_0, pm_fit_1, List.set_cons_succ, List.set_cons_zero, Bool.false_eq_true, w_iinc, ki_1, w_goto, w_dupi, w_dupa, lf_5_43, w_iadd, lt_5_6, w_ret, hg_61, hs_61, hg_62, hs_62, up_at, up_ne, up_up, gd_0, gd_s, c0, bq, e1, e2]
  unfold goBy
  by_cases q : quo s ≤ nI (pc (here s) 6)
  · simp only [q, Int32.not_lt.mpr q, if_true, if_false]
    exact key n 0 h (by omega) hc0 (fun _ _ _ => rfl)
  · simp only [q, Int32.not_le.mp q, if_true, if_false]
    exact fin2 none s h hw hc0 rfl (fun _ _ _ => rfl)
theorem c_Shore_goTides_61 {d n T j : Nat} {h : Nat → List Int32} {s ag : List Int32} (hc : CS 61 s ag n h) (ha : AG ag n) (hw : WF T s) (hT : T + j < 2 ^ 30) : pm_WC fqP (d + 7) 31 [.ref 61, .int (nI j)] (mk h) (fun r σ => r = none ∧ ∃ h1, σ = mk h1 ∧ CS 61 (goN s ag n j) ag n h1 ∧ ∀ k, ¬ k = 61 → ¬ k = 74 → h1 k = h k) := by
  have key : ∀ (i k : Nat) (h1 : Nat → List Int32), i + k = j → CS 61 (goN s ag n k) ag n h1 → (∀ k, ¬ k = 61 → ¬ k = 74 → h1 k = h k) → pm_W fqP (d + 6) 31 2 [some (.ref 61), some (.int (nI j)), some (.int (nI k))] [] (mk h1) (fun r σ => r = none ∧ ∃ h1, σ = mk h1 ∧ CS 61 (goN s ag n j) ag n h1 ∧ ∀ k, ¬ k = 61 → ¬ k = 74 → h1 k = h k) := by
    intro i
    induction i with
    | zero =>
      intro k h1 hk hc1 hfr
      have e3 : (nI j ≤ nI k) = True := by rw [ni_le (by omega) (by omega)]; exact eq_true (by omega)
      rw [b_Shore_goTides_2]
      simp (maxDischargeDepth := 20) (maxSteps := 2000000) only [pm_WL_nil, bi_900, bi_901, bi_904, bi_905, pm_lget_0, pm_lget_s, pm_oI_s, pm_oA_s, pm_oJ_s, pm_oK_s, pm_oR_s, pm_oO_s, pm_oN_s, pm_oF_s, pm_oM_s, pm_oP_s, pm_pu_n, pm_pu_s, pm_bo_ne, pm_bo_eq, Nat.reduceAdd, Nat.reduceSub, Nat.reduceLT, Nat.reduceLeDiff, Nat.reduceEqDiff, Nat.zero_add, Nat.lt_add_one, Nat.zero_ne_one, Nat.succ_ne_self, List.length_cons, List.length_nil, true_and, and_true, true_or, or_true, false_or, or_false, false_implies, true_implies, implies_true, not_true_eq_false, not_false_eq_true, ne_eq, eq_self, e_Shore_goTides, pm_okW_0, pm_okW_i, pm_okW_r, pm_okW_l, pm_ent_0, pm_ent_i, pm_ent_r, pm_ent_l, List.reduceReplicate, b_Shore_goTides_0, b_Shore_goTides_7, b_Shore_goTides_17, w_iconst, ki_0, w_istore2, pm_lset_0, pm_lset_1, pm_lset_n, pm_no2_n, pm_no2_i, pm_no2_r, pm_no2_l, w_iload2, w_iload1, w_icmp_ge, pm_tgt_is, Int.cast_ofNat_Int, Int.reduceNeg, Int.reduceAdd, Int.reduceToNat, Int.zero_add, Int.zero_le_ofNat, Int.reduceLE, if_true, if_false, w_aload0, w_invv, lg_31, lm_5_66, pm_pop_0, pm_pop_s, pm_rcv_is, pm_ref1_is, w_iinc, ki_1, w_goto, w_ret, hg_61, hs_61, up_at, up_ne, up_up, gd_0, gd_s, e3]
      rw [← show k = j by omega]
      exact ⟨h1, rfl, hc1, hfr⟩
    | succ i ih =>
      intro k h1 hk hc1 hfr
      obtain ⟨w1, m1, t1⟩ := goN_ok hw ha k (by omega)
      have e3 : (nI j ≤ nI k) = False := by rw [ni_le (by omega) (by omega)]; exact eq_false (by omega)
      rw [b_Shore_goTides_2]
      simp (maxDischargeDepth := 20) (maxSteps := 2000000) only [pm_WL_nil, bi_900, bi_901, bi_904, bi_905, pm_lget_0, pm_lget_s, pm_oI_s, pm_oA_s, pm_oJ_s, pm_oK_s, pm_oR_s, pm_oO_s, pm_oN_s, pm_oF_s, pm_oM_s, pm_oP_s, pm_pu_n, pm_pu_s, pm_bo_ne, pm_bo_eq, Nat.reduceAdd, Nat.reduceSub, Nat.reduceLT, Nat.reduceLeDiff, Nat.reduceEqDiff, Nat.zero_add, Nat.lt_add_one, Nat.zero_ne_one, Nat.succ_ne_self, List.length_cons, List.length_nil, true_and, and_true, true_or, or_true, false_or, or_false, false_implies, true_implies, implies_true, not_true_eq_false, not_false_eq_true, ne_eq, eq_self, e_Shore_goTides, pm_okW_0, pm_okW_i, pm_okW_r, pm_okW_l, pm_ent_0, pm_ent_i, pm_ent_r, pm_ent_l, List.reduceReplicate, b_Shore_goTides_0, b_Shore_goTides_7, b_Shore_goTides_17, w_iconst, ki_0, w_istore2, pm_lset_0, pm_lset_1, pm_lset_n, pm_no2_n, pm_no2_i, pm_no2_r, pm_no2_l, w_iload2, w_iload1, w_icmp_ge, pm_tgt_is, Int.cast_ofNat_Int, Int.reduceNeg, Int.reduceAdd, Int.reduceToNat, Int.zero_add, Int.zero_le_ofNat, Int.reduceLE, if_true, if_false, w_aload0, w_invv, lg_31, lm_5_66, pm_pop_0, pm_pop_s, pm_rcv_is, pm_ref1_is, w_iinc, ki_1, w_goto, w_ret, hg_61, hs_61, up_at, up_ne, up_up, gd_0, gd_s, e3]
      refine pm_WC_mono (c_Shore_goTide_61 hc1 ha w1 (by omega)) ?_
      rintro r σ ⟨rfl, h2, rfl, hc2, hf2⟩
      simp (maxDischargeDepth := 20) (maxSteps := 2000000) only [pm_WL_nil, bi_900, bi_901, bi_904, bi_905, pm_lget_0, pm_lget_s, pm_oI_s, pm_oA_s, pm_oJ_s, pm_oK_s, pm_oR_s, pm_oO_s, pm_oN_s, pm_oF_s, pm_oM_s, pm_oP_s, pm_pu_n, pm_pu_s, pm_bo_ne, pm_bo_eq, Nat.reduceAdd, Nat.reduceSub, Nat.reduceLT, Nat.reduceLeDiff, Nat.reduceEqDiff, Nat.zero_add, Nat.lt_add_one, Nat.zero_ne_one, Nat.succ_ne_self, List.length_cons, List.length_nil, true_and, and_true, true_or, or_true, false_or, or_false, false_implies, true_implies, implies_true, not_true_eq_false, not_false_eq_true, ne_eq, eq_self, e_Shore_goTides, pm_okW_0, pm_okW_i, pm_okW_r, pm_okW_l, pm_ent_0, pm_ent_i, pm_ent_r, pm_ent_l, List.reduceReplicate, b_Shore_goTides_0, b_Shore_goTides_7, b_Shore_goTides_17, w_iconst, ki_0, w_istore2, pm_lset_0, pm_lset_1, pm_lset_n, pm_no2_n, pm_no2_i, pm_no2_r, pm_no2_l, w_iload2, w_iload1, w_icmp_ge, pm_tgt_is, Int.cast_ofNat_Int, Int.reduceNeg, Int.reduceAdd, Int.reduceToNat, Int.zero_add, Int.zero_le_ofNat, Int.reduceLE, if_true, if_false, w_aload0, w_invv, lg_31, lm_5_66, pm_pop_0, pm_pop_s, pm_rcv_is, pm_ref1_is, w_iinc, ki_1, w_goto, w_ret, hg_61, hs_61, up_at, up_ne, up_up, gd_0, gd_s, ni_1]
      exact ih (k + 1) h2 (by omega) hc2 (fun q q1 q2 => (hf2 q q1 q2).trans (hfr q q1 q2))
  simp (maxDischargeDepth := 20) (maxSteps := 2000000) only [pm_WL_nil, bi_900, bi_901, bi_904, bi_905, pm_lget_0, pm_lget_s, pm_oI_s, pm_oA_s, pm_oJ_s, pm_oK_s, pm_oR_s, pm_oO_s, pm_oN_s, pm_oF_s, pm_oM_s, pm_oP_s, pm_pu_n, pm_pu_s, pm_bo_ne, pm_bo_eq, Nat.reduceAdd, Nat.reduceSub, Nat.reduceLT, Nat.reduceLeDiff, Nat.reduceEqDiff, Nat.zero_add, Nat.lt_add_one, Nat.zero_ne_one, Nat.succ_ne_self, List.length_cons, List.length_nil, true_and, and_true, true_or, or_true, false_or, or_false, false_implies, true_implies, implies_true, not_true_eq_false, not_false_eq_true, ne_eq, eq_self, e_Shore_goTides, pm_okW_0, pm_okW_i, pm_okW_r, pm_okW_l, pm_ent_0, pm_ent_i, pm_ent_r, pm_ent_l, List.reduceReplicate, b_Shore_goTides_0, b_Shore_goTides_7, b_Shore_goTides_17, w_iconst, ki_0, w_istore2, pm_lset_0, pm_lset_1, pm_lset_n, pm_no2_n, pm_no2_i, pm_no2_r, pm_no2_l, w_iload2, w_iload1, w_icmp_ge, pm_tgt_is, Int.cast_ofNat_Int, Int.reduceNeg, Int.reduceAdd, Int.reduceToNat, Int.zero_add, Int.zero_le_ofNat, Int.reduceLE, if_true, if_false, w_aload0, w_invv, lg_31, lm_5_66, pm_pop_0, pm_pop_s, pm_rcv_is, pm_ref1_is, w_iinc, ki_1, w_goto, w_ret, hg_61, hs_61]
  exact key j 0 h (by omega) hc (fun _ _ _ => rfl)
