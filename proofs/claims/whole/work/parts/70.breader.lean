/-! THE CLASS READS -/
def V4 (h : Nat → List Int32) (a b c : List Int32) : Nat → List Int32 := up (up (up h 75 a) 76 b) 79 c
theorem v4_75 (h : Nat → List Int32) (a b c : List Int32) : V4 h a b c 75 = a := by unfold V4; rw [up_ne (by decide), up_ne (by decide), up_at]
theorem v4_76 (h : Nat → List Int32) (a b c : List Int32) : V4 h a b c 76 = b := by unfold V4; rw [up_ne (by decide), up_at]
theorem v4_79 (h : Nat → List Int32) (a b c : List Int32) : V4 h a b c 79 = c := by unfold V4; rw [up_at]
theorem v4_ne {h : Nat → List Int32} {a b c : List Int32} {k : Nat} (x : ¬ k = 75) (y : ¬ k = 76) (z : ¬ k = 79) : V4 h a b c k = h k := by unfold V4; rw [up_ne z, up_ne y, up_ne x]
theorem v4_80 (h : Nat → List Int32) (a b c : List Int32) : V4 h a b c 80 = h 80 := v4_ne (by decide) (by decide) (by decide)
theorem v4_77 (h : Nat → List Int32) (a b c : List Int32) : V4 h a b c 77 = h 77 := v4_ne (by decide) (by decide) (by decide)
theorem v4_78 (h : Nat → List Int32) (a b c : List Int32) : V4 h a b c 78 = h 78 := v4_ne (by decide) (by decide) (by decide)
theorem v4_u75 (h : Nat → List Int32) (a b c t : List Int32) : up (V4 h a b c) 75 t = V4 h t b c := by unfold V4; rw [up_cm (k := 79) (j := 75) (by decide), up_cm (k := 76) (j := 75) (by decide), up_up]
theorem v4_u76 (h : Nat → List Int32) (a b c t : List Int32) : up (V4 h a b c) 76 t = V4 h a t c := by unfold V4; rw [up_cm (k := 79) (j := 76) (by decide), up_up]
theorem v4_u79 (h : Nat → List Int32) (a b c t : List Int32) : up (V4 h a b c) 79 t = V4 h a b t := by unfold V4; rw [up_up]
theorem v4_up {h : Nat → List Int32} {a b c l : List Int32} {k : Nat} (x : ¬ k = 75) (y : ¬ k = 76) (z : ¬ k = 79) : up (V4 h a b c) k l = V4 (up h k l) a b c := by
  funext j
  unfold V4 up
  by_cases e : j = k
  · subst e; simp [x, y, z]
  · simp [e]
def CH (T : Nat → Int32) (n : Nat) (h : Nat → List Int32) : Prop := TPE T n ∧ (h 80).length = 100 ∧ ∀ p, p < n → gd (h 80) p = T p
theorem nlt0 (p : Nat) (hp : p < 2 ^ 31) : (nI p < 0) = False := by rw [il_lt 0 p (by omega) hp]; exact eq_false (by omega)
theorem c_sign {d p n cs : Nat} {T : Nat → Int32} {h : Nat → List Int32} {cd : List Int32} {nm c2 q2 : Int32} {K : Option Value → pm_S → Prop} {g : List Int32} (H : CH T n h) (hp : p ≤ 200) : pm_WC fqP (d + 1) 23 [.ref 75] (mk (V4 h [nI p, nI n, nm] g cd)) K = K (some (.int (T p))) (mk (V4 h [nI p, nI n, nm] g cd)) := by
  obtain ⟨h1, h2, h3⟩ := H
  have h10 := h1.1
  have z := nlt0 p (by omega)
  by_cases q : p < n
  · have e1 : (nI n ≤ nI p) = False := by rw [ni_le (by omega) (by omega)]; exact eq_false (by omega)
    have e2 : (nI 100 ≤ nI p) = False := by rw [ni_le (by omega) (by omega)]; exact eq_false (by omega)
    have e3 : pm_inR (nI p) 100 = True := by rw [ni_inR (by omega)]; exact eq_true (by omega)
    have e4 : pm_rd (h 80) (nI p) = T p := by rw [ni_rd _ (by omega), h3 p q]
    simp (maxDischargeDepth := 20) (maxSteps := 2000000) only [↓reduceIte, pm_WL_nil, bi_900, bi_901, bi_904, bi_905, pm_lget_0, pm_lget_s, pm_oI_s, pm_oA_s, pm_oJ_s, pm_oK_s, pm_oR_s, pm_oO_s, pm_oN_s, pm_oF_s, pm_oM_s, pm_oP_s, pm_pu_n, pm_pu_s, pm_bo_ne, pm_bo_eq, Nat.reduceAdd, Nat.reduceSub, Nat.reduceLT, Nat.reduceLeDiff, Nat.reduceEqDiff, Nat.zero_add, Nat.lt_add_one, Nat.zero_ne_one, Nat.succ_ne_self, List.length_cons, List.length_nil, true_and, and_true, true_or, or_true, false_or, or_false, false_implies, true_implies, implies_true, not_true_eq_false, not_false_eq_true, ne_eq, eq_self, e_Reader_sign, pm_okW_0, pm_okW_i, pm_okW_r, pm_okW_l, pm_ent_0, pm_ent_i, pm_ent_r, pm_ent_l, List.reduceReplicate, b_Reader_sign_0, b_Reader_sign_7, b_Reader_sign_18, b_Reader_sign_30, b_Reader_sign_42, b_Reader_sign_43, f_aloadn0, gf_23_30_75, w_if_lt, pm_tgt_is, Int.cast_ofNat_Int, Int.reduceNeg, Int.reduceAdd, Int.reduceToNat, Int.zero_add, Int.zero_le_ofNat, Int.reduceLE, nz_1, nz_m1, if_true, if_false, gf_23_26_75, w_icmp_ge, gf_23_18_75, w_goto, w_iconst, ki_m1, w_iret, lg_23, pm_fit_b, pm_fit_0, pm_fit_1, Bool.false_eq_true, hs_75, f_iald_80, f_alen_80, ia_80, ar_80, f_iast_80, iw_80, hs_80, v4_75, v4_76, v4_79, v4_80, v4_u75, v4_u76, v4_u79, gd_0, gd_s, h2, z, e1, e2, e3, e4]
  · have e1 : (nI n ≤ nI p) = True := by rw [ni_le (by omega) (by omega)]; exact eq_true (by omega)
    have e6 := h1.2.2 p (by omega)
    simp (maxDischargeDepth := 20) (maxSteps := 2000000) only [↓reduceIte, pm_WL_nil, bi_900, bi_901, bi_904, bi_905, pm_lget_0, pm_lget_s, pm_oI_s, pm_oA_s, pm_oJ_s, pm_oK_s, pm_oR_s, pm_oO_s, pm_oN_s, pm_oF_s, pm_oM_s, pm_oP_s, pm_pu_n, pm_pu_s, pm_bo_ne, pm_bo_eq, Nat.reduceAdd, Nat.reduceSub, Nat.reduceLT, Nat.reduceLeDiff, Nat.reduceEqDiff, Nat.zero_add, Nat.lt_add_one, Nat.zero_ne_one, Nat.succ_ne_self, List.length_cons, List.length_nil, true_and, and_true, true_or, or_true, false_or, or_false, false_implies, true_implies, implies_true, not_true_eq_false, not_false_eq_true, ne_eq, eq_self, e_Reader_sign, pm_okW_0, pm_okW_i, pm_okW_r, pm_okW_l, pm_ent_0, pm_ent_i, pm_ent_r, pm_ent_l, List.reduceReplicate, b_Reader_sign_0, b_Reader_sign_7, b_Reader_sign_18, b_Reader_sign_30, b_Reader_sign_42, b_Reader_sign_43, f_aloadn0, gf_23_30_75, w_if_lt, pm_tgt_is, Int.cast_ofNat_Int, Int.reduceNeg, Int.reduceAdd, Int.reduceToNat, Int.zero_add, Int.zero_le_ofNat, Int.reduceLE, nz_1, nz_m1, if_true, if_false, gf_23_26_75, w_icmp_ge, gf_23_18_75, w_goto, w_iconst, ki_m1, w_iret, lg_23, pm_fit_b, pm_fit_0, pm_fit_1, Bool.false_eq_true, hs_75, v4_75, v4_76, v4_79, v4_80, v4_u75, v4_u76, v4_u79, gd_0, gd_s, z, e1, e6]
theorem c_takes_y {d p n cs : Nat} {T : Nat → Int32} {h : Nat → List Int32} {cd : List Int32} {nm c2 q2 : Int32} {K : Option Value → pm_S → Prop} {c : Int32} {g : List Int32} (H : CH T n h) (hp : p ≤ 200) (e : T p = c) : pm_WC fqP (d + 2) 22 [.ref 75, .int c] (mk (V4 h [nI p, nI n, nm] g cd)) K = K (some (.int 1)) (mk (V4 h [nI (p + 1), nI n, nm] g cd)) := by
  have e0 := fun K => @c_sign d p n cs T h cd nm c2 q2 K g H hp
  have e1 := eq_true e
  simp (maxDischargeDepth := 20) (maxSteps := 2000000) only [↓reduceIte, pm_WL_nil, bi_900, bi_901, bi_904, bi_905, pm_lget_0, pm_lget_s, pm_oI_s, pm_oA_s, pm_oJ_s, pm_oK_s, pm_oR_s, pm_oO_s, pm_oN_s, pm_oF_s, pm_oM_s, pm_oP_s, pm_pu_n, pm_pu_s, pm_bo_ne, pm_bo_eq, Nat.reduceAdd, Nat.reduceSub, Nat.reduceLT, Nat.reduceLeDiff, Nat.reduceEqDiff, Nat.zero_add, Nat.lt_add_one, Nat.zero_ne_one, Nat.succ_ne_self, List.length_cons, List.length_nil, true_and, and_true, true_or, or_true, false_or, or_false, false_implies, true_implies, implies_true, not_true_eq_false, not_false_eq_true, ne_eq, eq_self, e_Reader_takes, pm_okW_0, pm_okW_i, pm_okW_r, pm_okW_l, pm_ent_0, pm_ent_i, pm_ent_r, pm_ent_l, List.reduceReplicate, b_Reader_takes_0, b_Reader_takes_8, b_Reader_takes_10, f_aloadn0, iv_22_44_75, kk_n, kk_s, f_iloadn1, w_icmp_eq, pm_tgt_is, Int.cast_ofNat_Int, Int.reduceNeg, Int.reduceAdd, Int.reduceToNat, Int.zero_add, Int.zero_le_ofNat, Int.reduceLE, if_true, if_false, w_iconst, ki_0, w_iret, lg_22, pm_fit_b, pm_fit_0, pm_fit_1, Bool.false_eq_true, w_dupi, w_dupa, gf_22_30_75, ki_1, w_iadd, pf_22_30_75, hs_75, v4_75, v4_76, v4_79, v4_80, v4_u75, v4_u76, v4_u79, gd_0, gd_s, e0, e1, ni_1]
theorem c_takes_n {d p n cs : Nat} {T : Nat → Int32} {h : Nat → List Int32} {cd : List Int32} {nm c2 q2 : Int32} {K : Option Value → pm_S → Prop} {c : Int32} {g : List Int32} (H : CH T n h) (hp : p ≤ 200) (e : ¬ T p = c) : pm_WC fqP (d + 2) 22 [.ref 75, .int c] (mk (V4 h [nI p, nI n, nm] g cd)) K = K (some (.int 0)) (mk (V4 h [nI p, nI n, nm] g cd)) := by
  have e0 := fun K => @c_sign d p n cs T h cd nm c2 q2 K g H hp
  have e1 := eq_false e
  simp (maxDischargeDepth := 20) (maxSteps := 2000000) only [↓reduceIte, pm_WL_nil, bi_900, bi_901, bi_904, bi_905, pm_lget_0, pm_lget_s, pm_oI_s, pm_oA_s, pm_oJ_s, pm_oK_s, pm_oR_s, pm_oO_s, pm_oN_s, pm_oF_s, pm_oM_s, pm_oP_s, pm_pu_n, pm_pu_s, pm_bo_ne, pm_bo_eq, Nat.reduceAdd, Nat.reduceSub, Nat.reduceLT, Nat.reduceLeDiff, Nat.reduceEqDiff, Nat.zero_add, Nat.lt_add_one, Nat.zero_ne_one, Nat.succ_ne_self, List.length_cons, List.length_nil, true_and, and_true, true_or, or_true, false_or, or_false, false_implies, true_implies, implies_true, not_true_eq_false, not_false_eq_true, ne_eq, eq_self, e_Reader_takes, pm_okW_0, pm_okW_i, pm_okW_r, pm_okW_l, pm_ent_0, pm_ent_i, pm_ent_r, pm_ent_l, List.reduceReplicate, b_Reader_takes_0, b_Reader_takes_8, b_Reader_takes_10, f_aloadn0, iv_22_44_75, kk_n, kk_s, f_iloadn1, w_icmp_eq, pm_tgt_is, Int.cast_ofNat_Int, Int.reduceNeg, Int.reduceAdd, Int.reduceToNat, Int.zero_add, Int.zero_le_ofNat, Int.reduceLE, if_true, if_false, w_iconst, ki_0, w_iret, lg_22, pm_fit_b, pm_fit_0, pm_fit_1, Bool.false_eq_true, w_dupi, w_dupa, gf_22_30_75, ki_1, w_iadd, pf_22_30_75, hs_75, v4_75, v4_76, v4_79, v4_80, v4_u75, v4_u76, v4_u79, gd_0, gd_s, e0, e1]
theorem c_takesOneOf {d p n cs : Nat} {T : Nat → Int32} {h : Nat → List Int32} {cd : List Int32} {nm c2 q2 : Int32} {K : Option Value → pm_S → Prop} {tx : Nat} {ws : List Int32} {g : List Int32} (H : CH T n h) (hp : p ≤ 200) (ht : TXT tx ws) : pm_WC fqP (d + 6) 19 [.ref 75, .ref tx] (mk (V4 h [nI p, nI n, nm] g cd)) K = match amg (T p) ws 0 with
    | none => K (some (.int (-1))) (mk (V4 h [nI p, nI n, nm] g cd))
    | some q => K (some (.int (nI q))) (mk (V4 h [nI (p + 1), nI n, nm] g cd)) := by
  obtain ⟨t1, t2, t3⟩ := ht
  have e0 := fun d K => @c_sign d p n cs T h cd nm c2 q2 K g H hp
  have key : ∀ (m i : Nat), m + i = ws.length → pm_W fqP (d + 5) 19 7 [some (.ref 75), some (.ref tx), some (.int (T p)), some (.int (nI i))] [] (mk (V4 h [nI p, nI n, nm] g cd)) K = match amg (T p) (ws.drop i) i with
      | none => K (some (.int (-1))) (mk (V4 h [nI p, nI n, nm] g cd))
      | some q => K (some (.int (nI q))) (mk (V4 h [nI (p + 1), nI n, nm] g cd)) := by
    intro m
    induction m with
    | zero =>
      intro i hi
      have e1 : (nI ws.length ≤ nI i) = True := by rw [ni_le (by omega) (by omega)]; exact eq_true (by omega)
      have e2 := fun d K => @bi_902 d tx (mk (V4 h [nI p, nI n, nm] g cd)) K _ t2
      rw [b_Reader_takesOneOf_7, List.drop_of_length_le (by omega), amg]
      simp (maxDischargeDepth := 20) (maxSteps := 2000000) only [↓reduceIte, pm_WL_nil, bi_900, bi_901, bi_904, bi_905, pm_lget_0, pm_lget_s, pm_oI_s, pm_oA_s, pm_oJ_s, pm_oK_s, pm_oR_s, pm_oO_s, pm_oN_s, pm_oF_s, pm_oM_s, pm_oP_s, pm_pu_n, pm_pu_s, pm_bo_ne, pm_bo_eq, Nat.reduceAdd, Nat.reduceSub, Nat.reduceLT, Nat.reduceLeDiff, Nat.reduceEqDiff, Nat.zero_add, Nat.lt_add_one, Nat.zero_ne_one, Nat.succ_ne_self, List.length_cons, List.length_nil, true_and, and_true, true_or, or_true, false_or, or_false, false_implies, true_implies, implies_true, not_true_eq_false, not_false_eq_true, ne_eq, eq_self, e_Reader_takesOneOf, pm_okW_0, pm_okW_i, pm_okW_r, pm_okW_l, pm_ent_0, pm_ent_i, pm_ent_r, pm_ent_l, List.reduceReplicate, b_Reader_takesOneOf_0, b_Reader_takesOneOf_15, b_Reader_takesOneOf_24, b_Reader_takesOneOf_36, b_Reader_takesOneOf_42, f_aloadn0, iv_19_44_75, kk_n, kk_s, w_istore2, pm_lset_0, pm_lset_1, pm_lset_n, pm_no2_n, pm_no2_i, pm_no2_r, pm_no2_l, w_iconst, ki_0, w_istore3, f_iloadn3, f_aloadn1, iv_19_95, w_icmp_ge, pm_tgt_is, Int.cast_ofNat_Int, Int.reduceNeg, Int.reduceAdd, Int.reduceToNat, Int.zero_add, Int.zero_le_ofNat, Int.reduceLE, if_true, if_false, iv_19_100, f_iloadn2, w_icmp_ne, w_dupi, w_dupa, gf_19_30_75, ki_1, w_iadd, pf_19_30_75, pm_fit_b, pm_fit_0, pm_fit_1, w_iret, lg_19, Bool.false_eq_true, f_iinc3, w_goto, ki_m1, hs_75, v4_75, v4_76, v4_79, v4_80, v4_u75, v4_u76, v4_u79, gd_0, gd_s, e1, e2]
    | succ m ih =>
      intro i hi
      have e1 : (nI ws.length ≤ nI i) = False := by rw [ni_le (by omega) (by omega)]; exact eq_false (by omega)
      have e2 := fun d K => @bi_902 d tx (mk (V4 h [nI p, nI n, nm] g cd)) K _ t2
      have e3 := fun d K => @bi_903 d tx i (mk (V4 h [nI p, nI n, nm] g cd)) K _ (by omega) (t3 i (by omega))
      have := ih (i + 1) (by omega)
      rw [b_Reader_takesOneOf_7, drop_c (by omega), amg]
      by_cases q : T p = gd ws i
      · have q1 := eq_true q.symm
        rw [if_pos q]
        simp (maxDischargeDepth := 20) (maxSteps := 2000000) only [↓reduceIte, pm_WL_nil, bi_900, bi_901, bi_904, bi_905, pm_lget_0, pm_lget_s, pm_oI_s, pm_oA_s, pm_oJ_s, pm_oK_s, pm_oR_s, pm_oO_s, pm_oN_s, pm_oF_s, pm_oM_s, pm_oP_s, pm_pu_n, pm_pu_s, pm_bo_ne, pm_bo_eq, Nat.reduceAdd, Nat.reduceSub, Nat.reduceLT, Nat.reduceLeDiff, Nat.reduceEqDiff, Nat.zero_add, Nat.lt_add_one, Nat.zero_ne_one, Nat.succ_ne_self, List.length_cons, List.length_nil, true_and, and_true, true_or, or_true, false_or, or_false, false_implies, true_implies, implies_true, not_true_eq_false, not_false_eq_true, ne_eq, eq_self, e_Reader_takesOneOf, pm_okW_0, pm_okW_i, pm_okW_r, pm_okW_l, pm_ent_0, pm_ent_i, pm_ent_r, pm_ent_l, List.reduceReplicate, b_Reader_takesOneOf_0, b_Reader_takesOneOf_15, b_Reader_takesOneOf_24, b_Reader_takesOneOf_36, b_Reader_takesOneOf_42, f_aloadn0, iv_19_44_75, kk_n, kk_s, w_istore2, pm_lset_0, pm_lset_1, pm_lset_n, pm_no2_n, pm_no2_i, pm_no2_r, pm_no2_l, w_iconst, ki_0, w_istore3, f_iloadn3, f_aloadn1, iv_19_95, w_icmp_ge, pm_tgt_is, Int.cast_ofNat_Int, Int.reduceNeg, Int.reduceAdd, Int.reduceToNat, Int.zero_add, Int.zero_le_ofNat, Int.reduceLE, if_true, if_false, iv_19_100, f_iloadn2, w_icmp_ne, w_dupi, w_dupa, gf_19_30_75, ki_1, w_iadd, pf_19_30_75, pm_fit_b, pm_fit_0, pm_fit_1, w_iret, lg_19, Bool.false_eq_true, f_iinc3, w_goto, ki_m1, hs_75, v4_75, v4_76, v4_79, v4_80, v4_u75, v4_u76, v4_u79, gd_0, gd_s, e1, e2, e3, q1, ni_1]
      · have q1 := eq_false (fun z => q (Eq.symm z))
        rw [if_neg q]
        simp (maxDischargeDepth := 20) (maxSteps := 2000000) only [↓reduceIte, pm_WL_nil, bi_900, bi_901, bi_904, bi_905, pm_lget_0, pm_lget_s, pm_oI_s, pm_oA_s, pm_oJ_s, pm_oK_s, pm_oR_s, pm_oO_s, pm_oN_s, pm_oF_s, pm_oM_s, pm_oP_s, pm_pu_n, pm_pu_s, pm_bo_ne, pm_bo_eq, Nat.reduceAdd, Nat.reduceSub, Nat.reduceLT, Nat.reduceLeDiff, Nat.reduceEqDiff, Nat.zero_add, Nat.lt_add_one, Nat.zero_ne_one, Nat.succ_ne_self, List.length_cons, List.length_nil, true_and, and_true, true_or, or_true, false_or, or_false, false_implies, true_implies, implies_true, not_true_eq_false, not_false_eq_true, ne_eq, eq_self, e_Reader_takesOneOf, pm_okW_0, pm_okW_i, pm_okW_r, pm_okW_l, pm_ent_0, pm_ent_i, pm_ent_r, pm_ent_l, List.reduceReplicate, b_Reader_takesOneOf_0, b_Reader_takesOneOf_15, b_Reader_takesOneOf_24, b_Reader_takesOneOf_36, b_Reader_takesOneOf_42, f_aloadn0, iv_19_44_75, kk_n, kk_s, w_istore2, pm_lset_0, pm_lset_1, pm_lset_n, pm_no2_n, pm_no2_i, pm_no2_r, pm_no2_l, w_iconst, ki_0, w_istore3, f_iloadn3, f_aloadn1, iv_19_95, w_icmp_ge, pm_tgt_is, Int.cast_ofNat_Int, Int.reduceNeg, Int.reduceAdd, Int.reduceToNat, Int.zero_add, Int.zero_le_ofNat, Int.reduceLE, if_true, if_false, iv_19_100, f_iloadn2, w_icmp_ne, w_dupi, w_dupa, gf_19_30_75, ki_1, w_iadd, pf_19_30_75, pm_fit_b, pm_fit_0, pm_fit_1, w_iret, lg_19, Bool.false_eq_true, f_iinc3, w_goto, ki_m1, hs_75, v4_75, v4_76, v4_79, v4_80, v4_u75, v4_u76, v4_u79, gd_0, gd_s, e1, e2, e3, q1, ni_1]
        exact this
  simp (maxDischargeDepth := 20) (maxSteps := 2000000) only [↓reduceIte, pm_WL_nil, bi_900, bi_901, bi_904, bi_905, pm_lget_0, pm_lget_s, pm_oI_s, pm_oA_s, pm_oJ_s, pm_oK_s, pm_oR_s, pm_oO_s, pm_oN_s, pm_oF_s, pm_oM_s, pm_oP_s, pm_pu_n, pm_pu_s, pm_bo_ne, pm_bo_eq, Nat.reduceAdd, Nat.reduceSub, Nat.reduceLT, Nat.reduceLeDiff, Nat.reduceEqDiff, Nat.zero_add, Nat.lt_add_one, Nat.zero_ne_one, Nat.succ_ne_self, List.length_cons, List.length_nil, true_and, and_true, true_or, or_true, false_or, or_false, false_implies, true_implies, implies_true, not_true_eq_false, not_false_eq_true, ne_eq, eq_self, e_Reader_takesOneOf, pm_okW_0, pm_okW_i, pm_okW_r, pm_okW_l, pm_ent_0, pm_ent_i, pm_ent_r, pm_ent_l, List.reduceReplicate, b_Reader_takesOneOf_0, b_Reader_takesOneOf_15, b_Reader_takesOneOf_24, b_Reader_takesOneOf_36, b_Reader_takesOneOf_42, f_aloadn0, iv_19_44_75, kk_n, kk_s, w_istore2, pm_lset_0, pm_lset_1, pm_lset_n, pm_no2_n, pm_no2_i, pm_no2_r, pm_no2_l, w_iconst, ki_0, w_istore3, f_iloadn3, f_aloadn1, iv_19_95, w_icmp_ge, pm_tgt_is, Int.cast_ofNat_Int, Int.reduceNeg, Int.reduceAdd, Int.reduceToNat, Int.zero_add, Int.zero_le_ofNat, Int.reduceLE, if_true, if_false, iv_19_100, f_iloadn2, w_icmp_ne, w_dupi, w_dupa, gf_19_30_75, ki_1, w_iadd, pf_19_30_75, pm_fit_b, pm_fit_0, pm_fit_1, w_iret, lg_19, Bool.false_eq_true, f_iinc3, w_goto, ki_m1, hs_75, e0]
  exact key ws.length 0 (by omega)
theorem dig_dec : ∀ a, a < 128 → (isD (nI a) ↔ (¬ nI a - 48 < 0 ∧ nI a - 48 ≤ 9)) := by decide +kernel
theorem dig_iff {T : Nat → Int32} {n : Nat} (h : TPE T n) (p : Nat) : isD (T p) ↔ (¬ T p - 48 < 0 ∧ T p - 48 ≤ 9) := by
  by_cases q : p < n
  · obtain ⟨a, ha, e⟩ := h.2.1 p q
    rw [e]; exact dig_dec a ha
  · rw [h.2.2 p (by omega)]; decide
theorem c_isNumberNext {d p n cs : Nat} {T : Nat → Int32} {h : Nat → List Int32} {cd : List Int32} {nm c2 q2 : Int32} {K : Option Value → pm_S → Prop} {g : List Int32} (H : CH T n h) (hp : p ≤ 100) : pm_WC fqP (d + 2) 21 [.ref 75] (mk (V4 h [nI p, nI n, nm] g cd)) K = K (some (.int (bI (numS T p).1))) (mk (V4 h [nI (numS T p).2.1, nI n, if (numS T p).1 = true then nI (numS T p).2.2 else nm] g cd)) := by
  have e0 := fun nm K => @c_sign d p n cs T h cd nm c2 q2 K g H (by omega)
  have e0' := fun nm K => @c_sign d (p + 1) n cs T h cd nm c2 q2 K g H (by omega)
  have i1 := dig_iff H.1 p
  have i2 := dig_iff H.1 (p + 1)
  unfold numS
  by_cases d1 : isD (T p)
  · obtain ⟨a, ha, ea, da, ma⟩ := isD_ex d1
    have z1 := eq_false (i1.mp d1).1
    have z2 := eq_true (i1.mp d1).2
    rw [ma] at z1 z2
    rw [if_pos d1, da]
    by_cases z : a = 0
    · have z3 : (nI a = 0) = True := by rw [z]; exact eq_true rfl
      rw [if_neg (fun q => q.1 z)]
      simp (maxDischargeDepth := 20) (maxSteps := 2000000) only [↓reduceIte, pm_WL_nil, bi_900, bi_901, bi_904, bi_905, pm_lget_0, pm_lget_s, pm_oI_s, pm_oA_s, pm_oJ_s, pm_oK_s, pm_oR_s, pm_oO_s, pm_oN_s, pm_oF_s, pm_oM_s, pm_oP_s, pm_pu_n, pm_pu_s, pm_bo_ne, pm_bo_eq, Nat.reduceAdd, Nat.reduceSub, Nat.reduceLT, Nat.reduceLeDiff, Nat.reduceEqDiff, Nat.zero_add, Nat.lt_add_one, Nat.zero_ne_one, Nat.succ_ne_self, List.length_cons, List.length_nil, true_and, and_true, true_or, or_true, false_or, or_false, false_implies, true_implies, implies_true, not_true_eq_false, not_false_eq_true, ne_eq, eq_self, e_Reader_isNumberNext, pm_okW_0, pm_okW_i, pm_okW_r, pm_okW_l, pm_ent_0, pm_ent_i, pm_ent_r, pm_ent_l, List.reduceReplicate, b_Reader_isNumberNext_0, b_Reader_isNumberNext_12, b_Reader_isNumberNext_18, b_Reader_isNumberNext_20, b_Reader_isNumberNext_47, b_Reader_isNumberNext_51, b_Reader_isNumberNext_57, b_Reader_isNumberNext_77, f_aloadn0, iv_21_44_75, kk_n, kk_s, w_bipush, kb_48, w_isub, w_istore1, pm_lset_0, pm_lset_1, pm_lset_n, pm_no2_n, pm_no2_i, pm_no2_r, pm_no2_l, f_iloadn1, w_if_lt, pm_tgt_is, Int.cast_ofNat_Int, Int.reduceNeg, Int.reduceAdd, Int.reduceToNat, Int.zero_add, Int.zero_le_ofNat, Int.reduceLE, nz_1, nz_m1, if_true, if_false, kb_9, w_icmp_le, w_iconst, ki_0, w_iret, lg_21, pm_fit_b, pm_fit_0, pm_fit_1, Bool.false_eq_true, w_dupi, w_dupa, gf_21_30_75, ki_1, w_iadd, pf_21_30_75, pf_21_61_75, w_istore2, w_if_eq, f_iloadn2, w_icmp_gt, kb_10, w_imul, hs_75, v4_75, v4_76, v4_79, v4_80, v4_u75, v4_u76, v4_u79, gd_0, gd_s, e0, e0', ma, z1, z2, z3, ni_1]
      rfl
    · have z3 : (nI a = 0) = False := by rw [il_eq 0 a (by omega) (by omega)]; exact eq_false z
      by_cases d2 : isD (T (p + 1))
      · obtain ⟨b, hb, eb, db, mb⟩ := isD_ex d2
        have y1 := eq_false (i2.mp d2).1
        have y2 : (9 < T (p + 1) - 48) = False := eq_false (Int32.not_lt.mpr (i2.mp d2).2)
        rw [mb] at y1 y2
        rw [if_pos ⟨z, d2⟩, db]
        have mm : nI a * 10 + nI b = nI (10 * a + b) := by rw [show (10 : Int32) = nI 10 from rfl, ni_mul, ni_add, Nat.mul_comm]
        simp (maxDischargeDepth := 20) (maxSteps := 2000000) only [↓reduceIte, pm_WL_nil, bi_900, bi_901, bi_904, bi_905, pm_lget_0, pm_lget_s, pm_oI_s, pm_oA_s, pm_oJ_s, pm_oK_s, pm_oR_s, pm_oO_s, pm_oN_s, pm_oF_s, pm_oM_s, pm_oP_s, pm_pu_n, pm_pu_s, pm_bo_ne, pm_bo_eq, Nat.reduceAdd, Nat.reduceSub, Nat.reduceLT, Nat.reduceLeDiff, Nat.reduceEqDiff, Nat.zero_add, Nat.lt_add_one, Nat.zero_ne_one, Nat.succ_ne_self, List.length_cons, List.length_nil, true_and, and_true, true_or, or_true, false_or, or_false, false_implies, true_implies, implies_true, not_true_eq_false, not_false_eq_true, ne_eq, eq_self, e_Reader_isNumberNext, pm_okW_0, pm_okW_i, pm_okW_r, pm_okW_l, pm_ent_0, pm_ent_i, pm_ent_r, pm_ent_l, List.reduceReplicate, b_Reader_isNumberNext_0, b_Reader_isNumberNext_12, b_Reader_isNumberNext_18, b_Reader_isNumberNext_20, b_Reader_isNumberNext_47, b_Reader_isNumberNext_51, b_Reader_isNumberNext_57, b_Reader_isNumberNext_77, f_aloadn0, iv_21_44_75, kk_n, kk_s, w_bipush, kb_48, w_isub, w_istore1, pm_lset_0, pm_lset_1, pm_lset_n, pm_no2_n, pm_no2_i, pm_no2_r, pm_no2_l, f_iloadn1, w_if_lt, pm_tgt_is, Int.cast_ofNat_Int, Int.reduceNeg, Int.reduceAdd, Int.reduceToNat, Int.zero_add, Int.zero_le_ofNat, Int.reduceLE, nz_1, nz_m1, if_true, if_false, kb_9, w_icmp_le, w_iconst, ki_0, w_iret, lg_21, pm_fit_b, pm_fit_0, pm_fit_1, Bool.false_eq_true, w_dupi, w_dupa, gf_21_30_75, ki_1, w_iadd, pf_21_30_75, pf_21_61_75, w_istore2, w_if_eq, f_iloadn2, w_icmp_gt, kb_10, w_imul, hs_75, v4_75, v4_76, v4_79, v4_80, v4_u75, v4_u76, v4_u79, gd_0, gd_s, e0, e0', ma, mb, z1, z2, z3, y1, y2, mm, ni_1]
        rfl
      · rw [if_neg (fun q => d2 q.2)]
        by_cases y : T (p + 1) - 48 < 0
        · have y1 := eq_true y
          simp (maxDischargeDepth := 20) (maxSteps := 2000000) only [↓reduceIte, pm_WL_nil, bi_900, bi_901, bi_904, bi_905, pm_lget_0, pm_lget_s, pm_oI_s, pm_oA_s, pm_oJ_s, pm_oK_s, pm_oR_s, pm_oO_s, pm_oN_s, pm_oF_s, pm_oM_s, pm_oP_s, pm_pu_n, pm_pu_s, pm_bo_ne, pm_bo_eq, Nat.reduceAdd, Nat.reduceSub, Nat.reduceLT, Nat.reduceLeDiff, Nat.reduceEqDiff, Nat.zero_add, Nat.lt_add_one, Nat.zero_ne_one, Nat.succ_ne_self, List.length_cons, List.length_nil, true_and, and_true, true_or, or_true, false_or, or_false, false_implies, true_implies, implies_true, not_true_eq_false, not_false_eq_true, ne_eq, eq_self, e_Reader_isNumberNext, pm_okW_0, pm_okW_i, pm_okW_r, pm_okW_l, pm_ent_0, pm_ent_i, pm_ent_r, pm_ent_l, List.reduceReplicate, b_Reader_isNumberNext_0, b_Reader_isNumberNext_12, b_Reader_isNumberNext_18, b_Reader_isNumberNext_20, b_Reader_isNumberNext_47, b_Reader_isNumberNext_51, b_Reader_isNumberNext_57, b_Reader_isNumberNext_77, f_aloadn0, iv_21_44_75, kk_n, kk_s, w_bipush, kb_48, w_isub, w_istore1, pm_lset_0, pm_lset_1, pm_lset_n, pm_no2_n, pm_no2_i, pm_no2_r, pm_no2_l, f_iloadn1, w_if_lt, pm_tgt_is, Int.cast_ofNat_Int, Int.reduceNeg, Int.reduceAdd, Int.reduceToNat, Int.zero_add, Int.zero_le_ofNat, Int.reduceLE, nz_1, nz_m1, if_true, if_false, kb_9, w_icmp_le, w_iconst, ki_0, w_iret, lg_21, pm_fit_b, pm_fit_0, pm_fit_1, Bool.false_eq_true, w_dupi, w_dupa, gf_21_30_75, ki_1, w_iadd, pf_21_30_75, pf_21_61_75, w_istore2, w_if_eq, f_iloadn2, w_icmp_gt, kb_10, w_imul, hs_75, v4_75, v4_76, v4_79, v4_80, v4_u75, v4_u76, v4_u79, gd_0, gd_s, e0, e0', ma, z1, z2, z3, y1, ni_1]
          rfl
        · have y1 := eq_false y
          have y2 : (9 < T (p + 1) - 48) = True := eq_true (Int32.not_le.mp fun q => d2 (i2.mpr ⟨y, q⟩))
          simp (maxDischargeDepth := 20) (maxSteps := 2000000) only [↓reduceIte, pm_WL_nil, bi_900, bi_901, bi_904, bi_905, pm_lget_0, pm_lget_s, pm_oI_s, pm_oA_s, pm_oJ_s, pm_oK_s, pm_oR_s, pm_oO_s, pm_oN_s, pm_oF_s, pm_oM_s, pm_oP_s, pm_pu_n, pm_pu_s, pm_bo_ne, pm_bo_eq, Nat.reduceAdd, Nat.reduceSub, Nat.reduceLT, Nat.reduceLeDiff, Nat.reduceEqDiff, Nat.zero_add, Nat.lt_add_one, Nat.zero_ne_one, Nat.succ_ne_self, List.length_cons, List.length_nil, true_and, and_true, true_or, or_true, false_or, or_false, false_implies, true_implies, implies_true, not_true_eq_false, not_false_eq_true, ne_eq, eq_self, e_Reader_isNumberNext, pm_okW_0, pm_okW_i, pm_okW_r, pm_okW_l, pm_ent_0, pm_ent_i, pm_ent_r, pm_ent_l, List.reduceReplicate, b_Reader_isNumberNext_0, b_Reader_isNumberNext_12, b_Reader_isNumberNext_18, b_Reader_isNumberNext_20, b_Reader_isNumberNext_47, b_Reader_isNumberNext_51, b_Reader_isNumberNext_57, b_Reader_isNumberNext_77, f_aloadn0, iv_21_44_75, kk_n, kk_s, w_bipush, kb_48, w_isub, w_istore1, pm_lset_0, pm_lset_1, pm_lset_n, pm_no2_n, pm_no2_i, pm_no2_r, pm_no2_l, f_iloadn1, w_if_lt, pm_tgt_is, Int.cast_ofNat_Int, Int.reduceNeg, Int.reduceAdd, Int.reduceToNat, Int.zero_add, Int.zero_le_ofNat, Int.reduceLE, nz_1, nz_m1, if_true, if_false, kb_9, w_icmp_le, w_iconst, ki_0, w_iret, lg_21, pm_fit_b, pm_fit_0, pm_fit_1, Bool.false_eq_true, w_dupi, w_dupa, gf_21_30_75, ki_1, w_iadd, pf_21_30_75, pf_21_61_75, w_istore2, w_if_eq, f_iloadn2, w_icmp_gt, kb_10, w_imul, hs_75, v4_75, v4_76, v4_79, v4_80, v4_u75, v4_u76, v4_u79, gd_0, gd_s, e0, e0', ma, z1, z2, z3, y1, y2, ni_1]
          rfl
  · rw [if_neg d1]
    by_cases y : T p - 48 < 0
    · have y1 := eq_true y
      simp (maxDischargeDepth := 20) (maxSteps := 2000000) only [↓reduceIte, pm_WL_nil, bi_900, bi_901, bi_904, bi_905, pm_lget_0, pm_lget_s, pm_oI_s, pm_oA_s, pm_oJ_s, pm_oK_s, pm_oR_s, pm_oO_s, pm_oN_s, pm_oF_s, pm_oM_s, pm_oP_s, pm_pu_n, pm_pu_s, pm_bo_ne, pm_bo_eq, Nat.reduceAdd, Nat.reduceSub, Nat.reduceLT, Nat.reduceLeDiff, Nat.reduceEqDiff, Nat.zero_add, Nat.lt_add_one, Nat.zero_ne_one, Nat.succ_ne_self, List.length_cons, List.length_nil, true_and, and_true, true_or, or_true, false_or, or_false, false_implies, true_implies, implies_true, not_true_eq_false, not_false_eq_true, ne_eq, eq_self, e_Reader_isNumberNext, pm_okW_0, pm_okW_i, pm_okW_r, pm_okW_l, pm_ent_0, pm_ent_i, pm_ent_r, pm_ent_l, List.reduceReplicate, b_Reader_isNumberNext_0, b_Reader_isNumberNext_12, b_Reader_isNumberNext_18, b_Reader_isNumberNext_20, b_Reader_isNumberNext_47, b_Reader_isNumberNext_51, b_Reader_isNumberNext_57, b_Reader_isNumberNext_77, f_aloadn0, iv_21_44_75, kk_n, kk_s, w_bipush, kb_48, w_isub, w_istore1, pm_lset_0, pm_lset_1, pm_lset_n, pm_no2_n, pm_no2_i, pm_no2_r, pm_no2_l, f_iloadn1, w_if_lt, pm_tgt_is, Int.cast_ofNat_Int, Int.reduceNeg, Int.reduceAdd, Int.reduceToNat, Int.zero_add, Int.zero_le_ofNat, Int.reduceLE, nz_1, nz_m1, if_true, if_false, kb_9, w_icmp_le, w_iconst, ki_0, w_iret, lg_21, pm_fit_b, pm_fit_0, pm_fit_1, Bool.false_eq_true, w_dupi, w_dupa, gf_21_30_75, ki_1, w_iadd, pf_21_30_75, pf_21_61_75, w_istore2, w_if_eq, f_iloadn2, w_icmp_gt, kb_10, w_imul, hs_75, v4_75, v4_76, v4_79, v4_80, v4_u75, v4_u76, v4_u79, gd_0, gd_s, e0, y1]
      rfl
    · have y1 := eq_false y
      have y2 : (T p - 48 ≤ 9) = False := eq_false fun q => d1 (i1.mpr ⟨y, q⟩)
      simp (maxDischargeDepth := 20) (maxSteps := 2000000) only [↓reduceIte, pm_WL_nil, bi_900, bi_901, bi_904, bi_905, pm_lget_0, pm_lget_s, pm_oI_s, pm_oA_s, pm_oJ_s, pm_oK_s, pm_oR_s, pm_oO_s, pm_oN_s, pm_oF_s, pm_oM_s, pm_oP_s, pm_pu_n, pm_pu_s, pm_bo_ne, pm_bo_eq, Nat.reduceAdd, Nat.reduceSub, Nat.reduceLT, Nat.reduceLeDiff, Nat.reduceEqDiff, Nat.zero_add, Nat.lt_add_one, Nat.zero_ne_one, Nat.succ_ne_self, List.length_cons, List.length_nil, true_and, and_true, true_or, or_true, false_or, or_false, false_implies, true_implies, implies_true, not_true_eq_false, not_false_eq_true, ne_eq, eq_self, e_Reader_isNumberNext, pm_okW_0, pm_okW_i, pm_okW_r, pm_okW_l, pm_ent_0, pm_ent_i, pm_ent_r, pm_ent_l, List.reduceReplicate, b_Reader_isNumberNext_0, b_Reader_isNumberNext_12, b_Reader_isNumberNext_18, b_Reader_isNumberNext_20, b_Reader_isNumberNext_47, b_Reader_isNumberNext_51, b_Reader_isNumberNext_57, b_Reader_isNumberNext_77, f_aloadn0, iv_21_44_75, kk_n, kk_s, w_bipush, kb_48, w_isub, w_istore1, pm_lset_0, pm_lset_1, pm_lset_n, pm_no2_n, pm_no2_i, pm_no2_r, pm_no2_l, f_iloadn1, w_if_lt, pm_tgt_is, Int.cast_ofNat_Int, Int.reduceNeg, Int.reduceAdd, Int.reduceToNat, Int.zero_add, Int.zero_le_ofNat, Int.reduceLE, nz_1, nz_m1, if_true, if_false, kb_9, w_icmp_le, w_iconst, ki_0, w_iret, lg_21, pm_fit_b, pm_fit_0, pm_fit_1, Bool.false_eq_true, w_dupi, w_dupa, gf_21_30_75, ki_1, w_iadd, pf_21_30_75, pf_21_61_75, w_istore2, w_if_eq, f_iloadn2, w_icmp_gt, kb_10, w_imul, hs_75, v4_75, v4_76, v4_79, v4_80, v4_u75, v4_u76, v4_u79, gd_0, gd_s, e0, y1, y2]
      rfl
theorem c_isWord {d p n cs : Nat} {T : Nat → Int32} {h : Nat → List Int32} {cd : List Int32} {nm c2 q2 : Int32} {K : Option Value → pm_S → Prop} {tx : Nat} {ws : List Int32} {g : List Int32} (H : CH T n h) (hp : p ≤ n) (ht : TXT tx ws) (hws : ∀ i, i < ws.length → ∃ c, c < 200 ∧ gd ws i = nI c) : pm_WC fqP (d + 6) 20 [.ref 75, .ref tx] (mk (V4 h [nI p, nI n, nm] g cd)) K = K (some (.int (bI (wrdS T ws p).1))) (mk (V4 h [nI (wrdS T ws p).2, nI n, nm] g cd)) := by
  obtain ⟨t1, t2, t3⟩ := ht
  have hT := H.1
  have key : ∀ (m i p : Nat), m + i = ws.length → p ≤ n → pm_W fqP (d + 5) 20 2 [some (.ref 75), some (.ref tx), some (.int (nI i))] [] (mk (V4 h [nI p, nI n, nm] g cd)) K = K (some (.int (bI (wrdS T (ws.drop i) p).1))) (mk (V4 h [nI (wrdS T (ws.drop i) p).2, nI n, nm] g cd)) := by
    intro m
    induction m with
    | zero =>
      intro i p hi hp
      have e1 : (nI ws.length ≤ nI i) = True := by rw [ni_le (by omega) (by omega)]; exact eq_true (by omega)
      have e2 := fun d K => @bi_902 d tx (mk (V4 h [nI p, nI n, nm] g cd)) K _ t2
      rw [b_Reader_isWord_2, List.drop_of_length_le (by omega), wrdS]
      simp (maxDischargeDepth := 20) (maxSteps := 2000000) only [↓reduceIte, pm_WL_nil, bi_900, bi_901, bi_904, bi_905, pm_lget_0, pm_lget_s, pm_oI_s, pm_oA_s, pm_oJ_s, pm_oK_s, pm_oR_s, pm_oO_s, pm_oN_s, pm_oF_s, pm_oM_s, pm_oP_s, pm_pu_n, pm_pu_s, pm_bo_ne, pm_bo_eq, Nat.reduceAdd, Nat.reduceSub, Nat.reduceLT, Nat.reduceLeDiff, Nat.reduceEqDiff, Nat.zero_add, Nat.lt_add_one, Nat.zero_ne_one, Nat.succ_ne_self, List.length_cons, List.length_nil, true_and, and_true, true_or, or_true, false_or, or_false, false_implies, true_implies, implies_true, not_true_eq_false, not_false_eq_true, ne_eq, eq_self, e_Reader_isWord, pm_okW_0, pm_okW_i, pm_okW_r, pm_okW_l, pm_ent_0, pm_ent_i, pm_ent_r, pm_ent_l, List.reduceReplicate, b_Reader_isWord_0, b_Reader_isWord_10, b_Reader_isWord_22, b_Reader_isWord_24, b_Reader_isWord_30, w_iconst, ki_0, w_istore2, pm_lset_0, pm_lset_1, pm_lset_n, pm_no2_n, pm_no2_i, pm_no2_r, pm_no2_l, f_iloadn2, f_aloadn1, iv_20_95, kk_n, kk_s, w_icmp_ge, pm_tgt_is, Int.cast_ofNat_Int, Int.reduceNeg, Int.reduceAdd, Int.reduceToNat, Int.zero_add, Int.zero_le_ofNat, Int.reduceLE, if_true, if_false, f_aloadn0, iv_20_100, iv_20_40_75, w_if_ne, nz_1, nz_m1, w_iret, lg_20, pm_fit_b, pm_fit_0, pm_fit_1, Bool.false_eq_true, f_iinc2, ki_1, w_goto, hs_75, v4_75, v4_76, v4_79, v4_80, v4_u75, v4_u76, v4_u79, gd_0, gd_s, e1, e2]
      rfl
    | succ m ih =>
      intro i p hi hp
      have h10 := hT.1
      have e1 : (nI ws.length ≤ nI i) = False := by rw [ni_le (by omega) (by omega)]; exact eq_false (by omega)
      have e2 := fun d K => @bi_902 d tx (mk (V4 h [nI p, nI n, nm] g cd)) K _ t2
      have e3 := fun d K => @bi_903 d tx i (mk (V4 h [nI p, nI n, nm] g cd)) K _ (by omega) (t3 i (by omega))
      rw [b_Reader_isWord_2, drop_c (by omega), wrdS]
      by_cases q : T p = gd ws i
      · rw [if_pos q]
        obtain ⟨c, hc, ec⟩ := hws i (by omega)
        have lt := tp_lt hT (by omega) (q.trans ec)
        have e4 := fun d K => @c_takes_y d p n cs T h cd nm c2 q2 K (gd ws i) g H (by omega) q
        simp (maxDischargeDepth := 20) (maxSteps := 2000000) only [↓reduceIte, pm_WL_nil, bi_900, bi_901, bi_904, bi_905, pm_lget_0, pm_lget_s, pm_oI_s, pm_oA_s, pm_oJ_s, pm_oK_s, pm_oR_s, pm_oO_s, pm_oN_s, pm_oF_s, pm_oM_s, pm_oP_s, pm_pu_n, pm_pu_s, pm_bo_ne, pm_bo_eq, Nat.reduceAdd, Nat.reduceSub, Nat.reduceLT, Nat.reduceLeDiff, Nat.reduceEqDiff, Nat.zero_add, Nat.lt_add_one, Nat.zero_ne_one, Nat.succ_ne_self, List.length_cons, List.length_nil, true_and, and_true, true_or, or_true, false_or, or_false, false_implies, true_implies, implies_true, not_true_eq_false, not_false_eq_true, ne_eq, eq_self, e_Reader_isWord, pm_okW_0, pm_okW_i, pm_okW_r, pm_okW_l, pm_ent_0, pm_ent_i, pm_ent_r, pm_ent_l, List.reduceReplicate, b_Reader_isWord_0, b_Reader_isWord_10, b_Reader_isWord_22, b_Reader_isWord_24, b_Reader_isWord_30, w_iconst, ki_0, w_istore2, pm_lset_0, pm_lset_1, pm_lset_n, pm_no2_n, pm_no2_i, pm_no2_r, pm_no2_l, f_iloadn2, f_aloadn1, iv_20_95, kk_n, kk_s, w_icmp_ge, pm_tgt_is, Int.cast_ofNat_Int, Int.reduceNeg, Int.reduceAdd, Int.reduceToNat, Int.zero_add, Int.zero_le_ofNat, Int.reduceLE, if_true, if_false, f_aloadn0, iv_20_100, iv_20_40_75, w_if_ne, nz_1, nz_m1, w_iret, lg_20, pm_fit_b, pm_fit_0, pm_fit_1, Bool.false_eq_true, f_iinc2, ki_1, w_goto, hs_75, v4_75, v4_76, v4_79, v4_80, v4_u75, v4_u76, v4_u79, gd_0, gd_s, e1, e2, e3, e4, ni_1]
        exact ih (i + 1) (p + 1) (by omega) (by omega)
      · rw [if_neg q]
        have e4 := fun d K => @c_takes_n d p n cs T h cd nm c2 q2 K (gd ws i) g H (by omega) q
        simp (maxDischargeDepth := 20) (maxSteps := 2000000) only [↓reduceIte, pm_WL_nil, bi_900, bi_901, bi_904, bi_905, pm_lget_0, pm_lget_s, pm_oI_s, pm_oA_s, pm_oJ_s, pm_oK_s, pm_oR_s, pm_oO_s, pm_oN_s, pm_oF_s, pm_oM_s, pm_oP_s, pm_pu_n, pm_pu_s, pm_bo_ne, pm_bo_eq, Nat.reduceAdd, Nat.reduceSub, Nat.reduceLT, Nat.reduceLeDiff, Nat.reduceEqDiff, Nat.zero_add, Nat.lt_add_one, Nat.zero_ne_one, Nat.succ_ne_self, List.length_cons, List.length_nil, true_and, and_true, true_or, or_true, false_or, or_false, false_implies, true_implies, implies_true, not_true_eq_false, not_false_eq_true, ne_eq, eq_self, e_Reader_isWord, pm_okW_0, pm_okW_i, pm_okW_r, pm_okW_l, pm_ent_0, pm_ent_i, pm_ent_r, pm_ent_l, List.reduceReplicate, b_Reader_isWord_0, b_Reader_isWord_10, b_Reader_isWord_22, b_Reader_isWord_24, b_Reader_isWord_30, w_iconst, ki_0, w_istore2, pm_lset_0, pm_lset_1, pm_lset_n, pm_no2_n, pm_no2_i, pm_no2_r, pm_no2_l, f_iloadn2, f_aloadn1, iv_20_95, kk_n, kk_s, w_icmp_ge, pm_tgt_is, Int.cast_ofNat_Int, Int.reduceNeg, Int.reduceAdd, Int.reduceToNat, Int.zero_add, Int.zero_le_ofNat, Int.reduceLE, if_true, if_false, f_aloadn0, iv_20_100, iv_20_40_75, w_if_ne, nz_1, nz_m1, w_iret, lg_20, pm_fit_b, pm_fit_0, pm_fit_1, Bool.false_eq_true, f_iinc2, ki_1, w_goto, hs_75, v4_75, v4_76, v4_79, v4_80, v4_u75, v4_u76, v4_u79, gd_0, gd_s, e1, e2, e3, e4, ni_1]
        rfl
  simp (maxDischargeDepth := 20) (maxSteps := 2000000) only [↓reduceIte, pm_WL_nil, bi_900, bi_901, bi_904, bi_905, pm_lget_0, pm_lget_s, pm_oI_s, pm_oA_s, pm_oJ_s, pm_oK_s, pm_oR_s, pm_oO_s, pm_oN_s, pm_oF_s, pm_oM_s, pm_oP_s, pm_pu_n, pm_pu_s, pm_bo_ne, pm_bo_eq, Nat.reduceAdd, Nat.reduceSub, Nat.reduceLT, Nat.reduceLeDiff, Nat.reduceEqDiff, Nat.zero_add, Nat.lt_add_one, Nat.zero_ne_one, Nat.succ_ne_self, List.length_cons, List.length_nil, true_and, and_true, true_or, or_true, false_or, or_false, false_implies, true_implies, implies_true, not_true_eq_false, not_false_eq_true, ne_eq, eq_self, e_Reader_isWord, pm_okW_0, pm_okW_i, pm_okW_r, pm_okW_l, pm_ent_0, pm_ent_i, pm_ent_r, pm_ent_l, List.reduceReplicate, b_Reader_isWord_0, b_Reader_isWord_10, b_Reader_isWord_22, b_Reader_isWord_24, b_Reader_isWord_30, w_iconst, ki_0, w_istore2, pm_lset_0, pm_lset_1, pm_lset_n, pm_no2_n, pm_no2_i, pm_no2_r, pm_no2_l, f_iloadn2, f_aloadn1, iv_20_95, kk_n, kk_s, w_icmp_ge, pm_tgt_is, Int.cast_ofNat_Int, Int.reduceNeg, Int.reduceAdd, Int.reduceToNat, Int.zero_add, Int.zero_le_ofNat, Int.reduceLE, if_true, if_false, f_aloadn0, iv_20_100, iv_20_40_75, w_if_ne, nz_1, nz_m1, w_iret, lg_20, pm_fit_b, pm_fit_0, pm_fit_1, Bool.false_eq_true, f_iinc2, ki_1, w_goto, hs_75]
  exact key ws.length 0 p (by omega) hp
theorem sh_4 : (4 &&& 31 : Int32) = 4 := by decide
theorem sh_8 : (8 &&& 31 : Int32) = 8 := by decide
theorem c_add {d p n cs : Nat} {T : Nat → Int32} {h : Nat → List Int32} {cd : List Int32} {nm c2 q2 : Int32} {K : Option Value → pm_S → Prop} {x y z : Int32} {f75 : List Int32} (hc : cd.length = 100) (hs : cs < 100) : pm_WC fqP (d + 2) 6 [.ref 76, .int x, .int y, .int z] (mk (V4 h f75 [c2, nI cs, q2] cd)) K = K (some (.int (nI cs))) (mk (V4 h f75 [c2, nI (cs + 1), q2] (cd.set cs (x ||| y <<< 4 ||| z <<< 8)))) := by
  have e1 : ∀ v, pt cd (nI cs) v = cd.set cs v := fun v => pt_n (by omega) (by omega)
  have e2 : nI (cs + 1) - 1 = nI cs := ni_dec cs
  simp (maxDischargeDepth := 20) (maxSteps := 2000000) only [↓reduceIte, pm_WL_nil, bi_900, bi_901, bi_904, bi_905, pm_lget_0, pm_lget_s, pm_oI_s, pm_oA_s, pm_oJ_s, pm_oK_s, pm_oR_s, pm_oO_s, pm_oN_s, pm_oF_s, pm_oM_s, pm_oP_s, pm_pu_n, pm_pu_s, pm_bo_ne, pm_bo_eq, Nat.reduceAdd, Nat.reduceSub, Nat.reduceLT, Nat.reduceLeDiff, Nat.reduceEqDiff, Nat.zero_add, Nat.lt_add_one, Nat.zero_ne_one, Nat.succ_ne_self, List.length_cons, List.length_nil, true_and, and_true, true_or, or_true, false_or, or_false, false_implies, true_implies, implies_true, not_true_eq_false, not_false_eq_true, ne_eq, eq_self, e_Bar_add, pm_okW_0, pm_okW_i, pm_okW_r, pm_okW_l, pm_ent_0, pm_ent_i, pm_ent_r, pm_ent_l, List.reduceReplicate, b_Bar_add_0, f_aloadn0, gf_6_18_7, gf_6_18_35, gf_6_18_62, gf_6_18_76, gf_6_28_7, gf_6_28_35, gf_6_28_62, gf_6_28_76, f_iloadn1, f_iloadn2, w_iconst, ki_4, w_ishl, w_ior, f_iloadn3, w_bipush, kb_8, iv_6_31, kk_n, kk_s, w_dupi, w_dupa, ki_1, w_iadd, pf_6_28_7, pf_6_28_35, pf_6_28_62, pf_6_28_76, pm_fit_b, pm_fit_0, pm_fit_1, w_isub, w_iret, lg_6, Bool.false_eq_true, hs_76, f_iald_79, f_alen_79, ia_79, ar_79, f_iast_79, iw_79, hs_79, v4_75, v4_76, v4_79, v4_80, v4_u75, v4_u76, v4_u79, gd_0, gd_s, c_X_put, sh_4, sh_8, e1, e2, ni_1]
theorem c_jump {d p n cs : Nat} {T : Nat → Int32} {h : Nat → List Int32} {cd : List Int32} {nm c2 q2 : Int32} {K : Option Value → pm_S → Prop} {j : Nat} {f75 : List Int32} (hc : cd.length = 100) (hj : j < 100) : pm_WC fqP (d + 2) 7 [.ref 76, .int (nI j)] (mk (V4 h f75 [c2, nI cs, q2] cd)) K = K none (mk (V4 h f75 [c2, nI cs, q2] (cd.set j ((gd cd j &&& (15 : Int32)) ||| (nI cs <<< (8 : Int32)))))) := by
  have e1 : ∀ v, pt cd (nI j) v = cd.set j v := fun v => pt_n (by omega) (by omega)
  have e2 : cl cd (nI j) = gd cd j := cl_n (by omega) (by omega)
  simp (maxDischargeDepth := 20) (maxSteps := 2000000) only [↓reduceIte, pm_WL_nil, bi_900, bi_901, bi_904, bi_905, pm_lget_0, pm_lget_s, pm_oI_s, pm_oA_s, pm_oJ_s, pm_oK_s, pm_oR_s, pm_oO_s, pm_oN_s, pm_oF_s, pm_oM_s, pm_oP_s, pm_pu_n, pm_pu_s, pm_bo_ne, pm_bo_eq, Nat.reduceAdd, Nat.reduceSub, Nat.reduceLT, Nat.reduceLeDiff, Nat.reduceEqDiff, Nat.zero_add, Nat.lt_add_one, Nat.zero_ne_one, Nat.succ_ne_self, List.length_cons, List.length_nil, true_and, and_true, true_or, or_true, false_or, or_false, false_implies, true_implies, implies_true, not_true_eq_false, not_false_eq_true, ne_eq, eq_self, e_Bar_jumpToHere, pm_okW_0, pm_okW_i, pm_okW_r, pm_okW_l, pm_ent_0, pm_ent_i, pm_ent_r, pm_ent_l, List.reduceReplicate, b_Bar_jumpToHere_0, f_aloadn0, gf_7_18_7, gf_7_18_35, gf_7_18_62, gf_7_18_76, f_iloadn1, iv_7_35, kk_n, kk_s, w_bipush, kb_15, w_iand, w_istore2, pm_lset_0, pm_lset_1, pm_lset_n, pm_no2_n, pm_no2_i, pm_no2_r, pm_no2_l, f_iloadn2, gf_7_28_7, gf_7_28_35, gf_7_28_62, gf_7_28_76, kb_8, w_ishl, w_ior, iv_7_31, w_ret, hs_76, f_iald_79, f_alen_79, ia_79, ar_79, f_iast_79, iw_79, hs_79, v4_75, v4_76, v4_79, v4_80, v4_u75, v4_u76, v4_u79, gd_0, gd_s, c_X_put, c_X_cell, sh_4, sh_8, e1, e2]
theorem c_jump_0 {d p n cs : Nat} {T : Nat → Int32} {h : Nat → List Int32} {cd : List Int32} {nm c2 q2 : Int32} {K : Option Value → pm_S → Prop} {f75 : List Int32} : pm_WC fqP (d + 2) 7 [.ref 76, .int (-1)] (mk (V4 h f75 [c2, nI cs, q2] cd)) K = K none (mk (V4 h f75 [c2, nI cs, q2] cd)) := by
  have e1 : ∀ v, pt cd (-1) v = cd := fun v => by unfold pt; rw [if_neg (fun q => absurd q.1 (by decide))]
  simp (maxDischargeDepth := 20) (maxSteps := 2000000) only [↓reduceIte, pm_WL_nil, bi_900, bi_901, bi_904, bi_905, pm_lget_0, pm_lget_s, pm_oI_s, pm_oA_s, pm_oJ_s, pm_oK_s, pm_oR_s, pm_oO_s, pm_oN_s, pm_oF_s, pm_oM_s, pm_oP_s, pm_pu_n, pm_pu_s, pm_bo_ne, pm_bo_eq, Nat.reduceAdd, Nat.reduceSub, Nat.reduceLT, Nat.reduceLeDiff, Nat.reduceEqDiff, Nat.zero_add, Nat.lt_add_one, Nat.zero_ne_one, Nat.succ_ne_self, List.length_cons, List.length_nil, true_and, and_true, true_or, or_true, false_or, or_false, false_implies, true_implies, implies_true, not_true_eq_false, not_false_eq_true, ne_eq, eq_self, e_Bar_jumpToHere, pm_okW_0, pm_okW_i, pm_okW_r, pm_okW_l, pm_ent_0, pm_ent_i, pm_ent_r, pm_ent_l, List.reduceReplicate, b_Bar_jumpToHere_0, f_aloadn0, gf_7_18_7, gf_7_18_35, gf_7_18_62, gf_7_18_76, f_iloadn1, iv_7_35, kk_n, kk_s, w_bipush, kb_15, w_iand, w_istore2, pm_lset_0, pm_lset_1, pm_lset_n, pm_no2_n, pm_no2_i, pm_no2_r, pm_no2_l, f_iloadn2, gf_7_28_7, gf_7_28_35, gf_7_28_62, gf_7_28_76, kb_8, w_ishl, w_ior, iv_7_31, w_ret, hs_76, f_iald_79, f_alen_79, ia_79, ar_79, f_iast_79, iw_79, hs_79, v4_75, v4_76, v4_79, v4_80, v4_u75, v4_u76, v4_u79, gd_0, gd_s, c_X_put, c_X_cell, sh_4, sh_8, e1]
/-! what the code means -/
theorem chd_irr (code f : List Int32) (to : Nat) : ∀ (k k' a : Nat) (is : Bool), 101 ≤ k + a → 101 ≤ k' + a → a < 2 ^ 30 → chd code f to k a is = chd code f to k' a is := by
  intro k
  induction k with
  | zero =>
    intro k' a is h1 h2 _
    cases k' with
    | zero => rfl
    | succ k' => rw [chd, chd, if_neg (by omega)]
  | succ k ih =>
    intro k' a is h1 h2 h3
    cases k' with
    | zero => rw [chd, chd, if_neg (by omega)]
    | succ k' =>
      rw [chd, chd]
      by_cases c : a < to ∧ a < 100
      · rw [if_pos c, if_pos c]
        by_cases c1 : gd code a &&& 15 < 6
        · rw [if_pos c1, if_pos c1]; exact ih _ _ _ (by omega) (by omega) (by omega)
        · rw [if_neg c1, if_neg c1]
          by_cases c2 : gd code a &&& 15 = 6
          · rw [if_pos c2, if_pos c2]; exact ih _ _ _ (by omega) (by omega) (by omega)
          · rw [if_neg c2, if_neg c2]
            by_cases c3 : is = decide (gd code a &&& 15 = 7) ∧ nI a < gd code a >>> 8
            · rw [if_pos c3, if_pos c3]
              obtain ⟨g1, g2, g3⟩ := sh8_n (by omega) c3.2
              exact ih _ _ _ (by omega) (by omega) g2
            · rw [if_neg c3, if_neg c3]; exact ih _ _ _ (by omega) (by omega) (by omega)
      · rw [if_neg c, if_neg c]
def ch2 (code f : List Int32) (to a : Nat) (is : Bool) : Bool := chd code f to 101 a is
theorem ch2_s {code f : List Int32} {to a : Nat} {is : Bool} (h1 : a < to) (h2 : a < 100) : ch2 code f to a is = if gd code a &&& 15 < 6 then ch2 code f to (a + 1) (cmpI ((gd code a >>> 4) &&& 15) (pm_rd f (gd code a &&& 15)) (gd code a >>> 8))
      else if gd code a &&& 15 = 6 then ch2 code f to (a + 1) (!is)
      else if is = decide (gd code a &&& 15 = 7) ∧ nI a < gd code a >>> 8 then ch2 code f to (gd code a >>> 8).toNatClampNeg is
      else ch2 code f to (a + 1) is := by
  unfold ch2
  rw [chd, if_pos ⟨h1, h2⟩]
  by_cases c1 : gd code a &&& 15 < 6
  · rw [if_pos c1, if_pos c1]; exact chd_irr _ _ _ _ _ _ _ (by omega) (by omega) (by omega)
  · rw [if_neg c1, if_neg c1]
    by_cases c2 : gd code a &&& 15 = 6
    · rw [if_pos c2, if_pos c2]; exact chd_irr _ _ _ _ _ _ _ (by omega) (by omega) (by omega)
    · rw [if_neg c2, if_neg c2]
      by_cases c3 : is = decide (gd code a &&& 15 = 7) ∧ nI a < gd code a >>> 8
      · rw [if_pos c3, if_pos c3]
        obtain ⟨g1, g2, g3⟩ := sh8_n (by omega) c3.2
        exact chd_irr _ _ _ _ _ _ _ (by omega) (by omega) g2
      · rw [if_neg c3, if_neg c3]; exact chd_irr _ _ _ _ _ _ _ (by omega) (by omega) (by omega)
def SG (cd : List Int32) (a b : Nat) (L : List Int32) : Prop := ∀ cd2 : List Int32, (∀ i, a ≤ i → i < b → gd cd2 i = gd cd i) → ∀ (f : List Int32) (to : Nat) (is : Bool), b ≤ to → to ≤ 100 → ch2 cd2 f to a is = ch2 cd2 f to b (evL f L)
def JG (cd : List Int32) (a b : Nat) (L : List Int32) : Prop := ∀ cd2 : List Int32, (∀ i, a ≤ i → i < b → gd cd2 i = gd cd i) → ∀ (f : List Int32) (to : Nat) (v : Bool), b ≤ to → to ≤ 100 → ch2 cd2 f to a v = ch2 cd2 f to b (evT f L v)
theorem tst_code : ∀ w, w < 6 → ∀ q, q < 3 → ∀ v, v < 100 → ((nI w ||| nI q <<< 4 ||| nI v <<< 8) &&& 15 = nI w ∧ ((nI w ||| nI q <<< 4 ||| nI v <<< 8) >>> 4) &&& 15 = nI q ∧ (nI w ||| nI q <<< 4 ||| nI v <<< 8) >>> 8 = nI v) := by decide +kernel
theorem tst_step {w q v : Nat} (hw : w < 6) (hq : q < 3) (hv : v < 100) : nI (w + 8 * q + 32 * v) - nI (w + 8 * q + 32 * v) / 8 * 8 = nI w ∧ nI (w + 8 * q + 32 * v) / 8 - nI (w + 8 * q + 32 * v) / 8 / 4 * 4 = nI q ∧ nI (w + 8 * q + 32 * v) / 32 = nI v := by
  rw [show (8 : Int32) = nI 8 from rfl, show (4 : Int32) = nI 4 from rfl, show (32 : Int32) = nI 32 from rfl, ni_mod (by omega) (by omega), ni_div (by omega) (by omega), ni_mod (by omega) (by omega), ni_div (by omega) (by omega)]
  refine ⟨?_, ?_, ?_⟩ <;> congr 1 <;> omega
theorem sg_tst {cd : List Int32} {a w q v : Nat} (hw : w < 6) (hq : q < 3) (hv : v < 100) (ha : a < 100) (e : gd cd a = nI w ||| nI q <<< 4 ||| nI v <<< 8) : SG cd a (a + 1) [nI (w + 8 * q + 32 * v)] := by
  intro cd2 h2 f to is hb ht
  obtain ⟨t1, t2, t3⟩ := tst_code w hw q hq v hv
  obtain ⟨s1, s2, s3⟩ := tst_step hw hq hv
  rw [ch2_s (by omega) ha, h2 a (Nat.le_refl _) (by omega), e, t1, t2, t3, if_pos (by rw [il_lt 6 w (by omega) (by omega)]; exact hw)]
  congr 1
  unfold evL stk stk stk1
  rw [if_pos (nn_plain _ (by omega)), s1, s2, s3]
  rfl
theorem sg_cg {cd cd1 : List Int32} {a b : Nat} {L : List Int32} (h : SG cd a b L) (e : ∀ i, a ≤ i → i < b → gd cd1 i = gd cd i) : SG cd1 a b L := fun cd2 h2 => h cd2 fun i h3 h4 => (h2 i h3 h4).trans (e i h3 h4)
theorem sg_not {cd : List Int32} {a b : Nat} {L : List Int32} (h : SG cd a b L) (hs : SM1 L) (hab : a ≤ b) (hb : b < 100) (e : gd cd b = 6) : SG cd a (b + 1) (L ++ [-1]) := by
  intro cd2 h2 f to is h3 h4
  rw [h cd2 (fun i h5 h6 => h2 i h5 (by omega)) f to is (by omega) h4, ch2_s (by omega) hb, h2 b hab (by omega), e, if_neg (by decide), if_pos (by decide), ev_not hs]
theorem jmp_code : ∀ c, c < 101 → ((((7 : Int32) &&& (15 : Int32)) ||| (nI c <<< (8 : Int32))) &&& 15 = 7 ∧ (((7 : Int32) &&& (15 : Int32)) ||| (nI c <<< (8 : Int32))) >>> 8 = nI c ∧ (((8 : Int32) &&& (15 : Int32)) ||| (nI c <<< (8 : Int32))) &&& 15 = 8 ∧ (((8 : Int32) &&& (15 : Int32)) ||| (nI c <<< (8 : Int32))) >>> 8 = nI c) := by decide +kernel
/-- a jump cell, the piece behind it, and where both meet -/
theorem jg_step {cd : List Int32} {a b : Nat} {L : List Int32} {w jw : Int32} (hw : (w = -2 ∧ jw = 8) ∨ (w = -3 ∧ jw = 7)) (h : SG cd (a + 1) b L) (hb : a + 1 ≤ b) (hb2 : b ≤ 100) (e : gd cd a = (jw &&& (15 : Int32)) ||| (nI b <<< (8 : Int32))) (cd2 : List Int32) (h2 : ∀ i, a ≤ i → i < b → gd cd2 i = gd cd i) (f : List Int32) (to : Nat) (v : Bool) (h3 : b ≤ to) (h4 : to ≤ 100) : ch2 cd2 f to a v = ch2 cd2 f to b (opW w v (evL f L)) := by
  obtain ⟨j1, j2, j3, j4⟩ := jmp_code b (by omega)
  have hseg := h cd2 (fun i h5 h6 => h2 i (by omega) h6) f to v h3 h4
  have hlt : (nI a < nI b) = True := by rw [ni_lt (by omega) (by omega)]; exact eq_true (by omega)
  rw [ch2_s (by omega) (by omega), h2 a (Nat.le_refl _) (by omega), e]
  rcases hw with ⟨rfl, rfl⟩ | ⟨rfl, rfl⟩
  · rw [j3, j4, if_neg (by decide), if_neg (by decide), ni_nat (by omega), hseg]
    cases v
    · rw [if_pos ⟨by decide, of_eq_true hlt⟩]; rfl
    · rw [if_neg (fun q => absurd q.1 (by decide))]; rfl
  · rw [j1, j2, if_neg (by decide), if_neg (by decide), ni_nat (by omega), hseg]
    cases v
    · rw [if_neg (fun q => absurd q.1 (by decide))]; rfl
    · rw [if_pos ⟨by decide, of_eq_true hlt⟩]; rfl
theorem jg_nil (cd : List Int32) (b : Nat) : JG cd b b [] := fun cd2 _ f to v _ _ => rfl
def ntS : Nat → bR → bR
  | 0, r => r
  | j + 1, r => ntS j (notS r)
theorem ntS_no (p : Nat) (L : List Int32) : ∀ j, ntS j (false, p, L) = (false, p, L)
  | 0 => rfl
  | j + 1 => ntS_no p L j
theorem ntS_ok (p : Nat) : ∀ (j : Nat) (L : List Int32), ntS j (true, p, L) = (true, p, L ++ List.replicate j (-1))
  | 0, L => by rw [List.replicate_zero, List.append_nil]; rfl
  | j + 1, L => by
    show ntS j (true, p, L ++ [-1]) = _
    rw [ntS_ok p j, List.append_assoc, List.replicate_succ]; rfl
theorem ntS_of {r : bR} (j : Nat) : ntS j r = if r.1 = true then (true, r.2.1, r.2.2 ++ List.replicate j (-1)) else (false, r.2.1, r.2.2) := by
  obtain ⟨b, p, L⟩ := r
  cases b
  · rw [ntS_no]; rfl
  · rw [ntS_ok]; rfl
theorem sg_nots {cd : List Int32} {a : Nat} (hab : ∀ i, i < 0 → True) : ∀ (j b : Nat) (L : List Int32), SG cd a b L → SM1 L → a ≤ b → b + j ≤ 100 → (∀ i, b ≤ i → i < b + j → gd cd i = 6) → SG cd a (b + j) (L ++ List.replicate j (-1))
  | 0, b, L, h, _, _, _, _ => by rw [List.replicate_zero, List.append_nil]; exact h
  | j + 1, b, L, h, hs, h1, h2, h3 => by
    have := sg_nots hab j (b + 1) (L ++ [-1]) (sg_not h hs h1 (by omega) (h3 b (Nat.le_refl _) (by omega))) (sm_not hs) (by omega) (by omega) fun i h4 h5 => h3 i (by omega) (by omega)
    rw [List.append_assoc] at this
    rw [List.replicate_succ, show b + (j + 1) = b + 1 + j by omega]
    exact this
/-- what a reading call of the class leaves -/
def KQ (h : Nat → List Int32) (n cs p : Nat) (c2 q2 : Int32) (cd : List Int32) (r : bR) (Q : Option Value → pm_S → Prop) : Prop := ∀ (cs' : Nat) (nm' : Int32) (cd' : List Int32), cd'.length = 100 → cs ≤ cs' → cs' + p ≤ cs + r.2.1 → (∀ i, i < cs → gd cd' i = gd cd i) → (r.1 = true → SG cd' cs cs' r.2.2) → Q (some (.int (bI r.1))) (mk (V4 h [nI r.2.1, nI n, nm'] [c2, nI cs', q2] cd'))
def KC (n : Nat) (h : Nat → List Int32) (c2 q2 : Int32) (F : Nat → bR) (m l e : Nat) : Prop := ∀ (d p op cs : Nat) (nm : Int32) (cd : List Int32) (Q : Option Value → pm_S → Prop), cd.length = 100 → p ≤ n → cs ≤ p → op + l = 5 → KQ h n cs p c2 q2 cd (F p) Q → pm_WC fqP (d + 3 * l + e) m [.ref 75, .int (nI op)] (mk (V4 h [nI p, nI n, nm] [c2, (nI cs), q2] cd)) Q
def lpN (T : Nat → Int32) (c w : Int32) (F : Nat → bR) (k p : Nat) : bR := if (F p).1 = true then ((lpM T c w F k (F p).2.1).1, (lpM T c w F k (F p).2.1).2.1, (F p).2.2 ++ w :: (lpM T c w F k (F p).2.1).2.2) else (false, (F p).2.1, (F p).2.2)
theorem lpM_s (T : Nat → Int32) (c w : Int32) (F : Nat → bR) (k p : Nat) : lpM T c w F (k + 1) p = if T p = c then lpN T c w F k (p + 1) else (true, p, []) := rfl
theorem add_j7 : ((7 : Int32) ||| (0 : Int32) <<< (4 : Int32) ||| (0 : Int32) <<< (8 : Int32)) = 7 := by decide
theorem add_j8 : ((8 : Int32) ||| (0 : Int32) <<< (4 : Int32) ||| (0 : Int32) <<< (8 : Int32)) = 8 := by decide
theorem add_n6 : ((6 : Int32) ||| (0 : Int32) <<< (4 : Int32) ||| (0 : Int32) <<< (8 : Int32)) = 6 := by decide
theorem k_isTerm {T : Nat → Int32} {n l : Nat} {h : Nat → List Int32} {c2 q2 : Int32} (H : CH T n h) (hF : KC n h c2 q2 (fz T l) 18 l 7) : KC n h c2 q2 (tz T l) 17 l 8 := by
  intro d p op cs nm cd Q hc hp hcs ho hQ
  have hT := H.1
  have h10 := hT.1
  have gF := gr_fz hT l
  have sF := smf_fz hT l
  -- a piece behind a jump
  have later : ∀ (k i p cs : Nat) (nm : Int32) (cd : List Int32), k + i = 100 → i + 1 ≤ p → p ≤ n → cs + 1 ≤ p → cd.length = 100 → gd cd cs = 8 → (∀ (cs' : Nat) (nm' : Int32) (cd' : List Int32), cd'.length = 100 → cs + 1 ≤ cs' → cs' + p ≤ cs + 1 + (lpN T 38 (-2) (fz T l) k p).2.1 → (∀ i, i < cs → gd cd' i = gd cd i) → ((lpN T 38 (-2) (fz T l) k p).1 = true → JG cd' cs cs' (lpN T 38 (-2) (fz T l) k p).2.2) → Q (some (.int (bI (lpN T 38 (-2) (fz T l) k p).1))) (mk (V4 h [nI (lpN T 38 (-2) (fz T l) k p).2.1, nI n, nm'] [c2, nI cs', q2] cd'))) → pm_W fqP (d + 3 * l + 7) 17 4 [some (.ref 75), some (.int (nI op)), some (.int (nI cs)), some (.int (nI i))] [] (mk (V4 h [nI p, nI n, nm] [c2, (nI (cs + 1)), q2] cd)) Q := by
    intro k
    induction k with
    | zero => intro i p cs nm cd hk hi hp; omega
    | succ k ih =>
      intro i p cs nm cd hk hi hp hcs hc hj hQ
      have i1 : ((100 : Int32) ≤ nI i) = False := by rw [li_le 100 i (by omega) (by omega)]; exact eq_false (by omega)
      obtain ⟨f1, f2, f3, f4⟩ := gF p hp
      rw [b_Reader_isTerm_4]
      simp (maxDischargeDepth := 20) (maxSteps := 2000000) only [↓reduceIte, pm_WL_nil, bi_900, bi_901, bi_904, bi_905, pm_lget_0, pm_lget_s, pm_oI_s, pm_oA_s, pm_oJ_s, pm_oK_s, pm_oR_s, pm_oO_s, pm_oN_s, pm_oF_s, pm_oM_s, pm_oP_s, pm_pu_n, pm_pu_s, pm_bo_ne, pm_bo_eq, Nat.reduceAdd, Nat.reduceSub, Nat.reduceLT, Nat.reduceLeDiff, Nat.reduceEqDiff, Nat.zero_add, Nat.lt_add_one, Nat.zero_ne_one, Nat.succ_ne_self, List.length_cons, List.length_nil, true_and, and_true, true_or, or_true, false_or, or_false, false_implies, true_implies, implies_true, not_true_eq_false, not_false_eq_true, ne_eq, eq_self, e_Reader_isTerm, pm_okW_0, pm_okW_i, pm_okW_r, pm_okW_l, pm_ent_0, pm_ent_i, pm_ent_r, pm_ent_l, List.reduceReplicate, b_Reader_isTerm_0, b_Reader_isTerm_10, b_Reader_isTerm_18, b_Reader_isTerm_20, b_Reader_isTerm_37, b_Reader_isTerm_39, b_Reader_isTerm_57, w_iconst, ki_m1, w_istore2, pm_lset_0, pm_lset_1, pm_lset_n, pm_no2_n, pm_no2_i, pm_no2_r, pm_no2_l, ki_0, w_istore3, f_iloadn3, w_bipush, kb_100, w_icmp_ge, pm_tgt_is, Int.cast_ofNat_Int, Int.reduceNeg, Int.reduceAdd, Int.reduceToNat, Int.zero_add, Int.zero_le_ofNat, Int.reduceLE, if_true, if_false, f_aloadn0, f_iloadn1, iv_17_84_75, kk_n, kk_s, w_if_ne, nz_1, nz_m1, w_iret, lg_17, pm_fit_b, pm_fit_0, pm_fit_1, Bool.false_eq_true, gf_17_12_75, f_iloadn2, iv_17_77_7, iv_17_77_35, iv_17_77_62, iv_17_77_76, kb_38, iv_17_40_75, ki_1, kb_8, iv_17_80_7, iv_17_80_35, iv_17_80_62, iv_17_80_76, f_iinc3, w_goto, hs_75, i1]
      refine hF d p op (cs + 1) nm cd _ hc hp hcs ho ?_
      intro cs1 nm1 cd1 g1 g2 g3 g4 g5
      unfold lpN at hQ
      by_cases o : (fz T l p).1 = true
      · rw [if_pos o] at hQ
        have o1 : bI (fz T l p).1 = 1 := by rw [o]; rfl
        have f5 := f4 o
        have j1 : gd cd1 cs = 8 := by rw [g4 cs (by omega), hj]
        have e2 := fun d f75 K => @c_jump d p n cs1 T h cd1 nm c2 q2 K cs f75 g1 (by omega)
        rw [j1] at e2
        have seg := g5 o
        have gs : ∀ i, cs + 1 ≤ i → i < cs1 → gd (cd1.set cs (((8 : Int32) &&& (15 : Int32)) ||| (nI cs1 <<< (8 : Int32)))) i = gd cd1 i := fun i q1 q2 => gd_ne (by omega)
        have stp := jg_step (Or.inl ⟨rfl, rfl⟩) (sg_cg seg gs) (by omega) (by omega) (gd_eq (by omega))
        rw [lpM_s] at hQ
        by_cases t : T (fz T l p).2.1 = 38
        · have lt := tp_lt (c := 38) hT (by omega) t
          rw [if_pos t] at hQ
          have e3 := fun d g K => @c_takes_y d (fz T l p).2.1 n cs1 T h (cd1.set cs (((8 : Int32) &&& (15 : Int32)) ||| (nI cs1 <<< (8 : Int32)))) nm1 c2 q2 K 38 g H (by omega) t
          have e4 := fun d f75 K => @c_add d p n cs1 T h (cd1.set cs (((8 : Int32) &&& (15 : Int32)) ||| (nI cs1 <<< (8 : Int32)))) nm c2 q2 K 8 0 0 f75 (by rw [len_set, g1]) (by omega)
          rw [add_j8] at e4
          simp only [kk_s, o1]
          simp (maxDischargeDepth := 20) (maxSteps := 2000000) only [↓reduceIte, pm_WL_nil, bi_900, bi_901, bi_904, bi_905, pm_lget_0, pm_lget_s, pm_oI_s, pm_oA_s, pm_oJ_s, pm_oK_s, pm_oR_s, pm_oO_s, pm_oN_s, pm_oF_s, pm_oM_s, pm_oP_s, pm_pu_n, pm_pu_s, pm_bo_ne, pm_bo_eq, Nat.reduceAdd, Nat.reduceSub, Nat.reduceLT, Nat.reduceLeDiff, Nat.reduceEqDiff, Nat.zero_add, Nat.lt_add_one, Nat.zero_ne_one, Nat.succ_ne_self, List.length_cons, List.length_nil, true_and, and_true, true_or, or_true, false_or, or_false, false_implies, true_implies, implies_true, not_true_eq_false, not_false_eq_true, ne_eq, eq_self, e_Reader_isTerm, pm_okW_0, pm_okW_i, pm_okW_r, pm_okW_l, pm_ent_0, pm_ent_i, pm_ent_r, pm_ent_l, List.reduceReplicate, b_Reader_isTerm_0, b_Reader_isTerm_10, b_Reader_isTerm_18, b_Reader_isTerm_20, b_Reader_isTerm_37, b_Reader_isTerm_39, b_Reader_isTerm_57, w_iconst, ki_m1, w_istore2, pm_lset_0, pm_lset_1, pm_lset_n, pm_no2_n, pm_no2_i, pm_no2_r, pm_no2_l, ki_0, w_istore3, f_iloadn3, w_bipush, kb_100, w_icmp_ge, pm_tgt_is, Int.cast_ofNat_Int, Int.reduceNeg, Int.reduceAdd, Int.reduceToNat, Int.zero_add, Int.zero_le_ofNat, Int.reduceLE, if_true, if_false, f_aloadn0, f_iloadn1, iv_17_84_75, kk_n, kk_s, w_if_ne, nz_1, nz_m1, w_iret, lg_17, pm_fit_b, pm_fit_0, pm_fit_1, Bool.false_eq_true, gf_17_12_75, f_iloadn2, iv_17_77_7, iv_17_77_35, iv_17_77_62, iv_17_77_76, kb_38, iv_17_40_75, ki_1, kb_8, iv_17_80_7, iv_17_80_35, iv_17_80_62, iv_17_80_76, f_iinc3, w_goto, hs_75, hs_76, v4_75, v4_76, v4_79, v4_80, v4_u75, v4_u76, v4_u79, gd_0, gd_s, e2, e3, e4, ni_1]
          refine ih (i + 1) _ cs1 nm1 _ (by omega) (by omega) (by omega) (by omega) (by rw [len_set, len_set, g1]) (gd_eq (by rw [len_set]; omega)) ?_
          intro cs' nm' cd' y1 y2 y3 y4 y5
          refine hQ cs' nm' cd' y1 (by omega) ?_ (fun i q => ?_) (fun q => ?_)
          · show cs' + p ≤ cs + 1 + (lpN T 38 (-2) (fz T l) k ((fz T l p).2.1 + 1)).2.1; omega
          · rw [y4 i (by omega), gd_ne (by omega), gd_ne (by omega), g4 i (by omega)]
          · intro cd2 z1 f to v z2 z3
            rw [stp cd2 (fun i q1 q2 => by rw [z1 i q1 (by omega), y4 i q2, gd_ne (by omega)]) f to v (by omega) z3, ev_step (Or.inl rfl) (sF p o)]
            exact y5 q cd2 (fun i q1 q2 => z1 i (by omega) q2) f to _ z2 z3
        · rw [if_neg t] at hQ
          have e3 := fun d g K => @c_takes_n d (fz T l p).2.1 n cs1 T h (cd1.set cs (((8 : Int32) &&& (15 : Int32)) ||| (nI cs1 <<< (8 : Int32)))) nm1 c2 q2 K 38 g H (by omega) t
          simp only [kk_s, o1]
          simp (maxDischargeDepth := 20) (maxSteps := 2000000) only [↓reduceIte, pm_WL_nil, bi_900, bi_901, bi_904, bi_905, pm_lget_0, pm_lget_s, pm_oI_s, pm_oA_s, pm_oJ_s, pm_oK_s, pm_oR_s, pm_oO_s, pm_oN_s, pm_oF_s, pm_oM_s, pm_oP_s, pm_pu_n, pm_pu_s, pm_bo_ne, pm_bo_eq, Nat.reduceAdd, Nat.reduceSub, Nat.reduceLT, Nat.reduceLeDiff, Nat.reduceEqDiff, Nat.zero_add, Nat.lt_add_one, Nat.zero_ne_one, Nat.succ_ne_self, List.length_cons, List.length_nil, true_and, and_true, true_or, or_true, false_or, or_false, false_implies, true_implies, implies_true, not_true_eq_false, not_false_eq_true, ne_eq, eq_self, e_Reader_isTerm, pm_okW_0, pm_okW_i, pm_okW_r, pm_okW_l, pm_ent_0, pm_ent_i, pm_ent_r, pm_ent_l, List.reduceReplicate, b_Reader_isTerm_0, b_Reader_isTerm_10, b_Reader_isTerm_18, b_Reader_isTerm_20, b_Reader_isTerm_37, b_Reader_isTerm_39, b_Reader_isTerm_57, w_iconst, ki_m1, w_istore2, pm_lset_0, pm_lset_1, pm_lset_n, pm_no2_n, pm_no2_i, pm_no2_r, pm_no2_l, ki_0, w_istore3, f_iloadn3, w_bipush, kb_100, w_icmp_ge, pm_tgt_is, Int.cast_ofNat_Int, Int.reduceNeg, Int.reduceAdd, Int.reduceToNat, Int.zero_add, Int.zero_le_ofNat, Int.reduceLE, if_true, if_false, f_aloadn0, f_iloadn1, iv_17_84_75, kk_n, kk_s, w_if_ne, nz_1, nz_m1, w_iret, lg_17, pm_fit_b, pm_fit_0, pm_fit_1, Bool.false_eq_true, gf_17_12_75, f_iloadn2, iv_17_77_7, iv_17_77_35, iv_17_77_62, iv_17_77_76, kb_38, iv_17_40_75, ki_1, kb_8, iv_17_80_7, iv_17_80_35, iv_17_80_62, iv_17_80_76, f_iinc3, w_goto, hs_75, hs_76, v4_75, v4_76, v4_79, v4_80, v4_u75, v4_u76, v4_u79, gd_0, gd_s, e2, e3]
          refine hQ cs1 nm1 _ (by rw [len_set, g1]) (by omega) ?_ (fun i q => ?_) (fun q => ?_)
          · show cs1 + p ≤ cs + 1 + (fz T l p).2.1; omega
          · rw [gd_ne (by omega), g4 i (by omega)]
          · intro cd2 z1 f to v z2 z3
            rw [stp cd2 z1 f to v z2 z3, ev_step (Or.inl rfl) (sF p o)]
            rfl
      · rw [if_neg o] at hQ
        have o1 : bI (fz T l p).1 = 0 := by rw [show (fz T l p).1 = false by simpa using o]; rfl
        simp only [kk_s, o1]
        simp (maxDischargeDepth := 20) (maxSteps := 2000000) only [↓reduceIte, pm_WL_nil, bi_900, bi_901, bi_904, bi_905, pm_lget_0, pm_lget_s, pm_oI_s, pm_oA_s, pm_oJ_s, pm_oK_s, pm_oR_s, pm_oO_s, pm_oN_s, pm_oF_s, pm_oM_s, pm_oP_s, pm_pu_n, pm_pu_s, pm_bo_ne, pm_bo_eq, Nat.reduceAdd, Nat.reduceSub, Nat.reduceLT, Nat.reduceLeDiff, Nat.reduceEqDiff, Nat.zero_add, Nat.lt_add_one, Nat.zero_ne_one, Nat.succ_ne_self, List.length_cons, List.length_nil, true_and, and_true, true_or, or_true, false_or, or_false, false_implies, true_implies, implies_true, not_true_eq_false, not_false_eq_true, ne_eq, eq_self, e_Reader_isTerm, pm_okW_0, pm_okW_i, pm_okW_r, pm_okW_l, pm_ent_0, pm_ent_i, pm_ent_r, pm_ent_l, List.reduceReplicate, b_Reader_isTerm_0, b_Reader_isTerm_10, b_Reader_isTerm_18, b_Reader_isTerm_20, b_Reader_isTerm_37, b_Reader_isTerm_39, b_Reader_isTerm_57, w_iconst, ki_m1, w_istore2, pm_lset_0, pm_lset_1, pm_lset_n, pm_no2_n, pm_no2_i, pm_no2_r, pm_no2_l, ki_0, w_istore3, f_iloadn3, w_bipush, kb_100, w_icmp_ge, pm_tgt_is, Int.cast_ofNat_Int, Int.reduceNeg, Int.reduceAdd, Int.reduceToNat, Int.zero_add, Int.zero_le_ofNat, Int.reduceLE, if_true, if_false, f_aloadn0, f_iloadn1, iv_17_84_75, kk_n, kk_s, w_if_ne, nz_1, nz_m1, w_iret, lg_17, pm_fit_b, pm_fit_0, pm_fit_1, Bool.false_eq_true, gf_17_12_75, f_iloadn2, iv_17_77_7, iv_17_77_35, iv_17_77_62, iv_17_77_76, kb_38, iv_17_40_75, ki_1, kb_8, iv_17_80_7, iv_17_80_35, iv_17_80_62, iv_17_80_76, f_iinc3, w_goto, hs_75]
        exact hQ cs1 nm1 cd1 g1 g2 g3 (fun i q => g4 i (by omega)) (fun q => Bool.noConfusion q)
  obtain ⟨f1, f2, f3, f4⟩ := gF p hp
  simp (maxDischargeDepth := 20) (maxSteps := 2000000) only [↓reduceIte, pm_WL_nil, bi_900, bi_901, bi_904, bi_905, pm_lget_0, pm_lget_s, pm_oI_s, pm_oA_s, pm_oJ_s, pm_oK_s, pm_oR_s, pm_oO_s, pm_oN_s, pm_oF_s, pm_oM_s, pm_oP_s, pm_pu_n, pm_pu_s, pm_bo_ne, pm_bo_eq, Nat.reduceAdd, Nat.reduceSub, Nat.reduceLT, Nat.reduceLeDiff, Nat.reduceEqDiff, Nat.zero_add, Nat.lt_add_one, Nat.zero_ne_one, Nat.succ_ne_self, List.length_cons, List.length_nil, true_and, and_true, true_or, or_true, false_or, or_false, false_implies, true_implies, implies_true, not_true_eq_false, not_false_eq_true, ne_eq, eq_self, e_Reader_isTerm, pm_okW_0, pm_okW_i, pm_okW_r, pm_okW_l, pm_ent_0, pm_ent_i, pm_ent_r, pm_ent_l, List.reduceReplicate, b_Reader_isTerm_0, b_Reader_isTerm_10, b_Reader_isTerm_18, b_Reader_isTerm_20, b_Reader_isTerm_37, b_Reader_isTerm_39, b_Reader_isTerm_57, w_iconst, ki_m1, w_istore2, pm_lset_0, pm_lset_1, pm_lset_n, pm_no2_n, pm_no2_i, pm_no2_r, pm_no2_l, ki_0, w_istore3, f_iloadn3, w_bipush, kb_100, w_icmp_ge, pm_tgt_is, Int.cast_ofNat_Int, Int.reduceNeg, Int.reduceAdd, Int.reduceToNat, Int.zero_add, Int.zero_le_ofNat, Int.reduceLE, if_true, if_false, f_aloadn0, f_iloadn1, iv_17_84_75, kk_n, kk_s, w_if_ne, nz_1, nz_m1, w_iret, lg_17, pm_fit_b, pm_fit_0, pm_fit_1, Bool.false_eq_true, gf_17_12_75, f_iloadn2, iv_17_77_7, iv_17_77_35, iv_17_77_62, iv_17_77_76, kb_38, iv_17_40_75, ki_1, kb_8, iv_17_80_7, iv_17_80_35, iv_17_80_62, iv_17_80_76, f_iinc3, w_goto, hs_75]
  rw [b_Reader_isTerm_4]
  have i1 : ((100 : Int32) ≤ 0) = False := by decide
  simp (maxDischargeDepth := 20) (maxSteps := 2000000) only [↓reduceIte, pm_WL_nil, bi_900, bi_901, bi_904, bi_905, pm_lget_0, pm_lget_s, pm_oI_s, pm_oA_s, pm_oJ_s, pm_oK_s, pm_oR_s, pm_oO_s, pm_oN_s, pm_oF_s, pm_oM_s, pm_oP_s, pm_pu_n, pm_pu_s, pm_bo_ne, pm_bo_eq, Nat.reduceAdd, Nat.reduceSub, Nat.reduceLT, Nat.reduceLeDiff, Nat.reduceEqDiff, Nat.zero_add, Nat.lt_add_one, Nat.zero_ne_one, Nat.succ_ne_self, List.length_cons, List.length_nil, true_and, and_true, true_or, or_true, false_or, or_false, false_implies, true_implies, implies_true, not_true_eq_false, not_false_eq_true, ne_eq, eq_self, e_Reader_isTerm, pm_okW_0, pm_okW_i, pm_okW_r, pm_okW_l, pm_ent_0, pm_ent_i, pm_ent_r, pm_ent_l, List.reduceReplicate, b_Reader_isTerm_0, b_Reader_isTerm_10, b_Reader_isTerm_18, b_Reader_isTerm_20, b_Reader_isTerm_37, b_Reader_isTerm_39, b_Reader_isTerm_57, w_iconst, ki_m1, w_istore2, pm_lset_0, pm_lset_1, pm_lset_n, pm_no2_n, pm_no2_i, pm_no2_r, pm_no2_l, ki_0, w_istore3, f_iloadn3, w_bipush, kb_100, w_icmp_ge, pm_tgt_is, Int.cast_ofNat_Int, Int.reduceNeg, Int.reduceAdd, Int.reduceToNat, Int.zero_add, Int.zero_le_ofNat, Int.reduceLE, if_true, if_false, f_aloadn0, f_iloadn1, iv_17_84_75, kk_n, kk_s, w_if_ne, nz_1, nz_m1, w_iret, lg_17, pm_fit_b, pm_fit_0, pm_fit_1, Bool.false_eq_true, gf_17_12_75, f_iloadn2, iv_17_77_7, iv_17_77_35, iv_17_77_62, iv_17_77_76, kb_38, iv_17_40_75, ki_1, kb_8, iv_17_80_7, iv_17_80_35, iv_17_80_62, iv_17_80_76, f_iinc3, w_goto, hs_75, i1]
  refine hF d p op cs nm cd _ hc hp hcs ho ?_
  intro cs1 nm1 cd1 g1 g2 g3 g4 g5
  unfold tz lpS lpK at hQ
  by_cases o : (fz T l p).1 = true
  · rw [if_pos o] at hQ
    have o1 : bI (fz T l p).1 = 1 := by rw [o]; rfl
    have f5 := f4 o
    have e2 := fun d f75 K => @c_jump_0 d p n cs1 T h cd1 nm c2 q2 K f75
    have seg := g5 o
    have hQ2 := hQ
    rw [show (100 : Nat) = 99 + 1 from rfl, lpM_s] at hQ2
    by_cases t : T (fz T l p).2.1 = 38
    · have lt := tp_lt (c := 38) hT (by omega) t
      rw [if_pos t] at hQ2
      have e3 := fun d g K => @c_takes_y d (fz T l p).2.1 n cs1 T h cd1 nm1 c2 q2 K 38 g H (by omega) t
      have e4 := fun d f75 K => @c_add d p n cs1 T h cd1 nm c2 q2 K 8 0 0 f75 g1 (by omega)
      rw [add_j8] at e4
      simp only [kk_s, o1]
      simp (maxDischargeDepth := 20) (maxSteps := 2000000) only [↓reduceIte, pm_WL_nil, bi_900, bi_901, bi_904, bi_905, pm_lget_0, pm_lget_s, pm_oI_s, pm_oA_s, pm_oJ_s, pm_oK_s, pm_oR_s, pm_oO_s, pm_oN_s, pm_oF_s, pm_oM_s, pm_oP_s, pm_pu_n, pm_pu_s, pm_bo_ne, pm_bo_eq, Nat.reduceAdd, Nat.reduceSub, Nat.reduceLT, Nat.reduceLeDiff, Nat.reduceEqDiff, Nat.zero_add, Nat.lt_add_one, Nat.zero_ne_one, Nat.succ_ne_self, List.length_cons, List.length_nil, true_and, and_true, true_or, or_true, false_or, or_false, false_implies, true_implies, implies_true, not_true_eq_false, not_false_eq_true, ne_eq, eq_self, e_Reader_isTerm, pm_okW_0, pm_okW_i, pm_okW_r, pm_okW_l, pm_ent_0, pm_ent_i, pm_ent_r, pm_ent_l, List.reduceReplicate, b_Reader_isTerm_0, b_Reader_isTerm_10, b_Reader_isTerm_18, b_Reader_isTerm_20, b_Reader_isTerm_37, b_Reader_isTerm_39, b_Reader_isTerm_57, w_iconst, ki_m1, w_istore2, pm_lset_0, pm_lset_1, pm_lset_n, pm_no2_n, pm_no2_i, pm_no2_r, pm_no2_l, ki_0, w_istore3, f_iloadn3, w_bipush, kb_100, w_icmp_ge, pm_tgt_is, Int.cast_ofNat_Int, Int.reduceNeg, Int.reduceAdd, Int.reduceToNat, Int.zero_add, Int.zero_le_ofNat, Int.reduceLE, if_true, if_false, f_aloadn0, f_iloadn1, iv_17_84_75, kk_n, kk_s, w_if_ne, nz_1, nz_m1, w_iret, lg_17, pm_fit_b, pm_fit_0, pm_fit_1, Bool.false_eq_true, gf_17_12_75, f_iloadn2, iv_17_77_7, iv_17_77_35, iv_17_77_62, iv_17_77_76, kb_38, iv_17_40_75, ki_1, kb_8, iv_17_80_7, iv_17_80_35, iv_17_80_62, iv_17_80_76, f_iinc3, w_goto, hs_75, hs_76, v4_75, v4_76, v4_79, v4_80, v4_u75, v4_u76, v4_u79, gd_0, gd_s, e2, e3, e4, ni_1, Int32.zero_add]
      refine later 99 1 _ cs1 nm1 _ rfl (by omega) (by omega) (by omega) (by rw [len_set, g1]) (gd_eq (by omega)) ?_
      intro cs' nm' cd' y1 y2 y3 y4 y5
      refine hQ2 cs' nm' cd' y1 (by omega) ?_ (fun i q => ?_) (fun q => ?_)
      · show cs' + p ≤ cs + (lpN T 38 (-2) (fz T l) 99 ((fz T l p).2.1 + 1)).2.1; omega
      · rw [y4 i (by omega), gd_ne (by omega), g4 i (by omega)]
      · intro cd2 z1 f to is z2 z3
        rw [seg cd2 (fun i q1 q2 => by rw [z1 i q1 (by omega), y4 i q2, gd_ne (by omega)]) f to is (by omega) z3, ev_first (sF p o)]
        exact y5 q cd2 (fun i q1 q2 => z1 i (by omega) q2) f to _ z2 z3
    · rw [if_neg t] at hQ2
      have e3 := fun d g K => @c_takes_n d (fz T l p).2.1 n cs1 T h cd1 nm1 c2 q2 K 38 g H (by omega) t
      simp only [kk_s, o1]
      simp (maxDischargeDepth := 20) (maxSteps := 2000000) only [↓reduceIte, pm_WL_nil, bi_900, bi_901, bi_904, bi_905, pm_lget_0, pm_lget_s, pm_oI_s, pm_oA_s, pm_oJ_s, pm_oK_s, pm_oR_s, pm_oO_s, pm_oN_s, pm_oF_s, pm_oM_s, pm_oP_s, pm_pu_n, pm_pu_s, pm_bo_ne, pm_bo_eq, Nat.reduceAdd, Nat.reduceSub, Nat.reduceLT, Nat.reduceLeDiff, Nat.reduceEqDiff, Nat.zero_add, Nat.lt_add_one, Nat.zero_ne_one, Nat.succ_ne_self, List.length_cons, List.length_nil, true_and, and_true, true_or, or_true, false_or, or_false, false_implies, true_implies, implies_true, not_true_eq_false, not_false_eq_true, ne_eq, eq_self, e_Reader_isTerm, pm_okW_0, pm_okW_i, pm_okW_r, pm_okW_l, pm_ent_0, pm_ent_i, pm_ent_r, pm_ent_l, List.reduceReplicate, b_Reader_isTerm_0, b_Reader_isTerm_10, b_Reader_isTerm_18, b_Reader_isTerm_20, b_Reader_isTerm_37, b_Reader_isTerm_39, b_Reader_isTerm_57, w_iconst, ki_m1, w_istore2, pm_lset_0, pm_lset_1, pm_lset_n, pm_no2_n, pm_no2_i, pm_no2_r, pm_no2_l, ki_0, w_istore3, f_iloadn3, w_bipush, kb_100, w_icmp_ge, pm_tgt_is, Int.cast_ofNat_Int, Int.reduceNeg, Int.reduceAdd, Int.reduceToNat, Int.zero_add, Int.zero_le_ofNat, Int.reduceLE, if_true, if_false, f_aloadn0, f_iloadn1, iv_17_84_75, kk_n, kk_s, w_if_ne, nz_1, nz_m1, w_iret, lg_17, pm_fit_b, pm_fit_0, pm_fit_1, Bool.false_eq_true, gf_17_12_75, f_iloadn2, iv_17_77_7, iv_17_77_35, iv_17_77_62, iv_17_77_76, kb_38, iv_17_40_75, ki_1, kb_8, iv_17_80_7, iv_17_80_35, iv_17_80_62, iv_17_80_76, f_iinc3, w_goto, hs_75, hs_76, v4_75, v4_76, v4_79, v4_80, v4_u75, v4_u76, v4_u79, gd_0, gd_s, e2, e3]
      refine hQ2 cs1 nm1 _ g1 g2 g3 g4 (fun _ => ?_)
      rw [List.append_nil]; exact seg
  · rw [if_neg o] at hQ
    have o1 : bI (fz T l p).1 = 0 := by rw [show (fz T l p).1 = false by simpa using o]; rfl
    simp only [kk_s, o1]
    simp (maxDischargeDepth := 20) (maxSteps := 2000000) only [↓reduceIte, pm_WL_nil, bi_900, bi_901, bi_904, bi_905, pm_lget_0, pm_lget_s, pm_oI_s, pm_oA_s, pm_oJ_s, pm_oK_s, pm_oR_s, pm_oO_s, pm_oN_s, pm_oF_s, pm_oM_s, pm_oP_s, pm_pu_n, pm_pu_s, pm_bo_ne, pm_bo_eq, Nat.reduceAdd, Nat.reduceSub, Nat.reduceLT, Nat.reduceLeDiff, Nat.reduceEqDiff, Nat.zero_add, Nat.lt_add_one, Nat.zero_ne_one, Nat.succ_ne_self, List.length_cons, List.length_nil, true_and, and_true, true_or, or_true, false_or, or_false, false_implies, true_implies, implies_true, not_true_eq_false, not_false_eq_true, ne_eq, eq_self, e_Reader_isTerm, pm_okW_0, pm_okW_i, pm_okW_r, pm_okW_l, pm_ent_0, pm_ent_i, pm_ent_r, pm_ent_l, List.reduceReplicate, b_Reader_isTerm_0, b_Reader_isTerm_10, b_Reader_isTerm_18, b_Reader_isTerm_20, b_Reader_isTerm_37, b_Reader_isTerm_39, b_Reader_isTerm_57, w_iconst, ki_m1, w_istore2, pm_lset_0, pm_lset_1, pm_lset_n, pm_no2_n, pm_no2_i, pm_no2_r, pm_no2_l, ki_0, w_istore3, f_iloadn3, w_bipush, kb_100, w_icmp_ge, pm_tgt_is, Int.cast_ofNat_Int, Int.reduceNeg, Int.reduceAdd, Int.reduceToNat, Int.zero_add, Int.zero_le_ofNat, Int.reduceLE, if_true, if_false, f_aloadn0, f_iloadn1, iv_17_84_75, kk_n, kk_s, w_if_ne, nz_1, nz_m1, w_iret, lg_17, pm_fit_b, pm_fit_0, pm_fit_1, Bool.false_eq_true, gf_17_12_75, f_iloadn2, iv_17_77_7, iv_17_77_35, iv_17_77_62, iv_17_77_76, kb_38, iv_17_40_75, ki_1, kb_8, iv_17_80_7, iv_17_80_35, iv_17_80_62, iv_17_80_76, f_iinc3, w_goto, hs_75]
    exact hQ cs1 nm1 cd1 g1 g2 g3 g4 (fun q => Bool.noConfusion q)
theorem k_isExpression {T : Nat → Int32} {n l : Nat} {h : Nat → List Int32} {c2 q2 : Int32} (H : CH T n h) (hF : KC n h c2 q2 (tz T l) 17 l 8) : KC n h c2 q2 (ez T l) 16 l 9 := by
  intro d p op cs nm cd Q hc hp hcs ho hQ
  have hT := H.1
  have h10 := hT.1
  have gF := gr_tz hT l
  have sF := smf_tz hT l
  -- a piece behind a jump
  have later : ∀ (k i p cs : Nat) (nm : Int32) (cd : List Int32), k + i = 100 → i + 1 ≤ p → p ≤ n → cs + 1 ≤ p → cd.length = 100 → gd cd cs = 7 → (∀ (cs' : Nat) (nm' : Int32) (cd' : List Int32), cd'.length = 100 → cs + 1 ≤ cs' → cs' + p ≤ cs + 1 + (lpN T 124 (-3) (tz T l) k p).2.1 → (∀ i, i < cs → gd cd' i = gd cd i) → ((lpN T 124 (-3) (tz T l) k p).1 = true → JG cd' cs cs' (lpN T 124 (-3) (tz T l) k p).2.2) → Q (some (.int (bI (lpN T 124 (-3) (tz T l) k p).1))) (mk (V4 h [nI (lpN T 124 (-3) (tz T l) k p).2.1, nI n, nm'] [c2, nI cs', q2] cd'))) → pm_W fqP (d + 3 * l + 8) 16 4 [some (.ref 75), some (.int (nI op)), some (.int (nI cs)), some (.int (nI i))] [] (mk (V4 h [nI p, nI n, nm] [c2, (nI (cs + 1)), q2] cd)) Q := by
    intro k
    induction k with
    | zero => intro i p cs nm cd hk hi hp; omega
    | succ k ih =>
      intro i p cs nm cd hk hi hp hcs hc hj hQ
      have i1 : ((100 : Int32) ≤ nI i) = False := by rw [li_le 100 i (by omega) (by omega)]; exact eq_false (by omega)
      obtain ⟨f1, f2, f3, f4⟩ := gF p hp
      rw [b_Reader_isExpression_4]
      simp (maxDischargeDepth := 20) (maxSteps := 2000000) only [↓reduceIte, pm_WL_nil, bi_900, bi_901, bi_904, bi_905, pm_lget_0, pm_lget_s, pm_oI_s, pm_oA_s, pm_oJ_s, pm_oK_s, pm_oR_s, pm_oO_s, pm_oN_s, pm_oF_s, pm_oM_s, pm_oP_s, pm_pu_n, pm_pu_s, pm_bo_ne, pm_bo_eq, Nat.reduceAdd, Nat.reduceSub, Nat.reduceLT, Nat.reduceLeDiff, Nat.reduceEqDiff, Nat.zero_add, Nat.lt_add_one, Nat.zero_ne_one, Nat.succ_ne_self, List.length_cons, List.length_nil, true_and, and_true, true_or, or_true, false_or, or_false, false_implies, true_implies, implies_true, not_true_eq_false, not_false_eq_true, ne_eq, eq_self, e_Reader_isExpression, pm_okW_0, pm_okW_i, pm_okW_r, pm_okW_l, pm_ent_0, pm_ent_i, pm_ent_r, pm_ent_l, List.reduceReplicate, b_Reader_isExpression_0, b_Reader_isExpression_10, b_Reader_isExpression_18, b_Reader_isExpression_20, b_Reader_isExpression_37, b_Reader_isExpression_39, b_Reader_isExpression_57, w_iconst, ki_m1, w_istore2, pm_lset_0, pm_lset_1, pm_lset_n, pm_no2_n, pm_no2_i, pm_no2_r, pm_no2_l, ki_0, w_istore3, f_iloadn3, w_bipush, kb_100, w_icmp_ge, pm_tgt_is, Int.cast_ofNat_Int, Int.reduceNeg, Int.reduceAdd, Int.reduceToNat, Int.zero_add, Int.zero_le_ofNat, Int.reduceLE, if_true, if_false, f_aloadn0, f_iloadn1, iv_16_74_75, kk_n, kk_s, w_if_ne, nz_1, nz_m1, w_iret, lg_16, pm_fit_b, pm_fit_0, pm_fit_1, Bool.false_eq_true, gf_16_12_75, f_iloadn2, iv_16_77_7, iv_16_77_35, iv_16_77_62, iv_16_77_76, kb_124, iv_16_40_75, ki_1, kb_7, iv_16_80_7, iv_16_80_35, iv_16_80_62, iv_16_80_76, f_iinc3, w_goto, hs_75, i1]
      refine hF d p op (cs + 1) nm cd _ hc hp hcs ho ?_
      intro cs1 nm1 cd1 g1 g2 g3 g4 g5
      unfold lpN at hQ
      by_cases o : (tz T l p).1 = true
      · rw [if_pos o] at hQ
        have o1 : bI (tz T l p).1 = 1 := by rw [o]; rfl
        have f5 := f4 o
        have j1 : gd cd1 cs = 7 := by rw [g4 cs (by omega), hj]
        have e2 := fun d f75 K => @c_jump d p n cs1 T h cd1 nm c2 q2 K cs f75 g1 (by omega)
        rw [j1] at e2
        have seg := g5 o
        have gs : ∀ i, cs + 1 ≤ i → i < cs1 → gd (cd1.set cs (((7 : Int32) &&& (15 : Int32)) ||| (nI cs1 <<< (8 : Int32)))) i = gd cd1 i := fun i q1 q2 => gd_ne (by omega)
        have stp := jg_step (Or.inr ⟨rfl, rfl⟩) (sg_cg seg gs) (by omega) (by omega) (gd_eq (by omega))
        rw [lpM_s] at hQ
        by_cases t : T (tz T l p).2.1 = 124
        · have lt := tp_lt (c := 124) hT (by omega) t
          rw [if_pos t] at hQ
          have e3 := fun d g K => @c_takes_y d (tz T l p).2.1 n cs1 T h (cd1.set cs (((7 : Int32) &&& (15 : Int32)) ||| (nI cs1 <<< (8 : Int32)))) nm1 c2 q2 K 124 g H (by omega) t
          have e4 := fun d f75 K => @c_add d p n cs1 T h (cd1.set cs (((7 : Int32) &&& (15 : Int32)) ||| (nI cs1 <<< (8 : Int32)))) nm c2 q2 K 7 0 0 f75 (by rw [len_set, g1]) (by omega)
          rw [add_j7] at e4
          simp only [kk_s, o1]
          simp (maxDischargeDepth := 20) (maxSteps := 2000000) only [↓reduceIte, pm_WL_nil, bi_900, bi_901, bi_904, bi_905, pm_lget_0, pm_lget_s, pm_oI_s, pm_oA_s, pm_oJ_s, pm_oK_s, pm_oR_s, pm_oO_s, pm_oN_s, pm_oF_s, pm_oM_s, pm_oP_s, pm_pu_n, pm_pu_s, pm_bo_ne, pm_bo_eq, Nat.reduceAdd, Nat.reduceSub, Nat.reduceLT, Nat.reduceLeDiff, Nat.reduceEqDiff, Nat.zero_add, Nat.lt_add_one, Nat.zero_ne_one, Nat.succ_ne_self, List.length_cons, List.length_nil, true_and, and_true, true_or, or_true, false_or, or_false, false_implies, true_implies, implies_true, not_true_eq_false, not_false_eq_true, ne_eq, eq_self, e_Reader_isExpression, pm_okW_0, pm_okW_i, pm_okW_r, pm_okW_l, pm_ent_0, pm_ent_i, pm_ent_r, pm_ent_l, List.reduceReplicate, b_Reader_isExpression_0, b_Reader_isExpression_10, b_Reader_isExpression_18, b_Reader_isExpression_20, b_Reader_isExpression_37, b_Reader_isExpression_39, b_Reader_isExpression_57, w_iconst, ki_m1, w_istore2, pm_lset_0, pm_lset_1, pm_lset_n, pm_no2_n, pm_no2_i, pm_no2_r, pm_no2_l, ki_0, w_istore3, f_iloadn3, w_bipush, kb_100, w_icmp_ge, pm_tgt_is, Int.cast_ofNat_Int, Int.reduceNeg, Int.reduceAdd, Int.reduceToNat, Int.zero_add, Int.zero_le_ofNat, Int.reduceLE, if_true, if_false, f_aloadn0, f_iloadn1, iv_16_74_75, kk_n, kk_s, w_if_ne, nz_1, nz_m1, w_iret, lg_16, pm_fit_b, pm_fit_0, pm_fit_1, Bool.false_eq_true, gf_16_12_75, f_iloadn2, iv_16_77_7, iv_16_77_35, iv_16_77_62, iv_16_77_76, kb_124, iv_16_40_75, ki_1, kb_7, iv_16_80_7, iv_16_80_35, iv_16_80_62, iv_16_80_76, f_iinc3, w_goto, hs_75, hs_76, v4_75, v4_76, v4_79, v4_80, v4_u75, v4_u76, v4_u79, gd_0, gd_s, e2, e3, e4, ni_1]
          refine ih (i + 1) _ cs1 nm1 _ (by omega) (by omega) (by omega) (by omega) (by rw [len_set, len_set, g1]) (gd_eq (by rw [len_set]; omega)) ?_
          intro cs' nm' cd' y1 y2 y3 y4 y5
          refine hQ cs' nm' cd' y1 (by omega) ?_ (fun i q => ?_) (fun q => ?_)
          · show cs' + p ≤ cs + 1 + (lpN T 124 (-3) (tz T l) k ((tz T l p).2.1 + 1)).2.1; omega
          · rw [y4 i (by omega), gd_ne (by omega), gd_ne (by omega), g4 i (by omega)]
          · intro cd2 z1 f to v z2 z3
            rw [stp cd2 (fun i q1 q2 => by rw [z1 i q1 (by omega), y4 i q2, gd_ne (by omega)]) f to v (by omega) z3, ev_step (Or.inr rfl) (sF p o)]
            exact y5 q cd2 (fun i q1 q2 => z1 i (by omega) q2) f to _ z2 z3
        · rw [if_neg t] at hQ
          have e3 := fun d g K => @c_takes_n d (tz T l p).2.1 n cs1 T h (cd1.set cs (((7 : Int32) &&& (15 : Int32)) ||| (nI cs1 <<< (8 : Int32)))) nm1 c2 q2 K 124 g H (by omega) t
          simp only [kk_s, o1]
          simp (maxDischargeDepth := 20) (maxSteps := 2000000) only [↓reduceIte, pm_WL_nil, bi_900, bi_901, bi_904, bi_905, pm_lget_0, pm_lget_s, pm_oI_s, pm_oA_s, pm_oJ_s, pm_oK_s, pm_oR_s, pm_oO_s, pm_oN_s, pm_oF_s, pm_oM_s, pm_oP_s, pm_pu_n, pm_pu_s, pm_bo_ne, pm_bo_eq, Nat.reduceAdd, Nat.reduceSub, Nat.reduceLT, Nat.reduceLeDiff, Nat.reduceEqDiff, Nat.zero_add, Nat.lt_add_one, Nat.zero_ne_one, Nat.succ_ne_self, List.length_cons, List.length_nil, true_and, and_true, true_or, or_true, false_or, or_false, false_implies, true_implies, implies_true, not_true_eq_false, not_false_eq_true, ne_eq, eq_self, e_Reader_isExpression, pm_okW_0, pm_okW_i, pm_okW_r, pm_okW_l, pm_ent_0, pm_ent_i, pm_ent_r, pm_ent_l, List.reduceReplicate, b_Reader_isExpression_0, b_Reader_isExpression_10, b_Reader_isExpression_18, b_Reader_isExpression_20, b_Reader_isExpression_37, b_Reader_isExpression_39, b_Reader_isExpression_57, w_iconst, ki_m1, w_istore2, pm_lset_0, pm_lset_1, pm_lset_n, pm_no2_n, pm_no2_i, pm_no2_r, pm_no2_l, ki_0, w_istore3, f_iloadn3, w_bipush, kb_100, w_icmp_ge, pm_tgt_is, Int.cast_ofNat_Int, Int.reduceNeg, Int.reduceAdd, Int.reduceToNat, Int.zero_add, Int.zero_le_ofNat, Int.reduceLE, if_true, if_false, f_aloadn0, f_iloadn1, iv_16_74_75, kk_n, kk_s, w_if_ne, nz_1, nz_m1, w_iret, lg_16, pm_fit_b, pm_fit_0, pm_fit_1, Bool.false_eq_true, gf_16_12_75, f_iloadn2, iv_16_77_7, iv_16_77_35, iv_16_77_62, iv_16_77_76, kb_124, iv_16_40_75, ki_1, kb_7, iv_16_80_7, iv_16_80_35, iv_16_80_62, iv_16_80_76, f_iinc3, w_goto, hs_75, hs_76, v4_75, v4_76, v4_79, v4_80, v4_u75, v4_u76, v4_u79, gd_0, gd_s, e2, e3]
          refine hQ cs1 nm1 _ (by rw [len_set, g1]) (by omega) ?_ (fun i q => ?_) (fun q => ?_)
          · show cs1 + p ≤ cs + 1 + (tz T l p).2.1; omega
          · rw [gd_ne (by omega), g4 i (by omega)]
          · intro cd2 z1 f to v z2 z3
            rw [stp cd2 z1 f to v z2 z3, ev_step (Or.inr rfl) (sF p o)]
            rfl
      · rw [if_neg o] at hQ
        have o1 : bI (tz T l p).1 = 0 := by rw [show (tz T l p).1 = false by simpa using o]; rfl
        simp only [kk_s, o1]
        simp (maxDischargeDepth := 20) (maxSteps := 2000000) only [↓reduceIte, pm_WL_nil, bi_900, bi_901, bi_904, bi_905, pm_lget_0, pm_lget_s, pm_oI_s, pm_oA_s, pm_oJ_s, pm_oK_s, pm_oR_s, pm_oO_s, pm_oN_s, pm_oF_s, pm_oM_s, pm_oP_s, pm_pu_n, pm_pu_s, pm_bo_ne, pm_bo_eq, Nat.reduceAdd, Nat.reduceSub, Nat.reduceLT, Nat.reduceLeDiff, Nat.reduceEqDiff, Nat.zero_add, Nat.lt_add_one, Nat.zero_ne_one, Nat.succ_ne_self, List.length_cons, List.length_nil, true_and, and_true, true_or, or_true, false_or, or_false, false_implies, true_implies, implies_true, not_true_eq_false, not_false_eq_true, ne_eq, eq_self, e_Reader_isExpression, pm_okW_0, pm_okW_i, pm_okW_r, pm_okW_l, pm_ent_0, pm_ent_i, pm_ent_r, pm_ent_l, List.reduceReplicate, b_Reader_isExpression_0, b_Reader_isExpression_10, b_Reader_isExpression_18, b_Reader_isExpression_20, b_Reader_isExpression_37, b_Reader_isExpression_39, b_Reader_isExpression_57, w_iconst, ki_m1, w_istore2, pm_lset_0, pm_lset_1, pm_lset_n, pm_no2_n, pm_no2_i, pm_no2_r, pm_no2_l, ki_0, w_istore3, f_iloadn3, w_bipush, kb_100, w_icmp_ge, pm_tgt_is, Int.cast_ofNat_Int, Int.reduceNeg, Int.reduceAdd, Int.reduceToNat, Int.zero_add, Int.zero_le_ofNat, Int.reduceLE, if_true, if_false, f_aloadn0, f_iloadn1, iv_16_74_75, kk_n, kk_s, w_if_ne, nz_1, nz_m1, w_iret, lg_16, pm_fit_b, pm_fit_0, pm_fit_1, Bool.false_eq_true, gf_16_12_75, f_iloadn2, iv_16_77_7, iv_16_77_35, iv_16_77_62, iv_16_77_76, kb_124, iv_16_40_75, ki_1, kb_7, iv_16_80_7, iv_16_80_35, iv_16_80_62, iv_16_80_76, f_iinc3, w_goto, hs_75]
        exact hQ cs1 nm1 cd1 g1 g2 g3 (fun i q => g4 i (by omega)) (fun q => Bool.noConfusion q)
  obtain ⟨f1, f2, f3, f4⟩ := gF p hp
  simp (maxDischargeDepth := 20) (maxSteps := 2000000) only [↓reduceIte, pm_WL_nil, bi_900, bi_901, bi_904, bi_905, pm_lget_0, pm_lget_s, pm_oI_s, pm_oA_s, pm_oJ_s, pm_oK_s, pm_oR_s, pm_oO_s, pm_oN_s, pm_oF_s, pm_oM_s, pm_oP_s, pm_pu_n, pm_pu_s, pm_bo_ne, pm_bo_eq, Nat.reduceAdd, Nat.reduceSub, Nat.reduceLT, Nat.reduceLeDiff, Nat.reduceEqDiff, Nat.zero_add, Nat.lt_add_one, Nat.zero_ne_one, Nat.succ_ne_self, List.length_cons, List.length_nil, true_and, and_true, true_or, or_true, false_or, or_false, false_implies, true_implies, implies_true, not_true_eq_false, not_false_eq_true, ne_eq, eq_self, e_Reader_isExpression, pm_okW_0, pm_okW_i, pm_okW_r, pm_okW_l, pm_ent_0, pm_ent_i, pm_ent_r, pm_ent_l, List.reduceReplicate, b_Reader_isExpression_0, b_Reader_isExpression_10, b_Reader_isExpression_18, b_Reader_isExpression_20, b_Reader_isExpression_37, b_Reader_isExpression_39, b_Reader_isExpression_57, w_iconst, ki_m1, w_istore2, pm_lset_0, pm_lset_1, pm_lset_n, pm_no2_n, pm_no2_i, pm_no2_r, pm_no2_l, ki_0, w_istore3, f_iloadn3, w_bipush, kb_100, w_icmp_ge, pm_tgt_is, Int.cast_ofNat_Int, Int.reduceNeg, Int.reduceAdd, Int.reduceToNat, Int.zero_add, Int.zero_le_ofNat, Int.reduceLE, if_true, if_false, f_aloadn0, f_iloadn1, iv_16_74_75, kk_n, kk_s, w_if_ne, nz_1, nz_m1, w_iret, lg_16, pm_fit_b, pm_fit_0, pm_fit_1, Bool.false_eq_true, gf_16_12_75, f_iloadn2, iv_16_77_7, iv_16_77_35, iv_16_77_62, iv_16_77_76, kb_124, iv_16_40_75, ki_1, kb_7, iv_16_80_7, iv_16_80_35, iv_16_80_62, iv_16_80_76, f_iinc3, w_goto, hs_75]
  rw [b_Reader_isExpression_4]
  have i1 : ((100 : Int32) ≤ 0) = False := by decide
  simp (maxDischargeDepth := 20) (maxSteps := 2000000) only [↓reduceIte, pm_WL_nil, bi_900, bi_901, bi_904, bi_905, pm_lget_0, pm_lget_s, pm_oI_s, pm_oA_s, pm_oJ_s, pm_oK_s, pm_oR_s, pm_oO_s, pm_oN_s, pm_oF_s, pm_oM_s, pm_oP_s, pm_pu_n, pm_pu_s, pm_bo_ne, pm_bo_eq, Nat.reduceAdd, Nat.reduceSub, Nat.reduceLT, Nat.reduceLeDiff, Nat.reduceEqDiff, Nat.zero_add, Nat.lt_add_one, Nat.zero_ne_one, Nat.succ_ne_self, List.length_cons, List.length_nil, true_and, and_true, true_or, or_true, false_or, or_false, false_implies, true_implies, implies_true, not_true_eq_false, not_false_eq_true, ne_eq, eq_self, e_Reader_isExpression, pm_okW_0, pm_okW_i, pm_okW_r, pm_okW_l, pm_ent_0, pm_ent_i, pm_ent_r, pm_ent_l, List.reduceReplicate, b_Reader_isExpression_0, b_Reader_isExpression_10, b_Reader_isExpression_18, b_Reader_isExpression_20, b_Reader_isExpression_37, b_Reader_isExpression_39, b_Reader_isExpression_57, w_iconst, ki_m1, w_istore2, pm_lset_0, pm_lset_1, pm_lset_n, pm_no2_n, pm_no2_i, pm_no2_r, pm_no2_l, ki_0, w_istore3, f_iloadn3, w_bipush, kb_100, w_icmp_ge, pm_tgt_is, Int.cast_ofNat_Int, Int.reduceNeg, Int.reduceAdd, Int.reduceToNat, Int.zero_add, Int.zero_le_ofNat, Int.reduceLE, if_true, if_false, f_aloadn0, f_iloadn1, iv_16_74_75, kk_n, kk_s, w_if_ne, nz_1, nz_m1, w_iret, lg_16, pm_fit_b, pm_fit_0, pm_fit_1, Bool.false_eq_true, gf_16_12_75, f_iloadn2, iv_16_77_7, iv_16_77_35, iv_16_77_62, iv_16_77_76, kb_124, iv_16_40_75, ki_1, kb_7, iv_16_80_7, iv_16_80_35, iv_16_80_62, iv_16_80_76, f_iinc3, w_goto, hs_75, i1]
  refine hF d p op cs nm cd _ hc hp hcs ho ?_
  intro cs1 nm1 cd1 g1 g2 g3 g4 g5
  unfold ez lpS lpK at hQ
  by_cases o : (tz T l p).1 = true
  · rw [if_pos o] at hQ
    have o1 : bI (tz T l p).1 = 1 := by rw [o]; rfl
    have f5 := f4 o
    have e2 := fun d f75 K => @c_jump_0 d p n cs1 T h cd1 nm c2 q2 K f75
    have seg := g5 o
    have hQ2 := hQ
    rw [show (100 : Nat) = 99 + 1 from rfl, lpM_s] at hQ2
    by_cases t : T (tz T l p).2.1 = 124
    · have lt := tp_lt (c := 124) hT (by omega) t
      rw [if_pos t] at hQ2
      have e3 := fun d g K => @c_takes_y d (tz T l p).2.1 n cs1 T h cd1 nm1 c2 q2 K 124 g H (by omega) t
      have e4 := fun d f75 K => @c_add d p n cs1 T h cd1 nm c2 q2 K 7 0 0 f75 g1 (by omega)
      rw [add_j7] at e4
      simp only [kk_s, o1]
      simp (maxDischargeDepth := 20) (maxSteps := 2000000) only [↓reduceIte, pm_WL_nil, bi_900, bi_901, bi_904, bi_905, pm_lget_0, pm_lget_s, pm_oI_s, pm_oA_s, pm_oJ_s, pm_oK_s, pm_oR_s, pm_oO_s, pm_oN_s, pm_oF_s, pm_oM_s, pm_oP_s, pm_pu_n, pm_pu_s, pm_bo_ne, pm_bo_eq, Nat.reduceAdd, Nat.reduceSub, Nat.reduceLT, Nat.reduceLeDiff, Nat.reduceEqDiff, Nat.zero_add, Nat.lt_add_one, Nat.zero_ne_one, Nat.succ_ne_self, List.length_cons, List.length_nil, true_and, and_true, true_or, or_true, false_or, or_false, false_implies, true_implies, implies_true, not_true_eq_false, not_false_eq_true, ne_eq, eq_self, e_Reader_isExpression, pm_okW_0, pm_okW_i, pm_okW_r, pm_okW_l, pm_ent_0, pm_ent_i, pm_ent_r, pm_ent_l, List.reduceReplicate, b_Reader_isExpression_0, b_Reader_isExpression_10, b_Reader_isExpression_18, b_Reader_isExpression_20, b_Reader_isExpression_37, b_Reader_isExpression_39, b_Reader_isExpression_57, w_iconst, ki_m1, w_istore2, pm_lset_0, pm_lset_1, pm_lset_n, pm_no2_n, pm_no2_i, pm_no2_r, pm_no2_l, ki_0, w_istore3, f_iloadn3, w_bipush, kb_100, w_icmp_ge, pm_tgt_is, Int.cast_ofNat_Int, Int.reduceNeg, Int.reduceAdd, Int.reduceToNat, Int.zero_add, Int.zero_le_ofNat, Int.reduceLE, if_true, if_false, f_aloadn0, f_iloadn1, iv_16_74_75, kk_n, kk_s, w_if_ne, nz_1, nz_m1, w_iret, lg_16, pm_fit_b, pm_fit_0, pm_fit_1, Bool.false_eq_true, gf_16_12_75, f_iloadn2, iv_16_77_7, iv_16_77_35, iv_16_77_62, iv_16_77_76, kb_124, iv_16_40_75, ki_1, kb_7, iv_16_80_7, iv_16_80_35, iv_16_80_62, iv_16_80_76, f_iinc3, w_goto, hs_75, hs_76, v4_75, v4_76, v4_79, v4_80, v4_u75, v4_u76, v4_u79, gd_0, gd_s, e2, e3, e4, ni_1, Int32.zero_add]
      refine later 99 1 _ cs1 nm1 _ rfl (by omega) (by omega) (by omega) (by rw [len_set, g1]) (gd_eq (by omega)) ?_
      intro cs' nm' cd' y1 y2 y3 y4 y5
      refine hQ2 cs' nm' cd' y1 (by omega) ?_ (fun i q => ?_) (fun q => ?_)
      · show cs' + p ≤ cs + (lpN T 124 (-3) (tz T l) 99 ((tz T l p).2.1 + 1)).2.1; omega
      · rw [y4 i (by omega), gd_ne (by omega), g4 i (by omega)]
      · intro cd2 z1 f to is z2 z3
        rw [seg cd2 (fun i q1 q2 => by rw [z1 i q1 (by omega), y4 i q2, gd_ne (by omega)]) f to is (by omega) z3, ev_first (sF p o)]
        exact y5 q cd2 (fun i q1 q2 => z1 i (by omega) q2) f to _ z2 z3
    · rw [if_neg t] at hQ2
      have e3 := fun d g K => @c_takes_n d (tz T l p).2.1 n cs1 T h cd1 nm1 c2 q2 K 124 g H (by omega) t
      simp only [kk_s, o1]
      simp (maxDischargeDepth := 20) (maxSteps := 2000000) only [↓reduceIte, pm_WL_nil, bi_900, bi_901, bi_904, bi_905, pm_lget_0, pm_lget_s, pm_oI_s, pm_oA_s, pm_oJ_s, pm_oK_s, pm_oR_s, pm_oO_s, pm_oN_s, pm_oF_s, pm_oM_s, pm_oP_s, pm_pu_n, pm_pu_s, pm_bo_ne, pm_bo_eq, Nat.reduceAdd, Nat.reduceSub, Nat.reduceLT, Nat.reduceLeDiff, Nat.reduceEqDiff, Nat.zero_add, Nat.lt_add_one, Nat.zero_ne_one, Nat.succ_ne_self, List.length_cons, List.length_nil, true_and, and_true, true_or, or_true, false_or, or_false, false_implies, true_implies, implies_true, not_true_eq_false, not_false_eq_true, ne_eq, eq_self, e_Reader_isExpression, pm_okW_0, pm_okW_i, pm_okW_r, pm_okW_l, pm_ent_0, pm_ent_i, pm_ent_r, pm_ent_l, List.reduceReplicate, b_Reader_isExpression_0, b_Reader_isExpression_10, b_Reader_isExpression_18, b_Reader_isExpression_20, b_Reader_isExpression_37, b_Reader_isExpression_39, b_Reader_isExpression_57, w_iconst, ki_m1, w_istore2, pm_lset_0, pm_lset_1, pm_lset_n, pm_no2_n, pm_no2_i, pm_no2_r, pm_no2_l, ki_0, w_istore3, f_iloadn3, w_bipush, kb_100, w_icmp_ge, pm_tgt_is, Int.cast_ofNat_Int, Int.reduceNeg, Int.reduceAdd, Int.reduceToNat, Int.zero_add, Int.zero_le_ofNat, Int.reduceLE, if_true, if_false, f_aloadn0, f_iloadn1, iv_16_74_75, kk_n, kk_s, w_if_ne, nz_1, nz_m1, w_iret, lg_16, pm_fit_b, pm_fit_0, pm_fit_1, Bool.false_eq_true, gf_16_12_75, f_iloadn2, iv_16_77_7, iv_16_77_35, iv_16_77_62, iv_16_77_76, kb_124, iv_16_40_75, ki_1, kb_7, iv_16_80_7, iv_16_80_35, iv_16_80_62, iv_16_80_76, f_iinc3, w_goto, hs_75, hs_76, v4_75, v4_76, v4_79, v4_80, v4_u75, v4_u76, v4_u79, gd_0, gd_s, e2, e3]
      refine hQ2 cs1 nm1 _ g1 g2 g3 g4 (fun _ => ?_)
      rw [List.append_nil]; exact seg
  · rw [if_neg o] at hQ
    have o1 : bI (tz T l p).1 = 0 := by rw [show (tz T l p).1 = false by simpa using o]; rfl
    simp only [kk_s, o1]
    simp (maxDischargeDepth := 20) (maxSteps := 2000000) only [↓reduceIte, pm_WL_nil, bi_900, bi_901, bi_904, bi_905, pm_lget_0, pm_lget_s, pm_oI_s, pm_oA_s, pm_oJ_s, pm_oK_s, pm_oR_s, pm_oO_s, pm_oN_s, pm_oF_s, pm_oM_s, pm_oP_s, pm_pu_n, pm_pu_s, pm_bo_ne, pm_bo_eq, Nat.reduceAdd, Nat.reduceSub, Nat.reduceLT, Nat.reduceLeDiff, Nat.reduceEqDiff, Nat.zero_add, Nat.lt_add_one, Nat.zero_ne_one, Nat.succ_ne_self, List.length_cons, List.length_nil, true_and, and_true, true_or, or_true, false_or, or_false, false_implies, true_implies, implies_true, not_true_eq_false, not_false_eq_true, ne_eq, eq_self, e_Reader_isExpression, pm_okW_0, pm_okW_i, pm_okW_r, pm_okW_l, pm_ent_0, pm_ent_i, pm_ent_r, pm_ent_l, List.reduceReplicate, b_Reader_isExpression_0, b_Reader_isExpression_10, b_Reader_isExpression_18, b_Reader_isExpression_20, b_Reader_isExpression_37, b_Reader_isExpression_39, b_Reader_isExpression_57, w_iconst, ki_m1, w_istore2, pm_lset_0, pm_lset_1, pm_lset_n, pm_no2_n, pm_no2_i, pm_no2_r, pm_no2_l, ki_0, w_istore3, f_iloadn3, w_bipush, kb_100, w_icmp_ge, pm_tgt_is, Int.cast_ofNat_Int, Int.reduceNeg, Int.reduceAdd, Int.reduceToNat, Int.zero_add, Int.zero_le_ofNat, Int.reduceLE, if_true, if_false, f_aloadn0, f_iloadn1, iv_16_74_75, kk_n, kk_s, w_if_ne, nz_1, nz_m1, w_iret, lg_16, pm_fit_b, pm_fit_0, pm_fit_1, Bool.false_eq_true, gf_16_12_75, f_iloadn2, iv_16_77_7, iv_16_77_35, iv_16_77_62, iv_16_77_76, kb_124, iv_16_40_75, ki_1, kb_7, iv_16_80_7, iv_16_80_35, iv_16_80_62, iv_16_80_76, f_iinc3, w_goto, hs_75]
    exact hQ cs1 nm1 cd1 g1 g2 g3 g4 (fun q => Bool.noConfusion q)
/-- the nots behind a piece -/
theorem k_nots {T : Nat → Int32} {n d op inn : Nat} {h : Nat → List Int32} {c2 q2 : Int32} {f75 : List Int32} {x4 : Option Value} {Q : Option Value → pm_S → Prop} (hin : inn ≤ 5) : ∀ (j i cs : Nat) (cd : List Int32), j + i = inn → cs + j ≤ 100 → cd.length = 100 → (∀ cd' : List Int32, cd'.length = 100 → (∀ i, i < cs → gd cd' i = gd cd i) → (∀ i, cs ≤ i → i < cs + j → gd cd' i = 6) → Q (some (.int 1)) (mk (V4 h f75 [c2, nI (cs + j), q2] cd'))) → pm_W fqP (d + 2) 18 115 [some (.ref 75), some (.int (nI op)), some (.int (nI inn)), some (.int (nI i)), x4] [] (mk (V4 h f75 [c2, nI cs, q2] cd)) Q := by
  intro j
  induction j with
  | zero =>
    intro i cs cd hi hs hc hQ
    have e1 : (nI inn ≤ nI i) = True := by rw [ni_le (by omega) (by omega)]; exact eq_true (by omega)
    rw [b_Reader_isFactor_115]
    simp (maxDischargeDepth := 20) (maxSteps := 2000000) only [↓reduceIte, pm_WL_nil, bi_900, bi_901, bi_904, bi_905, pm_lget_0, pm_lget_s, pm_oI_s, pm_oA_s, pm_oJ_s, pm_oK_s, pm_oR_s, pm_oO_s, pm_oN_s, pm_oF_s, pm_oM_s, pm_oP_s, pm_pu_n, pm_pu_s, pm_bo_ne, pm_bo_eq, Nat.reduceAdd, Nat.reduceSub, Nat.reduceLT, Nat.reduceLeDiff, Nat.reduceEqDiff, Nat.zero_add, Nat.lt_add_one, Nat.zero_ne_one, Nat.succ_ne_self, List.length_cons, List.length_nil, true_and, and_true, true_or, or_true, false_or, or_false, false_implies, true_implies, implies_true, not_true_eq_false, not_false_eq_true, ne_eq, eq_self, e_Reader_isFactor, pm_okW_0, pm_okW_i, pm_okW_r, pm_okW_l, pm_ent_0, pm_ent_i, pm_ent_r, pm_ent_l, List.reduceReplicate, b_Reader_isFactor_0, b_Reader_isFactor_7, b_Reader_isFactor_16, b_Reader_isFactor_22, b_Reader_isFactor_27, b_Reader_isFactor_36, b_Reader_isFactor_46, b_Reader_isFactor_55, b_Reader_isFactor_57, b_Reader_isFactor_68, b_Reader_isFactor_72, b_Reader_isFactor_78, b_Reader_isFactor_84, b_Reader_isFactor_89, b_Reader_isFactor_96, b_Reader_isFactor_98, b_Reader_isFactor_113, b_Reader_isFactor_120, b_Reader_isFactor_138, f_iloadn1, w_istore2, pm_lset_0, pm_lset_1, pm_lset_n, pm_no2_n, pm_no2_i, pm_no2_r, pm_no2_l, f_iloadn2, w_iconst, ki_5, w_icmp_ge, pm_tgt_is, Int.cast_ofNat_Int, Int.reduceNeg, Int.reduceAdd, Int.reduceToNat, Int.zero_add, Int.zero_le_ofNat, Int.reduceLE, if_true, if_false, f_aloadn0, w_bipush, kb_33, iv_18_40_75, kk_n, kk_s, w_if_eq, nz_1, nz_m1, f_iinc2, ki_1, w_goto, kb_40, w_iadd, iv_18_71_75, kb_41, w_if_ne, ki_0, w_iret, lg_18, pm_fit_b, pm_fit_0, pm_fit_1, Bool.false_eq_true, w_ldc, lk_3_87, pm_oC_i, pm_oC_r, iv_18_89_75, w_istore3, f_iloadn3, w_if_ge, ki_m1, lk_3_93, w_istore, w_if_lt, f_iload4, iv_18_58_75, gf_18_12_75, gf_18_61_75, iv_18_80_7, iv_18_80_35, iv_18_80_62, iv_18_80_76, w_popi, w_popa, kb_6, f_iinc3, hs_75, hs_76, v4_75, v4_76, v4_79, v4_80, v4_u75, v4_u76, v4_u79, gd_0, gd_s, e1]
    exact hQ cd hc (fun _ _ => rfl) fun i h1 h2 => absurd h2 (by omega)
  | succ j ih =>
    intro i cs cd hi hs hc hQ
    have e1 : (nI inn ≤ nI i) = False := by rw [ni_le (by omega) (by omega)]; exact eq_false (by omega)
    have e4 := fun d K => @c_add d 0 n cs T h cd 0 c2 q2 K 6 0 0 f75 hc (by omega)
    rw [add_n6] at e4
    rw [b_Reader_isFactor_115]
    simp (maxDischargeDepth := 20) (maxSteps := 2000000) only [↓reduceIte, pm_WL_nil, bi_900, bi_901, bi_904, bi_905, pm_lget_0, pm_lget_s, pm_oI_s, pm_oA_s, pm_oJ_s, pm_oK_s, pm_oR_s, pm_oO_s, pm_oN_s, pm_oF_s, pm_oM_s, pm_oP_s, pm_pu_n, pm_pu_s, pm_bo_ne, pm_bo_eq, Nat.reduceAdd, Nat.reduceSub, Nat.reduceLT, Nat.reduceLeDiff, Nat.reduceEqDiff, Nat.zero_add, Nat.lt_add_one, Nat.zero_ne_one, Nat.succ_ne_self, List.length_cons, List.length_nil, true_and, and_true, true_or, or_true, false_or, or_false, false_implies, true_implies, implies_true, not_true_eq_false, not_false_eq_true, ne_eq, eq_self, e_Reader_isFactor, pm_okW_0, pm_okW_i, pm_okW_r, pm_okW_l, pm_ent_0, pm_ent_i, pm_ent_r, pm_ent_l, List.reduceReplicate, b_Reader_isFactor_0, b_Reader_isFactor_7, b_Reader_isFactor_16, b_Reader_isFactor_22, b_Reader_isFactor_27, b_Reader_isFactor_36, b_Reader_isFactor_46, b_Reader_isFactor_55, b_Reader_isFactor_57, b_Reader_isFactor_68, b_Reader_isFactor_72, b_Reader_isFactor_78, b_Reader_isFactor_84, b_Reader_isFactor_89, b_Reader_isFactor_96, b_Reader_isFactor_98, b_Reader_isFactor_113, b_Reader_isFactor_120, b_Reader_isFactor_138, f_iloadn1, w_istore2, pm_lset_0, pm_lset_1, pm_lset_n, pm_no2_n, pm_no2_i, pm_no2_r, pm_no2_l, f_iloadn2, w_iconst, ki_5, w_icmp_ge, pm_tgt_is, Int.cast_ofNat_Int, Int.reduceNeg, Int.reduceAdd, Int.reduceToNat, Int.zero_add, Int.zero_le_ofNat, Int.reduceLE, if_true, if_false, f_aloadn0, w_bipush, kb_33, iv_18_40_75, kk_n, kk_s, w_if_eq, nz_1, nz_m1, f_iinc2, ki_1, w_goto, kb_40, w_iadd, iv_18_71_75, kb_41, w_if_ne, ki_0, w_iret, lg_18, pm_fit_b, pm_fit_0, pm_fit_1, Bool.false_eq_true, w_ldc, lk_3_87, pm_oC_i, pm_oC_r, iv_18_89_75, w_istore3, f_iloadn3, w_if_ge, ki_m1, lk_3_93, w_istore, w_if_lt, f_iload4, iv_18_58_75, gf_18_12_75, gf_18_61_75, iv_18_80_7, iv_18_80_35, iv_18_80_62, iv_18_80_76, w_popi, w_popa, kb_6, f_iinc3, hs_75, hs_76, v4_75, v4_76, v4_79, v4_80, v4_u75, v4_u76, v4_u79, gd_0, gd_s, e1, e4, ni_1]
    refine ih (i + 1) (cs + 1) _ (by omega) (by omega) (by rw [len_set, hc]) ?_
    intro cd' h1 h2 h3
    have := hQ cd' h1 (fun i q => by rw [h2 i (by omega), gd_ne (by omega)]) (fun i q1 q2 => by
      by_cases e : i = cs
      · rw [e, h2 cs (by omega), gd_eq (by omega)]
      · exact h3 i (by omega) (by omega))
    rw [show cs + 1 + j = cs + (j + 1) by omega]
    exact this
theorem k_factor {T : Nat → Int32} {n : Nat} {h : Nat → List Int32} {c2 q2 : Int32} (H : CH T n h) : ∀ l, KC n h c2 q2 (fz T l) 18 l 7 := by
  intro l
  induction l using Nat.strongRecOn with
  | ind l IH =>
  intro d p op cs nm cd Q hc hp hcs ho hQ
  have hT := H.1
  have h10 := hT.1
  -- an inner piece read, its nots to come
  have fin : ∀ (j inn : Nat) (r : bR) (p1 cs1 : Nat) (nm1 : Int32) (cd1 : List Int32) (x3 x4 : Option Value), j + op = inn → inn ≤ 5 → fz T l p = ntS j r → r.1 = true → SM1 r.2.2 → cs1 + j + p ≤ cs + r.2.1 → r.2.1 ≤ 100 → cd1.length = 100 → cs ≤ cs1 → (∀ i, i < cs → gd cd1 i = gd cd i) → SG cd1 cs cs1 r.2.2 → pm_W fqP (d + 3 * l + 6) 18 113 [some (.ref 75), some (.int (nI op)), some (.int (nI inn)), x3, x4] [] (mk (V4 h [nI r.2.1, nI n, nm1] [c2, nI cs1, q2] cd1)) Q := by
    intro j inn r p1 cs1 nm1 cd1 x3 x4 hj hinn hr hok hsm hb hr1 hc1 hcs1 hfr hseg
    rw [b_Reader_isFactor_113]
    have no : pm_no2 x3 = x3 ∨ True := Or.inr trivial
    simp (maxDischargeDepth := 20) (maxSteps := 2000000) only [↓reduceIte, pm_WL_nil, bi_900, bi_901, bi_904, bi_905, pm_lget_0, pm_lget_s, pm_oI_s, pm_oA_s, pm_oJ_s, pm_oK_s, pm_oR_s, pm_oO_s, pm_oN_s, pm_oF_s, pm_oM_s, pm_oP_s, pm_pu_n, pm_pu_s, pm_bo_ne, pm_bo_eq, Nat.reduceAdd, Nat.reduceSub, Nat.reduceLT, Nat.reduceLeDiff, Nat.reduceEqDiff, Nat.zero_add, Nat.lt_add_one, Nat.zero_ne_one, Nat.succ_ne_self, List.length_cons, List.length_nil, true_and, and_true, true_or, or_true, false_or, or_false, false_implies, true_implies, implies_true, not_true_eq_false, not_false_eq_true, ne_eq, eq_self, e_Reader_isFactor, pm_okW_0, pm_okW_i, pm_okW_r, pm_okW_l, pm_ent_0, pm_ent_i, pm_ent_r, pm_ent_l, List.reduceReplicate, b_Reader_isFactor_0, b_Reader_isFactor_7, b_Reader_isFactor_16, b_Reader_isFactor_22, b_Reader_isFactor_27, b_Reader_isFactor_36, b_Reader_isFactor_46, b_Reader_isFactor_55, b_Reader_isFactor_57, b_Reader_isFactor_68, b_Reader_isFactor_72, b_Reader_isFactor_78, b_Reader_isFactor_84, b_Reader_isFactor_89, b_Reader_isFactor_96, b_Reader_isFactor_98, b_Reader_isFactor_113, b_Reader_isFactor_120, b_Reader_isFactor_138, f_iloadn1, w_istore2, pm_lset_0, pm_lset_1, pm_lset_n, pm_no2_n, pm_no2_i, pm_no2_r, pm_no2_l, f_iloadn2, w_iconst, ki_5, w_icmp_ge, pm_tgt_is, Int.cast_ofNat_Int, Int.reduceNeg, Int.reduceAdd, Int.reduceToNat, Int.zero_add, Int.zero_le_ofNat, Int.reduceLE, if_true, if_false, f_aloadn0, w_bipush, kb_33, iv_18_40_75, kk_n, kk_s, w_if_eq, nz_1, nz_m1, f_iinc2, ki_1, w_goto, kb_40, w_iadd, iv_18_71_75, kb_41, w_if_ne, ki_0, w_iret, lg_18, pm_fit_b, pm_fit_0, pm_fit_1, Bool.false_eq_true, w_ldc, lk_3_87, pm_oC_i, pm_oC_r, iv_18_89_75, w_istore3, f_iloadn3, w_if_ge, ki_m1, lk_3_93, w_istore, w_if_lt, f_iload4, iv_18_58_75, gf_18_12_75, gf_18_61_75, iv_18_80_7, iv_18_80_35, iv_18_80_62, iv_18_80_76, w_popi, w_popa, kb_6, f_iinc3, hs_75]
    refine k_nots (T := T) (n := n) (d := d + 3 * l + 4) hinn j op cs1 cd1 hj (by omega) hc1 ?_
    intro cd' h1 h2 h3
    rw [ntS_of, if_pos hok] at hr
    rw [hr] at hQ
    exact hQ (cs1 + j) nm1 cd' h1 (by omega) hb (fun i q => by rw [h2 i (by omega), hfr i q]) (fun _ => sg_nots (fun _ _ => trivial) j cs1 _ (sg_cg hseg fun i q1 q2 => h2 i q2) hsm hcs1 (by omega) h3)
  -- a test
  have tst : ∀ (j inn p1 : Nat) (nm1 : Int32) (x3 x4 : Option Value), j + op = inn → inn ≤ 5 → p + j = p1 → p1 ≤ n → fz T l p = ntS j (tstS T p1) → pm_W fqP (d + 3 * l + 6) 18 57 [some (.ref 75), some (.int (nI op)), some (.int (nI inn)), x3, x4] [] (mk (V4 h [nI p1, nI n, nm1] [c2, nI cs, q2] cd)) Q := by
    intro j inn p1 nm1 x3 x4 hj hinn hp1 hpn hr
    have a1 := fun d K => @c_takesOneOf d p1 n cs T h cd nm1 c2 q2 K 1003 _ [c2, nI cs, q2] H (by omega) tx_1003
    have a2 := fun d K => @c_takesOneOf d (p1 + 1) n cs T h cd nm1 c2 q2 K 1004 _ [c2, nI cs, q2] H (by omega) tx_1004
    rw [b_Reader_isFactor_57]
    cases e1 : amg (T p1) [112, 107, 118, 109, 99, 116] 0 with
    | none =>
      rw [e1] at a1
      simp only at a1
      have ht : tstS T p1 = (false, p1, []) := by unfold tstS; rw [e1]
      rw [ht, ntS_no] at hr
      rw [hr] at hQ
      have m1 : (0 : Int32) ≤ -1 ↔ False := by decide
      simp (maxDischargeDepth := 20) (maxSteps := 2000000) only [↓reduceIte, pm_WL_nil, bi_900, bi_901, bi_904, bi_905, pm_lget_0, pm_lget_s, pm_oI_s, pm_oA_s, pm_oJ_s, pm_oK_s, pm_oR_s, pm_oO_s, pm_oN_s, pm_oF_s, pm_oM_s, pm_oP_s, pm_pu_n, pm_pu_s, pm_bo_ne, pm_bo_eq, Nat.reduceAdd, Nat.reduceSub, Nat.reduceLT, Nat.reduceLeDiff, Nat.reduceEqDiff, Nat.zero_add, Nat.lt_add_one, Nat.zero_ne_one, Nat.succ_ne_self, List.length_cons, List.length_nil, true_and, and_true, true_or, or_true, false_or, or_false, false_implies, true_implies, implies_true, not_true_eq_false, not_false_eq_true, ne_eq, eq_self, e_Reader_isFactor, pm_okW_0, pm_okW_i, pm_okW_r, pm_okW_l, pm_ent_0, pm_ent_i, pm_ent_r, pm_ent_l, List.reduceReplicate, b_Reader_isFactor_0, b_Reader_isFactor_7, b_Reader_isFactor_16, b_Reader_isFactor_22, b_Reader_isFactor_27, b_Reader_isFactor_36, b_Reader_isFactor_46, b_Reader_isFactor_55, b_Reader_isFactor_57, b_Reader_isFactor_68, b_Reader_isFactor_72, b_Reader_isFactor_78, b_Reader_isFactor_84, b_Reader_isFactor_89, b_Reader_isFactor_96, b_Reader_isFactor_98, b_Reader_isFactor_113, b_Reader_isFactor_120, b_Reader_isFactor_138, f_iloadn1, w_istore2, pm_lset_0, pm_lset_1, pm_lset_n, pm_no2_n, pm_no2_i, pm_no2_r, pm_no2_l, f_iloadn2, w_iconst, ki_5, w_icmp_ge, pm_tgt_is, Int.cast_ofNat_Int, Int.reduceNeg, Int.reduceAdd, Int.reduceToNat, Int.zero_add, Int.zero_le_ofNat, Int.reduceLE, if_true, if_false, f_aloadn0, w_bipush, kb_33, iv_18_40_75, kk_n, kk_s, w_if_eq, nz_1, nz_m1, f_iinc2, ki_1, w_goto, kb_40, w_iadd, iv_18_71_75, kb_41, w_if_ne, ki_0, w_iret, lg_18, pm_fit_b, pm_fit_0, pm_fit_1, Bool.false_eq_true, w_ldc, lk_3_87, pm_oC_i, pm_oC_r, iv_18_89_75, w_istore3, f_iloadn3, w_if_ge, ki_m1, lk_3_93, w_istore, w_if_lt, f_iload4, iv_18_58_75, gf_18_12_75, gf_18_61_75, iv_18_80_7, iv_18_80_35, iv_18_80_62, iv_18_80_76, w_popi, w_popa, kb_6, f_iinc3, hs_75, v4_75, v4_76, v4_79, v4_80, v4_u75, v4_u76, v4_u79, gd_0, gd_s, a1, Int32.reduceLE, Int32.reduceLT]
      exact hQ cs nm1 cd hc (Nat.le_refl _) (by show cs + p ≤ cs + p1; omega) (fun _ _ => rfl) (fun q => Bool.noConfusion q)
    | some w =>
      rw [e1] at a1
      have w6 := (amg_lt _ _ _ e1).2.1
      have l1 : p1 < n := mem_tp hT (amg_lt _ _ _ e1).2.2 (by decide)
      have w6 : w < 6 := by simpa using w6
      have u1 : ((0 : Int32) ≤ nI w) = True := by rw [li_le 0 w (by omega) (by omega)]; exact eq_true (by omega)
      have u2 := nlt0 w (by omega)
      simp only at a1
      cases e2 : amg (T (p1 + 1)) [60, 61, 62] 0 with
      | none =>
        rw [e2] at a2
        simp only at a2
        have ht : tstS T p1 = (false, p1 + 1, []) := by unfold tstS; rw [e1]; simp only; rw [e2]
        rw [ht, ntS_no] at hr
        rw [hr] at hQ
        simp (maxDischargeDepth := 20) (maxSteps := 2000000) only [↓reduceIte, pm_WL_nil, bi_900, bi_901, bi_904, bi_905, pm_lget_0, pm_lget_s, pm_oI_s, pm_oA_s, pm_oJ_s, pm_oK_s, pm_oR_s, pm_oO_s, pm_oN_s, pm_oF_s, pm_oM_s, pm_oP_s, pm_pu_n, pm_pu_s, pm_bo_ne, pm_bo_eq, Nat.reduceAdd, Nat.reduceSub, Nat.reduceLT, Nat.reduceLeDiff, Nat.reduceEqDiff, Nat.zero_add, Nat.lt_add_one, Nat.zero_ne_one, Nat.succ_ne_self, List.length_cons, List.length_nil, true_and, and_true, true_or, or_true, false_or, or_false, false_implies, true_implies, implies_true, not_true_eq_false, not_false_eq_true, ne_eq, eq_self, e_Reader_isFactor, pm_okW_0, pm_okW_i, pm_okW_r, pm_okW_l, pm_ent_0, pm_ent_i, pm_ent_r, pm_ent_l, List.reduceReplicate, b_Reader_isFactor_0, b_Reader_isFactor_7, b_Reader_isFactor_16, b_Reader_isFactor_22, b_Reader_isFactor_27, b_Reader_isFactor_36, b_Reader_isFactor_46, b_Reader_isFactor_55, b_Reader_isFactor_57, b_Reader_isFactor_68, b_Reader_isFactor_72, b_Reader_isFactor_78, b_Reader_isFactor_84, b_Reader_isFactor_89, b_Reader_isFactor_96, b_Reader_isFactor_98, b_Reader_isFactor_113, b_Reader_isFactor_120, b_Reader_isFactor_138, f_iloadn1, w_istore2, pm_lset_0, pm_lset_1, pm_lset_n, pm_no2_n, pm_no2_i, pm_no2_r, pm_no2_l, f_iloadn2, w_iconst, ki_5, w_icmp_ge, pm_tgt_is, Int.cast_ofNat_Int, Int.reduceNeg, Int.reduceAdd, Int.reduceToNat, Int.zero_add, Int.zero_le_ofNat, Int.reduceLE, if_true, if_false, f_aloadn0, w_bipush, kb_33, iv_18_40_75, kk_n, kk_s, w_if_eq, nz_1, nz_m1, f_iinc2, ki_1, w_goto, kb_40, w_iadd, iv_18_71_75, kb_41, w_if_ne, ki_0, w_iret, lg_18, pm_fit_b, pm_fit_0, pm_fit_1, Bool.false_eq_true, w_ldc, lk_3_87, pm_oC_i, pm_oC_r, iv_18_89_75, w_istore3, f_iloadn3, w_if_ge, ki_m1, lk_3_93, w_istore, w_if_lt, f_iload4, iv_18_58_75, gf_18_12_75, gf_18_61_75, iv_18_80_7, iv_18_80_35, iv_18_80_62, iv_18_80_76, w_popi, w_popa, kb_6, f_iinc3, hs_75, v4_75, v4_76, v4_79, v4_80, v4_u75, v4_u76, v4_u79, gd_0, gd_s, a1, a2, u1, u2, Int32.reduceLE, Int32.reduceLT]
        exact hQ cs nm1 cd hc (Nat.le_refl _) (by show cs + p ≤ cs + (p1 + 1); omega) (fun _ _ => rfl) (fun q => Bool.noConfusion q)
      | some q =>
        rw [e2] at a2
        have q3 := (amg_lt _ _ _ e2).2.1
        have l2 : p1 + 1 < n := mem_tp hT (amg_lt _ _ _ e2).2.2 (by decide)
        have q3 : q < 3 := by simpa using q3
        have u3 := nlt0 q (by omega)
        have a3 := fun d K => @c_isNumberNext d (p1 + 1 + 1) n cs T h cd nm1 c2 q2 K [c2, nI cs, q2] H (by omega)
        rw [show p1 + 1 + 1 = p1 + 2 from rfl] at a3
        obtain ⟨n1, n2, n3, n4⟩ := num_b (p := p1 + 2) hT (by omega)
        simp only at a2
        by_cases c : (numS T (p1 + 2)).1 = true
        · have n5 := n4 c
          have c1 : bI (numS T (p1 + 2)).1 = 1 := by rw [c]; rfl
          have ht : tstS T p1 = (true, (numS T (p1 + 2)).2.1, [nI (w + 8 * q + 32 * (numS T (p1 + 2)).2.2)]) := by unfold tstS; rw [e1]; simp only; rw [e2]; simp only; rw [if_pos c]
          have e4 := fun d z f75 K => @c_add d p n cs T h cd nm c2 q2 K (nI w) (nI q) z f75 hc (by omega)
          simp only [c1] at a3
          rw [if_pos c] at a3
          simp (maxDischargeDepth := 20) (maxSteps := 2000000) only [↓reduceIte, pm_WL_nil, bi_900, bi_901, bi_904, bi_905, pm_lget_0, pm_lget_s, pm_oI_s, pm_oA_s, pm_oJ_s, pm_oK_s, pm_oR_s, pm_oO_s, pm_oN_s, pm_oF_s, pm_oM_s, pm_oP_s, pm_pu_n, pm_pu_s, pm_bo_ne, pm_bo_eq, Nat.reduceAdd, Nat.reduceSub, Nat.reduceLT, Nat.reduceLeDiff, Nat.reduceEqDiff, Nat.zero_add, Nat.lt_add_one, Nat.zero_ne_one, Nat.succ_ne_self, List.length_cons, List.length_nil, true_and, and_true, true_or, or_true, false_or, or_false, false_implies, true_implies, implies_true, not_true_eq_false, not_false_eq_true, ne_eq, eq_self, e_Reader_isFactor, pm_okW_0, pm_okW_i, pm_okW_r, pm_okW_l, pm_ent_0, pm_ent_i, pm_ent_r, pm_ent_l, List.reduceReplicate, b_Reader_isFactor_0, b_Reader_isFactor_7, b_Reader_isFactor_16, b_Reader_isFactor_22, b_Reader_isFactor_27, b_Reader_isFactor_36, b_Reader_isFactor_46, b_Reader_isFactor_55, b_Reader_isFactor_57, b_Reader_isFactor_68, b_Reader_isFactor_72, b_Reader_isFactor_78, b_Reader_isFactor_84, b_Reader_isFactor_89, b_Reader_isFactor_96, b_Reader_isFactor_98, b_Reader_isFactor_120, b_Reader_isFactor_138, f_iloadn1, w_istore2, pm_lset_0, pm_lset_1, pm_lset_n, pm_no2_n, pm_no2_i, pm_no2_r, pm_no2_l, f_iloadn2, w_iconst, ki_5, w_icmp_ge, pm_tgt_is, Int.cast_ofNat_Int, Int.reduceNeg, Int.reduceAdd, Int.reduceToNat, Int.zero_add, Int.zero_le_ofNat, Int.reduceLE, if_true, if_false, f_aloadn0, w_bipush, kb_33, iv_18_40_75, kk_n, kk_s, w_if_eq, nz_1, nz_m1, f_iinc2, ki_1, w_goto, kb_40, w_iadd, iv_18_71_75, kb_41, w_if_ne, ki_0, w_iret, lg_18, pm_fit_b, pm_fit_0, pm_fit_1, Bool.false_eq_true, w_ldc, lk_3_87, pm_oC_i, pm_oC_r, iv_18_89_75, w_istore3, f_iloadn3, w_if_ge, ki_m1, lk_3_93, w_istore, w_if_lt, f_iload4, iv_18_58_75, gf_18_12_75, gf_18_61_75, iv_18_80_7, iv_18_80_35, iv_18_80_62, iv_18_80_76, w_popi, w_popa, kb_6, f_iinc3, hs_75, hs_76, v4_75, v4_76, v4_79, v4_80, v4_u75, v4_u76, v4_u79, gd_0, gd_s, a1, a2, a3, e4, u1, u2, u3]
          have := fin j inn (tstS T p1) p1 (cs + 1) (nI (numS T (p1 + 2)).2.2) (cd.set cs (nI w ||| nI q <<< 4 ||| nI (numS T (p1 + 2)).2.2 <<< 8)) (some (.int (nI w))) (some (.int (nI q))) hj hinn hr
          rw [ht] at this
          exact this rfl (sm_one (by omega)) (by show cs + 1 + j + p ≤ cs + (numS T (p1 + 2)).2.1; omega) (by show (numS T (p1 + 2)).2.1 ≤ 100; omega) (by rw [len_set, hc]) (by omega) (fun i q => gd_ne (by omega)) (sg_tst w6 q3 n3 (by omega) (gd_eq (by omega)))
        · have c1 : bI (numS T (p1 + 2)).1 = 0 := by rw [show (numS T (p1 + 2)).1 = false by simpa using c]; rfl
          have ht : tstS T p1 = (false, (numS T (p1 + 2)).2.1, []) := by unfold tstS; rw [e1]; simp only; rw [e2]; simp only; rw [if_neg c]
          rw [ht, ntS_no] at hr
          rw [hr] at hQ
          simp only [c1] at a3
          rw [if_neg c] at a3
          simp (maxDischargeDepth := 20) (maxSteps := 2000000) only [↓reduceIte, pm_WL_nil, bi_900, bi_901, bi_904, bi_905, pm_lget_0, pm_lget_s, pm_oI_s, pm_oA_s, pm_oJ_s, pm_oK_s, pm_oR_s, pm_oO_s, pm_oN_s, pm_oF_s, pm_oM_s, pm_oP_s, pm_pu_n, pm_pu_s, pm_bo_ne, pm_bo_eq, Nat.reduceAdd, Nat.reduceSub, Nat.reduceLT, Nat.reduceLeDiff, Nat.reduceEqDiff, Nat.zero_add, Nat.lt_add_one, Nat.zero_ne_one, Nat.succ_ne_self, List.length_cons, List.length_nil, true_and, and_true, true_or, or_true, false_or, or_false, false_implies, true_implies, implies_true, not_true_eq_false, not_false_eq_true, ne_eq, eq_self, e_Reader_isFactor, pm_okW_0, pm_okW_i, pm_okW_r, pm_okW_l, pm_ent_0, pm_ent_i, pm_ent_r, pm_ent_l, List.reduceReplicate, b_Reader_isFactor_0, b_Reader_isFactor_7, b_Reader_isFactor_16, b_Reader_isFactor_22, b_Reader_isFactor_27, b_Reader_isFactor_36, b_Reader_isFactor_46, b_Reader_isFactor_55, b_Reader_isFactor_57, b_Reader_isFactor_68, b_Reader_isFactor_72, b_Reader_isFactor_78, b_Reader_isFactor_84, b_Reader_isFactor_89, b_Reader_isFactor_96, b_Reader_isFactor_98, b_Reader_isFactor_113, b_Reader_isFactor_120, b_Reader_isFactor_138, f_iloadn1, w_istore2, pm_lset_0, pm_lset_1, pm_lset_n, pm_no2_n, pm_no2_i, pm_no2_r, pm_no2_l, f_iloadn2, w_iconst, ki_5, w_icmp_ge, pm_tgt_is, Int.cast_ofNat_Int, Int.reduceNeg, Int.reduceAdd, Int.reduceToNat, Int.zero_add, Int.zero_le_ofNat, Int.reduceLE, if_true, if_false, f_aloadn0, w_bipush, kb_33, iv_18_40_75, kk_n, kk_s, w_if_eq, nz_1, nz_m1, f_iinc2, ki_1, w_goto, kb_40, w_iadd, iv_18_71_75, kb_41, w_if_ne, ki_0, w_iret, lg_18, pm_fit_b, pm_fit_0, pm_fit_1, Bool.false_eq_true, w_ldc, lk_3_87, pm_oC_i, pm_oC_r, iv_18_89_75, w_istore3, f_iloadn3, w_if_ge, ki_m1, lk_3_93, w_istore, w_if_lt, f_iload4, iv_18_58_75, gf_18_12_75, gf_18_61_75, iv_18_80_7, iv_18_80_35, iv_18_80_62, iv_18_80_76, w_popi, w_popa, kb_6, f_iinc3, hs_75, v4_75, v4_76, v4_79, v4_80, v4_u75, v4_u76, v4_u79, gd_0, gd_s, a1, a2, a3, u1, u2, u3]
          exact hQ cs nm1 cd hc (Nat.le_refl _) (by show cs + p ≤ cs + (numS T (p1 + 2)).2.1; omega) (fun _ _ => rfl) (fun q => Bool.noConfusion q)
  have scan : ∀ (l1 inn j p1 : Nat) (nm1 : Int32) (x3 x4 : Option Value), inn + l1 = 5 → j + op = inn → p + j = p1 → p1 ≤ n → fz T l p = ntS j (fz T l1 p1) → pm_W fqP (d + 3 * l + 6) 18 2 [some (.ref 75), some (.int (nI op)), some (.int (nI inn)), x3, x4] [] (mk (V4 h [nI p1, nI n, nm1] [c2, nI cs, q2] cd)) Q := by
    intro l1
    induction l1 with
    | zero =>
      intro inn j p1 nm1 x3 x4 hinn hj hp1 hpn hr
      have e1 : ((5 : Int32) ≤ nI inn) = True := by rw [li_le 5 inn (by omega) (by omega)]; exact eq_true (by omega)
      rw [b_Reader_isFactor_2]
      simp (maxDischargeDepth := 20) (maxSteps := 2000000) only [↓reduceIte, pm_WL_nil, bi_900, bi_901, bi_904, bi_905, pm_lget_0, pm_lget_s, pm_oI_s, pm_oA_s, pm_oJ_s, pm_oK_s, pm_oR_s, pm_oO_s, pm_oN_s, pm_oF_s, pm_oM_s, pm_oP_s, pm_pu_n, pm_pu_s, pm_bo_ne, pm_bo_eq, Nat.reduceAdd, Nat.reduceSub, Nat.reduceLT, Nat.reduceLeDiff, Nat.reduceEqDiff, Nat.zero_add, Nat.lt_add_one, Nat.zero_ne_one, Nat.succ_ne_self, List.length_cons, List.length_nil, true_and, and_true, true_or, or_true, false_or, or_false, false_implies, true_implies, implies_true, not_true_eq_false, not_false_eq_true, ne_eq, eq_self, e_Reader_isFactor, pm_okW_0, pm_okW_i, pm_okW_r, pm_okW_l, pm_ent_0, pm_ent_i, pm_ent_r, pm_ent_l, List.reduceReplicate, b_Reader_isFactor_0, b_Reader_isFactor_7, b_Reader_isFactor_16, b_Reader_isFactor_22, b_Reader_isFactor_27, b_Reader_isFactor_36, b_Reader_isFactor_46, b_Reader_isFactor_55, b_Reader_isFactor_68, b_Reader_isFactor_72, b_Reader_isFactor_78, b_Reader_isFactor_84, b_Reader_isFactor_89, b_Reader_isFactor_96, b_Reader_isFactor_98, b_Reader_isFactor_113, b_Reader_isFactor_120, b_Reader_isFactor_138, f_iloadn1, w_istore2, pm_lset_0, pm_lset_1, pm_lset_n, pm_no2_n, pm_no2_i, pm_no2_r, pm_no2_l, f_iloadn2, w_iconst, ki_5, w_icmp_ge, pm_tgt_is, Int.cast_ofNat_Int, Int.reduceNeg, Int.reduceAdd, Int.reduceToNat, Int.zero_add, Int.zero_le_ofNat, Int.reduceLE, if_true, if_false, f_aloadn0, w_bipush, kb_33, iv_18_40_75, kk_n, kk_s, w_if_eq, nz_1, nz_m1, f_iinc2, ki_1, w_goto, kb_40, w_iadd, iv_18_71_75, kb_41, w_if_ne, ki_0, w_iret, lg_18, pm_fit_b, pm_fit_0, pm_fit_1, Bool.false_eq_true, w_ldc, lk_3_87, pm_oC_i, pm_oC_r, iv_18_89_75, w_istore3, f_iloadn3, w_if_ge, ki_m1, lk_3_93, w_istore, w_if_lt, f_iload4, iv_18_58_75, gf_18_12_75, gf_18_61_75, iv_18_80_7, iv_18_80_35, iv_18_80_62, iv_18_80_76, w_popi, w_popa, kb_6, f_iinc3, hs_75, e1]
      exact tst j inn p1 nm1 x3 x4 hj (by omega) hp1 hpn hr
    | succ l1 ih =>
      intro inn j p1 nm1 x3 x4 hinn hj hp1 hpn hr
      have e1 : ((5 : Int32) ≤ nI inn) = False := by rw [li_le 5 inn (by omega) (by omega)]; exact eq_false (by omega)
      rw [fz_s] at hr
      rw [b_Reader_isFactor_2]
      by_cases q : T p1 = 33
      · have lt := tp_lt (c := 33) hT (by omega) q
        rw [if_pos q] at hr
        have e3 := fun d g K => @c_takes_y d p1 n cs T h cd nm1 c2 q2 K 33 g H (by omega) q
        simp (maxDischargeDepth := 20) (maxSteps := 2000000) only [↓reduceIte, pm_WL_nil, bi_900, bi_901, bi_904, bi_905, pm_lget_0, pm_lget_s, pm_oI_s, pm_oA_s, pm_oJ_s, pm_oK_s, pm_oR_s, pm_oO_s, pm_oN_s, pm_oF_s, pm_oM_s, pm_oP_s, pm_pu_n, pm_pu_s, pm_bo_ne, pm_bo_eq, Nat.reduceAdd, Nat.reduceSub, Nat.reduceLT, Nat.reduceLeDiff, Nat.reduceEqDiff, Nat.zero_add, Nat.lt_add_one, Nat.zero_ne_one, Nat.succ_ne_self, List.length_cons, List.length_nil, true_and, and_true, true_or, or_true, false_or, or_false, false_implies, true_implies, implies_true, not_true_eq_false, not_false_eq_true, ne_eq, eq_self, e_Reader_isFactor, pm_okW_0, pm_okW_i, pm_okW_r, pm_okW_l, pm_ent_0, pm_ent_i, pm_ent_r, pm_ent_l, List.reduceReplicate, b_Reader_isFactor_0, b_Reader_isFactor_7, b_Reader_isFactor_16, b_Reader_isFactor_27, b_Reader_isFactor_36, b_Reader_isFactor_46, b_Reader_isFactor_55, b_Reader_isFactor_68, b_Reader_isFactor_72, b_Reader_isFactor_78, b_Reader_isFactor_84, b_Reader_isFactor_89, b_Reader_isFactor_96, b_Reader_isFactor_98, b_Reader_isFactor_113, b_Reader_isFactor_120, b_Reader_isFactor_138, f_iloadn1, w_istore2, pm_lset_0, pm_lset_1, pm_lset_n, pm_no2_n, pm_no2_i, pm_no2_r, pm_no2_l, f_iloadn2, w_iconst, ki_5, w_icmp_ge, pm_tgt_is, Int.cast_ofNat_Int, Int.reduceNeg, Int.reduceAdd, Int.reduceToNat, Int.zero_add, Int.zero_le_ofNat, Int.reduceLE, if_true, if_false, f_aloadn0, w_bipush, kb_33, iv_18_40_75, kk_n, kk_s, w_if_eq, nz_1, nz_m1, f_iinc2, ki_1, w_goto, kb_40, w_iadd, iv_18_71_75, kb_41, w_if_ne, ki_0, w_iret, lg_18, pm_fit_b, pm_fit_0, pm_fit_1, Bool.false_eq_true, w_ldc, lk_3_87, pm_oC_i, pm_oC_r, iv_18_89_75, w_istore3, f_iloadn3, w_if_ge, ki_m1, lk_3_93, w_istore, w_if_lt, f_iload4, iv_18_58_75, gf_18_12_75, gf_18_61_75, iv_18_80_7, iv_18_80_35, iv_18_80_62, iv_18_80_76, w_popi, w_popa, kb_6, f_iinc3, hs_75, v4_75, v4_76, v4_79, v4_80, v4_u75, v4_u76, v4_u79, gd_0, gd_s, e1, e3, ni_1]
        exact ih (inn + 1) (j + 1) (p1 + 1) nm1 x3 x4 (by omega) (by omega) (by omega) (by omega) hr
      · have e3 := fun d g K => @c_takes_n d p1 n cs T h cd nm1 c2 q2 K 33 g H (by omega) q
        rw [if_neg q] at hr
        by_cases q2' : T p1 = 40
        · have lt := tp_lt (c := 40) hT (by omega) q2'
          rw [if_pos q2'] at hr
          have e5 := fun d g K => @c_takes_y d p1 n cs T h cd nm1 c2 q2 K 40 g H (by omega) q2'
          simp (maxDischargeDepth := 20) (maxSteps := 2000000) only [↓reduceIte, pm_WL_nil, bi_900, bi_901, bi_904, bi_905, pm_lget_0, pm_lget_s, pm_oI_s, pm_oA_s, pm_oJ_s, pm_oK_s, pm_oR_s, pm_oO_s, pm_oN_s, pm_oF_s, pm_oM_s, pm_oP_s, pm_pu_n, pm_pu_s, pm_bo_ne, pm_bo_eq, Nat.reduceAdd, Nat.reduceSub, Nat.reduceLT, Nat.reduceLeDiff, Nat.reduceEqDiff, Nat.zero_add, Nat.lt_add_one, Nat.zero_ne_one, Nat.succ_ne_self, List.length_cons, List.length_nil, true_and, and_true, true_or, or_true, false_or, or_false, false_implies, true_implies, implies_true, not_true_eq_false, not_false_eq_true, ne_eq, eq_self, e_Reader_isFactor, pm_okW_0, pm_okW_i, pm_okW_r, pm_okW_l, pm_ent_0, pm_ent_i, pm_ent_r, pm_ent_l, List.reduceReplicate, b_Reader_isFactor_0, b_Reader_isFactor_7, b_Reader_isFactor_16, b_Reader_isFactor_22, b_Reader_isFactor_27, b_Reader_isFactor_36, b_Reader_isFactor_46, b_Reader_isFactor_55, b_Reader_isFactor_68, b_Reader_isFactor_72, b_Reader_isFactor_78, b_Reader_isFactor_84, b_Reader_isFactor_89, b_Reader_isFactor_96, b_Reader_isFactor_98, b_Reader_isFactor_120, b_Reader_isFactor_138, f_iloadn1, w_istore2, pm_lset_0, pm_lset_1, pm_lset_n, pm_no2_n, pm_no2_i, pm_no2_r, pm_no2_l, f_iloadn2, w_iconst, ki_5, w_icmp_ge, pm_tgt_is, Int.cast_ofNat_Int, Int.reduceNeg, Int.reduceAdd, Int.reduceToNat, Int.zero_add, Int.zero_le_ofNat, Int.reduceLE, if_true, if_false, f_aloadn0, w_bipush, kb_33, iv_18_40_75, kk_n, kk_s, w_if_eq, nz_1, nz_m1, f_iinc2, ki_1, w_goto, kb_40, w_iadd, iv_18_71_75, kb_41, w_if_ne, ki_0, w_iret, lg_18, pm_fit_b, pm_fit_0, pm_fit_1, Bool.false_eq_true, w_ldc, lk_3_87, pm_oC_i, pm_oC_r, iv_18_89_75, w_istore3, f_iloadn3, w_if_ge, ki_m1, lk_3_93, w_istore, w_if_lt, f_iload4, iv_18_58_75, gf_18_12_75, gf_18_61_75, iv_18_80_7, iv_18_80_35, iv_18_80_62, iv_18_80_76, w_popi, w_popa, kb_6, f_iinc3, hs_75, v4_75, v4_76, v4_79, v4_80, v4_u75, v4_u76, v4_u79, gd_0, gd_s, e1, e3, e5, ni_1]
          have hE := k_isExpression H (k_isTerm H (IH l1 (by omega)))
          have hdep : d + 3 * l + 6 = (d + 3 * (l - (l1 + 1))) + 3 * l1 + 9 := by omega
          obtain ⟨f1, f2, f3, f4⟩ := gr_ez hT l1 (p1 + 1) (by omega)
          rw [hdep]
          refine hE _ (p1 + 1) (inn + 1) cs nm1 cd _ hc (by omega) (by omega) (by omega) ?_
          rw [← hdep]
          intro cs1 nm2 cd1 g1 g2 g3 g4 g5
          unfold clsS at hr
          by_cases o : (ez T l1 (p1 + 1)).1 = true
          · have o1 : bI (ez T l1 (p1 + 1)).1 = 1 := by rw [o]; rfl
            rw [if_pos o] at hr
            simp only [kk_s, o1]
            by_cases z : T (ez T l1 (p1 + 1)).2.1 = 41
            · have lt2 := tp_lt (c := 41) hT (by omega) z
              rw [if_pos z] at hr
              have e6 := fun d g K => @c_takes_y d (ez T l1 (p1 + 1)).2.1 n cs T h cd1 nm2 c2 q2 K 41 g H (by omega) z
              simp (maxDischargeDepth := 20) (maxSteps := 2000000) only [↓reduceIte, pm_WL_nil, bi_900, bi_901, bi_904, bi_905, pm_lget_0, pm_lget_s, pm_oI_s, pm_oA_s, pm_oJ_s, pm_oK_s, pm_oR_s, pm_oO_s, pm_oN_s, pm_oF_s, pm_oM_s, pm_oP_s, pm_pu_n, pm_pu_s, pm_bo_ne, pm_bo_eq, Nat.reduceAdd, Nat.reduceSub, Nat.reduceLT, Nat.reduceLeDiff, Nat.reduceEqDiff, Nat.zero_add, Nat.lt_add_one, Nat.zero_ne_one, Nat.succ_ne_self, List.length_cons, List.length_nil, true_and, and_true, true_or, or_true, false_or, or_false, false_implies, true_implies, implies_true, not_true_eq_false, not_false_eq_true, ne_eq, eq_self, e_Reader_isFactor, pm_okW_0, pm_okW_i, pm_okW_r, pm_okW_l, pm_ent_0, pm_ent_i, pm_ent_r, pm_ent_l, List.reduceReplicate, b_Reader_isFactor_0, b_Reader_isFactor_7, b_Reader_isFactor_16, b_Reader_isFactor_22, b_Reader_isFactor_27, b_Reader_isFactor_36, b_Reader_isFactor_46, b_Reader_isFactor_55, b_Reader_isFactor_68, b_Reader_isFactor_72, b_Reader_isFactor_78, b_Reader_isFactor_84, b_Reader_isFactor_89, b_Reader_isFactor_96, b_Reader_isFactor_98, b_Reader_isFactor_120, b_Reader_isFactor_138, f_iloadn1, w_istore2, pm_lset_0, pm_lset_1, pm_lset_n, pm_no2_n, pm_no2_i, pm_no2_r, pm_no2_l, f_iloadn2, w_iconst, ki_5, w_icmp_ge, pm_tgt_is, Int.cast_ofNat_Int, Int.reduceNeg, Int.reduceAdd, Int.reduceToNat, Int.zero_add, Int.zero_le_ofNat, Int.reduceLE, if_true, if_false, f_aloadn0, w_bipush, kb_33, iv_18_40_75, kk_n, kk_s, w_if_eq, nz_1, nz_m1, f_iinc2, ki_1, w_goto, kb_40, w_iadd, iv_18_71_75, kb_41, w_if_ne, ki_0, w_iret, lg_18, pm_fit_b, pm_fit_0, pm_fit_1, Bool.false_eq_true, w_ldc, lk_3_87, pm_oC_i, pm_oC_r, iv_18_89_75, w_istore3, f_iloadn3, w_if_ge, ki_m1, lk_3_93, w_istore, w_if_lt, f_iload4, iv_18_58_75, gf_18_12_75, gf_18_61_75, iv_18_80_7, iv_18_80_35, iv_18_80_62, iv_18_80_76, w_popi, w_popa, kb_6, f_iinc3, hs_75, v4_75, v4_76, v4_79, v4_80, v4_u75, v4_u76, v4_u79, gd_0, gd_s, e6]
              exact fin j inn (true, (ez T l1 (p1 + 1)).2.1 + 1, (ez T l1 (p1 + 1)).2.2) p1 cs1 nm2 cd1 x3 x4 hj (by omega) hr rfl (smf_ez hT l1 _ o) (by show cs1 + j + p ≤ cs + ((ez T l1 (p1 + 1)).2.1 + 1); omega) (by show (ez T l1 (p1 + 1)).2.1 + 1 ≤ 100; omega) g1 g2 g4 (g5 o)
            · rw [if_neg z, ntS_no] at hr
              rw [hr] at hQ
              have e6 := fun d g K => @c_takes_n d (ez T l1 (p1 + 1)).2.1 n cs T h cd1 nm2 c2 q2 K 41 g H (by omega) z
              simp (maxDischargeDepth := 20) (maxSteps := 2000000) only [↓reduceIte, pm_WL_nil, bi_900, bi_901, bi_904, bi_905, pm_lget_0, pm_lget_s, pm_oI_s, pm_oA_s, pm_oJ_s, pm_oK_s, pm_oR_s, pm_oO_s, pm_oN_s, pm_oF_s, pm_oM_s, pm_oP_s, pm_pu_n, pm_pu_s, pm_bo_ne, pm_bo_eq, Nat.reduceAdd, Nat.reduceSub, Nat.reduceLT, Nat.reduceLeDiff, Nat.reduceEqDiff, Nat.zero_add, Nat.lt_add_one, Nat.zero_ne_one, Nat.succ_ne_self, List.length_cons, List.length_nil, true_and, and_true, true_or, or_true, false_or, or_false, false_implies, true_implies, implies_true, not_true_eq_false, not_false_eq_true, ne_eq, eq_self, e_Reader_isFactor, pm_okW_0, pm_okW_i, pm_okW_r, pm_okW_l, pm_ent_0, pm_ent_i, pm_ent_r, pm_ent_l, List.reduceReplicate, b_Reader_isFactor_0, b_Reader_isFactor_7, b_Reader_isFactor_16, b_Reader_isFactor_22, b_Reader_isFactor_27, b_Reader_isFactor_36, b_Reader_isFactor_46, b_Reader_isFactor_55, b_Reader_isFactor_68, b_Reader_isFactor_72, b_Reader_isFactor_78, b_Reader_isFactor_84, b_Reader_isFactor_89, b_Reader_isFactor_96, b_Reader_isFactor_98, b_Reader_isFactor_120, b_Reader_isFactor_138, f_iloadn1, w_istore2, pm_lset_0, pm_lset_1, pm_lset_n, pm_no2_n, pm_no2_i, pm_no2_r, pm_no2_l, f_iloadn2, w_iconst, ki_5, w_icmp_ge, pm_tgt_is, Int.cast_ofNat_Int, Int.reduceNeg, Int.reduceAdd, Int.reduceToNat, Int.zero_add, Int.zero_le_ofNat, Int.reduceLE, if_true, if_false, f_aloadn0, w_bipush, kb_33, iv_18_40_75, kk_n, kk_s, w_if_eq, nz_1, nz_m1, f_iinc2, ki_1, w_goto, kb_40, w_iadd, iv_18_71_75, kb_41, w_if_ne, ki_0, w_iret, lg_18, pm_fit_b, pm_fit_0, pm_fit_1, Bool.false_eq_true, w_ldc, lk_3_87, pm_oC_i, pm_oC_r, iv_18_89_75, w_istore3, f_iloadn3, w_if_ge, ki_m1, lk_3_93, w_istore, w_if_lt, f_iload4, iv_18_58_75, gf_18_12_75, gf_18_61_75, iv_18_80_7, iv_18_80_35, iv_18_80_62, iv_18_80_76, w_popi, w_popa, kb_6, f_iinc3, hs_75, v4_75, v4_76, v4_79, v4_80, v4_u75, v4_u76, v4_u79, gd_0, gd_s, e6]
              exact hQ cs1 nm2 cd1 g1 g2 (by show cs1 + p ≤ cs + (ez T l1 (p1 + 1)).2.1; omega) g4 (fun q => Bool.noConfusion q)
          · have o1 : bI (ez T l1 (p1 + 1)).1 = 0 := by rw [show (ez T l1 (p1 + 1)).1 = false by simpa using o]; rfl
            rw [if_neg o, ntS_of, if_neg o] at hr
            rw [hr] at hQ
            simp only [kk_s, o1]
            simp (maxDischargeDepth := 20) (maxSteps := 2000000) only [↓reduceIte, pm_WL_nil, bi_900, bi_901, bi_904, bi_905, pm_lget_0, pm_lget_s, pm_oI_s, pm_oA_s, pm_oJ_s, pm_oK_s, pm_oR_s, pm_oO_s, pm_oN_s, pm_oF_s, pm_oM_s, pm_oP_s, pm_pu_n, pm_pu_s, pm_bo_ne, pm_bo_eq, Nat.reduceAdd, Nat.reduceSub, Nat.reduceLT, Nat.reduceLeDiff, Nat.reduceEqDiff, Nat.zero_add, Nat.lt_add_one, Nat.zero_ne_one, Nat.succ_ne_self, List.length_cons, List.length_nil, true_and, and_true, true_or, or_true, false_or, or_false, false_implies, true_implies, implies_true, not_true_eq_false, not_false_eq_true, ne_eq, eq_self, e_Reader_isFactor, pm_okW_0, pm_okW_i, pm_okW_r, pm_okW_l, pm_ent_0, pm_ent_i, pm_ent_r, pm_ent_l, List.reduceReplicate, b_Reader_isFactor_0, b_Reader_isFactor_7, b_Reader_isFactor_16, b_Reader_isFactor_22, b_Reader_isFactor_27, b_Reader_isFactor_36, b_Reader_isFactor_46, b_Reader_isFactor_55, b_Reader_isFactor_68, b_Reader_isFactor_72, b_Reader_isFactor_78, b_Reader_isFactor_84, b_Reader_isFactor_89, b_Reader_isFactor_96, b_Reader_isFactor_98, b_Reader_isFactor_120, b_Reader_isFactor_138, f_iloadn1, w_istore2, pm_lset_0, pm_lset_1, pm_lset_n, pm_no2_n, pm_no2_i, pm_no2_r, pm_no2_l, f_iloadn2, w_iconst, ki_5, w_icmp_ge, pm_tgt_is, Int.cast_ofNat_Int, Int.reduceNeg, Int.reduceAdd, Int.reduceToNat, Int.zero_add, Int.zero_le_ofNat, Int.reduceLE, if_true, if_false, f_aloadn0, w_bipush, kb_33, iv_18_40_75, kk_n, kk_s, w_if_eq, nz_1, nz_m1, f_iinc2, ki_1, w_goto, kb_40, w_iadd, iv_18_71_75, kb_41, w_if_ne, ki_0, w_iret, lg_18, pm_fit_b, pm_fit_0, pm_fit_1, Bool.false_eq_true, w_ldc, lk_3_87, pm_oC_i, pm_oC_r, iv_18_89_75, w_istore3, f_iloadn3, w_if_ge, ki_m1, lk_3_93, w_istore, w_if_lt, f_iload4, iv_18_58_75, gf_18_12_75, gf_18_61_75, iv_18_80_7, iv_18_80_35, iv_18_80_62, iv_18_80_76, w_popi, w_popa, kb_6, f_iinc3, hs_75, v4_75, v4_76, v4_79, v4_80, v4_u75, v4_u76, v4_u79, gd_0, gd_s]
            exact hQ cs1 nm2 cd1 g1 g2 (by show cs1 + p ≤ cs + (ez T l1 (p1 + 1)).2.1; omega) g4 (fun q => Bool.noConfusion q)
        · rw [if_neg q2'] at hr
          have e5 := fun d g K => @c_takes_n d p1 n cs T h cd nm1 c2 q2 K 40 g H (by omega) q2'
          simp (maxDischargeDepth := 20) (maxSteps := 2000000) only [↓reduceIte, pm_WL_nil, bi_900, bi_901, bi_904, bi_905, pm_lget_0, pm_lget_s, pm_oI_s, pm_oA_s, pm_oJ_s, pm_oK_s, pm_oR_s, pm_oO_s, pm_oN_s, pm_oF_s, pm_oM_s, pm_oP_s, pm_pu_n, pm_pu_s, pm_bo_ne, pm_bo_eq, Nat.reduceAdd, Nat.reduceSub, Nat.reduceLT, Nat.reduceLeDiff, Nat.reduceEqDiff, Nat.zero_add, Nat.lt_add_one, Nat.zero_ne_one, Nat.succ_ne_self, List.length_cons, List.length_nil, true_and, and_true, true_or, or_true, false_or, or_false, false_implies, true_implies, implies_true, not_true_eq_false, not_false_eq_true, ne_eq, eq_self, e_Reader_isFactor, pm_okW_0, pm_okW_i, pm_okW_r, pm_okW_l, pm_ent_0, pm_ent_i, pm_ent_r, pm_ent_l, List.reduceReplicate, b_Reader_isFactor_0, b_Reader_isFactor_7, b_Reader_isFactor_16, b_Reader_isFactor_22, b_Reader_isFactor_27, b_Reader_isFactor_36, b_Reader_isFactor_46, b_Reader_isFactor_55, b_Reader_isFactor_68, b_Reader_isFactor_72, b_Reader_isFactor_78, b_Reader_isFactor_84, b_Reader_isFactor_89, b_Reader_isFactor_96, b_Reader_isFactor_98, b_Reader_isFactor_120, b_Reader_isFactor_138, f_iloadn1, w_istore2, pm_lset_0, pm_lset_1, pm_lset_n, pm_no2_n, pm_no2_i, pm_no2_r, pm_no2_l, f_iloadn2, w_iconst, ki_5, w_icmp_ge, pm_tgt_is, Int.cast_ofNat_Int, Int.reduceNeg, Int.reduceAdd, Int.reduceToNat, Int.zero_add, Int.zero_le_ofNat, Int.reduceLE, if_true, if_false, f_aloadn0, w_bipush, kb_33, iv_18_40_75, kk_n, kk_s, w_if_eq, nz_1, nz_m1, f_iinc2, ki_1, w_goto, kb_40, w_iadd, iv_18_71_75, kb_41, w_if_ne, ki_0, w_iret, lg_18, pm_fit_b, pm_fit_0, pm_fit_1, Bool.false_eq_true, w_ldc, lk_3_87, pm_oC_i, pm_oC_r, iv_18_89_75, w_istore3, f_iloadn3, w_if_ge, ki_m1, lk_3_93, w_istore, w_if_lt, f_iload4, iv_18_58_75, gf_18_12_75, gf_18_61_75, iv_18_80_7, iv_18_80_35, iv_18_80_62, iv_18_80_76, w_popi, w_popa, kb_6, f_iinc3, hs_75, v4_75, v4_76, v4_79, v4_80, v4_u75, v4_u76, v4_u79, gd_0, gd_s, e1, e3, e5]
          exact tst j inn p1 nm1 x3 x4 hj (by omega) hp1 hpn hr
  simp (maxDischargeDepth := 20) (maxSteps := 2000000) only [↓reduceIte, pm_WL_nil, bi_900, bi_901, bi_904, bi_905, pm_lget_0, pm_lget_s, pm_oI_s, pm_oA_s, pm_oJ_s, pm_oK_s, pm_oR_s, pm_oO_s, pm_oN_s, pm_oF_s, pm_oM_s, pm_oP_s, pm_pu_n, pm_pu_s, pm_bo_ne, pm_bo_eq, Nat.reduceAdd, Nat.reduceSub, Nat.reduceLT, Nat.reduceLeDiff, Nat.reduceEqDiff, Nat.zero_add, Nat.lt_add_one, Nat.zero_ne_one, Nat.succ_ne_self, List.length_cons, List.length_nil, true_and, and_true, true_or, or_true, false_or, or_false, false_implies, true_implies, implies_true, not_true_eq_false, not_false_eq_true, ne_eq, eq_self, e_Reader_isFactor, pm_okW_0, pm_okW_i, pm_okW_r, pm_okW_l, pm_ent_0, pm_ent_i, pm_ent_r, pm_ent_l, List.reduceReplicate, b_Reader_isFactor_0, b_Reader_isFactor_7, b_Reader_isFactor_16, b_Reader_isFactor_22, b_Reader_isFactor_27, b_Reader_isFactor_36, b_Reader_isFactor_46, b_Reader_isFactor_55, b_Reader_isFactor_57, b_Reader_isFactor_68, b_Reader_isFactor_72, b_Reader_isFactor_78, b_Reader_isFactor_84, b_Reader_isFactor_89, b_Reader_isFactor_96, b_Reader_isFactor_98, b_Reader_isFactor_113, b_Reader_isFactor_120, b_Reader_isFactor_138, f_iloadn1, w_istore2, pm_lset_0, pm_lset_1, pm_lset_n, pm_no2_n, pm_no2_i, pm_no2_r, pm_no2_l, f_iloadn2, w_iconst, ki_5, w_icmp_ge, pm_tgt_is, Int.cast_ofNat_Int, Int.reduceNeg, Int.reduceAdd, Int.reduceToNat, Int.zero_add, Int.zero_le_ofNat, Int.reduceLE, if_true, if_false, f_aloadn0, w_bipush, kb_33, iv_18_40_75, kk_n, kk_s, w_if_eq, nz_1, nz_m1, f_iinc2, ki_1, w_goto, kb_40, w_iadd, iv_18_71_75, kb_41, w_if_ne, ki_0, w_iret, lg_18, pm_fit_b, pm_fit_0, pm_fit_1, Bool.false_eq_true, w_ldc, lk_3_87, pm_oC_i, pm_oC_r, iv_18_89_75, w_istore3, f_iloadn3, w_if_ge, ki_m1, lk_3_93, w_istore, w_if_lt, f_iload4, iv_18_58_75, gf_18_12_75, gf_18_61_75, iv_18_80_7, iv_18_80_35, iv_18_80_62, iv_18_80_76, w_popi, w_popa, kb_6, f_iinc3, hs_75]
  exact scan l op 0 p nm none none ho (by omega) rfl hp rfl
theorem k_expr {T : Nat → Int32} {n : Nat} {h : Nat → List Int32} {c2 q2 : Int32} (H : CH T n h) : KC n h c2 q2 (ez T 5) 16 5 9 := k_isExpression H (k_isTerm H (k_factor H 5))
