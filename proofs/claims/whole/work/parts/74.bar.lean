/-! THE CALL bar -/
theorem c_clear {d : Nat} {h : Nat → List Int32} {K : Option Value → pm_S → Prop} : pm_WC fqP (d + 1) 4 [.ref 76] (mk h) K = K none (mk (up h 76 [0, 0, 2])) := by
  simp (maxDischargeDepth := 20) (maxSteps := 2000000) only [↓reduceIte, pm_WL_nil, bi_900, bi_901, bi_904, bi_905, pm_lget_0, pm_lget_s, pm_oI_s, pm_oA_s, pm_oJ_s, pm_oK_s, pm_oR_s, pm_oO_s, pm_oN_s, pm_oF_s, pm_oM_s, pm_oP_s, pm_pu_n, pm_pu_s, pm_bo_ne, pm_bo_eq, Nat.reduceAdd, Nat.reduceSub, Nat.reduceLT, Nat.reduceLeDiff, Nat.reduceEqDiff, Nat.zero_add, Nat.lt_add_one, Nat.zero_ne_one, Nat.succ_ne_self, List.length_cons, List.length_nil, true_and, and_true, true_or, or_true, false_or, or_false, false_implies, true_implies, implies_true, not_true_eq_false, not_false_eq_true, ne_eq, eq_self, e_Bar_clear, pm_okW_0, pm_okW_i, pm_okW_r, pm_okW_l, pm_ent_0, pm_ent_i, pm_ent_r, pm_ent_l, List.reduceReplicate, b_Bar_clear_0, f_aloadn0, w_iconst, ki_0, pf_4_25_7, pf_4_25_35, pf_4_25_62, pf_4_25_76, pm_fit_b, pm_fit_0, pm_fit_1, pf_4_28_7, pf_4_28_35, pf_4_28_62, pf_4_28_76, ki_2, pf_4_21_7, pf_4_21_35, pf_4_21_62, pf_4_21_76, w_ret, hs_76, up_at, up_ne, up_up, gd_0, gd_s]
theorem c_reads {T : Nat → Int32} {d n : Nat} {h : Nat → List Int32} {Q : Option Value → pm_S → Prop} (hL : LN h) (H : CH T n (up h 80 (h 20)))
    (hB : ¬ ((brM T 10 0 2).1 = true ∧ (brM T 10 0 2).2.1 = n) → ∀ (h2 : Nat → List Int32) (nm : Int32), LN h2 → (∀ k, (k < 75 ∨ 80 < k) → h2 k = h k) → h2 75 = [nI (brM T 10 0 2).2.1, nI n, nm] → Q (some (.int 0)) (mk h2))
    (hG : (brM T 10 0 2).1 = true → (brM T 10 0 2).2.1 = n → ∀ (h2 : Nat → List Int32) (i cs : Nat), LN h2 → (∀ k, (k < 75 ∨ 80 < k) → h2 k = h k) → i ≤ 10 → h2 76 = [nI i, nI cs, nI (brM T 10 0 2).2.2.2] → CI (h2 77) (h2 78) (h2 79) i cs (brM T 10 0 2).2.2.1 → Q (some (.int 1)) (mk h2)) :
    pm_WC fqP (d + 31) 14 [.ref 75, .ref 20, .int (nI n)] (mk h) Q := by
  have l20 : (h 20).length = 100 := hL 20 (by omega) (by omega)
  have l80 : (h 80).length = 100 := hL 80 (by omega) (by omega)
  have l77 : (h 77).length = 10 := hL 77 (by omega) (by omega)
  have l78 : (h 78).length = 10 := hL 78 (by omega) (by omega)
  have l79 : (h 79).length = 100 := hL 79 (by omega) (by omega)
  have hLn : ∀ (a b c x y : List Int32), a.length = 3 → b.length = 3 → c.length = 100 → x.length = 10 → y.length = 10 → LN (V4 (up (up (up h 80 (h 20)) 77 x) 78 y) a b c) := fun a b c x y ha hb hc hx hy => by
    unfold V4
    exact ln_up (ln_up (ln_up (ln_up (ln_up (ln_up hL l20) hx) hy) ha) hb) hc
  have hne : ∀ (a b c x y : List Int32) (k : Nat), (k < 75 ∨ 80 < k) → V4 (up (up (up h 80 (h 20)) 77 x) 78 y) a b c k = h k := fun a b c x y k hk => by
    rw [v4_ne (by omega) (by omega) (by omega), up_ne (by omega), up_ne (by omega), up_ne (by omega)]
  have key := @k_clauses T d n (up h 80 (h 20)) (nI n) Q H 9 1 0 0 2 (gd (h 75) 2) (h 79) [] (h 77) (h 78) rfl (by omega) (Nat.zero_le _) (Nat.le_refl _) (ci_0 l77 l78 l79)
    (fun g f76 nm' cd' fac' ends' g1 g2 g3 g4 => hB g _ nm' (hLn _ _ _ _ _ rfl g1 g2 g3 g4) (hne _ _ _ _ _) (v4_75 _ _ _ _))
    (fun g1 g2 i cs nm' cd' fac' ends' g3 g4 => hG g1 g2 _ i cs (hLn _ _ _ _ _ rfl rfl g4.2.2.1 g4.1 g4.2.1) (hne _ _ _ _ _) g3 (v4_76 _ _ _ _) (by
      have e7 : V4 (up (up (up h 80 (h 20)) 77 fac') 78 ends') [nI n, nI n, nm'] [nI i, nI cs, nI (brM T 10 0 2).2.2.2] cd' 77 = fac' := by rw [v4_77, up_ne (by decide), up_at]
      have e8 : V4 (up (up (up h 80 (h 20)) 77 fac') 78 ends') [nI n, nI n, nm'] [nI i, nI cs, nI (brM T 10 0 2).2.2.2] cd' 78 = ends' := by rw [v4_78, up_at]
      have e9 : V4 (up (up (up h 80 (h 20)) 77 fac') 78 ends') [nI n, nI n, nm'] [nI i, nI cs, nI (brM T 10 0 2).2.2.2] cd' 79 = cd' := v4_79 _ _ _ _
      show CI (V4 (up (up (up h 80 (h 20)) 77 fac') 78 ends') [nI n, nI n, nm'] [nI i, nI cs, nI (brM T 10 0 2).2.2.2] cd' 77) (V4 (up (up (up h 80 (h 20)) 77 fac') 78 ends') [nI n, nI n, nm'] [nI i, nI cs, nI (brM T 10 0 2).2.2.2] cd' 78) (V4 (up (up (up h 80 (h 20)) 77 fac') 78 ends') [nI n, nI n, nm'] [nI i, nI cs, nI (brM T 10 0 2).2.2.2] cd' 79) i cs _
      rw [e7, e8, e9]
      exact g4))
  have e0 : up (up (up h 80 (h 20)) 77 (h 77)) 78 (h 78) = up h 80 (h 20) := by
    have a1 : up (up h 80 (h 20)) 77 (h 77) = up h 80 (h 20) := by
      have := up_id (up h 80 (h 20)) 77
      rw [up_ne (by decide)] at this
      exact this
    rw [a1]
    have := up_id (up h 80 (h 20)) 78
    rw [up_ne (by decide)] at this
    exact this
  have e1 : V4 (up (up (up h 80 (h 20)) 77 (h 77)) 78 (h 78)) [nI 0, nI n, gd (h 75) 2] [nI (1 - 1), nI 0, nI 2] (h 79) = up (up (up h 80 (h 20)) 75 [0, nI n, gd (h 75) 2]) 76 [0, 0, 2] := by
    rw [e0]
    unfold V4
    have := up_id (up (up (up h 80 (h 20)) 75 [nI 0, nI n, gd (h 75) 2]) 76 [nI (1 - 1), nI 0, nI 2]) 79
    rw [up_ne (by decide), up_ne (by decide), up_ne (by decide)] at this
    exact this
  rw [e1] at key
  simp (maxDischargeDepth := 20) (maxSteps := 2000000) only [↓reduceIte, pm_WL_nil, bi_900, bi_901, bi_904, bi_905, pm_lget_0, pm_lget_s, pm_oI_s, pm_oA_s, pm_oJ_s, pm_oK_s, pm_oR_s, pm_oO_s, pm_oN_s, pm_oF_s, pm_oM_s, pm_oP_s, pm_pu_n, pm_pu_s, pm_bo_ne, pm_bo_eq, Nat.reduceAdd, Nat.reduceSub, Nat.reduceLT, Nat.reduceLeDiff, Nat.reduceEqDiff, Nat.zero_add, Nat.lt_add_one, Nat.zero_ne_one, Nat.succ_ne_self, List.length_cons, List.length_nil, true_and, and_true, true_or, or_true, false_or, or_false, false_implies, true_implies, implies_true, not_true_eq_false, not_false_eq_true, ne_eq, eq_self, e_Reader_reads, pm_okW_0, pm_okW_i, pm_okW_r, pm_okW_l, pm_ent_0, pm_ent_i, pm_ent_r, pm_ent_l, List.reduceReplicate, b_Reader_reads_0, b_Reader_reads_33, b_Reader_reads_40, b_Reader_reads_42, b_Reader_reads_53, b_Reader_reads_55, b_Reader_reads_61, b_Reader_reads_70, b_Reader_reads_72, b_Reader_reads_78, f_aloadn1, f_aloadn0, gf_14_18_75, iv_14_22, kk_n, kk_s, f_iloadn2, pf_14_26_75, pm_fit_b, pm_fit_0, pm_fit_1, w_iconst, ki_0, pf_14_30_75, gf_14_12_75, iv_14_33_7, iv_14_33_35, iv_14_33_62, iv_14_33_76, ki_1, w_istore3, pm_lset_0, pm_lset_1, pm_lset_n, pm_no2_n, pm_no2_i, pm_no2_r, pm_no2_l, f_iloadn3, w_bipush, kb_10, w_icmp_gt, pm_tgt_is, Int.cast_ofNat_Int, Int.reduceNeg, Int.reduceAdd, Int.reduceToNat, Int.zero_add, Int.zero_le_ofNat, Int.reduceLE, if_true, if_false, iv_14_36_75, w_if_ne, nz_1, nz_m1, w_iret, lg_14, Bool.false_eq_true, gf_14_30_75, gf_14_26_75, w_icmp_lt, w_icmp_eq, kb_59, iv_14_40_75, f_iinc3, w_goto, f_iald_20, f_alen_20, ia_20, ar_20, f_iast_20, iw_20, hs_20, hs_75, hs_76, f_iald_80, f_alen_80, ia_80, ar_80, f_iast_80, iw_80, hs_80, up_at, up_ne, up_up, gd_0, gd_s, c_X_copy, c_clear, Nat.reducePow, l20, l80]
  first
    | exact key
    | (rw [up_cm (k := 76) (j := 75) (by decide)] at key; exact key)
theorem br_b {T : Nat → Int32} {en : Nat} (h : TPE T en) : ∀ (k p q : Nat), p ≤ 1000 → (brM T k p q).2.1 ≤ 1000
  | 0, p, q, hp => hp
  | k + 1, p, q, hp => by
    have cb : (clS T p).2.1 ≤ 1000 := by
      by_cases z : p ≤ en
      · have := (cl_b h z).2.1; have := h.1; omega
      · have e : T p = -1 := h.2.2 p (by omega)
        have : clS T p = (false, p, [], none) := by unfold clS; rw [e, if_neg (by decide), if_neg (by decide), if_neg (by decide)]
        rw [this]; exact hp
    rw [brM]
    by_cases c : (clS T p).1 = true ∧ T (clS T p).2.1 = 59 ∧ 0 < k
    · rw [if_pos c]
      have lt := tp_lt (c := 59) h (by omega) c.2.1
      have := h.1
      exact br_b h k _ _ (by omega)
    · rw [if_neg c]; exact cb
def sB0 (ac : Nat) (s : List Int32) : List Int32 := ((s.set 28 0).set (224 + ac) 2).set (229 + ac) 0
theorem m_bar {T : Nat → Int32} {d ac en : Nat} {h : Nat → List Int32} {s : List Int32} {Q : Option Value → pm_S → Prop} (hs : h 86 = s) (hl : s.length = 934) (h23 : gd s 23 = nI ac) (hac : ac < 5) (h28 : gd s 28 = nI en) (hT : TPE T en) (htp : ∀ p, p < en → gd s (124 + p) = T p)
    (hB : ¬ ((brM T 10 0 2).1 = true ∧ (brM T 10 0 2).2.1 = en) → ∀ (s2 f : List Int32), PB ac (sB0 ac s) s2 (brM T 10 0 2).2.2.1 (brM T 10 0 2).2.2.2 → f.length = 12 → gd f 1 = gd (h 85) 1 → gd f 8 = gd (h 85) 8 → Q (some (.int (-10 - nI (brM T 10 0 2).2.1))) (mk (W2 h s2 f)))
    (hG : (brM T 10 0 2).1 = true → (brM T 10 0 2).2.1 = en → ∀ (s2 f : List Int32), PB ac (sB0 ac s) s2 (brM T 10 0 2).2.2.1 (brM T 10 0 2).2.2.2 → f.length = 12 → gd f 1 = gd (h 85) 1 → gd f 8 = gd (h 85) 8 → Q (some (.int (nI ac))) (mk (W2 h ((s2.set 23 (nI (ac + 1))).set 29 (nI ac)) f))) :
    pm_WC fqP (d + 32) 120 [.ref 85] (mk h) Q := by
  have h10 := hT.1
  let f0 := h 85
  let A : List Int32 := [gd f0 0, gd f0 1, nI ac, 0, nI en, 0, 0, gd f0 7, gd f0 8, gd f0 9, gd f0 10, gd f0 11]
  have H0 : RH T en ac A (sB0 ac s) ([] : List Int32).length := by
    refine ⟨hT, rfl, hac, rfl, by unfold sB0; rw [len_set, len_set, len_set, hl], fun p hp => ?_, ?_⟩
    · unfold sB0; rw [gd_ne (by omega), gd_ne (by omega), gd_ne (by omega), htp p hp]
    · unfold sB0; rw [gd_eq (by rw [len_set, len_set]; omega)]; rfl
  have P0 : PB ac (sB0 ac s) (sB0 ac s) [] 2 := by
    refine ⟨by unfold sB0; rw [len_set, len_set, len_set, hl], fun _ _ _ _ => rfl, fun _ _ _ => rfl, fun j hj => absurd hj (by simp), ?_, by omega, ?_, by simp⟩
    · unfold sB0; rw [gd_ne (by omega), gd_eq (by rw [len_set]; omega)]; rfl
    · unfold sB0; rw [gd_eq (by rw [len_set, len_set]; omega)]; rfl
  have e2 : ∀ K, pm_WC fqP (d + 31) 119 [.ref 85] (mk (W2 h (((s.set 28 0).set (224 + ac) 2).set (229 + ac) 0) [gd (h 85) 0, gd (h 85) 1, nI ac, 0, nI en, 0, 0, gd (h 85) 7, gd (h 85) 8, gd (h 85) 9, gd (h 85) 10, gd (h 85) 11])) K = K none (mk (W2 h (sCl ac (sB0 ac s) 0 (clS T 0)) (F5 A (nI (clS T 0).2.1) (bI (!(clS T 0).1)) 0))) := fun K => @c_M_clause d 0 0 ac en T h (sB0 ac s) A K H0 (by omega) (by omega)
  obtain ⟨r1, r2, r3⟩ := ix (j := 224 + ac) (by omega)
  obtain ⟨u1, u2, u3⟩ := ix (j := 229 + ac) (by omega)
  have pq : ∀ pc n r L S Q (h : Nat → List Int32), pm_WL fqP (d + 31) 120 pc ((.putfield 51, n) :: r) L (.int 0 :: .ref 85 :: S) (mk h) Q = pm_WL fqP (d + 31) 120 (pc + n) r L S (mk (up h 85 [gd (h 85) 0, gd (h 85) 1, gd (h 85) 2, gd (h 85) 3, gd (h 85) 4, 0, gd (h 85) 6, gd (h 85) 7, gd (h 85) 8, gd (h 85) 9, gd (h 85) 10, gd (h 85) 11])) Q := fun _ _ _ _ _ _ _ => pf_120_51_85 pm_fit_0
  have n5 : (nI ac = 5) = False := by rw [il_eq 5 ac (by omega) (by omega)]; exact eq_false (by omega)
  have g28 : ∀ x, gd (s.set 28 x) 23 = gd s 23 := fun x => gd_ne (by omega)
  have mkW : mk h = mk (W2 h s (h 85)) := by rw [← hs, w2_id]
  rw [mkW]
  simp (maxDischargeDepth := 20) (maxSteps := 2000000) only [↓reduceIte, pm_WL_nil, bi_900, bi_901, bi_904, bi_905, pm_lget_0, pm_lget_s, pm_oI_s, pm_oA_s, pm_oJ_s, pm_oK_s, pm_oR_s, pm_oO_s, pm_oN_s, pm_oF_s, pm_oM_s, pm_oP_s, pm_pu_n, pm_pu_s, pm_bo_ne, pm_bo_eq, Nat.reduceAdd, Nat.reduceSub, Nat.reduceLT, Nat.reduceLeDiff, Nat.reduceEqDiff, Nat.zero_add, Nat.lt_add_one, Nat.zero_ne_one, Nat.succ_ne_self, List.length_cons, List.length_nil, true_and, and_true, true_or, or_true, false_or, or_false, false_implies, true_implies, implies_true, not_true_eq_false, not_false_eq_true, ne_eq, eq_self, e_M_bar, pm_okW_0, pm_okW_i, pm_okW_r, pm_okW_l, pm_ent_0, pm_ent_i, pm_ent_r, pm_ent_l, List.reduceReplicate, b_M_bar_0, b_M_bar_11, b_M_bar_14, b_M_bar_100, b_M_bar_106, b_M_bar_115, b_M_bar_142, b_M_bar_153, b_M_bar_161, f_aloadn0, gf_120_9_85, w_bipush, kb_23, w_iconst, ki_5, w_icmp_ne, pm_tgt_is, Int.cast_ofNat_Int, Int.reduceNeg, Int.reduceAdd, Int.reduceToNat, Int.zero_add, Int.zero_le_ofNat, Int.reduceLE, if_true, if_false, kb_m4, w_iret, lg_120, pm_fit_b, pm_fit_0, pm_fit_1, Bool.false_eq_true, pf_120_72_85, kb_28, pf_120_48_85, ki_0, w_sipush, ks_224, gf_120_72_85, w_iadd, ki_2, ks_229, pf_120_45_85, pf_120_51_85, pf_120_75_85, ki_1, w_istore1, pm_lset_0, pm_lset_1, pm_lset_n, pm_no2_n, pm_no2_i, pm_no2_r, pm_no2_l, iv_120_118_85, kk_n, kk_s, gf_120_51_85, w_if_ne, nz_1, nz_m1, f_iloadn1, kb_10, w_icmp_ge, iv_120_55_85, kb_59, w_dupi, w_dupa, gf_120_45_85, f_iinc1, w_goto, gf_120_48_85, w_icmp_eq, kb_m10, w_isub, w_dup2i, w_dup2a, kb_29, hs_85, f_iald_86, f_alen_86, ia_86, ar_86, f_iast_86, iw_86, hs_86, lia_0, lrd_0, lin_0, lwr_0, lia_1, lrd_1, lin_1, lwr_1, lia_2, lrd_2, lin_2, lwr_2, lia_3, lrd_3, lin_3, lwr_3, lia_4, lrd_4, lin_4, lwr_4, lia_5, lrd_5, lin_5, lwr_5, lia_6, lrd_6, lin_6, lwr_6, lia_12, lrd_12, lin_12, lwr_12, lia_18, lrd_18, lin_18, lwr_18, lia_22, lrd_22, lin_22, lwr_22, lia_23, lrd_23, lin_23, lwr_23, lia_24, lrd_24, lin_24, lwr_24, lia_25, lrd_25, lin_25, lwr_25, lia_26, lrd_26, lin_26, lwr_26, lia_27, lrd_27, lin_27, lwr_27, lia_28, lrd_28, lin_28, lwr_28, lia_29, lrd_29, lin_29, lwr_29, lia_30, lrd_30, lin_30, lwr_30, lia_36, lrd_36, lin_36, lwr_36, lia_42, lrd_42, lin_42, lwr_42, lia_48, lrd_48, lin_48, lwr_48, lia_72, lrd_72, lin_72, lwr_72, lia_77, lrd_77, lin_77, lwr_77, lia_82, lrd_82, lin_82, lwr_82, lia_87, lrd_87, lin_87, lwr_87, lia_92, lrd_92, lin_92, lwr_92, lia_100, lrd_100, lin_100, lwr_100, lia_108, lrd_108, lin_108, lwr_108, lia_116, lrd_116, lin_116, lwr_116, lia_124, lrd_124, lin_124, lwr_124, lia_224, lrd_224, lin_224, lwr_224, lia_229, lrd_229, lin_229, lwr_229, lia_234, lrd_234, lin_234, lwr_234, w2_86, w2_85, w2_u86, w2_u85, gd_0, gd_s, hl, len_set, h23, h28, n5, r1, r2, u1, u2, pq, e2]
  have key := @c_M_clauses d ac en T h (sB0 ac s) A Q 9 1 0 2 (sB0 ac s) [] rfl (by omega) H0 P0 (Nat.zero_le _) (Nat.zero_le _) ?_
  · exact key
  intro n2 s2 hpb
  rw [List.nil_append] at hpb
  show pm_W fqP (d + 31) 120 135 [some (.ref 85), some (.int (nI n2))] [] (mk (W2 h s2 (F5 A (nI (brM T 10 0 2).2.1) (bI (!(brM T 10 0 2).1)) 0))) Q
  have hpb : PB ac (sB0 ac s) s2 (brM T 10 0 2).2.2.1 (brM T 10 0 2).2.2.2 := hpb
  have gA2 : gd A 2 = nI ac := rfl
  have gA4 : gd A 4 = nI en := rfl
  have l2 := hpb.1
  rw [b_M_bar_135]
  by_cases o : (brM T 10 0 2).1 = true
  · have o1 : bI (!(brM T 10 0 2).1) = 0 := by rw [o]; rfl
    by_cases z : (brM T 10 0 2).2.1 = en
    · have z1 : (nI en = nI en) = True := eq_true rfl
      have s23 : gd s2 23 = nI ac := by
        rw [hpb.2.1 23 (by omega) (by omega) (by omega)]
        unfold sB0; rw [gd_ne (by omega), gd_ne (by omega), gd_ne (by omega), h23]
      have := hG o z s2 (F5 A (nI en) 0 0) hpb rfl rfl rfl
      simp only [o1, z]
      simp (maxDischargeDepth := 20) (maxSteps := 2000000) only [↓reduceIte, pm_WL_nil, bi_900, bi_901, bi_904, bi_905, pm_lget_0, pm_lget_s, pm_oI_s, pm_oA_s, pm_oJ_s, pm_oK_s, pm_oR_s, pm_oO_s, pm_oN_s, pm_oF_s, pm_oM_s, pm_oP_s, pm_pu_n, pm_pu_s, pm_bo_ne, pm_bo_eq, Nat.reduceAdd, Nat.reduceSub, Nat.reduceLT, Nat.reduceLeDiff, Nat.reduceEqDiff, Nat.zero_add, Nat.lt_add_one, Nat.zero_ne_one, Nat.succ_ne_self, List.length_cons, List.length_nil, true_and, and_true, true_or, or_true, false_or, or_false, false_implies, true_implies, implies_true, not_true_eq_false, not_false_eq_true, ne_eq, eq_self, e_M_bar, pm_okW_0, pm_okW_i, pm_okW_r, pm_okW_l, pm_ent_0, pm_ent_i, pm_ent_r, pm_ent_l, List.reduceReplicate, b_M_bar_0, b_M_bar_11, b_M_bar_14, b_M_bar_100, b_M_bar_106, b_M_bar_115, b_M_bar_135, b_M_bar_142, b_M_bar_153, b_M_bar_161, f_aloadn0, gf_120_9_85, w_bipush, kb_23, w_iconst, ki_5, w_icmp_ne, pm_tgt_is, Int.cast_ofNat_Int, Int.reduceNeg, Int.reduceAdd, Int.reduceToNat, Int.zero_add, Int.zero_le_ofNat, Int.reduceLE, if_true, if_false, kb_m4, w_iret, lg_120, pm_fit_b, pm_fit_0, pm_fit_1, Bool.false_eq_true, pf_120_72_85, kb_28, pf_120_48_85, ki_0, w_sipush, ks_224, gf_120_72_85, w_iadd, ki_2, ks_229, pf_120_45_85, pf_120_51_85, pf_120_75_85, ki_1, w_istore1, pm_lset_0, pm_lset_1, pm_lset_n, pm_no2_n, pm_no2_i, pm_no2_r, pm_no2_l, iv_120_118_85, kk_n, kk_s, gf_120_51_85, w_if_ne, nz_1, nz_m1, f_iloadn1, kb_10, w_icmp_ge, iv_120_55_85, kb_59, w_dupi, w_dupa, gf_120_45_85, f_iinc1, w_goto, gf_120_48_85, w_icmp_eq, kb_m10, w_isub, w_dup2i, w_dup2a, kb_29, hs_85, f_iald_86, f_alen_86, ia_86, ar_86, f_iast_86, iw_86, hs_86, lia_0, lrd_0, lin_0, lwr_0, lia_1, lrd_1, lin_1, lwr_1, lia_2, lrd_2, lin_2, lwr_2, lia_3, lrd_3, lin_3, lwr_3, lia_4, lrd_4, lin_4, lwr_4, lia_5, lrd_5, lin_5, lwr_5, lia_6, lrd_6, lin_6, lwr_6, lia_12, lrd_12, lin_12, lwr_12, lia_18, lrd_18, lin_18, lwr_18, lia_22, lrd_22, lin_22, lwr_22, lia_23, lrd_23, lin_23, lwr_23, lia_24, lrd_24, lin_24, lwr_24, lia_25, lrd_25, lin_25, lwr_25, lia_26, lrd_26, lin_26, lwr_26, lia_27, lrd_27, lin_27, lwr_27, lia_28, lrd_28, lin_28, lwr_28, lia_29, lrd_29, lin_29, lwr_29, lia_30, lrd_30, lin_30, lwr_30, lia_36, lrd_36, lin_36, lwr_36, lia_42, lrd_42, lin_42, lwr_42, lia_48, lrd_48, lin_48, lwr_48, lia_72, lrd_72, lin_72, lwr_72, lia_77, lrd_77, lin_77, lwr_77, lia_82, lrd_82, lin_82, lwr_82, lia_87, lrd_87, lin_87, lwr_87, lia_92, lrd_92, lin_92, lwr_92, lia_100, lrd_100, lin_100, lwr_100, lia_108, lrd_108, lin_108, lwr_108, lia_116, lrd_116, lin_116, lwr_116, lia_124, lrd_124, lin_124, lwr_124, lia_224, lrd_224, lin_224, lwr_224, lia_229, lrd_229, lin_229, lwr_229, lia_234, lrd_234, lin_234, lwr_234, w2_86, w2_85, w2_u86, w2_u85, g5_0, g5_1, g5_2, g5_3, g5_4, g5_5, g5_6, l2, len_set, gA2, gA4, s23, z1, ni_1]
      exact this
    · have hz : (brM T 10 0 2).2.1 < 2 ^ 31 ∨ True := Or.inr trivial
      have := hB (fun q => z q.2) s2 (F5 A (nI (brM T 10 0 2).2.1) 0 0) hpb rfl rfl rfl
      have z1 : (nI (brM T 10 0 2).2.1 = nI en) = False := by
        refine eq_false fun q => z ?_
        have hb : (brM T 10 0 2).2.1 ≤ 1000 := br_b hT 10 0 2 (by omega)
        rw [ni_eq (by omega) (by omega)] at q; exact q
      simp only [o1]
      simp (maxDischargeDepth := 20) (maxSteps := 2000000) only [↓reduceIte, pm_WL_nil, bi_900, bi_901, bi_904, bi_905, pm_lget_0, pm_lget_s, pm_oI_s, pm_oA_s, pm_oJ_s, pm_oK_s, pm_oR_s, pm_oO_s, pm_oN_s, pm_oF_s, pm_oM_s, pm_oP_s, pm_pu_n, pm_pu_s, pm_bo_ne, pm_bo_eq, Nat.reduceAdd, Nat.reduceSub, Nat.reduceLT, Nat.reduceLeDiff, Nat.reduceEqDiff, Nat.zero_add, Nat.lt_add_one, Nat.zero_ne_one, Nat.succ_ne_self, List.length_cons, List.length_nil, true_and, and_true, true_or, or_true, false_or, or_false, false_implies, true_implies, implies_true, not_true_eq_false, not_false_eq_true, ne_eq, eq_self, e_M_bar, pm_okW_0, pm_okW_i, pm_okW_r, pm_okW_l, pm_ent_0, pm_ent_i, pm_ent_r, pm_ent_l, List.reduceReplicate, b_M_bar_0, b_M_bar_11, b_M_bar_14, b_M_bar_100, b_M_bar_106, b_M_bar_115, b_M_bar_135, b_M_bar_142, b_M_bar_153, b_M_bar_161, f_aloadn0, gf_120_9_85, w_bipush, kb_23, w_iconst, ki_5, w_icmp_ne, pm_tgt_is, Int.cast_ofNat_Int, Int.reduceNeg, Int.reduceAdd, Int.reduceToNat, Int.zero_add, Int.zero_le_ofNat, Int.reduceLE, if_true, if_false, kb_m4, w_iret, lg_120, pm_fit_b, pm_fit_0, pm_fit_1, Bool.false_eq_true, pf_120_72_85, kb_28, pf_120_48_85, ki_0, w_sipush, ks_224, gf_120_72_85, w_iadd, ki_2, ks_229, pf_120_45_85, pf_120_51_85, pf_120_75_85, ki_1, w_istore1, pm_lset_0, pm_lset_1, pm_lset_n, pm_no2_n, pm_no2_i, pm_no2_r, pm_no2_l, iv_120_118_85, kk_n, kk_s, gf_120_51_85, w_if_ne, nz_1, nz_m1, f_iloadn1, kb_10, w_icmp_ge, iv_120_55_85, kb_59, w_dupi, w_dupa, gf_120_45_85, f_iinc1, w_goto, gf_120_48_85, w_icmp_eq, kb_m10, w_isub, w_dup2i, w_dup2a, kb_29, hs_85, f_iald_86, f_alen_86, ia_86, ar_86, f_iast_86, iw_86, hs_86, lia_0, lrd_0, lin_0, lwr_0, lia_1, lrd_1, lin_1, lwr_1, lia_2, lrd_2, lin_2, lwr_2, lia_3, lrd_3, lin_3, lwr_3, lia_4, lrd_4, lin_4, lwr_4, lia_5, lrd_5, lin_5, lwr_5, lia_6, lrd_6, lin_6, lwr_6, lia_12, lrd_12, lin_12, lwr_12, lia_18, lrd_18, lin_18, lwr_18, lia_22, lrd_22, lin_22, lwr_22, lia_23, lrd_23, lin_23, lwr_23, lia_24, lrd_24, lin_24, lwr_24, lia_25, lrd_25, lin_25, lwr_25, lia_26, lrd_26, lin_26, lwr_26, lia_27, lrd_27, lin_27, lwr_27, lia_28, lrd_28, lin_28, lwr_28, lia_29, lrd_29, lin_29, lwr_29, lia_30, lrd_30, lin_30, lwr_30, lia_36, lrd_36, lin_36, lwr_36, lia_42, lrd_42, lin_42, lwr_42, lia_48, lrd_48, lin_48, lwr_48, lia_72, lrd_72, lin_72, lwr_72, lia_77, lrd_77, lin_77, lwr_77, lia_82, lrd_82, lin_82, lwr_82, lia_87, lrd_87, lin_87, lwr_87, lia_92, lrd_92, lin_92, lwr_92, lia_100, lrd_100, lin_100, lwr_100, lia_108, lrd_108, lin_108, lwr_108, lia_116, lrd_116, lin_116, lwr_116, lia_124, lrd_124, lin_124, lwr_124, lia_224, lrd_224, lin_224, lwr_224, lia_229, lrd_229, lin_229, lwr_229, lia_234, lrd_234, lin_234, lwr_234, w2_86, w2_85, w2_u86, w2_u85, g5_0, g5_1, g5_2, g5_3, g5_4, g5_5, g5_6, gA2, gA4, z1]
      exact this
  · have o1 : bI (!(brM T 10 0 2).1) = 1 := by rw [show (brM T 10 0 2).1 = false by simpa using o]; rfl
    have := hB (fun q => o q.1) s2 (F5 A (nI (brM T 10 0 2).2.1) 1 0) hpb rfl rfl rfl
    simp only [o1]
    simp (maxDischargeDepth := 20) (maxSteps := 2000000) only [↓reduceIte, pm_WL_nil, bi_900, bi_901, bi_904, bi_905, pm_lget_0, pm_lget_s, pm_oI_s, pm_oA_s, pm_oJ_s, pm_oK_s, pm_oR_s, pm_oO_s, pm_oN_s, pm_oF_s, pm_oM_s, pm_oP_s, pm_pu_n, pm_pu_s, pm_bo_ne, pm_bo_eq, Nat.reduceAdd, Nat.reduceSub, Nat.reduceLT, Nat.reduceLeDiff, Nat.reduceEqDiff, Nat.zero_add, Nat.lt_add_one, Nat.zero_ne_one, Nat.succ_ne_self, List.length_cons, List.length_nil, true_and, and_true, true_or, or_true, false_or, or_false, false_implies, true_implies, implies_true, not_true_eq_false, not_false_eq_true, ne_eq, eq_self, e_M_bar, pm_okW_0, pm_okW_i, pm_okW_r, pm_okW_l, pm_ent_0, pm_ent_i, pm_ent_r, pm_ent_l, List.reduceReplicate, b_M_bar_0, b_M_bar_11, b_M_bar_14, b_M_bar_100, b_M_bar_106, b_M_bar_115, b_M_bar_135, b_M_bar_142, b_M_bar_153, b_M_bar_161, f_aloadn0, gf_120_9_85, w_bipush, kb_23, w_iconst, ki_5, w_icmp_ne, pm_tgt_is, Int.cast_ofNat_Int, Int.reduceNeg, Int.reduceAdd, Int.reduceToNat, Int.zero_add, Int.zero_le_ofNat, Int.reduceLE, if_true, if_false, kb_m4, w_iret, lg_120, pm_fit_b, pm_fit_0, pm_fit_1, Bool.false_eq_true, pf_120_72_85, kb_28, pf_120_48_85, ki_0, w_sipush, ks_224, gf_120_72_85, w_iadd, ki_2, ks_229, pf_120_45_85, pf_120_51_85, pf_120_75_85, ki_1, w_istore1, pm_lset_0, pm_lset_1, pm_lset_n, pm_no2_n, pm_no2_i, pm_no2_r, pm_no2_l, iv_120_118_85, kk_n, kk_s, gf_120_51_85, w_if_ne, nz_1, nz_m1, f_iloadn1, kb_10, w_icmp_ge, iv_120_55_85, kb_59, w_dupi, w_dupa, gf_120_45_85, f_iinc1, w_goto, gf_120_48_85, w_icmp_eq, kb_m10, w_isub, w_dup2i, w_dup2a, kb_29, hs_85, f_iald_86, f_alen_86, ia_86, ar_86, f_iast_86, iw_86, hs_86, lia_0, lrd_0, lin_0, lwr_0, lia_1, lrd_1, lin_1, lwr_1, lia_2, lrd_2, lin_2, lwr_2, lia_3, lrd_3, lin_3, lwr_3, lia_4, lrd_4, lin_4, lwr_4, lia_5, lrd_5, lin_5, lwr_5, lia_6, lrd_6, lin_6, lwr_6, lia_12, lrd_12, lin_12, lwr_12, lia_18, lrd_18, lin_18, lwr_18, lia_22, lrd_22, lin_22, lwr_22, lia_23, lrd_23, lin_23, lwr_23, lia_24, lrd_24, lin_24, lwr_24, lia_25, lrd_25, lin_25, lwr_25, lia_26, lrd_26, lin_26, lwr_26, lia_27, lrd_27, lin_27, lwr_27, lia_28, lrd_28, lin_28, lwr_28, lia_29, lrd_29, lin_29, lwr_29, lia_30, lrd_30, lin_30, lwr_30, lia_36, lrd_36, lin_36, lwr_36, lia_42, lrd_42, lin_42, lwr_42, lia_48, lrd_48, lin_48, lwr_48, lia_72, lrd_72, lin_72, lwr_72, lia_77, lrd_77, lin_77, lwr_77, lia_82, lrd_82, lin_82, lwr_82, lia_87, lrd_87, lin_87, lwr_87, lia_92, lrd_92, lin_92, lwr_92, lia_100, lrd_100, lin_100, lwr_100, lia_108, lrd_108, lin_108, lwr_108, lia_116, lrd_116, lin_116, lwr_116, lia_124, lrd_124, lin_124, lwr_124, lia_224, lrd_224, lin_224, lwr_224, lia_229, lrd_229, lin_229, lwr_229, lia_234, lrd_234, lin_234, lwr_234, w2_86, w2_85, w2_u86, w2_u85, g5_0, g5_1, g5_2, g5_3, g5_4, g5_5, g5_6, gA2, gA4]
    exact this
theorem inv_b {scr : List Int32} {h h1 : Nat → List Int32} (hi : INV scr h) (hL : LN h1) (hw : WF 9999 (h1 86)) (hc : CE 5 (h1 86) h1) (e : ∀ k, (k < 5 ∨ (32 < k ∧ k < 61) ∨ k = 81 ∨ k = 82 ∨ k = 87 ∨ k = 93) → h1 k = h k) (e1 : gd (h1 85) 1 = gd (h 85) 1) (e8 : gd (h1 85) 8 = gd (h 85) 8) : INV scr h1 := by
  obtain ⟨_, ⟨a0, a1, a2, a3⟩, _, _, hk, ⟨k1, k2, k3⟩⟩ := hi
  refine ⟨hL, ⟨?_, ?_, ?_, ?_⟩, hw, hc, ?_, ?_, ?_, ?_⟩
  · rw [e 0 (by omega), a0]
  · rw [e 1 (by omega), a1]
  · rw [e 2 (by omega), a2]
  · rw [e 3 (by omega), a3]
  · rw [e 4 (by omega), e1, e 87 (by omega)]
    rcases hk with q | ⟨q1, q2, q3, q4⟩
    · exact Or.inl q
    · exact Or.inr ⟨q1, q2, q3, ce_cg q4 (hL 47 (by omega) (by omega)) fun k k1 k2 k3 => e k (by omega)⟩
  · rw [e 81 (by omega), e8, k1]
  · rw [e8]; exact k2
  · rw [e 82 (by omega), e 93 (by omega), k3]
theorem sb0_gd {ac i : Nat} {s : List Int32} (h1 : ¬ i = 28) (h2 : ¬ i = 224 + ac) (h3 : ¬ i = 229 + ac) : gd (sB0 ac s) i = gd s i := by unfold sB0; rw [gd_ne h3, gd_ne h2, gd_ne h1]
theorem pb_u {ac q : Nat} {s s2 L : List Int32} (hl : s.length = 934) (hac : ac < 5) (hp : PB ac (sB0 ac s) s2 L q) : (∀ i, i < 234 → ¬ i = 28 → ¬ i = 224 + ac → ¬ i = 229 + ac → gd s2 i = gd s i) ∧ (∀ i, 234 ≤ i → ¬ (234 + 140 * ac ≤ i ∧ i < 234 + 140 * ac + 140) → gd s2 i = gd s i) ∧ gd s2 28 = 0 := by
  obtain ⟨b1, b2, b3, b4, b5, b6, b7, b8⟩ := hp
  refine ⟨fun i h1 h2 h3 h4 => by rw [b2 i h1 h3 h4, sb0_gd h2 h3 h4], fun i h1 h2 => by rw [b3 i h1 h2, sb0_gd (by omega) (by omega) (by omega)], ?_⟩
  rw [b2 28 (by omega) (by omega) (by omega)]
  unfold sB0
  rw [gd_ne (by omega), gd_ne (by omega), gd_eq (by omega)]
/-- the row's numbers stay in their bounds -/
theorem pb_n {ac q : Nat} {s s2 L : List Int32} (hw : WF 9999 s) (hac : ac < 5) (hp : PB ac (sB0 ac s) s2 L q) : ∀ i, i < 234 → ¬ i = 29 → ¬ (100 ≤ i ∧ i < 108) → gd s2 i = nI (nN s2 i) ∧ nN s2 i ≤ bnd 9999 i := by
  obtain ⟨u1, u2, u3⟩ := pb_u (wf_len hw) hac hp
  obtain ⟨b1, b2, b3, b4, b5, b6, b7, b8⟩ := hp
  intro i h1 h2 h3
  by_cases z1 : i = 28
  · subst z1
    have : nN s2 28 = 0 := by unfold nN; rw [u3]; rfl
    rw [this, u3]; exact ⟨rfl, Nat.zero_le _⟩
  by_cases z2 : i = 224 + ac
  · have : nN s2 i = q := by unfold nN; rw [z2, b5, ni_nat (by omega)]
    rw [this, z2, b5]
    refine ⟨rfl, ?_⟩
    unfold bnd
    rw [if_neg (by omega), if_neg (by omega), if_neg (by omega), if_neg (by omega), if_neg (by omega), if_neg (by omega), if_neg (by omega), if_neg (by omega), if_neg (by omega), if_neg (by omega), if_neg (by omega), if_neg (by omega), if_neg (by omega), if_neg (by omega), if_neg (by omega), if_neg (by omega), if_pos (by omega)]
    omega
  by_cases z3 : i = 229 + ac
  · have : nN s2 i = L.length := by unfold nN; rw [z3, b7, ni_nat (by omega)]
    rw [this, z3, b7]
    refine ⟨rfl, Nat.le_trans b8 (Nat.le_of_eq (by unfold bnd; rw [if_neg (by omega), if_neg (by omega), if_neg (by omega), if_neg (by omega), if_neg (by omega), if_neg (by omega), if_neg (by omega), if_neg (by omega), if_neg (by omega), if_neg (by omega), if_neg (by omega), if_neg (by omega), if_neg (by omega), if_neg (by omega), if_neg (by omega), if_neg (by omega), if_neg (by omega)]))⟩
  have := hw.2.1 i h1 h2 h3
  have e := u1 i h1 z1 z2 z3
  unfold nN at this ⊢
  rw [e]; exact this
theorem pb_p {ac q : Nat} {s s2 L : List Int32} (hw : WF 9999 s) (hac : ac < 5) (hp : PB ac (sB0 ac s) s2 L q) : ∀ k, k < 8 → (nN s2 (92 + k) = 1 ∨ nN s2 (92 + k) = 2 → gd s2 (100 + k) = nI (nN s2 (100 + k)) ∧ nN s2 (100 + k) < 6) ∧ (nN s2 (92 + k) = 3 → gd s2 (100 + k) = nI (nN s2 (100 + k)) ∧ nN s2 (100 + k) < 5) := by
  obtain ⟨u1, u2, u3⟩ := pb_u (wf_len hw) hac hp
  intro k hk
  have := hw.2.2.1 k hk
  unfold nN at this ⊢
  rw [u1 (92 + k) (by omega) (by omega) (by omega) (by omega), u1 (100 + k) (by omega) (by omega) (by omega) (by omega)]
  exact this
theorem steps_keep {ac q : Nat} {s s2 L : List Int32} (hw : WF 9999 s) (hac : ac < 5) (hh : gd s 29 = -1 ∨ nN s 29 < ac) (hp : PB ac (sB0 ac s) s2 L q) : stepsOf s2 = stepsOf s ∧ quo s2 = quo s := by
  obtain ⟨u1, u2, u3⟩ := pb_u (wf_len hw) hac hp
  have e29 : gd s2 29 = gd s 29 := u1 29 (by omega) (by omega) (by omega) (by omega)
  have n29 : nN s2 29 = nN s 29 := by unfold nN; rw [e29]
  unfold stepsOf quo
  rw [e29, n29]
  by_cases z : gd s 29 = -1
  · rw [if_pos z, if_pos z, if_pos z, if_pos z]; exact ⟨rfl, rfl⟩
  · rw [if_neg z, if_neg z, if_neg z, if_neg z]
    have lt : nN s 29 < ac := hh.resolve_left z
    have m := wf_b hw (229 + nN s 29) 140 (by omega) (by omega) (by omega) (Nat.le_of_eq (by unfold bnd; rw [if_neg (by omega), if_neg (by omega), if_neg (by omega), if_neg (by omega), if_neg (by omega), if_neg (by omega), if_neg (by omega), if_neg (by omega), if_neg (by omega), if_neg (by omega), if_neg (by omega), if_neg (by omega), if_neg (by omega), if_neg (by omega), if_neg (by omega), if_neg (by omega), if_neg (by omega)]))
    have e2 : nN s2 (229 + nN s 29) = nN s (229 + nN s 29) := congrArg Int32.toNatClampNeg (u1 _ (by omega) (by omega) (by omega) (by omega))
    rw [e2, u1 (224 + nN s 29) (by omega) (by omega) (by omega) (by omega)]
    refine ⟨sl_cg (by rw [wf_len hw]; omega) (by rw [hp.1]; omega) fun i hi => u2 _ (by omega) (by omega), rfl⟩
theorem pb_wf {ac q : Nat} {s s2 L : List Int32} (hw : WF 9999 s) (hac : ac < 5) (hh : gd s 29 = -1 ∨ nN s 29 < ac) (hp : PB ac (sB0 ac s) s2 L q) : WF 9999 s2 := by
  have e29 : gd s2 29 = gd s 29 := (pb_u (wf_len hw) hac hp).1 29 (by omega) (by omega) (by omega) (by omega)
  have n29 : nN s2 29 = nN s 29 := by unfold nN; rw [e29]
  refine ⟨hp.1, pb_n hw hac hp, pb_p hw hac hp, ?_, ?_⟩
  · rw [e29, n29]; exact hw.2.2.2.1
  · rw [(steps_keep hw hac hh hp).1]; exact hw.2.2.2.2
def sG (ac : Nat) (s2 : List Int32) : List Int32 := (s2.set 23 (nI (ac + 1))).set 29 (nI ac)
theorem sg_gd {ac i : Nat} {s2 : List Int32} (h1 : ¬ i = 23) (h2 : ¬ i = 29) : gd (sG ac s2) i = gd s2 i := by unfold sG; rw [gd_ne h2, gd_ne h1]
theorem sg_23 {ac : Nat} {s2 : List Int32} (h : s2.length = 934) : gd (sG ac s2) 23 = nI (ac + 1) ∧ gd (sG ac s2) 29 = nI ac := by
  unfold sG
  exact ⟨by rw [gd_ne (by omega), gd_eq (by omega)], gd_eq (by rw [len_set]; omega)⟩
theorem sg_st {ac q : Nat} {s s2 L : List Int32} (hac : ac < 5) (hp : PB ac (sB0 ac s) s2 L q) : stepsOf (sG ac s2) = L ∧ quo (sG ac s2) = nI q ∧ nN (sG ac s2) 29 = ac := by
  obtain ⟨b1, b2, b3, b4, b5, b6, b7, b8⟩ := hp
  obtain ⟨g1, g2⟩ := sg_23 (ac := ac) b1
  have n29 : nN (sG ac s2) 29 = ac := by unfold nN; rw [g2, ni_nat (by omega)]
  have nm1 : ¬ nI ac = -1 := fun e => neg1_ni (by omega) e.symm
  have n229 : nN (sG ac s2) (229 + ac) = L.length := by unfold nN; rw [sg_gd (by omega) (by omega), b7, ni_nat (by omega)]
  have l934 : (sG ac s2).length = 934 := by unfold sG; rw [len_set, len_set, b1]
  unfold stepsOf quo
  rw [g2, n29, if_neg nm1, if_neg nm1, n229, sg_gd (by omega) (by omega), b5]
  refine ⟨?_, rfl, rfl⟩
  apply gd_ext (by rw [sl_len (by omega)])
  intro k hk
  rw [sl_len (by omega)] at hk
  rw [gd_sl hk, sg_gd (by omega) (by omega), b4 k hk]
theorem sg_wf {ac q : Nat} {s s2 L : List Int32} (hw : WF 9999 s) (hac : ac < 5) (hr : rok L 0) (hp : PB ac (sB0 ac s) s2 L q) : WF 9999 (sG ac s2) := by
  obtain ⟨g1, g2⟩ := sg_23 (ac := ac) hp.1
  obtain ⟨t1, t2, t3⟩ := sg_st hac hp
  have nn : ∀ i, ¬ i = 23 → ¬ i = 29 → nN (sG ac s2) i = nN s2 i := fun i h1 h2 => by unfold nN; rw [sg_gd h1 h2]
  refine ⟨by unfold sG; rw [len_set, len_set, hp.1], fun i h1 h2 h3 => ?_, fun k hk => ?_, Or.inr ⟨by rw [g2, t3], by rw [t3]; exact hac⟩, by rw [t1]; exact hr⟩
  · by_cases z : i = 23
    · subst z
      have : nN (sG ac s2) 23 = ac + 1 := by unfold nN; rw [g1, ni_nat (by omega)]
      rw [this, g1]; exact ⟨rfl, Nat.le_trans (show ac + 1 ≤ 5 by omega) (by simp [bnd])⟩
    · rw [sg_gd z h2, nn i z h2]; exact pb_n hw hac hp i h1 h2 h3
  · rw [nn _ (by omega) (by omega), nn _ (by omega) (by omega), sg_gd (by omega) (by omega)]
    exact pb_p hw hac hp k hk
/-- the class's side of now, when only the bar, the tape's size and the bars' number are otherwise -/
theorem ce_bar {s t : List Int32} {h h1 : Nat → List Int32} (hc : CE 5 s h) (hl : s.length = 934) (hl2 : t.length = 934) (hg : ∀ i, i < 224 → ¬ i = 23 → ¬ i = 28 → ¬ i = 29 → gd t i = gd s i) (h13 : (h1 19).length = 6) (e : ∀ k, 6 ≤ k → k < 33 → ¬ (7 ≤ k ∧ k < 11) → ¬ k = 19 → h1 k = h k) (h5 : h1 5 = [gd t 28, gd t 23]) (hb : CB 7 t h1) (hd : gd t 29 = -1 ∨ nN t 29 < nN t 23) (h5' : nN s 24 ≤ 5) : CE 5 t h1 := by
  obtain ⟨⟨c0, c5, c6, c7, c8, c9, c10, c11, c12, c13, cb⟩, d0, d15, d16, d17, d18, d19, d20, d21, d22, d24, d25, d26, dis⟩ := hc
  simp only [Nat.reduceAdd] at c0 c5 c6 c7 c8 c9 c10 c11 c12 c13 d0 d15 d16 d17 d18 d19 d20 d21 d22 d24 d25 d26
  have nn : ∀ i, i < 224 → ¬ i = 23 → ¬ i = 28 → ¬ i = 29 → nN t i = nN s i := fun i h1 h2 h3 h4 => by unfold nN; rw [hg i h1 h2 h3 h4]
  have un : ∀ a n, (a + n ≤ 23 ∨ 30 ≤ a) → a + n ≤ 224 → sl t a n = sl s a n := fun a n h1 h2 => sl_cg (by omega) (by omega) fun i hi => hg _ (by omega) (by omega) (by omega) (by omega)
  refine ⟨⟨?_, ?_, ?_, ?_, ?_, ?_, ?_, ?_, ?_, h13, hb⟩, h5, ?_, ?_, ?_, ?_, ?_, ?_, ?_, ?_, ?_, ?_, ?_, ?_⟩ <;> try simp only [Nat.reduceAdd]
  · rw [e 6 (by omega) (by omega) (by omega) (by omega), c0, nn 24 (by omega) (by omega) (by omega) (by omega), hg 0 (by omega) (by omega) (by omega) (by omega), show cN t = cN s from msk_cg 5 fun m hm => nn (1 + m) (by omega) (by omega) (by omega) (by omega)]
  · rw [e 11 (by omega) (by omega) (by omega) (by omega), c5, hg 22 (by omega) (by omega) (by omega) (by omega), lo_cg fun p hp => hg _ (by omega) (by omega) (by omega) (by omega)]
  · rw [e 12 (by omega) (by omega) (by omega) (by omega), c6, un 30 6 (by omega) (by omega)]
  · rw [e 13 (by omega) (by omega) (by omega) (by omega), c7, un 36 6 (by omega) (by omega)]
  · rw [e 14 (by omega) (by omega) (by omega) (by omega), c8, un 42 6 (by omega) (by omega)]
  · rw [e 15 (by omega) (by omega) (by omega) (by omega), c9, un 12 6 (by omega) (by omega)]
  · rw [e 16 (by omega) (by omega) (by omega) (by omega), c10, un 48 24 (by omega) (by omega)]
  · rw [e 17 (by omega) (by omega) (by omega) (by omega), c11, un 18 4 (by omega) (by omega)]
  · rw [e 18 (by omega) (by omega) (by omega) (by omega), c12, un 72 5 (by omega) (by omega)]
  · rw [e 20 (by omega) (by omega) (by omega) (by omega), d15, un 124 100 (by omega) (by omega)]
  · rw [e 21 (by omega) (by omega) (by omega) (by omega), d16, hg 25 (by omega) (by omega) (by omega) (by omega)]
  · rw [e 22 (by omega) (by omega) (by omega) (by omega), d17, un 77 5 (by omega) (by omega)]
  · rw [e 23 (by omega) (by omega) (by omega) (by omega), d18, un 82 5 (by omega) (by omega)]
  · rw [e 24 (by omega) (by omega) (by omega) (by omega), d19, un 87 5 (by omega) (by omega)]
  · rw [e 25 (by omega) (by omega) (by omega) (by omega), d20, hg 26 (by omega) (by omega) (by omega) (by omega)]
  · rw [e 26 (by omega) (by omega) (by omega) (by omega), d21, un 92 8 (by omega) (by omega)]
  · rw [e 27 (by omega) (by omega) (by omega) (by omega), d22, un 100 8 (by omega) (by omega)]
  · rw [e 29 (by omega) (by omega) (by omega) (by omega), d24, hg 27 (by omega) (by omega) (by omega) (by omega)]
  · rw [e 30 (by omega) (by omega) (by omega) (by omega), d25, un 108 8 (by omega) (by omega)]
  · rw [e 31 (by omega) (by omega) (by omega) (by omega), d26, un 116 8 (by omega) (by omega)]
  · refine ⟨fun a b h1 h2 => ?_, hd⟩
    rw [nn 24 (by omega) (by omega) (by omega) (by omega)] at h2
    rw [nn (72 + a) (by omega) (by omega) (by omega) (by omega), nn (72 + b) (by omega) (by omega) (by omega) (by omega)]
    exact dis.1 a b h1 h2
theorem q_bar {scr : List Int32} {d : Nat} {h : Nat → List Int32} (hi : INV scr h) : BOTH scr (d + 40) 46 120 [] h := by
  have hi0 := hi
  obtain ⟨hL, ⟨ro0, ro1, ro2, ro3⟩, hw, hc, hk, ha⟩ := hi
  have hc0 := hc
  obtain ⟨⟨c0, c5, c6, c7, c8, c9, c10, c11, c12, c13, cb⟩, d0, d15, d16, d17, d18, d19, d20, d21, d22, d24, d25, d26, dis⟩ := hc
  simp only [Nat.reduceAdd] at c0 c5 c6 c7 c8 c9 c10 c11 c12 c13 cb d0 d15 d16 d17 d18 d19 d20 d21 d22 d24 d25 d26
  have hl := wf_len hw
  obtain ⟨hn, hn6⟩ := wf_n hw
  have ha5 := (wf_a hw).2
  unfold BOTH
  have t1 := wf_g hw 23 (by omega) (by omega) (by omega)
  have t2 := wf_b hw 23 5 (by omega) (by omega) (by omega) (by simp [bnd])
  have e1 := wf_g hw 28 (by omega) (by omega) (by omega)
  have e2 := wf_b hw 28 100 (by omega) (by omega) (by omega) (by simp [bnd])
  by_cases full : nN (h 86) 23 = 5
  · have f1 : (nI (nN (h 86) 23) < 5) = False := by rw [full]; exact eq_false (by decide)
    have f2 : (nI (nN (h 86) 23) = 5) = True := by rw [full]; exact eq_true rfl
    simp (maxDischargeDepth := 20) (maxSteps := 2000000) only [↓reduceIte, pm_WL_nil, bi_900, bi_901, bi_904, bi_905, pm_lget_0, pm_lget_s, pm_oI_s, pm_oA_s, pm_oJ_s, pm_oK_s, pm_oR_s, pm_oO_s, pm_oN_s, pm_oF_s, pm_oM_s, pm_oP_s, pm_pu_n, pm_pu_s, pm_bo_ne, pm_bo_eq, Nat.reduceAdd, Nat.reduceSub, Nat.reduceLT, Nat.reduceLeDiff, Nat.reduceEqDiff, Nat.zero_add, Nat.lt_add_one, Nat.zero_ne_one, Nat.succ_ne_self, List.length_cons, List.length_nil, true_and, and_true, true_or, or_true, false_or, or_false, false_implies, true_implies, implies_true, not_true_eq_false, not_false_eq_true, ne_eq, eq_self, e_X_bar, pm_okW_0, pm_okW_i, pm_okW_r, pm_okW_l, pm_ent_0, pm_ent_i, pm_ent_r, pm_ent_l, List.reduceReplicate, b_X_bar_0, b_X_bar_11, b_X_bar_14, b_X_bar_48, b_X_bar_59, f_aloadn0, gf_46_12_4, gf_46_60_5, gf_46_60_33, w_iconst, ki_5, w_icmp_lt, pm_tgt_is, Int.cast_ofNat_Int, Int.reduceNeg, Int.reduceAdd, Int.reduceToNat, Int.zero_add, Int.zero_le_ofNat, Int.reduceLE, if_true, if_false, w_bipush, kb_m4, w_iret, lg_46, pm_fit_b, pm_fit_0, pm_fit_1, Bool.false_eq_true, gf_46_31_4, gf_46_53_5, gf_46_53_33, gf_46_49_5, gf_46_49_33, iv_46_63_75, kk_n, kk_s, w_istore1, pm_lset_0, pm_lset_1, pm_lset_n, pm_no2_n, pm_no2_i, pm_no2_r, pm_no2_l, ki_0, pf_46_49_5, pf_46_49_33, f_iloadn1, w_if_ne, nz_1, nz_m1, kb_m10, gf_46_67_75, w_isub, gf_46_70_5, gf_46_70_33, gf_46_73_6, gf_46_73_34, gf_46_73_61, gf_46_77_75, iv_46_80_7, iv_46_80_35, iv_46_80_62, iv_46_80_76, w_dupi, w_dupa, ki_1, w_iadd, pf_46_60_5, pf_46_60_33, hs_4, hs_5, up_at, up_ne, up_up, gd_0, gd_s, d0, t1, f1]
    simp (maxDischargeDepth := 20) (maxSteps := 2000000) only [↓reduceIte, pm_WL_nil, bi_900, bi_901, bi_904, bi_905, pm_lget_0, pm_lget_s, pm_oI_s, pm_oA_s, pm_oJ_s, pm_oK_s, pm_oR_s, pm_oO_s, pm_oN_s, pm_oF_s, pm_oM_s, pm_oP_s, pm_pu_n, pm_pu_s, pm_bo_ne, pm_bo_eq, Nat.reduceAdd, Nat.reduceSub, Nat.reduceLT, Nat.reduceLeDiff, Nat.reduceEqDiff, Nat.zero_add, Nat.lt_add_one, Nat.zero_ne_one, Nat.succ_ne_self, List.length_cons, List.length_nil, true_and, and_true, true_or, or_true, false_or, or_false, false_implies, true_implies, implies_true, not_true_eq_false, not_false_eq_true, ne_eq, eq_self, e_M_bar, pm_okW_0, pm_okW_i, pm_okW_r, pm_okW_l, pm_ent_0, pm_ent_i, pm_ent_r, pm_ent_l, List.reduceReplicate, b_M_bar_0, b_M_bar_11, b_M_bar_14, b_M_bar_100, b_M_bar_106, b_M_bar_115, b_M_bar_135, b_M_bar_142, b_M_bar_153, b_M_bar_161, f_aloadn0, gf_120_9_85, w_bipush, kb_23, w_iconst, ki_5, w_icmp_ne, pm_tgt_is, Int.cast_ofNat_Int, Int.reduceNeg, Int.reduceAdd, Int.reduceToNat, Int.zero_add, Int.zero_le_ofNat, Int.reduceLE, if_true, if_false, kb_m4, w_iret, lg_120, pm_fit_b, pm_fit_0, pm_fit_1, Bool.false_eq_true, pf_120_72_85, kb_28, pf_120_48_85, ki_0, w_sipush, ks_224, gf_120_72_85, w_iadd, ki_2, ks_229, pf_120_45_85, pf_120_51_85, pf_120_75_85, ki_1, w_istore1, pm_lset_0, pm_lset_1, pm_lset_n, pm_no2_n, pm_no2_i, pm_no2_r, pm_no2_l, iv_120_118_85, kk_n, kk_s, gf_120_51_85, w_if_ne, nz_1, nz_m1, f_iloadn1, kb_10, w_icmp_ge, iv_120_55_85, kb_59, w_dupi, w_dupa, gf_120_45_85, f_iinc1, w_goto, gf_120_48_85, w_icmp_eq, kb_m10, w_isub, w_dup2i, w_dup2a, kb_29, hs_85, f_iald_86, f_alen_86, ia_86, ar_86, f_iast_86, iw_86, hs_86, lia_0, lrd_0, lin_0, lwr_0, lia_1, lrd_1, lin_1, lwr_1, lia_2, lrd_2, lin_2, lwr_2, lia_3, lrd_3, lin_3, lwr_3, lia_4, lrd_4, lin_4, lwr_4, lia_5, lrd_5, lin_5, lwr_5, lia_6, lrd_6, lin_6, lwr_6, lia_12, lrd_12, lin_12, lwr_12, lia_18, lrd_18, lin_18, lwr_18, lia_22, lrd_22, lin_22, lwr_22, lia_23, lrd_23, lin_23, lwr_23, lia_24, lrd_24, lin_24, lwr_24, lia_25, lrd_25, lin_25, lwr_25, lia_26, lrd_26, lin_26, lwr_26, lia_27, lrd_27, lin_27, lwr_27, lia_28, lrd_28, lin_28, lwr_28, lia_29, lrd_29, lin_29, lwr_29, lia_30, lrd_30, lin_30, lwr_30, lia_36, lrd_36, lin_36, lwr_36, lia_42, lrd_42, lin_42, lwr_42, lia_48, lrd_48, lin_48, lwr_48, lia_72, lrd_72, lin_72, lwr_72, lia_77, lrd_77, lin_77, lwr_77, lia_82, lrd_82, lin_82, lwr_82, lia_87, lrd_87, lin_87, lwr_87, lia_92, lrd_92, lin_92, lwr_92, lia_100, lrd_100, lin_100, lwr_100, lia_108, lrd_108, lin_108, lwr_108, lia_116, lrd_116, lin_116, lwr_116, lia_124, lrd_124, lin_124, lwr_124, lia_224, lrd_224, lin_224, lwr_224, lia_229, lrd_229, lin_229, lwr_229, lia_234, lrd_234, lin_234, lwr_234, hl, t1, f2]
    exact po_i hi0
  have hac : nN (h 86) 23 < 5 := by omega
  have f1 : (nI (nN (h 86) 23) < 5) = True := by rw [il_lt 5 _ (by omega) (by omega)]; exact eq_true hac
  let T : Nat → Int32 := fun p => if p < nN (h 86) 28 then gd (h 86) (124 + p) else -1
  have hT : TPE T (nN (h 86) 28) := by
    refine ⟨e2, fun p hp => ⟨nN (h 86) (124 + p), Nat.lt_succ_of_le (wf_b hw _ 127 (by omega) (by omega) (by omega) (Nat.le_of_eq (by unfold bnd; rw [if_neg (by omega), if_neg (by omega), if_neg (by omega), if_neg (by omega), if_neg (by omega), if_neg (by omega), if_neg (by omega), if_neg (by omega), if_neg (by omega), if_neg (by omega), if_neg (by omega), if_neg (by omega), if_neg (by omega), if_neg (by omega), if_neg (by omega), if_pos (by omega)]))), ?_⟩, fun p hp => if_neg (by omega)⟩
    show (if p < nN (h 86) 28 then gd (h 86) (124 + p) else -1) = _
    rw [if_pos hp]; exact wf_g hw _ (by omega) (by omega) (by omega)
  have tp : ∀ p, p < nN (h 86) 28 → gd (h 86) (124 + p) = T p := fun p hp => (if_pos hp).symm
  have hCH : CH T (nN (h 86) 28) (up h 80 (h 20)) := by
    refine ⟨hT, by rw [up_at]; exact hL 20 (by omega) (by omega), fun p hp => ?_⟩
    rw [up_at, d15, gd_sl (by omega), tp p hp]
  have hh : gd (h 86) 29 = -1 ∨ nN (h 86) 29 < nN (h 86) 23 := dis.2
  simp (maxDischargeDepth := 20) (maxSteps := 2000000) only [↓reduceIte, pm_WL_nil, bi_900, bi_901, bi_904, bi_905, pm_lget_0, pm_lget_s, pm_oI_s, pm_oA_s, pm_oJ_s, pm_oK_s, pm_oR_s, pm_oO_s, pm_oN_s, pm_oF_s, pm_oM_s, pm_oP_s, pm_pu_n, pm_pu_s, pm_bo_ne, pm_bo_eq, Nat.reduceAdd, Nat.reduceSub, Nat.reduceLT, Nat.reduceLeDiff, Nat.reduceEqDiff, Nat.zero_add, Nat.lt_add_one, Nat.zero_ne_one, Nat.succ_ne_self, List.length_cons, List.length_nil, true_and, and_true, true_or, or_true, false_or, or_false, false_implies, true_implies, implies_true, not_true_eq_false, not_false_eq_true, ne_eq, eq_self, e_X_bar, pm_okW_0, pm_okW_i, pm_okW_r, pm_okW_l, pm_ent_0, pm_ent_i, pm_ent_r, pm_ent_l, List.reduceReplicate, b_X_bar_0, b_X_bar_11, b_X_bar_14, b_X_bar_48, b_X_bar_59, f_aloadn0, gf_46_12_4, gf_46_60_5, gf_46_60_33, w_iconst, ki_5, w_icmp_lt, pm_tgt_is, Int.cast_ofNat_Int, Int.reduceNeg, Int.reduceAdd, Int.reduceToNat, Int.zero_add, Int.zero_le_ofNat, Int.reduceLE, if_true, if_false, w_bipush, kb_m4, w_iret, lg_46, pm_fit_b, pm_fit_0, pm_fit_1, Bool.false_eq_true, gf_46_31_4, gf_46_53_5, gf_46_53_33, gf_46_49_5, gf_46_49_33, iv_46_63_75, kk_n, kk_s, w_istore1, pm_lset_0, pm_lset_1, pm_lset_n, pm_no2_n, pm_no2_i, pm_no2_r, pm_no2_l, ki_0, pf_46_49_5, pf_46_49_33, f_iloadn1, w_if_ne, nz_1, nz_m1, kb_m10, gf_46_67_75, w_isub, gf_46_70_5, gf_46_70_33, gf_46_73_6, gf_46_73_34, gf_46_73_61, gf_46_77_75, iv_46_80_7, iv_46_80_35, iv_46_80_62, iv_46_80_76, w_dupi, w_dupa, ki_1, w_iadd, pf_46_60_5, pf_46_60_33, hs_4, hs_5, hs_75, up_at, up_ne, up_up, gd_0, gd_s, d0, t1, e1, f1]
  refine c_reads (d := d + 8) (T := T) hL hCH ?_ ?_
  · -- no bar
    intro bad h2 nm hL2 hne h75
    have h4 : h2 5 = [nI (nN (h 86) 28), nI (nN (h 86) 23)] := by rw [hne 5 (by omega), d0, t1, e1]
    simp only [kk_s]
    simp (maxDischargeDepth := 20) (maxSteps := 2000000) only [↓reduceIte, pm_WL_nil, bi_900, bi_901, bi_904, bi_905, pm_lget_0, pm_lget_s, pm_oI_s, pm_oA_s, pm_oJ_s, pm_oK_s, pm_oR_s, pm_oO_s, pm_oN_s, pm_oF_s, pm_oM_s, pm_oP_s, pm_pu_n, pm_pu_s, pm_bo_ne, pm_bo_eq, Nat.reduceAdd, Nat.reduceSub, Nat.reduceLT, Nat.reduceLeDiff, Nat.reduceEqDiff, Nat.zero_add, Nat.lt_add_one, Nat.zero_ne_one, Nat.succ_ne_self, List.length_cons, List.length_nil, true_and, and_true, true_or, or_true, false_or, or_false, false_implies, true_implies, implies_true, not_true_eq_false, not_false_eq_true, ne_eq, eq_self, e_X_bar, pm_okW_0, pm_okW_i, pm_okW_r, pm_okW_l, pm_ent_0, pm_ent_i, pm_ent_r, pm_ent_l, List.reduceReplicate, b_X_bar_0, b_X_bar_11, b_X_bar_14, b_X_bar_48, b_X_bar_59, f_aloadn0, gf_46_12_4, gf_46_60_5, gf_46_60_33, w_iconst, ki_5, w_icmp_lt, pm_tgt_is, Int.cast_ofNat_Int, Int.reduceNeg, Int.reduceAdd, Int.reduceToNat, Int.zero_add, Int.zero_le_ofNat, Int.reduceLE, if_true, if_false, w_bipush, kb_m4, w_iret, lg_46, pm_fit_b, pm_fit_0, pm_fit_1, Bool.false_eq_true, gf_46_31_4, gf_46_53_5, gf_46_53_33, gf_46_49_5, gf_46_49_33, iv_46_63_75, kk_n, kk_s, w_istore1, pm_lset_0, pm_lset_1, pm_lset_n, pm_no2_n, pm_no2_i, pm_no2_r, pm_no2_l, ki_0, pf_46_49_5, pf_46_49_33, f_iloadn1, w_if_ne, nz_1, nz_m1, kb_m10, gf_46_67_75, w_isub, gf_46_70_5, gf_46_70_33, gf_46_73_6, gf_46_73_34, gf_46_73_61, gf_46_77_75, iv_46_80_7, iv_46_80_35, iv_46_80_62, iv_46_80_76, w_dupi, w_dupa, ki_1, w_iadd, pf_46_60_5, pf_46_60_33, hs_4, hs_5, hs_75, up_at, up_ne, up_up, gd_0, gd_s, h4, h75]
    refine m_bar (d := d + 8) (T := T) (ac := nN (h 86) 23) (en := nN (h 86) 28) (s := h 86) (by rw [up_ne (by decide), hne 86 (by omega)]) hl t1 hac e1 hT tp ?_ (fun a b => absurd ⟨a, b⟩ bad)
    intro _ s2 f hpb lf f1' f8'
    obtain ⟨u1, u2, u3⟩ := pb_u hl hac hpb
    have hw2 := pb_wf hw hac hh hpb
    obtain ⟨k1, k2⟩ := steps_keep hw hac hh hpb
    have g23 : gd s2 23 = gd (h 86) 23 := u1 23 (by omega) (by omega) (by omega) (by omega)
    have g29 : gd s2 29 = gd (h 86) 29 := u1 29 (by omega) (by omega) (by omega) (by omega)
    rw [up_ne (by decide), hne 85 (by omega)] at f1' f8'
    have hne3 : ∀ k, ¬ k = 86 → ¬ k = 85 → ¬ k = 5 → (k < 75 ∨ 80 < k) → W2 (up h2 5 [0, nI (nN (h 86) 23)]) s2 f k = h k := fun k a1 a2 a3 a4 => by rw [w2_ne a1 a2, up_ne a3, hne k a4]
    refine po_i (inv_b hi0 ?_ ?_ ?_ ?_ ?_ ?_)
    · unfold W2
      exact ln_up (ln_up (ln_up hL2 rfl) hpb.1) lf
    · rw [w2_86]; exact hw2
    · rw [w2_86]
      refine ce_bar hc0 hl hpb.1 (fun i i1 i2 i3 i4 => u1 i (by omega) i3 (by omega) (by omega)) ?_ (fun k a1 a2 a3 a4 => hne3 k (by omega) (by omega) (by omega) (by omega)) ?_ ?_ ?_ ha5
      · rw [hne3 19 (by omega) (by omega) (by omega) (by omega)]; exact hL 19 (by omega) (by omega)
      · rw [w2_ne (by omega) (by omega), up_at, u3, g23, t1]
      · refine cb_cg (c := 7) (h := h) ?_ fun k a1 a2 => hne3 k (by omega) (by omega) (by omega) (by omega)
        obtain ⟨b0, b1, b2, b3, b4, b5, b6, b7⟩ := cb
        exact ⟨b0, b1, b2, b3, by rw [k2]; exact b4, b5, b6, fun g hg => by rw [b7 g hg]; unfold rsum; rw [k1]⟩
      · rw [g29]; unfold nN; rw [g29, g23]; exact hh
    · intro k hk; exact hne3 k (by omega) (by omega) (by omega) (by omega)
    · rw [w2_85, f1']
    · rw [w2_85, f8']
  · -- a bar
    intro ok1 ok2 h2 i cs hL2 hne hi10 h76 hci
    have h4 : h2 5 = [nI (nN (h 86) 28), nI (nN (h 86) 23)] := by rw [hne 5 (by omega), d0, t1, e1]
    have hL3 : LN (up h2 5 [0, nI (nN (h 86) 23)]) := ln_up hL2 rfl
    have cp := fun K => @c_Bar_copy_7_76 (d + 31) (up h2 5 [0, nI (nN (h 86) 23)]) K hL3
    have nd : nI (nN (h 86) 23 + 1) - 1 = nI (nN (h 86) 23) := ni_dec _
    simp only [kk_s]
    simp (maxDischargeDepth := 20) (maxSteps := 2000000) only [↓reduceIte, pm_WL_nil, bi_900, bi_901, bi_904, bi_905, pm_lget_0, pm_lget_s, pm_oI_s, pm_oA_s, pm_oJ_s, pm_oK_s, pm_oR_s, pm_oO_s, pm_oN_s, pm_oF_s, pm_oM_s, pm_oP_s, pm_pu_n, pm_pu_s, pm_bo_ne, pm_bo_eq, Nat.reduceAdd, Nat.reduceSub, Nat.reduceLT, Nat.reduceLeDiff, Nat.reduceEqDiff, Nat.zero_add, Nat.lt_add_one, Nat.zero_ne_one, Nat.succ_ne_self, List.length_cons, List.length_nil, true_and, and_true, true_or, or_true, false_or, or_false, false_implies, true_implies, implies_true, not_true_eq_false, not_false_eq_true, ne_eq, eq_self, e_X_bar, pm_okW_0, pm_okW_i, pm_okW_r, pm_okW_l, pm_ent_0, pm_ent_i, pm_ent_r, pm_ent_l, List.reduceReplicate, b_X_bar_0, b_X_bar_11, b_X_bar_14, b_X_bar_48, b_X_bar_59, f_aloadn0, gf_46_12_4, gf_46_60_5, gf_46_60_33, w_iconst, ki_5, w_icmp_lt, pm_tgt_is, Int.cast_ofNat_Int, Int.reduceNeg, Int.reduceAdd, Int.reduceToNat, Int.zero_add, Int.zero_le_ofNat, Int.reduceLE, if_true, if_false, w_bipush, kb_m4, w_iret, lg_46, pm_fit_b, pm_fit_0, pm_fit_1, Bool.false_eq_true, gf_46_31_4, gf_46_53_5, gf_46_53_33, gf_46_49_5, gf_46_49_33, iv_46_63_75, kk_n, kk_s, w_istore1, pm_lset_0, pm_lset_1, pm_lset_n, pm_no2_n, pm_no2_i, pm_no2_r, pm_no2_l, ki_0, pf_46_49_5, pf_46_49_33, f_iloadn1, w_if_ne, nz_1, nz_m1, kb_m10, gf_46_67_75, w_isub, gf_46_70_5, gf_46_70_33, gf_46_73_6, gf_46_73_34, gf_46_73_61, gf_46_77_75, iv_46_80_7, iv_46_80_35, iv_46_80_62, iv_46_80_76, w_dupi, w_dupa, ki_1, w_iadd, pf_46_60_5, pf_46_60_33, hs_4, hs_5, hs_6, hs_75, up_at, up_ne, up_up, gd_0, gd_s, h4, cp, ni_1, nd]
    refine m_bar (d := d + 8) (T := T) (ac := nN (h 86) 23) (en := nN (h 86) 28) (s := h 86) (by simp (disch := omega) only [up_ne]; exact hne 86 (by omega)) hl t1 hac e1 hT tp (fun q => absurd ⟨ok1, ok2⟩ q) ?_
    intro _ _ s2 f hpb lf f1' f8'
    obtain ⟨u1, u2, u3⟩ := pb_u hl hac hpb
    simp (disch := omega) only [up_ne] at f1' f8'
    rw [hne 85 (by omega)] at f1' f8'
    have hr : rok (brM T 10 0 2).2.2.1 0 := by
      have := hci.2.2.2.2.2.2.2.2 [] trivial
      rw [List.append_nil] at this; exact this
    have hw2 := sg_wf hw hac hr hpb
    obtain ⟨t3, t4, t5⟩ := sg_st hac hpb
    obtain ⟨g1, g2⟩ := sg_23 (ac := nN (h 86) 23) hpb.1
    show PO scr (some (.int (nI (nN (h 86) 23)))) (some (.int (nI (nN (h 86) 23)))) (mk (W2 _ (sG (nN (h 86) 23) s2) f))
    have l934 : (sG (nN (h 86) 23) s2).length = 934 := wf_len hw2
    refine po_i (inv_b hi0 ?_ ?_ ?_ ?_ ?_ ?_)
    · unfold W2
      refine ln_up (ln_up ?_ l934) lf
      repeat (first | exact hL2 | refine ln_up ?_ ?_)
      all_goals first | rfl | (rw [h76]; rfl) | exact hL2 77 (by omega) (by omega) | exact hL2 78 (by omega) (by omega) | exact hL2 79 (by omega) (by omega)
    · rw [w2_86]; exact hw2
    · rw [w2_86]
      refine ce_bar hc0 hl l934 (fun i i1 i2 i3 i4 => by rw [sg_gd i2 i4, u1 i (by omega) i3 (by omega) (by omega)]) ?_ (fun k a1 a2 a3 a4 => ?_) ?_ ?_ ?_ ha5
      · rw [w2_ne (by omega) (by omega)]; simp (disch := omega) only [up_ne]; rw [hne 19 (by omega)]; exact hL 19 (by omega) (by omega)
      · rw [w2_ne (by omega) (by omega)]; simp (disch := omega) only [up_ne]; exact hne k (by omega)
      · rw [w2_ne (by omega) (by omega)]; simp (disch := omega) only [up_ne, up_at]; rw [sg_gd (by omega) (by omega), u3, g1]
      · have q7 : ∀ (X : Nat → List Int32), X 7 = h2 76 → X 8 = h2 77 → X 9 = h2 78 → X 10 = h2 79 → CB 7 (sG (nN (h 86) 23) s2) X := fun X x7 x8 x9 x10 => by
          obtain ⟨i1, i2, i3, i4, i5, i6, i7, i8, i9⟩ := hci
          have n7 : nN (X 7) 0 = i := by rw [x7, h76]; exact ni_nat (by omega)
          refine ⟨by rw [x7, h76]; rfl, by show (X 8).length = 10; rw [x8]; exact i1, by show (X 9).length = 10; rw [x9]; exact i2, by show (X 10).length = 100; rw [x10]; exact i3, by rw [x7, h76, t4]; rfl, ⟨by rw [n7, x7, h76]; rfl, by rw [n7]; exact hi10⟩, fun j hj => ?_, fun g hg => ?_⟩
          · rw [n7] at hj
            show gd (X 9) j = nI (nN (X 9) j) ∧ nN (X 9) j ≤ 100
            rw [x9]; exact i6 j hj
          · show csum (X 8) (X 9) (X 10) g (nN (X 7) 0) = _
            rw [n7, x8, x9, x10]
            unfold rsum
            rw [t3]
            exact i7 _ _ _ (fun _ _ => ⟨rfl, rfl⟩) (fun _ _ => rfl) g
        refine q7 _ ?_ ?_ ?_ ?_ <;> rw [w2_ne (by omega) (by omega)] <;> simp (disch := omega) only [up_ne, up_at]
      · refine Or.inr ?_
        have n23 : nN (sG (nN (h 86) 23) s2) 23 = nN (h 86) 23 + 1 := by
          show (gd (sG (nN (h 86) 23) s2) 23).toNatClampNeg = _
          rw [g1, ni_nat (by omega)]
        rw [t5, n23]; omega
    · intro k hk
      rw [w2_ne (by omega) (by omega)]; simp (disch := omega) only [up_ne]; exact hne k (by omega)
    · rw [w2_85, f1']
    · rw [w2_85, f8']
