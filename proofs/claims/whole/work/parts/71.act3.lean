/-! THE CALL act -/
def actR (a kd p : Nat) (x v : Int32) : Int32 := match a, kd with
  | 0, 0 => (x + nI p)
  | 0, 1 => (x * 3 + nI p)
  | 0, 2 => (x + nI p)
  | 0, 3 => (x + nI p)
  | 0, 4 => (x * 3 + nI p)
  | 0, 5 => ((x + nI p) ^^^ nI p)
  | 0, 6 => (x + nI p)
  | 1, 0 => ((x + nI p) - v)
  | 1, 1 => ((x * 3 + nI p) - v)
  | 1, 2 => (-((x + nI p) - v))
  | 1, 3 => ((x + nI p) - v)
  | 1, 4 => ((x * 3 + nI p) - v)
  | 1, 5 => (-(((x + nI p) ^^^ nI p) - v))
  | 1, 6 => (((x + nI p) - v) + v)
  | 2, 0 => (((x + nI p) - v) * 2)
  | 2, 1 => (((x * 3 + nI p) - v) * 2)
  | 2, 2 => ((-((x + nI p) - v)) * 2)
  | 2, 3 => ((((x + nI p) - v) * 2) ^^^ 7)
  | 2, 4 => (((((x - 1) * 3 + nI p) - v) * 2) + (2 * 3 + nI p))
  | 2, 5 => ((-(((x + nI p) ^^^ nI p) - v)) * 2)
  | 2, 6 => (((((x + nI p) - v) + v) * 2) ^^^ 7)
  | _, _ => 0
def actB (a kd : Nat) (l : List Int32) : List Int32 := match a, kd with
  | 0, 0 => (l.set 0 1)
  | 0, 1 => ((l.set 0 11).set 1 1)
  | 0, 2 => (l.set 0 1)
  | 0, 3 => (l.set 0 1)
  | 0, 4 => ((l.set 0 11).set 1 1)
  | 0, 5 => ((l.set 0 51).set 1 1)
  | 0, 6 => (l.set 0 1)
  | 1, 0 => ((l.set 0 2).set 1 1)
  | 1, 1 => (((l.set 0 2).set 1 11).set 2 1)
  | 1, 2 => (((l.set 0 21).set 1 2).set 2 1)
  | 1, 3 => ((l.set 0 2).set 1 1)
  | 1, 4 => (((l.set 0 2).set 1 11).set 2 1)
  | 1, 5 => ((((l.set 0 21).set 1 2).set 2 51).set 3 1)
  | 1, 6 => (((l.set 0 61).set 1 2).set 2 1)
  | 2, 0 => (((l.set 0 3).set 1 2).set 2 1)
  | 2, 1 => ((((l.set 0 3).set 1 2).set 2 11).set 3 1)
  | 2, 2 => ((((l.set 0 3).set 1 21).set 2 2).set 3 1)
  | 2, 3 => ((((l.set 0 31).set 1 3).set 2 2).set 3 1)
  | 2, 4 => (((((((l.set 0 41).set 1 3).set 2 2).set 3 11).set 4 1).set 5 11).set 6 1)
  | 2, 5 => (((((l.set 0 3).set 1 21).set 2 2).set 3 51).set 4 1)
  | 2, 6 => (((((l.set 0 31).set 1 3).set 2 61).set 3 2).set 4 1)
  | _, _ => l
def actN (a kd : Nat) : Nat := match a, kd with
  | 0, 0 => 1
  | 0, 1 => 2
  | 0, 2 => 1
  | 0, 3 => 1
  | 0, 4 => 2
  | 0, 5 => 2
  | 0, 6 => 1
  | 1, 0 => 2
  | 1, 1 => 3
  | 1, 2 => 3
  | 1, 3 => 2
  | 1, 4 => 3
  | 1, 5 => 4
  | 1, 6 => 3
  | 2, 0 => 3
  | 2, 1 => 4
  | 2, 2 => 4
  | 2, 3 => 4
  | 2, 4 => 7
  | 2, 5 => 5
  | 2, 6 => 5
  | _, _ => 0
theorem actN_lt : ∀ a, a < 3 → ∀ kd, kd < 7 → actN a kd < 100 := by decide
theorem actB_len (a kd : Nat) (l : List Int32) : (actB a kd l).length = l.length := by
  unfold actB
  split <;> simp only [List.length_set]
theorem run_all {d p a kd : Nat} {x v : Int32} {h : Nat → List Int32} {K : Option Value → pm_S → Prop} (ha : a < 3) (hk : kd < 7) (h1 : h 1 = aboveT) (h2 : h 2 = bodiesT) (h81 : h 81 = [0, nI p, nI kd, v]) (l82 : (h 82).length = 20) : pm_WC fqP (d + 30) 1 [.ref 81, .int (nI a), .int (nI kd), .int x, .int 0] (mk h) K = K (some (.int (actR a kd p x v))) (mk (up (up h 82 (actB a kd (h 82))) 81 [nI (actN a kd), nI p, nI kd, v])) := by
  match a, kd, ha, hk with
  | 0, 0, _, _ => exact run_0_0 h1 h2 h81 l82
  | 0, 1, _, _ => exact run_0_1 h1 h2 h81 l82
  | 0, 2, _, _ => exact run_0_2 h1 h2 h81 l82
  | 0, 3, _, _ => exact run_0_3 h1 h2 h81 l82
  | 0, 4, _, _ => exact run_0_4 h1 h2 h81 l82
  | 0, 5, _, _ => exact run_0_5 h1 h2 h81 l82
  | 0, 6, _, _ => exact run_0_6 h1 h2 h81 l82
  | 1, 0, _, _ => exact run_1_0 h1 h2 h81 l82
  | 1, 1, _, _ => exact run_1_1 h1 h2 h81 l82
  | 1, 2, _, _ => exact run_1_2 h1 h2 h81 l82
  | 1, 3, _, _ => exact run_1_3 h1 h2 h81 l82
  | 1, 4, _, _ => exact run_1_4 h1 h2 h81 l82
  | 1, 5, _, _ => exact run_1_5 h1 h2 h81 l82
  | 1, 6, _, _ => exact run_1_6 h1 h2 h81 l82
  | 2, 0, _, _ => exact run_2_0 h1 h2 h81 l82
  | 2, 1, _, _ => exact run_2_1 h1 h2 h81 l82
  | 2, 2, _, _ => exact run_2_2 h1 h2 h81 l82
  | 2, 3, _, _ => exact run_2_3 h1 h2 h81 l82
  | 2, 4, _, _ => exact run_2_4 h1 h2 h81 l82
  | 2, 5, _, _ => exact run_2_5 h1 h2 h81 l82
  | 2, 6, _, _ => exact run_2_6 h1 h2 h81 l82
  | a + 3, _, ha, _ => omega
  | _, k + 7, _, hk => omega
theorem mrun_0 {d p kd : Nat} {a0 a1 a2 a3 a4 a5 a6 a7 x v : Int32} {h : Nat → List Int32} {K : Option Value → pm_S → Prop} (hk : kd < 7) (h85 : h 85 = [a0, a1, a2, a3, a4, a5, a6, a7, 0, nI kd, nI p, v]) (l93 : (h 93).length = 20) : pm_WC fqP (d + 30) 174 [.ref 85, .int x] (mk h) K = K (some (.int (actR 0 kd p x v))) (mk (up (up h 93 (actB 0 kd (h 93))) 85 [a0, a1, a2, a3, a4, a5, a6, a7, nI (actN 0 kd), nI kd, nI p, v])) := by
  match kd, hk with
  | 0, _ => exact mrun_0_0 h85 l93
  | 1, _ => exact mrun_0_1 h85 l93
  | 2, _ => exact mrun_0_2 h85 l93
  | 3, _ => exact mrun_0_3 h85 l93
  | 4, _ => exact mrun_0_4 h85 l93
  | 5, _ => exact mrun_0_5 h85 l93
  | 6, _ => exact mrun_0_6 h85 l93
  | k + 7, hk => omega
theorem mrun_1 {d p kd : Nat} {a0 a1 a2 a3 a4 a5 a6 a7 x v : Int32} {h : Nat → List Int32} {K : Option Value → pm_S → Prop} (hk : kd < 7) (h85 : h 85 = [a0, a1, a2, a3, a4, a5, a6, a7, 0, nI kd, nI p, v]) (l93 : (h 93).length = 20) : pm_WC fqP (d + 30) 176 [.ref 85, .int x] (mk h) K = K (some (.int (actR 1 kd p x v))) (mk (up (up h 93 (actB 1 kd (h 93))) 85 [a0, a1, a2, a3, a4, a5, a6, a7, nI (actN 1 kd), nI kd, nI p, v])) := by
  match kd, hk with
  | 0, _ => exact mrun_1_0 h85 l93
  | 1, _ => exact mrun_1_1 h85 l93
  | 2, _ => exact mrun_1_2 h85 l93
  | 3, _ => exact mrun_1_3 h85 l93
  | 4, _ => exact mrun_1_4 h85 l93
  | 5, _ => exact mrun_1_5 h85 l93
  | 6, _ => exact mrun_1_6 h85 l93
  | k + 7, hk => omega
theorem mrun_2 {d p kd : Nat} {a0 a1 a2 a3 a4 a5 a6 a7 x v : Int32} {h : Nat → List Int32} {K : Option Value → pm_S → Prop} (hk : kd < 7) (h85 : h 85 = [a0, a1, a2, a3, a4, a5, a6, a7, 0, nI kd, nI p, v]) (l93 : (h 93).length = 20) : pm_WC fqP (d + 30) 178 [.ref 85, .int x] (mk h) K = K (some (.int (actR 2 kd p x v))) (mk (up (up h 93 (actB 2 kd (h 93))) 85 [a0, a1, a2, a3, a4, a5, a6, a7, nI (actN 2 kd), nI kd, nI p, v])) := by
  match kd, hk with
  | 0, _ => exact mrun_2_0 h85 l93
  | 1, _ => exact mrun_2_1 h85 l93
  | 2, _ => exact mrun_2_2 h85 l93
  | 3, _ => exact mrun_2_3 h85 l93
  | 4, _ => exact mrun_2_4 h85 l93
  | 5, _ => exact mrun_2_5 h85 l93
  | 6, _ => exact mrun_2_6 h85 l93
  | k + 7, hk => omega
theorem m_act {d a i : Nat} {x : Int32} {h : Nat → List Int32} {K : Option Value → pm_S → Prop} (hl : (h 86).length = 934) (hn : gd (h 86) 22 = nI (nN (h 86) 22)) (hn6 : nN (h 86) 22 ≤ 6) (hi : i < nN (h 86) 22) (ha : a < 3) (hkd : gd (h 86) (30 + i) = nI (nN (h 86) (30 + i))) (hk7 : nN (h 86) (30 + i) < 7) (l93 : (h 93).length = 20) : pm_WC fqP (d + 40) 179 [.ref 85, .int (nI i), .int (nI a), .int x] (mk h) K = K (some (.int (actR a (nN (h 86) (30 + i)) i x (gd (h 86) (36 + i))))) (mk (up (up h 93 (actB a (nN (h 86) (30 + i)) (h 93))) 85 [gd (h 85) 0, gd (h 85) 1, gd (h 85) 2, gd (h 85) 3, gd (h 85) 4, gd (h 85) 5, gd (h 85) 6, gd (h 85) 7, nI (actN a (nN (h 86) (30 + i))), nI (nN (h 86) (30 + i)), nI i, gd (h 86) (36 + i)])) := by
  have v1 : (0 ≤ nI i ∧ nI i < nI (nN (h 86) 22)) = True := eq_true ⟨by rw [li_le 0 i (by omega) (by omega)]; omega, by rw [ni_lt (by omega) (by omega)]; exact hi⟩
  have e0 := fun l K => @c_M_isThing (d + 37) (nN (h 86) 22) (nI i) (up h 85 l) K (by rw [up_ne (by decide)]; exact hl) (by rw [up_ne (by decide)]; exact hn) hn6
  obtain ⟨ra, rb, rc⟩ := ix (j := 30 + i) (by omega)
  obtain ⟨sa, sbb, sc⟩ := ix (j := 36 + i) (by omega)
  have w1 : (0 ≤ nI a ∧ nI a ≤ 2) = True := eq_true ⟨by rw [li_le 0 a (by omega) (by omega)]; omega, by rw [il_le 2 a (by omega) (by omega)]; omega⟩
  have fin : ∀ (m : Nat) (q : ∀ K, pm_WC fqP (d + 39) m [.ref 85, .int x] (mk (up h 85 [gd (h 85) 0, gd (h 85) 1, gd (h 85) 2, gd (h 85) 3, gd (h 85) 4, gd (h 85) 5, gd (h 85) 6, gd (h 85) 7, 0, nI (nN (h 86) (30 + i)), nI i, gd (h 86) (36 + i)])) K = K (some (.int (actR a (nN (h 86) (30 + i)) i x (gd (h 86) (36 + i))))) (mk (up (up (up h 85 [gd (h 85) 0, gd (h 85) 1, gd (h 85) 2, gd (h 85) 3, gd (h 85) 4, gd (h 85) 5, gd (h 85) 6, gd (h 85) 7, 0, nI (nN (h 86) (30 + i)), nI i, gd (h 86) (36 + i)]) 93 (actB a (nN (h 86) (30 + i)) (h 93))) 85 [gd (h 85) 0, gd (h 85) 1, gd (h 85) 2, gd (h 85) 3, gd (h 85) 4, gd (h 85) 5, gd (h 85) 6, gd (h 85) 7, nI (actN a (nN (h 86) (30 + i))), nI (nN (h 86) (30 + i)), nI i, gd (h 86) (36 + i)]))), True := fun _ _ => trivial
  clear fin
  match a, ha, w1 with
  | 0, _, w1 =>
    have q := fun K => @mrun_0 (d + 9) i (nN (h 86) (30 + i)) (gd (h 85) 0) (gd (h 85) 1) (gd (h 85) 2) (gd (h 85) 3) (gd (h 85) 4) (gd (h 85) 5) (gd (h 85) 6) (gd (h 85) 7) x (gd (h 86) (36 + i)) (up h 85 [gd (h 85) 0, gd (h 85) 1, gd (h 85) 2, gd (h 85) 3, gd (h 85) 4, gd (h 85) 5, gd (h 85) 6, gd (h 85) 7, 0, nI (nN (h 86) (30 + i)), nI i, gd (h 86) (36 + i)]) K hk7 (up_at _ _ _) (by rw [up_ne (by decide)]; exact l93)
    have z0 : (nI 0 = 0) = True := eq_true rfl
    simp (maxDischargeDepth := 20) (maxSteps := 2000000) only [↓reduceIte, pm_WL_nil, bi_900, bi_901, bi_904, bi_905, pm_lget_0, pm_lget_s, pm_oI_s, pm_oA_s, pm_oJ_s, pm_oK_s, pm_oR_s, pm_oO_s, pm_oN_s, pm_oF_s, pm_oM_s, pm_oP_s, pm_pu_n, pm_pu_s, pm_bo_ne, pm_bo_eq, Nat.reduceAdd, Nat.reduceSub, Nat.reduceLT, Nat.reduceLeDiff, Nat.reduceEqDiff, Nat.zero_add, Nat.lt_add_one, Nat.zero_ne_one, Nat.succ_ne_self, List.length_cons, List.length_nil, true_and, and_true, true_or, or_true, false_or, or_false, false_implies, true_implies, implies_true, not_true_eq_false, not_false_eq_true, ne_eq, eq_self, e_M_act, pm_okW_0, pm_okW_i, pm_okW_r, pm_okW_l, pm_ent_0, pm_ent_i, pm_ent_r, pm_ent_l, List.reduceReplicate, b_M_act_0, b_M_act_13, b_M_act_22, b_M_act_24, b_M_act_59, b_M_act_67, b_M_act_72, b_M_act_80, b_M_act_85, f_aloadn0, w_iconst, ki_0, pf_179_227_85, pm_fit_b, pm_fit_0, pm_fit_1, f_iloadn1, iv_179_138_85, kk_n, kk_s, w_if_eq, pm_tgt_is, Int.cast_ofNat_Int, Int.reduceNeg, Int.reduceAdd, Int.reduceToNat, Int.zero_add, Int.zero_le_ofNat, Int.reduceLE, nz_1, nz_m1, if_true, if_false, f_iloadn2, ki_2, iv_179_41, w_if_ne, w_iret, lg_179, Bool.false_eq_true, gf_179_9_85, w_bipush, kb_30, w_iadd, pf_179_236_85, pf_179_233_85, kb_36, pf_179_249_85, f_iloadn3, iv_179_246_85, w_goto, ki_1, w_icmp_ne, iv_179_255_85, iv_179_261_85, hs_85, f_iald_86, f_alen_86, ia_86, ar_86, f_iast_86, iw_86, hs_86, up_at, up_ne, up_up, gd_0, gd_s, lia_0, lrd_0, lin_0, lwr_0, lia_1, lrd_1, lin_1, lwr_1, lia_2, lrd_2, lin_2, lwr_2, lia_3, lrd_3, lin_3, lwr_3, lia_4, lrd_4, lin_4, lwr_4, lia_5, lrd_5, lin_5, lwr_5, lia_6, lrd_6, lin_6, lwr_6, lia_12, lrd_12, lin_12, lwr_12, lia_18, lrd_18, lin_18, lwr_18, lia_22, lrd_22, lin_22, lwr_22, lia_23, lrd_23, lin_23, lwr_23, lia_24, lrd_24, lin_24, lwr_24, lia_25, lrd_25, lin_25, lwr_25, lia_26, lrd_26, lin_26, lwr_26, lia_27, lrd_27, lin_27, lwr_27, lia_28, lrd_28, lin_28, lwr_28, lia_29, lrd_29, lin_29, lwr_29, lia_30, lrd_30, lin_30, lwr_30, lia_36, lrd_36, lin_36, lwr_36, lia_42, lrd_42, lin_42, lwr_42, lia_48, lrd_48, lin_48, lwr_48, lia_72, lrd_72, lin_72, lwr_72, lia_77, lrd_77, lin_77, lwr_77, lia_82, lrd_82, lin_82, lwr_82, lia_87, lrd_87, lin_87, lwr_87, lia_92, lrd_92, lin_92, lwr_92, lia_100, lrd_100, lin_100, lwr_100, lia_108, lrd_108, lin_108, lwr_108, lia_116, lrd_116, lin_116, lwr_116, lia_124, lrd_124, lin_124, lwr_124, lia_224, lrd_224, lin_224, lwr_224, lia_229, lrd_229, lin_229, lwr_229, lia_234, lrd_234, lin_234, lwr_234, hl, hn, hkd, e0, v1, c_M_in, w1, ra, rc, sa, sc, q, z0]
    rw [up_cm (k := 93) (j := 85) (by decide), up_up, ← up_cm (k := 93) (j := 85) (by decide)]
  | 1, _, w1 =>
    have q := fun K => @mrun_1 (d + 9) i (nN (h 86) (30 + i)) (gd (h 85) 0) (gd (h 85) 1) (gd (h 85) 2) (gd (h 85) 3) (gd (h 85) 4) (gd (h 85) 5) (gd (h 85) 6) (gd (h 85) 7) x (gd (h 86) (36 + i)) (up h 85 [gd (h 85) 0, gd (h 85) 1, gd (h 85) 2, gd (h 85) 3, gd (h 85) 4, gd (h 85) 5, gd (h 85) 6, gd (h 85) 7, 0, nI (nN (h 86) (30 + i)), nI i, gd (h 86) (36 + i)]) K hk7 (up_at _ _ _) (by rw [up_ne (by decide)]; exact l93)
    have z0 : (nI 1 = 0) = False := eq_false (by decide)
    have z1 : (nI 1 = 1) = True := eq_true rfl
    simp (maxDischargeDepth := 20) (maxSteps := 2000000) only [↓reduceIte, pm_WL_nil, bi_900, bi_901, bi_904, bi_905, pm_lget_0, pm_lget_s, pm_oI_s, pm_oA_s, pm_oJ_s, pm_oK_s, pm_oR_s, pm_oO_s, pm_oN_s, pm_oF_s, pm_oM_s, pm_oP_s, pm_pu_n, pm_pu_s, pm_bo_ne, pm_bo_eq, Nat.reduceAdd, Nat.reduceSub, Nat.reduceLT, Nat.reduceLeDiff, Nat.reduceEqDiff, Nat.zero_add, Nat.lt_add_one, Nat.zero_ne_one, Nat.succ_ne_self, List.length_cons, List.length_nil, true_and, and_true, true_or, or_true, false_or, or_false, false_implies, true_implies, implies_true, not_true_eq_false, not_false_eq_true, ne_eq, eq_self, e_M_act, pm_okW_0, pm_okW_i, pm_okW_r, pm_okW_l, pm_ent_0, pm_ent_i, pm_ent_r, pm_ent_l, List.reduceReplicate, b_M_act_0, b_M_act_13, b_M_act_22, b_M_act_24, b_M_act_59, b_M_act_67, b_M_act_72, b_M_act_80, b_M_act_85, f_aloadn0, w_iconst, ki_0, pf_179_227_85, pm_fit_b, pm_fit_0, pm_fit_1, f_iloadn1, iv_179_138_85, kk_n, kk_s, w_if_eq, pm_tgt_is, Int.cast_ofNat_Int, Int.reduceNeg, Int.reduceAdd, Int.reduceToNat, Int.zero_add, Int.zero_le_ofNat, Int.reduceLE, nz_1, nz_m1, if_true, if_false, f_iloadn2, ki_2, iv_179_41, w_if_ne, w_iret, lg_179, Bool.false_eq_true, gf_179_9_85, w_bipush, kb_30, w_iadd, pf_179_236_85, pf_179_233_85, kb_36, pf_179_249_85, f_iloadn3, iv_179_246_85, w_goto, ki_1, w_icmp_ne, iv_179_255_85, iv_179_261_85, hs_85, f_iald_86, f_alen_86, ia_86, ar_86, f_iast_86, iw_86, hs_86, up_at, up_ne, up_up, gd_0, gd_s, lia_0, lrd_0, lin_0, lwr_0, lia_1, lrd_1, lin_1, lwr_1, lia_2, lrd_2, lin_2, lwr_2, lia_3, lrd_3, lin_3, lwr_3, lia_4, lrd_4, lin_4, lwr_4, lia_5, lrd_5, lin_5, lwr_5, lia_6, lrd_6, lin_6, lwr_6, lia_12, lrd_12, lin_12, lwr_12, lia_18, lrd_18, lin_18, lwr_18, lia_22, lrd_22, lin_22, lwr_22, lia_23, lrd_23, lin_23, lwr_23, lia_24, lrd_24, lin_24, lwr_24, lia_25, lrd_25, lin_25, lwr_25, lia_26, lrd_26, lin_26, lwr_26, lia_27, lrd_27, lin_27, lwr_27, lia_28, lrd_28, lin_28, lwr_28, lia_29, lrd_29, lin_29, lwr_29, lia_30, lrd_30, lin_30, lwr_30, lia_36, lrd_36, lin_36, lwr_36, lia_42, lrd_42, lin_42, lwr_42, lia_48, lrd_48, lin_48, lwr_48, lia_72, lrd_72, lin_72, lwr_72, lia_77, lrd_77, lin_77, lwr_77, lia_82, lrd_82, lin_82, lwr_82, lia_87, lrd_87, lin_87, lwr_87, lia_92, lrd_92, lin_92, lwr_92, lia_100, lrd_100, lin_100, lwr_100, lia_108, lrd_108, lin_108, lwr_108, lia_116, lrd_116, lin_116, lwr_116, lia_124, lrd_124, lin_124, lwr_124, lia_224, lrd_224, lin_224, lwr_224, lia_229, lrd_229, lin_229, lwr_229, lia_234, lrd_234, lin_234, lwr_234, hl, hn, hkd, e0, v1, c_M_in, w1, ra, rc, sa, sc, q, z0, z1]
    rw [up_cm (k := 93) (j := 85) (by decide), up_up, ← up_cm (k := 93) (j := 85) (by decide)]
  | 2, _, w1 =>
    have q := fun K => @mrun_2 (d + 9) i (nN (h 86) (30 + i)) (gd (h 85) 0) (gd (h 85) 1) (gd (h 85) 2) (gd (h 85) 3) (gd (h 85) 4) (gd (h 85) 5) (gd (h 85) 6) (gd (h 85) 7) x (gd (h 86) (36 + i)) (up h 85 [gd (h 85) 0, gd (h 85) 1, gd (h 85) 2, gd (h 85) 3, gd (h 85) 4, gd (h 85) 5, gd (h 85) 6, gd (h 85) 7, 0, nI (nN (h 86) (30 + i)), nI i, gd (h 86) (36 + i)]) K hk7 (up_at _ _ _) (by rw [up_ne (by decide)]; exact l93)
    have z0 : (nI 2 = 0) = False := eq_false (by decide)
    have z1 : (nI 2 = 1) = False := eq_false (by decide)
    simp (maxDischargeDepth := 20) (maxSteps := 2000000) only [↓reduceIte, pm_WL_nil, bi_900, bi_901, bi_904, bi_905, pm_lget_0, pm_lget_s, pm_oI_s, pm_oA_s, pm_oJ_s, pm_oK_s, pm_oR_s, pm_oO_s, pm_oN_s, pm_oF_s, pm_oM_s, pm_oP_s, pm_pu_n, pm_pu_s, pm_bo_ne, pm_bo_eq, Nat.reduceAdd, Nat.reduceSub, Nat.reduceLT, Nat.reduceLeDiff, Nat.reduceEqDiff, Nat.zero_add, Nat.lt_add_one, Nat.zero_ne_one, Nat.succ_ne_self, List.length_cons, List.length_nil, true_and, and_true, true_or, or_true, false_or, or_false, false_implies, true_implies, implies_true, not_true_eq_false, not_false_eq_true, ne_eq, eq_self, e_M_act, pm_okW_0, pm_okW_i, pm_okW_r, pm_okW_l, pm_ent_0, pm_ent_i, pm_ent_r, pm_ent_l, List.reduceReplicate, b_M_act_0, b_M_act_13, b_M_act_22, b_M_act_24, b_M_act_59, b_M_act_67, b_M_act_72, b_M_act_80, b_M_act_85, f_aloadn0, w_iconst, ki_0, pf_179_227_85, pm_fit_b, pm_fit_0, pm_fit_1, f_iloadn1, iv_179_138_85, kk_n, kk_s, w_if_eq, pm_tgt_is, Int.cast_ofNat_Int, Int.reduceNeg, Int.reduceAdd, Int.reduceToNat, Int.zero_add, Int.zero_le_ofNat, Int.reduceLE, nz_1, nz_m1, if_true, if_false, f_iloadn2, ki_2, iv_179_41, w_if_ne, w_iret, lg_179, Bool.false_eq_true, gf_179_9_85, w_bipush, kb_30, w_iadd, pf_179_236_85, pf_179_233_85, kb_36, pf_179_249_85, f_iloadn3, iv_179_246_85, w_goto, ki_1, w_icmp_ne, iv_179_255_85, iv_179_261_85, hs_85, f_iald_86, f_alen_86, ia_86, ar_86, f_iast_86, iw_86, hs_86, up_at, up_ne, up_up, gd_0, gd_s, lia_0, lrd_0, lin_0, lwr_0, lia_1, lrd_1, lin_1, lwr_1, lia_2, lrd_2, lin_2, lwr_2, lia_3, lrd_3, lin_3, lwr_3, lia_4, lrd_4, lin_4, lwr_4, lia_5, lrd_5, lin_5, lwr_5, lia_6, lrd_6, lin_6, lwr_6, lia_12, lrd_12, lin_12, lwr_12, lia_18, lrd_18, lin_18, lwr_18, lia_22, lrd_22, lin_22, lwr_22, lia_23, lrd_23, lin_23, lwr_23, lia_24, lrd_24, lin_24, lwr_24, lia_25, lrd_25, lin_25, lwr_25, lia_26, lrd_26, lin_26, lwr_26, lia_27, lrd_27, lin_27, lwr_27, lia_28, lrd_28, lin_28, lwr_28, lia_29, lrd_29, lin_29, lwr_29, lia_30, lrd_30, lin_30, lwr_30, lia_36, lrd_36, lin_36, lwr_36, lia_42, lrd_42, lin_42, lwr_42, lia_48, lrd_48, lin_48, lwr_48, lia_72, lrd_72, lin_72, lwr_72, lia_77, lrd_77, lin_77, lwr_77, lia_82, lrd_82, lin_82, lwr_82, lia_87, lrd_87, lin_87, lwr_87, lia_92, lrd_92, lin_92, lwr_92, lia_100, lrd_100, lin_100, lwr_100, lia_108, lrd_108, lin_108, lwr_108, lia_116, lrd_116, lin_116, lwr_116, lia_124, lrd_124, lin_124, lwr_124, lia_224, lrd_224, lin_224, lwr_224, lia_229, lrd_229, lin_229, lwr_229, lia_234, lrd_234, lin_234, lwr_234, hl, hn, hkd, e0, v1, c_M_in, w1, ra, rc, sa, sc, q, z0, z1]
    rw [up_cm (k := 93) (j := 85) (by decide), up_up, ← up_cm (k := 93) (j := 85) (by decide)]
  | a + 3, ha, _ => omega
theorem inv_act {scr : List Int32} {h h1 : Nat → List Int32} (hi : INV scr h) (hL : LN h1) (e : ∀ k, ¬ k = 81 → ¬ k = 82 → ¬ k = 85 → ¬ k = 93 → h1 k = h k) (e1 : gd (h1 85) 1 = gd (h 85) 1) (r1 : gd (h1 81) 0 = gd (h1 85) 8) (r2 : ∃ r, r < 100 ∧ gd (h1 85) 8 = nI r) (r3 : h1 82 = h1 93) : INV scr h1 := by
  obtain ⟨_, ⟨a0, a1, a2, a3⟩, hw, hc, hk, _⟩ := hi
  refine ⟨hL, ⟨?_, ?_, ?_, ?_⟩, ?_, ?_, ?_, r1, r2, r3⟩
  · rw [e 0 (by omega) (by omega) (by omega) (by omega), a0]
  · rw [e 1 (by omega) (by omega) (by omega) (by omega), a1]
  · rw [e 2 (by omega) (by omega) (by omega) (by omega), a2]
  · rw [e 3 (by omega) (by omega) (by omega) (by omega), a3]
  · rw [e 86 (by omega) (by omega) (by omega) (by omega)]; exact hw
  · rw [e 86 (by omega) (by omega) (by omega) (by omega)]; exact ce_cg hc (hL 19 (by omega) (by omega)) fun k k1 k2 k3 => e k (by omega) (by omega) (by omega) (by omega)
  · rw [e 4 (by omega) (by omega) (by omega) (by omega), e1, e 87 (by omega) (by omega) (by omega) (by omega)]
    rcases hk with q | ⟨q1, q2, q3, q4⟩
    · exact Or.inl q
    · exact Or.inr ⟨q1, q2, q3, ce_cg q4 (hL 47 (by omega) (by omega)) fun k k1 k2 k3 => e k (by omega) (by omega) (by omega) (by omega)⟩
theorem q_act {scr : List Int32} {d : Nat} {h : Nat → List Int32} (hi : INV scr h) (p a x : Int32) : BOTH scr (d + 40) 72 179 [.int p, .int a, .int x] h := by
  have hi0 := hi
  obtain ⟨hL, ⟨ro0, ro1, ro2, ro3⟩, hw, hc, hk, ha⟩ := hi
  have hc0 := hc
  obtain ⟨⟨c0, c5, c6, c7, c8, c9, c10, c11, c12, c13, cb⟩, d0, d15, d16, d17, d18, d19, d20, d21, d22, d24, d25, d26, dis⟩ := hc
  simp only [Nat.reduceAdd] at c0 c5 c6 c7 c8 c9 c10 c11 c12 c13 cb d0 d15 d16 d17 d18 d19 d20 d21 d22 d24 d25 d26
  have hl := wf_len hw
  obtain ⟨hn, hn6⟩ := wf_n hw
  have ha5 := (wf_a hw).2
  unfold BOTH
  have l82 : (h 82).length = 20 := hL 82 (by omega) (by omega)
  have l93 : (h 93).length = 20 := hL 93 (by omega) (by omega)
  have l81 : (h 81).length = 4 := hL 81 (by omega) (by omega)
  have l85 : (h 85).length = 12 := hL 85 (by omega) (by omega)
  -- nothing done
  have none0 : INV scr (up (up h 81 [0, gd (h 81) 1, gd (h 81) 2, gd (h 81) 3]) 85 [gd (h 85) 0, gd (h 85) 1, gd (h 85) 2, gd (h 85) 3, gd (h 85) 4, gd (h 85) 5, gd (h 85) 6, gd (h 85) 7, 0, gd (h 85) 9, gd (h 85) 10, gd (h 85) 11]) := by
    refine inv_act hi0 (ln_up (ln_up hL rfl) rfl) (fun k k1 k2 k3 k4 => by rw [up_ne k3, up_ne k1]) ?_ ?_ ⟨0, by omega, ?_⟩ ?_
    · rw [up_at]; rfl
    · rw [up_at, up_ne (by decide), up_at]; rfl
    · rw [up_at]; rfl
    · rw [up_ne (by decide), up_ne (by decide), up_ne (by decide), up_ne (by decide), ha.2.2]
  have e0 := fun K => @c_M_isThing (d + 37) (nN (h 86) 22) p (up (up h 81 [0, gd (h 81) 1, gd (h 81) 2, gd (h 81) 3]) 85 [gd (h 85) 0, gd (h 85) 1, gd (h 85) 2, gd (h 85) 3, gd (h 85) 4, gd (h 85) 5, gd (h 85) 6, gd (h 85) 7, 0, gd (h 85) 9, gd (h 85) 10, gd (h 85) 11]) K (by rw [up_ne (by decide), up_ne (by decide)]; exact hl) (by rw [up_ne (by decide), up_ne (by decide)]; exact hn) hn6
  by_cases v : 0 ≤ p ∧ p < nI (nN (h 86) 22)
  case neg =>
    have v1 := eq_false v
    simp (maxDischargeDepth := 20) (maxSteps := 2000000) only [↓reduceIte, pm_WL_nil, bi_900, bi_901, bi_904, bi_905, pm_lget_0, pm_lget_s, pm_oI_s, pm_oA_s, pm_oJ_s, pm_oK_s, pm_oR_s, pm_oO_s, pm_oN_s, pm_oF_s, pm_oM_s, pm_oP_s, pm_pu_n, pm_pu_s, pm_bo_ne, pm_bo_eq, Nat.reduceAdd, Nat.reduceSub, Nat.reduceLT, Nat.reduceLeDiff, Nat.reduceEqDiff, Nat.zero_add, Nat.lt_add_one, Nat.zero_ne_one, Nat.succ_ne_self, List.length_cons, List.length_nil, true_and, and_true, true_or, or_true, false_or, or_false, false_implies, true_implies, implies_true, not_true_eq_false, not_false_eq_true, ne_eq, eq_self, e_X_act, pm_okW_0, pm_okW_i, pm_okW_r, pm_okW_l, pm_ent_0, pm_ent_i, pm_ent_r, pm_ent_l, List.reduceReplicate, b_X_act_0, b_X_act_29, b_X_act_33, b_X_act_38, b_X_act_40, f_aloadn0, gf_72_12_4, gf_72_70_5, gf_72_70_33, gf_72_93_6, gf_72_93_34, gf_72_93_61, w_astore, pm_lset_0, pm_lset_1, pm_lset_n, pm_no2_n, pm_no2_i, pm_no2_r, pm_no2_l, gf_72_38_4, w_iconst, ki_0, pf_72_255_81, pm_fit_b, pm_fit_0, pm_fit_1, f_aload4, f_iloadn1, iv_72_106_11, iv_72_106_39, iv_72_106_66, kk_n, kk_s, w_if_eq, pm_tgt_is, Int.cast_ofNat_Int, Int.reduceNeg, Int.reduceAdd, Int.reduceToNat, Int.zero_add, Int.zero_le_ofNat, Int.reduceLE, nz_1, nz_m1, if_true, if_false, f_iloadn2, w_if_lt, ki_3, w_icmp_lt, w_iret, lg_72, Bool.false_eq_true, pf_72_258_81, gf_72_110_11, gf_72_110_39, gf_72_110_66, iv_72_113, pf_72_261_81, gf_72_117_11, gf_72_117_39, gf_72_117_66, pf_72_263_81, gf_72_261_81, f_iloadn3, iv_72_265, hs_4, hs_5, hs_6, hs_11, hs_81, up_at, up_ne, up_up, gd_0, gd_s, c_Things_has, c5, hn, v1]
    simp (maxDischargeDepth := 20) (maxSteps := 2000000) only [↓reduceIte, pm_WL_nil, bi_900, bi_901, bi_904, bi_905, pm_lget_0, pm_lget_s, pm_oI_s, pm_oA_s, pm_oJ_s, pm_oK_s, pm_oR_s, pm_oO_s, pm_oN_s, pm_oF_s, pm_oM_s, pm_oP_s, pm_pu_n, pm_pu_s, pm_bo_ne, pm_bo_eq, Nat.reduceAdd, Nat.reduceSub, Nat.reduceLT, Nat.reduceLeDiff, Nat.reduceEqDiff, Nat.zero_add, Nat.lt_add_one, Nat.zero_ne_one, Nat.succ_ne_self, List.length_cons, List.length_nil, true_and, and_true, true_or, or_true, false_or, or_false, false_implies, true_implies, implies_true, not_true_eq_false, not_false_eq_true, ne_eq, eq_self, e_M_act, pm_okW_0, pm_okW_i, pm_okW_r, pm_okW_l, pm_ent_0, pm_ent_i, pm_ent_r, pm_ent_l, List.reduceReplicate, b_M_act_0, b_M_act_13, b_M_act_22, b_M_act_24, b_M_act_59, b_M_act_67, b_M_act_72, b_M_act_80, b_M_act_85, f_aloadn0, w_iconst, ki_0, pf_179_227_85, pm_fit_b, pm_fit_0, pm_fit_1, f_iloadn1, iv_179_138_85, kk_n, kk_s, w_if_eq, pm_tgt_is, Int.cast_ofNat_Int, Int.reduceNeg, Int.reduceAdd, Int.reduceToNat, Int.zero_add, Int.zero_le_ofNat, Int.reduceLE, nz_1, nz_m1, if_true, if_false, f_iloadn2, ki_2, iv_179_41, w_if_ne, w_iret, lg_179, Bool.false_eq_true, gf_179_9_85, w_bipush, kb_30, w_iadd, pf_179_236_85, pf_179_233_85, kb_36, pf_179_249_85, f_iloadn3, iv_179_246_85, w_goto, ki_1, w_icmp_ne, iv_179_255_85, iv_179_261_85, hs_85, up_at, up_ne, up_up, gd_0, gd_s, e0, v1]
    exact po_i none0
  have v1 := eq_true v
  obtain ⟨i, hi1, rfl⟩ := i_rng (by omega) v
  by_cases b0 : a < 0
  · have y1 := eq_true b0
    have y2 : (0 ≤ a ∧ a ≤ 2) = False := eq_false (fun q => Int32.not_le.mpr b0 q.1)
    simp (maxDischargeDepth := 20) (maxSteps := 2000000) only [↓reduceIte, pm_WL_nil, bi_900, bi_901, bi_904, bi_905, pm_lget_0, pm_lget_s, pm_oI_s, pm_oA_s, pm_oJ_s, pm_oK_s, pm_oR_s, pm_oO_s, pm_oN_s, pm_oF_s, pm_oM_s, pm_oP_s, pm_pu_n, pm_pu_s, pm_bo_ne, pm_bo_eq, Nat.reduceAdd, Nat.reduceSub, Nat.reduceLT, Nat.reduceLeDiff, Nat.reduceEqDiff, Nat.zero_add, Nat.lt_add_one, Nat.zero_ne_one, Nat.succ_ne_self, List.length_cons, List.length_nil, true_and, and_true, true_or, or_true, false_or, or_false, false_implies, true_implies, implies_true, not_true_eq_false, not_false_eq_true, ne_eq, eq_self, e_X_act, pm_okW_0, pm_okW_i, pm_okW_r, pm_okW_l, pm_ent_0, pm_ent_i, pm_ent_r, pm_ent_l, List.reduceReplicate, b_X_act_0, b_X_act_29, b_X_act_33, b_X_act_38, b_X_act_40, f_aloadn0, gf_72_12_4, gf_72_70_5, gf_72_70_33, gf_72_93_6, gf_72_93_34, gf_72_93_61, w_astore, pm_lset_0, pm_lset_1, pm_lset_n, pm_no2_n, pm_no2_i, pm_no2_r, pm_no2_l, gf_72_38_4, w_iconst, ki_0, pf_72_255_81, pm_fit_b, pm_fit_0, pm_fit_1, f_aload4, f_iloadn1, iv_72_106_11, iv_72_106_39, iv_72_106_66, kk_n, kk_s, w_if_eq, pm_tgt_is, Int.cast_ofNat_Int, Int.reduceNeg, Int.reduceAdd, Int.reduceToNat, Int.zero_add, Int.zero_le_ofNat, Int.reduceLE, nz_1, nz_m1, if_true, if_false, f_iloadn2, w_if_lt, ki_3, w_icmp_lt, w_iret, lg_72, Bool.false_eq_true, pf_72_258_81, gf_72_110_11, gf_72_110_39, gf_72_110_66, iv_72_113, pf_72_261_81, gf_72_117_11, gf_72_117_39, gf_72_117_66, pf_72_263_81, gf_72_261_81, f_iloadn3, iv_72_265, hs_4, hs_5, hs_6, hs_11, hs_81, up_at, up_ne, up_up, gd_0, gd_s, c_Things_has, c5, hn, v1, y1]
    simp (maxDischargeDepth := 20) (maxSteps := 2000000) only [↓reduceIte, pm_WL_nil, bi_900, bi_901, bi_904, bi_905, pm_lget_0, pm_lget_s, pm_oI_s, pm_oA_s, pm_oJ_s, pm_oK_s, pm_oR_s, pm_oO_s, pm_oN_s, pm_oF_s, pm_oM_s, pm_oP_s, pm_pu_n, pm_pu_s, pm_bo_ne, pm_bo_eq, Nat.reduceAdd, Nat.reduceSub, Nat.reduceLT, Nat.reduceLeDiff, Nat.reduceEqDiff, Nat.zero_add, Nat.lt_add_one, Nat.zero_ne_one, Nat.succ_ne_self, List.length_cons, List.length_nil, true_and, and_true, true_or, or_true, false_or, or_false, false_implies, true_implies, implies_true, not_true_eq_false, not_false_eq_true, ne_eq, eq_self, e_M_act, pm_okW_0, pm_okW_i, pm_okW_r, pm_okW_l, pm_ent_0, pm_ent_i, pm_ent_r, pm_ent_l, List.reduceReplicate, b_M_act_0, b_M_act_13, b_M_act_22, b_M_act_24, b_M_act_59, b_M_act_67, b_M_act_72, b_M_act_80, b_M_act_85, f_aloadn0, w_iconst, ki_0, pf_179_227_85, pm_fit_b, pm_fit_0, pm_fit_1, f_iloadn1, iv_179_138_85, kk_n, kk_s, w_if_eq, pm_tgt_is, Int.cast_ofNat_Int, Int.reduceNeg, Int.reduceAdd, Int.reduceToNat, Int.zero_add, Int.zero_le_ofNat, Int.reduceLE, nz_1, nz_m1, if_true, if_false, f_iloadn2, ki_2, iv_179_41, w_if_ne, w_iret, lg_179, Bool.false_eq_true, gf_179_9_85, w_bipush, kb_30, w_iadd, pf_179_236_85, pf_179_233_85, kb_36, pf_179_249_85, f_iloadn3, iv_179_246_85, w_goto, ki_1, w_icmp_ne, iv_179_255_85, iv_179_261_85, hs_85, up_at, up_ne, up_up, gd_0, gd_s, e0, v1, c_M_in, y2]
    exact po_i none0
  have y1 := eq_false b0
  by_cases b1 : a < 3
  case neg =>
    have z1 := eq_false b1
    have y2 : (0 ≤ a ∧ a ≤ 2) = False := eq_false (fun q => b1 (by
      have := Int32.le_iff_toInt_le.mp q.2
      rw [Int32.lt_iff_toInt_lt]; exact Int.lt_of_le_of_lt this (by decide)))
    simp (maxDischargeDepth := 20) (maxSteps := 2000000) only [↓reduceIte, pm_WL_nil, bi_900, bi_901, bi_904, bi_905, pm_lget_0, pm_lget_s, pm_oI_s, pm_oA_s, pm_oJ_s, pm_oK_s, pm_oR_s, pm_oO_s, pm_oN_s, pm_oF_s, pm_oM_s, pm_oP_s, pm_pu_n, pm_pu_s, pm_bo_ne, pm_bo_eq, Nat.reduceAdd, Nat.reduceSub, Nat.reduceLT, Nat.reduceLeDiff, Nat.reduceEqDiff, Nat.zero_add, Nat.lt_add_one, Nat.zero_ne_one, Nat.succ_ne_self, List.length_cons, List.length_nil, true_and, and_true, true_or, or_true, false_or, or_false, false_implies, true_implies, implies_true, not_true_eq_false, not_false_eq_true, ne_eq, eq_self, e_X_act, pm_okW_0, pm_okW_i, pm_okW_r, pm_okW_l, pm_ent_0, pm_ent_i, pm_ent_r, pm_ent_l, List.reduceReplicate, b_X_act_0, b_X_act_29, b_X_act_33, b_X_act_38, b_X_act_40, f_aloadn0, gf_72_12_4, gf_72_70_5, gf_72_70_33, gf_72_93_6, gf_72_93_34, gf_72_93_61, w_astore, pm_lset_0, pm_lset_1, pm_lset_n, pm_no2_n, pm_no2_i, pm_no2_r, pm_no2_l, gf_72_38_4, w_iconst, ki_0, pf_72_255_81, pm_fit_b, pm_fit_0, pm_fit_1, f_aload4, f_iloadn1, iv_72_106_11, iv_72_106_39, iv_72_106_66, kk_n, kk_s, w_if_eq, pm_tgt_is, Int.cast_ofNat_Int, Int.reduceNeg, Int.reduceAdd, Int.reduceToNat, Int.zero_add, Int.zero_le_ofNat, Int.reduceLE, nz_1, nz_m1, if_true, if_false, f_iloadn2, w_if_lt, ki_3, w_icmp_lt, w_iret, lg_72, Bool.false_eq_true, pf_72_258_81, gf_72_110_11, gf_72_110_39, gf_72_110_66, iv_72_113, pf_72_261_81, gf_72_117_11, gf_72_117_39, gf_72_117_66, pf_72_263_81, gf_72_261_81, f_iloadn3, iv_72_265, hs_4, hs_5, hs_6, hs_11, hs_81, up_at, up_ne, up_up, gd_0, gd_s, c_Things_has, c5, hn, v1, y1, z1]
    simp (maxDischargeDepth := 20) (maxSteps := 2000000) only [↓reduceIte, pm_WL_nil, bi_900, bi_901, bi_904, bi_905, pm_lget_0, pm_lget_s, pm_oI_s, pm_oA_s, pm_oJ_s, pm_oK_s, pm_oR_s, pm_oO_s, pm_oN_s, pm_oF_s, pm_oM_s, pm_oP_s, pm_pu_n, pm_pu_s, pm_bo_ne, pm_bo_eq, Nat.reduceAdd, Nat.reduceSub, Nat.reduceLT, Nat.reduceLeDiff, Nat.reduceEqDiff, Nat.zero_add, Nat.lt_add_one, Nat.zero_ne_one, Nat.succ_ne_self, List.length_cons, List.length_nil, true_and, and_true, true_or, or_true, false_or, or_false, false_implies, true_implies, implies_true, not_true_eq_false, not_false_eq_true, ne_eq, eq_self, e_M_act, pm_okW_0, pm_okW_i, pm_okW_r, pm_okW_l, pm_ent_0, pm_ent_i, pm_ent_r, pm_ent_l, List.reduceReplicate, b_M_act_0, b_M_act_13, b_M_act_22, b_M_act_24, b_M_act_59, b_M_act_67, b_M_act_72, b_M_act_80, b_M_act_85, f_aloadn0, w_iconst, ki_0, pf_179_227_85, pm_fit_b, pm_fit_0, pm_fit_1, f_iloadn1, iv_179_138_85, kk_n, kk_s, w_if_eq, pm_tgt_is, Int.cast_ofNat_Int, Int.reduceNeg, Int.reduceAdd, Int.reduceToNat, Int.zero_add, Int.zero_le_ofNat, Int.reduceLE, nz_1, nz_m1, if_true, if_false, f_iloadn2, ki_2, iv_179_41, w_if_ne, w_iret, lg_179, Bool.false_eq_true, gf_179_9_85, w_bipush, kb_30, w_iadd, pf_179_236_85, pf_179_233_85, kb_36, pf_179_249_85, f_iloadn3, iv_179_246_85, w_goto, ki_1, w_icmp_ne, iv_179_255_85, iv_179_261_85, hs_85, up_at, up_ne, up_up, gd_0, gd_s, e0, v1, c_M_in, y2]
    exact po_i none0
  have z1 := eq_true b1
  obtain ⟨g, hg, rfl⟩ := i_rng (n := 3) (by omega) ⟨Int32.not_lt.mp b0, b1⟩
  obtain ⟨w1, w2⟩ := wf_k hw (p := i) (by omega)
  have f1 : cl (h 12) (nI i) = nI (nN (h 86) (30 + i)) := by rw [c6, cl_n (by rw [sl_len (by omega)]; omega) (by rw [sl_len (by omega)]; omega), gd_sl (by omega), w1]
  have f2 : cl (h 13) (nI i) = gd (h 86) (36 + i) := by rw [c7, cl_n (by rw [sl_len (by omega)]; omega) (by rw [sl_len (by omega)]; omega), gd_sl (by omega)]
  have run := fun K => @run_all (d + 9) i g (nN (h 86) (30 + i)) x (gd (h 86) (36 + i)) (up h 81 [0, nI i, nI (nN (h 86) (30 + i)), gd (h 86) (36 + i)]) K hg w2 (by rw [up_ne (by decide)]; exact ro1) (by rw [up_ne (by decide)]; exact ro2) (up_at _ _ _) (by rw [up_ne (by decide)]; exact l82)
  simp (maxDischargeDepth := 20) (maxSteps := 2000000) only [↓reduceIte, pm_WL_nil, bi_900, bi_901, bi_904, bi_905, pm_lget_0, pm_lget_s, pm_oI_s, pm_oA_s, pm_oJ_s, pm_oK_s, pm_oR_s, pm_oO_s, pm_oN_s, pm_oF_s, pm_oM_s, pm_oP_s, pm_pu_n, pm_pu_s, pm_bo_ne, pm_bo_eq, Nat.reduceAdd, Nat.reduceSub, Nat.reduceLT, Nat.reduceLeDiff, Nat.reduceEqDiff, Nat.zero_add, Nat.lt_add_one, Nat.zero_ne_one, Nat.succ_ne_self, List.length_cons, List.length_nil, true_and, and_true, true_or, or_true, false_or, or_false, false_implies, true_implies, implies_true, not_true_eq_false, not_false_eq_true, ne_eq, eq_self, e_X_act, pm_okW_0, pm_okW_i, pm_okW_r, pm_okW_l, pm_ent_0, pm_ent_i, pm_ent_r, pm_ent_l, List.reduceReplicate, b_X_act_0, b_X_act_29, b_X_act_33, b_X_act_38, b_X_act_40, f_aloadn0, gf_72_12_4, gf_72_70_5, gf_72_70_33, gf_72_93_6, gf_72_93_34, gf_72_93_61, w_astore, pm_lset_0, pm_lset_1, pm_lset_n, pm_no2_n, pm_no2_i, pm_no2_r, pm_no2_l, gf_72_38_4, w_iconst, ki_0, pf_72_255_81, pm_fit_b, pm_fit_0, pm_fit_1, f_aload4, f_iloadn1, iv_72_106_11, iv_72_106_39, iv_72_106_66, kk_n, kk_s, w_if_eq, pm_tgt_is, Int.cast_ofNat_Int, Int.reduceNeg, Int.reduceAdd, Int.reduceToNat, Int.zero_add, Int.zero_le_ofNat, Int.reduceLE, nz_1, nz_m1, if_true, if_false, f_iloadn2, w_if_lt, ki_3, w_icmp_lt, w_iret, lg_72, Bool.false_eq_true, pf_72_258_81, gf_72_110_11, gf_72_110_39, gf_72_110_66, iv_72_113, pf_72_261_81, gf_72_117_11, gf_72_117_39, gf_72_117_66, pf_72_263_81, gf_72_261_81, f_iloadn3, iv_72_265, hs_4, hs_5, hs_6, hs_11, f_iald_12, f_alen_12, ia_12, ar_12, f_iast_12, iw_12, hs_12, f_iald_13, f_alen_13, ia_13, ar_13, f_iast_13, iw_13, hs_13, hs_81, up_at, up_ne, up_up, gd_0, gd_s, c_Things_has, c_X_cell, c5, hn, v1, y1, z1, f1, f2, run]
  have aN := actN_lt g hg _ w2
  refine (m_act (i := i) (a := g) (by simp (disch := omega) only [up_ne]; exact hl) (by simp (disch := omega) only [up_ne]; exact hn) (by simp (disch := omega) only [up_ne]; exact hn6) (by simp (disch := omega) only [up_ne]; exact hi1) hg (by simp (disch := omega) only [up_ne]; exact w1) (by simp (disch := omega) only [up_ne]; exact w2) (by simp (disch := omega) only [up_ne]; exact l93)).mpr ?_
  simp (disch := omega) only [up_ne]
  refine po_i (inv_act hi0 ?_ (fun k k1 k2 k3 k4 => by simp only [up_ne k1, up_ne k2, up_ne k3, up_ne k4]) ?_ ?_ ⟨actN g (nN (h 86) (30 + i)), aN, ?_⟩ ?_)
  · refine ln_up (ln_up (ln_up (ln_up ?_ ?_) rfl) ?_) rfl
    · first | exact ln_up hL rfl | exact hL
    · rw [actB_len]; exact l82
    · rw [actB_len]; exact l93
  · rw [up_at]; rfl
  · rw [up_at]; simp (disch := omega) only [up_ne, up_at]; rfl
  · rw [up_at]; rfl
  · simp (disch := omega) only [up_ne, up_at]; rw [ha.2.2]
