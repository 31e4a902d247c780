/-! THE REFERENCE: its row, by and truths -/
def rs (h : Nat → List Int32) (s f xs : List Int32) : Nat → List Int32 := up (up (up h 86 s) 89 f) 90 xs
theorem rs_86 (h : Nat → List Int32) (s f xs : List Int32) : rs h s f xs 86 = s := by unfold rs; rw [up_ne (by decide), up_ne (by decide), up_at]
theorem rs_89 (h : Nat → List Int32) (s f xs : List Int32) : rs h s f xs 89 = f := by unfold rs; rw [up_ne (by decide), up_at]
theorem rs_90 (h : Nat → List Int32) (s f xs : List Int32) : rs h s f xs 90 = xs := by unfold rs; rw [up_at]
theorem rs_ne {h : Nat → List Int32} {s f xs : List Int32} {k : Nat} (a : ¬ k = 86) (b : ¬ k = 89) (c : ¬ k = 90) : rs h s f xs k = h k := by unfold rs; rw [up_ne c, up_ne b, up_ne a]
theorem rs_u86 (h : Nat → List Int32) (s f xs t : List Int32) : up (rs h s f xs) 86 t = rs h t f xs := by unfold rs; rw [up_cm (k := 90) (j := 86) (by decide), up_cm (k := 89) (j := 86) (by decide), up_up]
theorem rs_u89 (h : Nat → List Int32) (s f xs t : List Int32) : up (rs h s f xs) 89 t = rs h s t xs := by unfold rs; rw [up_cm (k := 90) (j := 89) (by decide), up_up]
theorem rs_u90 (h : Nat → List Int32) (s f xs t : List Int32) : up (rs h s f xs) 90 t = rs h s f t := by unfold rs; rw [up_up]
theorem rs_id (h : Nat → List Int32) : rs h (h 86) (h 89) (h 90) = h := by unfold rs; rw [up_id, up_id, up_id]
theorem rs_up {h : Nat → List Int32} {s f xs l : List Int32} {k : Nat} (a : ¬ k = 86) (b : ¬ k = 89) (c : ¬ k = 90) : up (rs h s f xs) k l = rs (up h k l) s f xs := by
  funext j
  unfold rs up
  by_cases q : j = k
  · subst q; simp [a, b, c]
  · simp [q]
theorem lia_0 (a : Nat) : (0 : Int32) + nI a = nI (0 + a) := ni_add 0 a
theorem lrd_0 (xs : List Int32) : pm_rd xs 0 = gd xs 0 := ni_rd (n := 0) xs (by decide)
theorem lin_0 {n : Nat} (h : 0 < n) : pm_inR 0 n = True := (ni_inR (n := 0) (m := n) (by decide)).trans (eq_true h)
theorem lwr_0 (xs : List Int32) (x : Int32) : pm_wr xs 0 x = xs.set 0 x := ni_wr (n := 0) xs x (by decide)
theorem lia_1 (a : Nat) : (1 : Int32) + nI a = nI (1 + a) := ni_add 1 a
theorem lrd_1 (xs : List Int32) : pm_rd xs 1 = gd xs 1 := ni_rd (n := 1) xs (by decide)
theorem lin_1 {n : Nat} (h : 1 < n) : pm_inR 1 n = True := (ni_inR (n := 1) (m := n) (by decide)).trans (eq_true h)
theorem lwr_1 (xs : List Int32) (x : Int32) : pm_wr xs 1 x = xs.set 1 x := ni_wr (n := 1) xs x (by decide)
theorem lia_2 (a : Nat) : (2 : Int32) + nI a = nI (2 + a) := ni_add 2 a
theorem lrd_2 (xs : List Int32) : pm_rd xs 2 = gd xs 2 := ni_rd (n := 2) xs (by decide)
theorem lin_2 {n : Nat} (h : 2 < n) : pm_inR 2 n = True := (ni_inR (n := 2) (m := n) (by decide)).trans (eq_true h)
theorem lwr_2 (xs : List Int32) (x : Int32) : pm_wr xs 2 x = xs.set 2 x := ni_wr (n := 2) xs x (by decide)
theorem lia_3 (a : Nat) : (3 : Int32) + nI a = nI (3 + a) := ni_add 3 a
theorem lrd_3 (xs : List Int32) : pm_rd xs 3 = gd xs 3 := ni_rd (n := 3) xs (by decide)
theorem lin_3 {n : Nat} (h : 3 < n) : pm_inR 3 n = True := (ni_inR (n := 3) (m := n) (by decide)).trans (eq_true h)
theorem lwr_3 (xs : List Int32) (x : Int32) : pm_wr xs 3 x = xs.set 3 x := ni_wr (n := 3) xs x (by decide)
theorem lia_4 (a : Nat) : (4 : Int32) + nI a = nI (4 + a) := ni_add 4 a
theorem lrd_4 (xs : List Int32) : pm_rd xs 4 = gd xs 4 := ni_rd (n := 4) xs (by decide)
theorem lin_4 {n : Nat} (h : 4 < n) : pm_inR 4 n = True := (ni_inR (n := 4) (m := n) (by decide)).trans (eq_true h)
theorem lwr_4 (xs : List Int32) (x : Int32) : pm_wr xs 4 x = xs.set 4 x := ni_wr (n := 4) xs x (by decide)
theorem lia_5 (a : Nat) : (5 : Int32) + nI a = nI (5 + a) := ni_add 5 a
theorem lrd_5 (xs : List Int32) : pm_rd xs 5 = gd xs 5 := ni_rd (n := 5) xs (by decide)
theorem lin_5 {n : Nat} (h : 5 < n) : pm_inR 5 n = True := (ni_inR (n := 5) (m := n) (by decide)).trans (eq_true h)
theorem lwr_5 (xs : List Int32) (x : Int32) : pm_wr xs 5 x = xs.set 5 x := ni_wr (n := 5) xs x (by decide)
theorem lia_6 (a : Nat) : (6 : Int32) + nI a = nI (6 + a) := ni_add 6 a
theorem lrd_6 (xs : List Int32) : pm_rd xs 6 = gd xs 6 := ni_rd (n := 6) xs (by decide)
theorem lin_6 {n : Nat} (h : 6 < n) : pm_inR 6 n = True := (ni_inR (n := 6) (m := n) (by decide)).trans (eq_true h)
theorem lwr_6 (xs : List Int32) (x : Int32) : pm_wr xs 6 x = xs.set 6 x := ni_wr (n := 6) xs x (by decide)
theorem lia_12 (a : Nat) : (12 : Int32) + nI a = nI (12 + a) := ni_add 12 a
theorem lrd_12 (xs : List Int32) : pm_rd xs 12 = gd xs 12 := ni_rd (n := 12) xs (by decide)
theorem lin_12 {n : Nat} (h : 12 < n) : pm_inR 12 n = True := (ni_inR (n := 12) (m := n) (by decide)).trans (eq_true h)
theorem lwr_12 (xs : List Int32) (x : Int32) : pm_wr xs 12 x = xs.set 12 x := ni_wr (n := 12) xs x (by decide)
theorem lia_18 (a : Nat) : (18 : Int32) + nI a = nI (18 + a) := ni_add 18 a
theorem lrd_18 (xs : List Int32) : pm_rd xs 18 = gd xs 18 := ni_rd (n := 18) xs (by decide)
theorem lin_18 {n : Nat} (h : 18 < n) : pm_inR 18 n = True := (ni_inR (n := 18) (m := n) (by decide)).trans (eq_true h)
theorem lwr_18 (xs : List Int32) (x : Int32) : pm_wr xs 18 x = xs.set 18 x := ni_wr (n := 18) xs x (by decide)
theorem lia_22 (a : Nat) : (22 : Int32) + nI a = nI (22 + a) := ni_add 22 a
theorem lrd_22 (xs : List Int32) : pm_rd xs 22 = gd xs 22 := ni_rd (n := 22) xs (by decide)
theorem lin_22 {n : Nat} (h : 22 < n) : pm_inR 22 n = True := (ni_inR (n := 22) (m := n) (by decide)).trans (eq_true h)
theorem lwr_22 (xs : List Int32) (x : Int32) : pm_wr xs 22 x = xs.set 22 x := ni_wr (n := 22) xs x (by decide)
theorem lia_23 (a : Nat) : (23 : Int32) + nI a = nI (23 + a) := ni_add 23 a
theorem lrd_23 (xs : List Int32) : pm_rd xs 23 = gd xs 23 := ni_rd (n := 23) xs (by decide)
theorem lin_23 {n : Nat} (h : 23 < n) : pm_inR 23 n = True := (ni_inR (n := 23) (m := n) (by decide)).trans (eq_true h)
theorem lwr_23 (xs : List Int32) (x : Int32) : pm_wr xs 23 x = xs.set 23 x := ni_wr (n := 23) xs x (by decide)
theorem lia_24 (a : Nat) : (24 : Int32) + nI a = nI (24 + a) := ni_add 24 a
theorem lrd_24 (xs : List Int32) : pm_rd xs 24 = gd xs 24 := ni_rd (n := 24) xs (by decide)
theorem lin_24 {n : Nat} (h : 24 < n) : pm_inR 24 n = True := (ni_inR (n := 24) (m := n) (by decide)).trans (eq_true h)
theorem lwr_24 (xs : List Int32) (x : Int32) : pm_wr xs 24 x = xs.set 24 x := ni_wr (n := 24) xs x (by decide)
theorem lia_25 (a : Nat) : (25 : Int32) + nI a = nI (25 + a) := ni_add 25 a
theorem lrd_25 (xs : List Int32) : pm_rd xs 25 = gd xs 25 := ni_rd (n := 25) xs (by decide)
theorem lin_25 {n : Nat} (h : 25 < n) : pm_inR 25 n = True := (ni_inR (n := 25) (m := n) (by decide)).trans (eq_true h)
theorem lwr_25 (xs : List Int32) (x : Int32) : pm_wr xs 25 x = xs.set 25 x := ni_wr (n := 25) xs x (by decide)
theorem lia_26 (a : Nat) : (26 : Int32) + nI a = nI (26 + a) := ni_add 26 a
theorem lrd_26 (xs : List Int32) : pm_rd xs 26 = gd xs 26 := ni_rd (n := 26) xs (by decide)
theorem lin_26 {n : Nat} (h : 26 < n) : pm_inR 26 n = True := (ni_inR (n := 26) (m := n) (by decide)).trans (eq_true h)
theorem lwr_26 (xs : List Int32) (x : Int32) : pm_wr xs 26 x = xs.set 26 x := ni_wr (n := 26) xs x (by decide)
theorem lia_27 (a : Nat) : (27 : Int32) + nI a = nI (27 + a) := ni_add 27 a
theorem lrd_27 (xs : List Int32) : pm_rd xs 27 = gd xs 27 := ni_rd (n := 27) xs (by decide)
theorem lin_27 {n : Nat} (h : 27 < n) : pm_inR 27 n = True := (ni_inR (n := 27) (m := n) (by decide)).trans (eq_true h)
theorem lwr_27 (xs : List Int32) (x : Int32) : pm_wr xs 27 x = xs.set 27 x := ni_wr (n := 27) xs x (by decide)
theorem lia_28 (a : Nat) : (28 : Int32) + nI a = nI (28 + a) := ni_add 28 a
theorem lrd_28 (xs : List Int32) : pm_rd xs 28 = gd xs 28 := ni_rd (n := 28) xs (by decide)
theorem lin_28 {n : Nat} (h : 28 < n) : pm_inR 28 n = True := (ni_inR (n := 28) (m := n) (by decide)).trans (eq_true h)
theorem lwr_28 (xs : List Int32) (x : Int32) : pm_wr xs 28 x = xs.set 28 x := ni_wr (n := 28) xs x (by decide)
theorem lia_29 (a : Nat) : (29 : Int32) + nI a = nI (29 + a) := ni_add 29 a
theorem lrd_29 (xs : List Int32) : pm_rd xs 29 = gd xs 29 := ni_rd (n := 29) xs (by decide)
theorem lin_29 {n : Nat} (h : 29 < n) : pm_inR 29 n = True := (ni_inR (n := 29) (m := n) (by decide)).trans (eq_true h)
theorem lwr_29 (xs : List Int32) (x : Int32) : pm_wr xs 29 x = xs.set 29 x := ni_wr (n := 29) xs x (by decide)
theorem lia_30 (a : Nat) : (30 : Int32) + nI a = nI (30 + a) := ni_add 30 a
theorem lrd_30 (xs : List Int32) : pm_rd xs 30 = gd xs 30 := ni_rd (n := 30) xs (by decide)
theorem lin_30 {n : Nat} (h : 30 < n) : pm_inR 30 n = True := (ni_inR (n := 30) (m := n) (by decide)).trans (eq_true h)
theorem lwr_30 (xs : List Int32) (x : Int32) : pm_wr xs 30 x = xs.set 30 x := ni_wr (n := 30) xs x (by decide)
theorem lia_36 (a : Nat) : (36 : Int32) + nI a = nI (36 + a) := ni_add 36 a
theorem lrd_36 (xs : List Int32) : pm_rd xs 36 = gd xs 36 := ni_rd (n := 36) xs (by decide)
theorem lin_36 {n : Nat} (h : 36 < n) : pm_inR 36 n = True := (ni_inR (n := 36) (m := n) (by decide)).trans (eq_true h)
theorem lwr_36 (xs : List Int32) (x : Int32) : pm_wr xs 36 x = xs.set 36 x := ni_wr (n := 36) xs x (by decide)
theorem lia_42 (a : Nat) : (42 : Int32) + nI a = nI (42 + a) := ni_add 42 a
theorem lrd_42 (xs : List Int32) : pm_rd xs 42 = gd xs 42 := ni_rd (n := 42) xs (by decide)
theorem lin_42 {n : Nat} (h : 42 < n) : pm_inR 42 n = True := (ni_inR (n := 42) (m := n) (by decide)).trans (eq_true h)
theorem lwr_42 (xs : List Int32) (x : Int32) : pm_wr xs 42 x = xs.set 42 x := ni_wr (n := 42) xs x (by decide)
theorem lia_48 (a : Nat) : (48 : Int32) + nI a = nI (48 + a) := ni_add 48 a
theorem lrd_48 (xs : List Int32) : pm_rd xs 48 = gd xs 48 := ni_rd (n := 48) xs (by decide)
theorem lin_48 {n : Nat} (h : 48 < n) : pm_inR 48 n = True := (ni_inR (n := 48) (m := n) (by decide)).trans (eq_true h)
theorem lwr_48 (xs : List Int32) (x : Int32) : pm_wr xs 48 x = xs.set 48 x := ni_wr (n := 48) xs x (by decide)
theorem lia_72 (a : Nat) : (72 : Int32) + nI a = nI (72 + a) := ni_add 72 a
theorem lrd_72 (xs : List Int32) : pm_rd xs 72 = gd xs 72 := ni_rd (n := 72) xs (by decide)
theorem lin_72 {n : Nat} (h : 72 < n) : pm_inR 72 n = True := (ni_inR (n := 72) (m := n) (by decide)).trans (eq_true h)
theorem lwr_72 (xs : List Int32) (x : Int32) : pm_wr xs 72 x = xs.set 72 x := ni_wr (n := 72) xs x (by decide)
theorem lia_77 (a : Nat) : (77 : Int32) + nI a = nI (77 + a) := ni_add 77 a
theorem lrd_77 (xs : List Int32) : pm_rd xs 77 = gd xs 77 := ni_rd (n := 77) xs (by decide)
theorem lin_77 {n : Nat} (h : 77 < n) : pm_inR 77 n = True := (ni_inR (n := 77) (m := n) (by decide)).trans (eq_true h)
theorem lwr_77 (xs : List Int32) (x : Int32) : pm_wr xs 77 x = xs.set 77 x := ni_wr (n := 77) xs x (by decide)
theorem lia_82 (a : Nat) : (82 : Int32) + nI a = nI (82 + a) := ni_add 82 a
theorem lrd_82 (xs : List Int32) : pm_rd xs 82 = gd xs 82 := ni_rd (n := 82) xs (by decide)
theorem lin_82 {n : Nat} (h : 82 < n) : pm_inR 82 n = True := (ni_inR (n := 82) (m := n) (by decide)).trans (eq_true h)
theorem lwr_82 (xs : List Int32) (x : Int32) : pm_wr xs 82 x = xs.set 82 x := ni_wr (n := 82) xs x (by decide)
theorem lia_87 (a : Nat) : (87 : Int32) + nI a = nI (87 + a) := ni_add 87 a
theorem lrd_87 (xs : List Int32) : pm_rd xs 87 = gd xs 87 := ni_rd (n := 87) xs (by decide)
theorem lin_87 {n : Nat} (h : 87 < n) : pm_inR 87 n = True := (ni_inR (n := 87) (m := n) (by decide)).trans (eq_true h)
theorem lwr_87 (xs : List Int32) (x : Int32) : pm_wr xs 87 x = xs.set 87 x := ni_wr (n := 87) xs x (by decide)
theorem lia_92 (a : Nat) : (92 : Int32) + nI a = nI (92 + a) := ni_add 92 a
theorem lrd_92 (xs : List Int32) : pm_rd xs 92 = gd xs 92 := ni_rd (n := 92) xs (by decide)
theorem lin_92 {n : Nat} (h : 92 < n) : pm_inR 92 n = True := (ni_inR (n := 92) (m := n) (by decide)).trans (eq_true h)
theorem lwr_92 (xs : List Int32) (x : Int32) : pm_wr xs 92 x = xs.set 92 x := ni_wr (n := 92) xs x (by decide)
theorem lia_100 (a : Nat) : (100 : Int32) + nI a = nI (100 + a) := ni_add 100 a
theorem lrd_100 (xs : List Int32) : pm_rd xs 100 = gd xs 100 := ni_rd (n := 100) xs (by decide)
theorem lin_100 {n : Nat} (h : 100 < n) : pm_inR 100 n = True := (ni_inR (n := 100) (m := n) (by decide)).trans (eq_true h)
theorem lwr_100 (xs : List Int32) (x : Int32) : pm_wr xs 100 x = xs.set 100 x := ni_wr (n := 100) xs x (by decide)
theorem lia_108 (a : Nat) : (108 : Int32) + nI a = nI (108 + a) := ni_add 108 a
theorem lrd_108 (xs : List Int32) : pm_rd xs 108 = gd xs 108 := ni_rd (n := 108) xs (by decide)
theorem lin_108 {n : Nat} (h : 108 < n) : pm_inR 108 n = True := (ni_inR (n := 108) (m := n) (by decide)).trans (eq_true h)
theorem lwr_108 (xs : List Int32) (x : Int32) : pm_wr xs 108 x = xs.set 108 x := ni_wr (n := 108) xs x (by decide)
theorem lia_116 (a : Nat) : (116 : Int32) + nI a = nI (116 + a) := ni_add 116 a
theorem lrd_116 (xs : List Int32) : pm_rd xs 116 = gd xs 116 := ni_rd (n := 116) xs (by decide)
theorem lin_116 {n : Nat} (h : 116 < n) : pm_inR 116 n = True := (ni_inR (n := 116) (m := n) (by decide)).trans (eq_true h)
theorem lwr_116 (xs : List Int32) (x : Int32) : pm_wr xs 116 x = xs.set 116 x := ni_wr (n := 116) xs x (by decide)
theorem lia_124 (a : Nat) : (124 : Int32) + nI a = nI (124 + a) := ni_add 124 a
theorem lrd_124 (xs : List Int32) : pm_rd xs 124 = gd xs 124 := ni_rd (n := 124) xs (by decide)
theorem lin_124 {n : Nat} (h : 124 < n) : pm_inR 124 n = True := (ni_inR (n := 124) (m := n) (by decide)).trans (eq_true h)
theorem lwr_124 (xs : List Int32) (x : Int32) : pm_wr xs 124 x = xs.set 124 x := ni_wr (n := 124) xs x (by decide)
theorem lia_224 (a : Nat) : (224 : Int32) + nI a = nI (224 + a) := ni_add 224 a
theorem lrd_224 (xs : List Int32) : pm_rd xs 224 = gd xs 224 := ni_rd (n := 224) xs (by decide)
theorem lin_224 {n : Nat} (h : 224 < n) : pm_inR 224 n = True := (ni_inR (n := 224) (m := n) (by decide)).trans (eq_true h)
theorem lwr_224 (xs : List Int32) (x : Int32) : pm_wr xs 224 x = xs.set 224 x := ni_wr (n := 224) xs x (by decide)
theorem lia_229 (a : Nat) : (229 : Int32) + nI a = nI (229 + a) := ni_add 229 a
theorem lrd_229 (xs : List Int32) : pm_rd xs 229 = gd xs 229 := ni_rd (n := 229) xs (by decide)
theorem lin_229 {n : Nat} (h : 229 < n) : pm_inR 229 n = True := (ni_inR (n := 229) (m := n) (by decide)).trans (eq_true h)
theorem lwr_229 (xs : List Int32) (x : Int32) : pm_wr xs 229 x = xs.set 229 x := ni_wr (n := 229) xs x (by decide)
theorem lia_234 (a : Nat) : (234 : Int32) + nI a = nI (234 + a) := ni_add 234 a
theorem lrd_234 (xs : List Int32) : pm_rd xs 234 = gd xs 234 := ni_rd (n := 234) xs (by decide)
theorem lin_234 {n : Nat} (h : 234 < n) : pm_inR 234 n = True := (ni_inR (n := 234) (m := n) (by decide)).trans (eq_true h)
theorem lwr_234 (xs : List Int32) (x : Int32) : pm_wr xs 234 x = xs.set 234 x := ni_wr (n := 234) xs x (by decide)
theorem rd9 {s : List Int32} (hl : s.length = 934) {i : Nat} (hi : i < 934) : pm_inR (nI i) s.length = True ∧ pm_rd s (nI i) = gd s i ∧ ∀ x, pm_wr s (nI i) x = s.set i x := by
  rw [hl, ni_inR (by omega), ni_rd _ (by omega)]
  exact ⟨eq_true hi, rfl, fun x => ni_wr s x (by omega)⟩
theorem pc_c {T : Nat} {s : List Int32} (h : WF T s) : ∀ k, k ≤ 5 → pc (cN s) (k + 1) = pc (cN s) k + nN s (1 + k) ∨ k = 5
  | k, hk => by
    by_cases e : k = 5
    · exact Or.inr e
    · exact Or.inl (by rw [pc, tb_c h (by omega)])
theorem c_M_carriedMany {d T : Nat} {h : Nat → List Int32} {s f xs : List Int32} {K : Option Value → pm_S → Prop} (hw : WF T s) : pm_WC fqP (d + 1) 122 [.ref 85] (mk (rs h s f xs)) K = K (some (.int (nI (pc (cN s) 5)))) (mk (rs h s f xs)) := by
  have hl := wf_len hw
  have key : ∀ j k : Nat, j + k = 5 → pm_W fqP d 122 4 [some (.ref 85), some (.int (nI (pc (cN s) k))), some (.int (nI k))] [] (mk (rs h s f xs)) K = K (some (.int (nI (pc (cN s) 5)))) (mk (rs h s f xs)) := by
    intro j
    induction j with
    | zero =>
      intro k hk
      have e1 : ((5 : Int32) ≤ nI k) = True := by rw [li_le 5 k (by omega) (by omega)]; exact eq_true (by omega)
      rw [b_M_carriedMany_4]
      simp (maxDischargeDepth := 20) (maxSteps := 2000000) only [pm_WL_nil, bi_900, bi_901, bi_904, bi_905, pm_lget_0, pm_lget_s, pm_oI_s, pm_oA_s, pm_oJ_s, pm_oK_s, pm_oR_s, pm_oO_s, pm_oN_s, pm_oF_s, pm_oM_s, pm_oP_s, pm_pu_n, pm_pu_s, pm_bo_ne, pm_bo_eq, Nat.reduceAdd, Nat.reduceSub, Nat.reduceLT, Nat.reduceLeDiff, Nat.reduceEqDiff, Nat.zero_add, Nat.lt_add_one, Nat.zero_ne_one, Nat.succ_ne_self, List.length_cons, List.length_nil, true_and, and_true, true_or, or_true, false_or, or_false, false_implies, true_implies, implies_true, not_true_eq_false, not_false_eq_true, ne_eq, eq_self, e_M_carriedMany, pm_okW_0, pm_okW_i, pm_okW_r, pm_okW_l, pm_ent_0, pm_ent_i, pm_ent_r, pm_ent_l, List.reduceReplicate, b_M_carriedMany_0, b_M_carriedMany_9, b_M_carriedMany_26, w_iconst, ki_0, w_istore1, pm_lset_0, pm_lset_1, pm_lset_n, pm_no2_n, pm_no2_i, pm_no2_r, pm_no2_l, w_istore2, w_iload2, ki_5, w_icmp_ge, pm_tgt_is, Int.cast_ofNat_Int, Int.reduceNeg, Int.reduceAdd, Int.reduceToNat, Int.zero_add, Int.zero_le_ofNat, Int.reduceLE, if_true, if_false, w_iload1, w_aload0, w_getf, lg_122, lf_8_9, List.getElem?_cons_succ, List.getElem?_cons_zero, ki_1, w_iadd, w_iaload, w_iinc, w_goto, w_iret, pm_fit_b, pm_fit_0, pm_fit_1, Bool.false_eq_true, e1]
      rw [show k = 5 by omega]
    | succ j ih =>
      intro k hk
      have e1 : ((5 : Int32) ≤ nI k) = False := by rw [li_le 5 k (by omega) (by omega)]; exact eq_false (by omega)
      obtain ⟨r1, r2, _⟩ := rd9 hl (i := 1 + k) (by omega)
      have r3 := (wf_c hw (m := k) (by omega)).1
      have := ih (k + 1) (by omega)
      rw [pc, tb_c hw (by omega)] at this
      rw [b_M_carriedMany_4]
      simp (maxDischargeDepth := 20) (maxSteps := 2000000) only [pm_WL_nil, bi_900, bi_901, bi_904, bi_905, pm_lget_0, pm_lget_s, pm_oI_s, pm_oA_s, pm_oJ_s, pm_oK_s, pm_oR_s, pm_oO_s, pm_oN_s, pm_oF_s, pm_oM_s, pm_oP_s, pm_pu_n, pm_pu_s, pm_bo_ne, pm_bo_eq, Nat.reduceAdd, Nat.reduceSub, Nat.reduceLT, Nat.reduceLeDiff, Nat.reduceEqDiff, Nat.zero_add, Nat.lt_add_one, Nat.zero_ne_one, Nat.succ_ne_self, List.length_cons, List.length_nil, true_and, and_true, true_or, or_true, false_or, or_false, false_implies, true_implies, implies_true, not_true_eq_false, not_false_eq_true, ne_eq, eq_self, e_M_carriedMany, pm_okW_0, pm_okW_i, pm_okW_r, pm_okW_l, pm_ent_0, pm_ent_i, pm_ent_r, pm_ent_l, List.reduceReplicate, b_M_carriedMany_0, b_M_carriedMany_9, b_M_carriedMany_26, w_iconst, ki_0, w_istore1, pm_lset_0, pm_lset_1, pm_lset_n, pm_no2_n, pm_no2_i, pm_no2_r, pm_no2_l, w_istore2, w_iload2, ki_5, w_icmp_ge, pm_tgt_is, Int.cast_ofNat_Int, Int.reduceNeg, Int.reduceAdd, Int.reduceToNat, Int.zero_add, Int.zero_le_ofNat, Int.reduceLE, if_true, if_false, w_iload1, w_aload0, w_getf, lg_122, lf_8_9, List.getElem?_cons_succ, List.getElem?_cons_zero, ki_1, w_iadd, w_iaload, w_iinc, w_goto, w_iret, pm_fit_b, pm_fit_0, pm_fit_1, Bool.false_eq_true, hg_85, hs_85, hg_86, hs_86, ia_86, iw_86, ar_86, lia_0, lrd_0, lin_0, lwr_0, lia_1, lrd_1, lin_1, lwr_1, lia_2, lrd_2, lin_2, lwr_2, lia_3, lrd_3, lin_3, lwr_3, lia_4, lrd_4, lin_4, lwr_4, lia_5, lrd_5, lin_5, lwr_5, lia_6, lrd_6, lin_6, lwr_6, lia_12, lrd_12, lin_12, lwr_12, lia_18, lrd_18, lin_18, lwr_18, lia_22, lrd_22, lin_22, lwr_22, lia_23, lrd_23, lin_23, lwr_23, lia_24, lrd_24, lin_24, lwr_24, lia_25, lrd_25, lin_25, lwr_25, lia_26, lrd_26, lin_26, lwr_26, lia_27, lrd_27, lin_27, lwr_27, lia_28, lrd_28, lin_28, lwr_28, lia_29, lrd_29, lin_29, lwr_29, lia_30, lrd_30, lin_30, lwr_30, lia_36, lrd_36, lin_36, lwr_36, lia_42, lrd_42, lin_42, lwr_42, lia_48, lrd_48, lin_48, lwr_48, lia_72, lrd_72, lin_72, lwr_72, lia_77, lrd_77, lin_77, lwr_77, lia_82, lrd_82, lin_82, lwr_82, lia_87, lrd_87, lin_87, lwr_87, lia_92, lrd_92, lin_92, lwr_92, lia_100, lrd_100, lin_100, lwr_100, lia_108, lrd_108, lin_108, lwr_108, lia_116, lrd_116, lin_116, lwr_116, lia_124, lrd_124, lin_124, lwr_124, lia_224, lrd_224, lin_224, lwr_224, lia_229, lrd_229, lin_229, lwr_229, lia_234, lrd_234, lin_234, lwr_234, rs_86, e1, ni_1, r1, r2, r3, ni_add]
      exact this
  simp (maxDischargeDepth := 20) (maxSteps := 2000000) only [pm_WL_nil, bi_900, bi_901, bi_904, bi_905, pm_lget_0, pm_lget_s, pm_oI_s, pm_oA_s, pm_oJ_s, pm_oK_s, pm_oR_s, pm_oO_s, pm_oN_s, pm_oF_s, pm_oM_s, pm_oP_s, pm_pu_n, pm_pu_s, pm_bo_ne, pm_bo_eq, Nat.reduceAdd, Nat.reduceSub, Nat.reduceLT, Nat.reduceLeDiff, Nat.reduceEqDiff, Nat.zero_add, Nat.lt_add_one, Nat.zero_ne_one, Nat.succ_ne_self, List.length_cons, List.length_nil, true_and, and_true, true_or, or_true, false_or, or_false, false_implies, true_implies, implies_true, not_true_eq_false, not_false_eq_true, ne_eq, eq_self, e_M_carriedMany, pm_okW_0, pm_okW_i, pm_okW_r, pm_okW_l, pm_ent_0, pm_ent_i, pm_ent_r, pm_ent_l, List.reduceReplicate, b_M_carriedMany_0, b_M_carriedMany_9, b_M_carriedMany_26, w_iconst, ki_0, w_istore1, pm_lset_0, pm_lset_1, pm_lset_n, pm_no2_n, pm_no2_i, pm_no2_r, pm_no2_l, w_istore2, w_iload2, ki_5, w_icmp_ge, pm_tgt_is, Int.cast_ofNat_Int, Int.reduceNeg, Int.reduceAdd, Int.reduceToNat, Int.zero_add, Int.zero_le_ofNat, Int.reduceLE, if_true, if_false, w_iload1, w_aload0, w_getf, lg_122, lf_8_9, List.getElem?_cons_succ, List.getElem?_cons_zero, ki_1, w_iadd, w_iaload, w_iinc, w_goto, w_iret, pm_fit_b, pm_fit_0, pm_fit_1, Bool.false_eq_true]
  exact key 5 0 (by omega)
theorem c_M_tellsQ {d T : Nat} {h : Nat → List Int32} {s f xs : List Int32} {K : Option Value → pm_S → Prop} (hw : WF T s) : pm_WC fqP (d + 1) 121 [.ref 85, .int 224, .int 2] (mk (rs h s f xs)) K = K (some (.int (quo s))) (mk (rs h s f xs)) := by
  have hl := wf_len hw
  have hh := hw.2.2.2.1
  unfold quo
  by_cases q : gd s 29 = -1
  · simp (maxDischargeDepth := 20) (maxSteps := 2000000) only [pm_WL_nil, bi_900, bi_901, bi_904, bi_905, pm_lget_0, pm_lget_s, pm_oI_s, pm_oA_s, pm_oJ_s, pm_oK_s, pm_oR_s, pm_oO_s, pm_oN_s, pm_oF_s, pm_oM_s, pm_oP_s, pm_pu_n, pm_pu_s, pm_bo_ne, pm_bo_eq, Nat.reduceAdd, Nat.reduceSub, Nat.reduceLT, Nat.reduceLeDiff, Nat.reduceEqDiff, Nat.zero_add, Nat.lt_add_one, Nat.zero_ne_one, Nat.succ_ne_self, List.length_cons, List.length_nil, true_and, and_true, true_or, or_true, false_or, or_false, false_implies, true_implies, implies_true, not_true_eq_false, not_false_eq_true, ne_eq, eq_self, e_M_tellsOf, pm_okW_0, pm_okW_i, pm_okW_r, pm_okW_l, pm_ent_0, pm_ent_i, pm_ent_r, pm_ent_l, List.reduceReplicate, b_M_tellsOf_0, b_M_tellsOf_11, b_M_tellsOf_15, b_M_tellsOf_29, w_aload0, w_getf, lg_121, lf_8_9, List.getElem?_cons_succ, List.getElem?_cons_zero, w_bipush, kb_29, w_iaload, w_iconst, ki_m1, w_icmp_ne, pm_tgt_is, Int.cast_ofNat_Int, Int.reduceNeg, Int.reduceAdd, Int.reduceToNat, Int.zero_add, Int.zero_le_ofNat, Int.reduceLE, if_true, if_false, w_iload2, w_goto, w_iload1, w_iadd, w_iret, pm_fit_b, pm_fit_0, pm_fit_1, Bool.false_eq_true, hg_85, hs_85, hg_86, hs_86, ia_86, iw_86, ar_86, rs_86, hl, lia_0, lrd_0, lin_0, lwr_0, lia_1, lrd_1, lin_1, lwr_1, lia_2, lrd_2, lin_2, lwr_2, lia_3, lrd_3, lin_3, lwr_3, lia_4, lrd_4, lin_4, lwr_4, lia_5, lrd_5, lin_5, lwr_5, lia_6, lrd_6, lin_6, lwr_6, lia_12, lrd_12, lin_12, lwr_12, lia_18, lrd_18, lin_18, lwr_18, lia_22, lrd_22, lin_22, lwr_22, lia_23, lrd_23, lin_23, lwr_23, lia_24, lrd_24, lin_24, lwr_24, lia_25, lrd_25, lin_25, lwr_25, lia_26, lrd_26, lin_26, lwr_26, lia_27, lrd_27, lin_27, lwr_27, lia_28, lrd_28, lin_28, lwr_28, lia_29, lrd_29, lin_29, lwr_29, lia_30, lrd_30, lin_30, lwr_30, lia_36, lrd_36, lin_36, lwr_36, lia_42, lrd_42, lin_42, lwr_42, lia_48, lrd_48, lin_48, lwr_48, lia_72, lrd_72, lin_72, lwr_72, lia_77, lrd_77, lin_77, lwr_77, lia_82, lrd_82, lin_82, lwr_82, lia_87, lrd_87, lin_87, lwr_87, lia_92, lrd_92, lin_92, lwr_92, lia_100, lrd_100, lin_100, lwr_100, lia_108, lrd_108, lin_108, lwr_108, lia_116, lrd_116, lin_116, lwr_116, lia_124, lrd_124, lin_124, lwr_124, lia_224, lrd_224, lin_224, lwr_224, lia_229, lrd_229, lin_229, lwr_229, lia_234, lrd_234, lin_234, lwr_234, q]
  · rcases hh with z | ⟨z1, z2⟩
    · exact absurd z q
    · obtain ⟨r1, r2, _⟩ := rd9 hl (i := 224 + nN s 29) (by omega)
      rw [hl] at r1
      have q2 : (nI (nN s 29) = -1) = False := eq_false (z1 ▸ q)
      simp (maxDischargeDepth := 20) (maxSteps := 2000000) only [pm_WL_nil, bi_900, bi_901, bi_904, bi_905, pm_lget_0, pm_lget_s, pm_oI_s, pm_oA_s, pm_oJ_s, pm_oK_s, pm_oR_s, pm_oO_s, pm_oN_s, pm_oF_s, pm_oM_s, pm_oP_s, pm_pu_n, pm_pu_s, pm_bo_ne, pm_bo_eq, Nat.reduceAdd, Nat.reduceSub, Nat.reduceLT, Nat.reduceLeDiff, Nat.reduceEqDiff, Nat.zero_add, Nat.lt_add_one, Nat.zero_ne_one, Nat.succ_ne_self, List.length_cons, List.length_nil, true_and, and_true, true_or, or_true, false_or, or_false, false_implies, true_implies, implies_true, not_true_eq_false, not_false_eq_true, ne_eq, eq_self, e_M_tellsOf, pm_okW_0, pm_okW_i, pm_okW_r, pm_okW_l, pm_ent_0, pm_ent_i, pm_ent_r, pm_ent_l, List.reduceReplicate, b_M_tellsOf_0, b_M_tellsOf_11, b_M_tellsOf_15, b_M_tellsOf_29, w_aload0, w_getf, lg_121, lf_8_9, List.getElem?_cons_succ, List.getElem?_cons_zero, w_bipush, kb_29, w_iaload, w_iconst, ki_m1, w_icmp_ne, pm_tgt_is, Int.cast_ofNat_Int, Int.reduceNeg, Int.reduceAdd, Int.reduceToNat, Int.zero_add, Int.zero_le_ofNat, Int.reduceLE, if_true, if_false, w_iload2, w_goto, w_iload1, w_iadd, w_iret, pm_fit_b, pm_fit_0, pm_fit_1, Bool.false_eq_true, hg_85, hs_85, hg_86, hs_86, ia_86, iw_86, ar_86, rs_86, hl, lia_0, lrd_0, lin_0, lwr_0, lia_1, lrd_1, lin_1, lwr_1, lia_2, lrd_2, lin_2, lwr_2, lia_3, lrd_3, lin_3, lwr_3, lia_4, lrd_4, lin_4, lwr_4, lia_5, lrd_5, lin_5, lwr_5, lia_6, lrd_6, lin_6, lwr_6, lia_12, lrd_12, lin_12, lwr_12, lia_18, lrd_18, lin_18, lwr_18, lia_22, lrd_22, lin_22, lwr_22, lia_23, lrd_23, lin_23, lwr_23, lia_24, lrd_24, lin_24, lwr_24, lia_25, lrd_25, lin_25, lwr_25, lia_26, lrd_26, lin_26, lwr_26, lia_27, lrd_27, lin_27, lwr_27, lia_28, lrd_28, lin_28, lwr_28, lia_29, lrd_29, lin_29, lwr_29, lia_30, lrd_30, lin_30, lwr_30, lia_36, lrd_36, lin_36, lwr_36, lia_42, lrd_42, lin_42, lwr_42, lia_48, lrd_48, lin_48, lwr_48, lia_72, lrd_72, lin_72, lwr_72, lia_77, lrd_77, lin_77, lwr_77, lia_82, lrd_82, lin_82, lwr_82, lia_87, lrd_87, lin_87, lwr_87, lia_92, lrd_92, lin_92, lwr_92, lia_100, lrd_100, lin_100, lwr_100, lia_108, lrd_108, lin_108, lwr_108, lia_116, lrd_116, lin_116, lwr_116, lia_124, lrd_124, lin_124, lwr_124, lia_224, lrd_224, lin_224, lwr_224, lia_229, lrd_229, lin_229, lwr_229, lia_234, lrd_234, lin_234, lwr_234, z1, q2, r1, r2]
theorem c_M_tellsM {d T : Nat} {h : Nat → List Int32} {s f xs : List Int32} {K : Option Value → pm_S → Prop} (hw : WF T s) : pm_WC fqP (d + 1) 121 [.ref 85, .int 229, .int 0] (mk (rs h s f xs)) K = K (some (.int (if gd s 29 = -1 then 0 else gd s (229 + nN s 29)))) (mk (rs h s f xs)) := by
  have hl := wf_len hw
  have hh := hw.2.2.2.1
  by_cases q : gd s 29 = -1
  · simp (maxDischargeDepth := 20) (maxSteps := 2000000) only [pm_WL_nil, bi_900, bi_901, bi_904, bi_905, pm_lget_0, pm_lget_s, pm_oI_s, pm_oA_s, pm_oJ_s, pm_oK_s, pm_oR_s, pm_oO_s, pm_oN_s, pm_oF_s, pm_oM_s, pm_oP_s, pm_pu_n, pm_pu_s, pm_bo_ne, pm_bo_eq, Nat.reduceAdd, Nat.reduceSub, Nat.reduceLT, Nat.reduceLeDiff, Nat.reduceEqDiff, Nat.zero_add, Nat.lt_add_one, Nat.zero_ne_one, Nat.succ_ne_self, List.length_cons, List.length_nil, true_and, and_true, true_or, or_true, false_or, or_false, false_implies, true_implies, implies_true, not_true_eq_false, not_false_eq_true, ne_eq, eq_self, e_M_tellsOf, pm_okW_0, pm_okW_i, pm_okW_r, pm_okW_l, pm_ent_0, pm_ent_i, pm_ent_r, pm_ent_l, List.reduceReplicate, b_M_tellsOf_0, b_M_tellsOf_11, b_M_tellsOf_15, b_M_tellsOf_29, w_aload0, w_getf, lg_121, lf_8_9, List.getElem?_cons_succ, List.getElem?_cons_zero, w_bipush, kb_29, w_iaload, w_iconst, ki_m1, w_icmp_ne, pm_tgt_is, Int.cast_ofNat_Int, Int.reduceNeg, Int.reduceAdd, Int.reduceToNat, Int.zero_add, Int.zero_le_ofNat, Int.reduceLE, if_true, if_false, w_iload2, w_goto, w_iload1, w_iadd, w_iret, pm_fit_b, pm_fit_0, pm_fit_1, Bool.false_eq_true, hg_85, hs_85, hg_86, hs_86, ia_86, iw_86, ar_86, rs_86, hl, lia_0, lrd_0, lin_0, lwr_0, lia_1, lrd_1, lin_1, lwr_1, lia_2, lrd_2, lin_2, lwr_2, lia_3, lrd_3, lin_3, lwr_3, lia_4, lrd_4, lin_4, lwr_4, lia_5, lrd_5, lin_5, lwr_5, lia_6, lrd_6, lin_6, lwr_6, lia_12, lrd_12, lin_12, lwr_12, lia_18, lrd_18, lin_18, lwr_18, lia_22, lrd_22, lin_22, lwr_22, lia_23, lrd_23, lin_23, lwr_23, lia_24, lrd_24, lin_24, lwr_24, lia_25, lrd_25, lin_25, lwr_25, lia_26, lrd_26, lin_26, lwr_26, lia_27, lrd_27, lin_27, lwr_27, lia_28, lrd_28, lin_28, lwr_28, lia_29, lrd_29, lin_29, lwr_29, lia_30, lrd_30, lin_30, lwr_30, lia_36, lrd_36, lin_36, lwr_36, lia_42, lrd_42, lin_42, lwr_42, lia_48, lrd_48, lin_48, lwr_48, lia_72, lrd_72, lin_72, lwr_72, lia_77, lrd_77, lin_77, lwr_77, lia_82, lrd_82, lin_82, lwr_82, lia_87, lrd_87, lin_87, lwr_87, lia_92, lrd_92, lin_92, lwr_92, lia_100, lrd_100, lin_100, lwr_100, lia_108, lrd_108, lin_108, lwr_108, lia_116, lrd_116, lin_116, lwr_116, lia_124, lrd_124, lin_124, lwr_124, lia_224, lrd_224, lin_224, lwr_224, lia_229, lrd_229, lin_229, lwr_229, lia_234, lrd_234, lin_234, lwr_234, q]
  · rcases hh with z | ⟨z1, z2⟩
    · exact absurd z q
    · obtain ⟨r1, r2, _⟩ := rd9 hl (i := 229 + nN s 29) (by omega)
      rw [hl] at r1
      have q2 : (nI (nN s 29) = -1) = False := eq_false (z1 ▸ q)
      simp (maxDischargeDepth := 20) (maxSteps := 2000000) only [pm_WL_nil, bi_900, bi_901, bi_904, bi_905, pm_lget_0, pm_lget_s, pm_oI_s, pm_oA_s, pm_oJ_s, pm_oK_s, pm_oR_s, pm_oO_s, pm_oN_s, pm_oF_s, pm_oM_s, pm_oP_s, pm_pu_n, pm_pu_s, pm_bo_ne, pm_bo_eq, Nat.reduceAdd, Nat.reduceSub, Nat.reduceLT, Nat.reduceLeDiff, Nat.reduceEqDiff, Nat.zero_add, Nat.lt_add_one, Nat.zero_ne_one, Nat.succ_ne_self, List.length_cons, List.length_nil, true_and, and_true, true_or, or_true, false_or, or_false, false_implies, true_implies, implies_true, not_true_eq_false, not_false_eq_true, ne_eq, eq_self, e_M_tellsOf, pm_okW_0, pm_okW_i, pm_okW_r, pm_okW_l, pm_ent_0, pm_ent_i, pm_ent_r, pm_ent_l, List.reduceReplicate, b_M_tellsOf_0, b_M_tellsOf_11, b_M_tellsOf_15, b_M_tellsOf_29, w_aload0, w_getf, lg_121, lf_8_9, List.getElem?_cons_succ, List.getElem?_cons_zero, w_bipush, kb_29, w_iaload, w_iconst, ki_m1, w_icmp_ne, pm_tgt_is, Int.cast_ofNat_Int, Int.reduceNeg, Int.reduceAdd, Int.reduceToNat, Int.zero_add, Int.zero_le_ofNat, Int.reduceLE, if_true, if_false, w_iload2, w_goto, w_iload1, w_iadd, w_iret, pm_fit_b, pm_fit_0, pm_fit_1, Bool.false_eq_true, hg_85, hs_85, hg_86, hs_86, ia_86, iw_86, ar_86, rs_86, hl, lia_0, lrd_0, lin_0, lwr_0, lia_1, lrd_1, lin_1, lwr_1, lia_2, lrd_2, lin_2, lwr_2, lia_3, lrd_3, lin_3, lwr_3, lia_4, lrd_4, lin_4, lwr_4, lia_5, lrd_5, lin_5, lwr_5, lia_6, lrd_6, lin_6, lwr_6, lia_12, lrd_12, lin_12, lwr_12, lia_18, lrd_18, lin_18, lwr_18, lia_22, lrd_22, lin_22, lwr_22, lia_23, lrd_23, lin_23, lwr_23, lia_24, lrd_24, lin_24, lwr_24, lia_25, lrd_25, lin_25, lwr_25, lia_26, lrd_26, lin_26, lwr_26, lia_27, lrd_27, lin_27, lwr_27, lia_28, lrd_28, lin_28, lwr_28, lia_29, lrd_29, lin_29, lwr_29, lia_30, lrd_30, lin_30, lwr_30, lia_36, lrd_36, lin_36, lwr_36, lia_42, lrd_42, lin_42, lwr_42, lia_48, lrd_48, lin_48, lwr_48, lia_72, lrd_72, lin_72, lwr_72, lia_77, lrd_77, lin_77, lwr_77, lia_82, lrd_82, lin_82, lwr_82, lia_87, lrd_87, lin_87, lwr_87, lia_92, lrd_92, lin_92, lwr_92, lia_100, lrd_100, lin_100, lwr_100, lia_108, lrd_108, lin_108, lwr_108, lia_116, lrd_116, lin_116, lwr_116, lia_124, lrd_124, lin_124, lwr_124, lia_224, lrd_224, lin_224, lwr_224, lia_229, lrd_229, lin_229, lwr_229, lia_234, lrd_234, lin_234, lwr_234, z1, q2, r1, r2]
theorem c_M_isHere {d T p : Nat} {h : Nat → List Int32} {s f xs : List Int32} {K : Option Value → pm_S → Prop} (hw : WF T s) (hT : T < 2 ^ 30) (hp : p < 6) : pm_WC fqP (d + 1) 125 [.ref 85, .int (nI p)] (mk (rs h s f xs)) K = K (some (.int (nI (inN s p)))) (mk (rs h s f xs)) := by
  have hl := wf_len hw
  obtain ⟨t1, t2⟩ := wf_t hw
  obtain ⟨r1, r2, _⟩ := rd9 hl (i := 6 + p) (by omega)
  obtain ⟨r3, r4, _⟩ := rd9 hl (i := 12 + p) (by omega)
  obtain ⟨r5, r6, _⟩ := rd9 hl (i := 18 + nN s 0 % 4) (by omega)
  rw [hl] at r1 r3 r5
  have em : nI (nN s 0) - nI (nN s 0) / 4 * 4 = nI (nN s 0 % 4) := ni_mod (b := 4) (by omega) (by omega)
  simp (maxDischargeDepth := 20) (maxSteps := 2000000) only [pm_WL_nil, bi_900, bi_901, bi_904, bi_905, pm_lget_0, pm_lget_s, pm_oI_s, pm_oA_s, pm_oJ_s, pm_oK_s, pm_oR_s, pm_oO_s, pm_oN_s, pm_oF_s, pm_oM_s, pm_oP_s, pm_pu_n, pm_pu_s, pm_bo_ne, pm_bo_eq, Nat.reduceAdd, Nat.reduceSub, Nat.reduceLT, Nat.reduceLeDiff, Nat.reduceEqDiff, Nat.zero_add, Nat.lt_add_one, Nat.zero_ne_one, Nat.succ_ne_self, List.length_cons, List.length_nil, true_and, and_true, true_or, or_true, false_or, or_false, false_implies, true_implies, implies_true, not_true_eq_false, not_false_eq_true, ne_eq, eq_self, e_M_isHere, pm_okW_0, pm_okW_i, pm_okW_r, pm_okW_l, pm_ent_0, pm_ent_i, pm_ent_r, pm_ent_l, List.reduceReplicate, b_M_isHere_0, b_M_isHere_12, b_M_isHere_49, b_M_isHere_53, b_M_isHere_54, w_aload0, w_getf, lg_125, lf_8_9, List.getElem?_cons_succ, List.getElem?_cons_zero, w_bipush, kb_6, w_iload1, w_iadd, w_iaload, w_if_ne, pm_tgt_is, Int.cast_ofNat_Int, Int.reduceNeg, Int.reduceAdd, Int.reduceToNat, Int.zero_add, Int.zero_le_ofNat, Int.reduceLE, nz_1, nz_m1, if_true, if_false, kb_12, kb_18, w_iconst, ki_0, ki_4, w_irem, nz_2, nz_4, nz_8, nz_10, nz_32, ki_3, ki_1, w_imul, w_icmp_gt, w_goto, w_iret, pm_fit_b, pm_fit_0, pm_fit_1, Bool.false_eq_true, hg_85, hs_85, hg_86, hs_86, ia_86, iw_86, ar_86, rs_86, hl, lia_0, lrd_0, lin_0, lwr_0, lia_1, lrd_1, lin_1, lwr_1, lia_2, lrd_2, lin_2, lwr_2, lia_3, lrd_3, lin_3, lwr_3, lia_4, lrd_4, lin_4, lwr_4, lia_5, lrd_5, lin_5, lwr_5, lia_6, lrd_6, lin_6, lwr_6, lia_12, lrd_12, lin_12, lwr_12, lia_18, lrd_18, lin_18, lwr_18, lia_22, lrd_22, lin_22, lwr_22, lia_23, lrd_23, lin_23, lwr_23, lia_24, lrd_24, lin_24, lwr_24, lia_25, lrd_25, lin_25, lwr_25, lia_26, lrd_26, lin_26, lwr_26, lia_27, lrd_27, lin_27, lwr_27, lia_28, lrd_28, lin_28, lwr_28, lia_29, lrd_29, lin_29, lwr_29, lia_30, lrd_30, lin_30, lwr_30, lia_36, lrd_36, lin_36, lwr_36, lia_42, lrd_42, lin_42, lwr_42, lia_48, lrd_48, lin_48, lwr_48, lia_72, lrd_72, lin_72, lwr_72, lia_77, lrd_77, lin_77, lwr_77, lia_82, lrd_82, lin_82, lwr_82, lia_87, lrd_87, lin_87, lwr_87, lia_92, lrd_92, lin_92, lwr_92, lia_100, lrd_100, lin_100, lwr_100, lia_108, lrd_108, lin_108, lwr_108, lia_116, lrd_116, lin_116, lwr_116, lia_124, lrd_124, lin_124, lwr_124, lia_224, lrd_224, lin_224, lwr_224, lia_229, lrd_229, lin_229, lwr_229, lia_234, lrd_234, lin_234, lwr_234, r1, r2, r3, r4, r5, r6, t1, em]
  unfold inN
  by_cases q : gd s (6 + p) = 0
  · by_cases r : gd s (12 + p) ≤ gd s (18 + nN s 0 % 4) + 3 * gd s 1
    · rw [if_neg (fun z => z q), if_neg (Int32.not_lt.mpr r), if_pos ⟨q, r⟩]; rfl
    · rw [if_neg (fun z => z q), if_pos (Int32.not_le.mp r), if_neg (fun z => r z.2)]; rfl
  · rw [if_pos q, if_neg (fun z => q z.1)]; rfl
theorem c_M_hereOnes {d T : Nat} {h : Nat → List Int32} {s f xs : List Int32} {K : Option Value → pm_S → Prop} (hw : WF T s) (hT : T < 2 ^ 30) : pm_WC fqP (d + 2) 126 [.ref 85] (mk (rs h s f xs)) K = K (some (.int (nI (here s)))) (mk (rs h s f xs)) := by
  have hl := wf_len hw
  obtain ⟨hn, hn6⟩ := wf_n hw
  have key : ∀ j k : Nat, j + k = nN s 22 → pm_W fqP (d + 1) 126 4 [some (.ref 85), some (.int (nI (msk (inN s) k))), some (.int (nI k))] [] (mk (rs h s f xs)) K = K (some (.int (nI (here s)))) (mk (rs h s f xs)) := by
    intro j
    induction j with
    | zero =>
      intro k hk
      have e1 : (nI (nN s 22) ≤ nI k) = True := by rw [ni_le (by omega) (by omega)]; exact eq_true (by omega)
      rw [b_M_hereOnes_4]
      simp (maxDischargeDepth := 20) (maxSteps := 2000000) only [pm_WL_nil, bi_900, bi_901, bi_904, bi_905, pm_lget_0, pm_lget_s, pm_oI_s, pm_oA_s, pm_oJ_s, pm_oK_s, pm_oR_s, pm_oO_s, pm_oN_s, pm_oF_s, pm_oM_s, pm_oP_s, pm_pu_n, pm_pu_s, pm_bo_ne, pm_bo_eq, Nat.reduceAdd, Nat.reduceSub, Nat.reduceLT, Nat.reduceLeDiff, Nat.reduceEqDiff, Nat.zero_add, Nat.lt_add_one, Nat.zero_ne_one, Nat.succ_ne_self, List.length_cons, List.length_nil, true_and, and_true, true_or, or_true, false_or, or_false, false_implies, true_implies, implies_true, not_true_eq_false, not_false_eq_true, ne_eq, eq_self, e_M_hereOnes, pm_okW_0, pm_okW_i, pm_okW_r, pm_okW_l, pm_ent_0, pm_ent_i, pm_ent_r, pm_ent_l, List.reduceReplicate, b_M_hereOnes_0, b_M_hereOnes_15, b_M_hereOnes_24, b_M_hereOnes_30, b_M_hereOnes_31, b_M_hereOnes_39, w_iconst, ki_0, w_istore1, pm_lset_0, pm_lset_1, pm_lset_n, pm_no2_n, pm_no2_i, pm_no2_r, pm_no2_l, w_istore2, w_iload2, w_aload0, w_getf, lg_126, lf_8_9, List.getElem?_cons_succ, List.getElem?_cons_zero, w_bipush, kb_22, w_iaload, w_icmp_ge, pm_tgt_is, Int.cast_ofNat_Int, Int.reduceNeg, Int.reduceAdd, Int.reduceToNat, Int.zero_add, Int.zero_le_ofNat, Int.reduceLE, if_true, if_false, w_iload1, w_invv, lm_8_131, pm_pop_0, pm_pop_s, pm_rcv_is, pm_ref1_is, w_if_eq, nz_1, nz_m1, ki_1, w_ishl, w_goto, w_ior, w_iinc, w_iret, pm_fit_b, pm_fit_0, pm_fit_1, Bool.false_eq_true, hg_85, hs_85, hg_86, hs_86, ia_86, iw_86, ar_86, rs_86, hl, lia_0, lrd_0, lin_0, lwr_0, lia_1, lrd_1, lin_1, lwr_1, lia_2, lrd_2, lin_2, lwr_2, lia_3, lrd_3, lin_3, lwr_3, lia_4, lrd_4, lin_4, lwr_4, lia_5, lrd_5, lin_5, lwr_5, lia_6, lrd_6, lin_6, lwr_6, lia_12, lrd_12, lin_12, lwr_12, lia_18, lrd_18, lin_18, lwr_18, lia_22, lrd_22, lin_22, lwr_22, lia_23, lrd_23, lin_23, lwr_23, lia_24, lrd_24, lin_24, lwr_24, lia_25, lrd_25, lin_25, lwr_25, lia_26, lrd_26, lin_26, lwr_26, lia_27, lrd_27, lin_27, lwr_27, lia_28, lrd_28, lin_28, lwr_28, lia_29, lrd_29, lin_29, lwr_29, lia_30, lrd_30, lin_30, lwr_30, lia_36, lrd_36, lin_36, lwr_36, lia_42, lrd_42, lin_42, lwr_42, lia_48, lrd_48, lin_48, lwr_48, lia_72, lrd_72, lin_72, lwr_72, lia_77, lrd_77, lin_77, lwr_77, lia_82, lrd_82, lin_82, lwr_82, lia_87, lrd_87, lin_87, lwr_87, lia_92, lrd_92, lin_92, lwr_92, lia_100, lrd_100, lin_100, lwr_100, lia_108, lrd_108, lin_108, lwr_108, lia_116, lrd_116, lin_116, lwr_116, lia_124, lrd_124, lin_124, lwr_124, lia_224, lrd_224, lin_224, lwr_224, lia_229, lrd_229, lin_229, lwr_229, lia_234, lrd_234, lin_234, lwr_234, hn, e1]
      rw [show k = nN s 22 by omega]; rfl
    | succ j ih =>
      intro k hk
      have e1 : (nI (nN s 22) ≤ nI k) = False := by rw [ni_le (by omega) (by omega)]; exact eq_false (by omega)
      have := ih (k + 1) (by omega)
      rw [msk] at this
      have e2 := fun K => @c_M_isHere d T k h s f xs K hw hT (by omega)
      have e3 := or_a k (by omega) (msk (inN s) k) (msk_lt k fun i _ => inN_lt s i) 1 (by omega)
      rw [b_M_hereOnes_4]
      simp (maxDischargeDepth := 20) (maxSteps := 2000000) only [pm_WL_nil, bi_900, bi_901, bi_904, bi_905, pm_lget_0, pm_lget_s, pm_oI_s, pm_oA_s, pm_oJ_s, pm_oK_s, pm_oR_s, pm_oO_s, pm_oN_s, pm_oF_s, pm_oM_s, pm_oP_s, pm_pu_n, pm_pu_s, pm_bo_ne, pm_bo_eq, Nat.reduceAdd, Nat.reduceSub, Nat.reduceLT, Nat.reduceLeDiff, Nat.reduceEqDiff, Nat.zero_add, Nat.lt_add_one, Nat.zero_ne_one, Nat.succ_ne_self, List.length_cons, List.length_nil, true_and, and_true, true_or, or_true, false_or, or_false, false_implies, true_implies, implies_true, not_true_eq_false, not_false_eq_true, ne_eq, eq_self, e_M_hereOnes, pm_okW_0, pm_okW_i, pm_okW_r, pm_okW_l, pm_ent_0, pm_ent_i, pm_ent_r, pm_ent_l, List.reduceReplicate, b_M_hereOnes_0, b_M_hereOnes_15, b_M_hereOnes_24, b_M_hereOnes_30, b_M_hereOnes_31, b_M_hereOnes_39, w_iconst, ki_0, w_istore1, pm_lset_0, pm_lset_1, pm_lset_n, pm_no2_n, pm_no2_i, pm_no2_r, pm_no2_l, w_istore2, w_iload2, w_aload0, w_getf, lg_126, lf_8_9, List.getElem?_cons_succ, List.getElem?_cons_zero, w_bipush, kb_22, w_iaload, w_icmp_ge, pm_tgt_is, Int.cast_ofNat_Int, Int.reduceNeg, Int.reduceAdd, Int.reduceToNat, Int.zero_add, Int.zero_le_ofNat, Int.reduceLE, if_true, if_false, w_iload1, w_invv, lm_8_131, pm_pop_0, pm_pop_s, pm_rcv_is, pm_ref1_is, w_if_eq, nz_1, nz_m1, ki_1, w_ishl, w_goto, w_ior, w_iinc, w_iret, pm_fit_b, pm_fit_0, pm_fit_1, Bool.false_eq_true, hg_85, hs_85, hg_86, hs_86, ia_86, iw_86, ar_86, rs_86, hl, lia_0, lrd_0, lin_0, lwr_0, lia_1, lrd_1, lin_1, lwr_1, lia_2, lrd_2, lin_2, lwr_2, lia_3, lrd_3, lin_3, lwr_3, lia_4, lrd_4, lin_4, lwr_4, lia_5, lrd_5, lin_5, lwr_5, lia_6, lrd_6, lin_6, lwr_6, lia_12, lrd_12, lin_12, lwr_12, lia_18, lrd_18, lin_18, lwr_18, lia_22, lrd_22, lin_22, lwr_22, lia_23, lrd_23, lin_23, lwr_23, lia_24, lrd_24, lin_24, lwr_24, lia_25, lrd_25, lin_25, lwr_25, lia_26, lrd_26, lin_26, lwr_26, lia_27, lrd_27, lin_27, lwr_27, lia_28, lrd_28, lin_28, lwr_28, lia_29, lrd_29, lin_29, lwr_29, lia_30, lrd_30, lin_30, lwr_30, lia_36, lrd_36, lin_36, lwr_36, lia_42, lrd_42, lin_42, lwr_42, lia_48, lrd_48, lin_48, lwr_48, lia_72, lrd_72, lin_72, lwr_72, lia_77, lrd_77, lin_77, lwr_77, lia_82, lrd_82, lin_82, lwr_82, lia_87, lrd_87, lin_87, lwr_87, lia_92, lrd_92, lin_92, lwr_92, lia_100, lrd_100, lin_100, lwr_100, lia_108, lrd_108, lin_108, lwr_108, lia_116, lrd_116, lin_116, lwr_116, lia_124, lrd_124, lin_124, lwr_124, lia_224, lrd_224, lin_224, lwr_224, lia_229, lrd_229, lin_229, lwr_229, lia_234, lrd_234, lin_234, lwr_234, hn, e1, e2, ni_1]
      rcases (by have := inN_lt s k; omega : inN s k = 0 ∨ inN s k = 1) with z | z
      · rw [z, if_pos (show nI 0 = 0 from rfl), Int32.or_zero]
        rw [z, Nat.zero_mul, Nat.add_zero] at this
        exact this
      · rw [z, if_neg (by decide)]
        rw [z, ← e3] at this
        exact this
  simp (maxDischargeDepth := 20) (maxSteps := 2000000) only [pm_WL_nil, bi_900, bi_901, bi_904, bi_905, pm_lget_0, pm_lget_s, pm_oI_s, pm_oA_s, pm_oJ_s, pm_oK_s, pm_oR_s, pm_oO_s, pm_oN_s, pm_oF_s, pm_oM_s, pm_oP_s, pm_pu_n, pm_pu_s, pm_bo_ne, pm_bo_eq, Nat.reduceAdd, Nat.reduceSub, Nat.reduceLT, Nat.reduceLeDiff, Nat.reduceEqDiff, Nat.zero_add, Nat.lt_add_one, Nat.zero_ne_one, Nat.succ_ne_self, List.length_cons, List.length_nil, true_and, and_true, true_or, or_true, false_or, or_false, false_implies, true_implies, implies_true, not_true_eq_false, not_false_eq_true, ne_eq, eq_self, e_M_hereOnes, pm_okW_0, pm_okW_i, pm_okW_r, pm_okW_l, pm_ent_0, pm_ent_i, pm_ent_r, pm_ent_l, List.reduceReplicate, b_M_hereOnes_0, b_M_hereOnes_15, b_M_hereOnes_24, b_M_hereOnes_30, b_M_hereOnes_31, b_M_hereOnes_39, w_iconst, ki_0, w_istore1, pm_lset_0, pm_lset_1, pm_lset_n, pm_no2_n, pm_no2_i, pm_no2_r, pm_no2_l, w_istore2, w_iload2, w_aload0, w_getf, lg_126, lf_8_9, List.getElem?_cons_succ, List.getElem?_cons_zero, w_bipush, kb_22, w_iaload, w_icmp_ge, pm_tgt_is, Int.cast_ofNat_Int, Int.reduceNeg, Int.reduceAdd, Int.reduceToNat, Int.zero_add, Int.zero_le_ofNat, Int.reduceLE, if_true, if_false, w_iload1, w_invv, lm_8_131, pm_pop_0, pm_pop_s, pm_rcv_is, pm_ref1_is, w_if_eq, nz_1, nz_m1, ki_1, w_ishl, w_goto, w_ior, w_iinc, w_iret, pm_fit_b, pm_fit_0, pm_fit_1, Bool.false_eq_true]
  exact key (nN s 22) 0 (by omega)
theorem c_M_countOf {d m : Nat} {σ : pm_S} {K : Option Value → pm_S → Prop} (hm : m < 64) : pm_WC fqP (d + 1) 127 [.int (nI m)] σ K = K (some (.int (nI (pc m 6)))) σ := by
  have key : ∀ j k : Nat, j + k = 6 → pm_W fqP d 127 4 [some (.int (nI m)), some (.int (nI (pc m k))), some (.int (nI k))] [] σ K = K (some (.int (nI (pc m 6)))) σ := by
    intro j
    induction j with
    | zero =>
      intro k hk
      have e1 : ((6 : Int32) ≤ nI k) = True := by rw [li_le 6 k (by omega) (by omega)]; exact eq_true (by omega)
      rw [b_M_countOf_4]
      simp (maxDischargeDepth := 20) (maxSteps := 2000000) only [pm_WL_nil, bi_900, bi_901, bi_904, bi_905, pm_lget_0, pm_lget_s, pm_oI_s, pm_oA_s, pm_oJ_s, pm_oK_s, pm_oR_s, pm_oO_s, pm_oN_s, pm_oF_s, pm_oM_s, pm_oP_s, pm_pu_n, pm_pu_s, pm_bo_ne, pm_bo_eq, Nat.reduceAdd, Nat.reduceSub, Nat.reduceLT, Nat.reduceLeDiff, Nat.reduceEqDiff, Nat.zero_add, Nat.lt_add_one, Nat.zero_ne_one, Nat.succ_ne_self, List.length_cons, List.length_nil, true_and, and_true, true_or, or_true, false_or, or_false, false_implies, true_implies, implies_true, not_true_eq_false, not_false_eq_true, ne_eq, eq_self, e_M_countOf, pm_okW_0, pm_okW_i, pm_okW_r, pm_okW_l, pm_ent_0, pm_ent_i, pm_ent_r, pm_ent_l, List.reduceReplicate, b_M_countOf_0, b_M_countOf_10, b_M_countOf_24, w_iconst, ki_0, w_istore1, pm_lset_0, pm_lset_1, pm_lset_n, pm_no2_n, pm_no2_i, pm_no2_r, pm_no2_l, w_istore2, w_iload2, w_bipush, kb_6, w_icmp_ge, pm_tgt_is, Int.cast_ofNat_Int, Int.reduceNeg, Int.reduceAdd, Int.reduceToNat, Int.zero_add, Int.zero_le_ofNat, Int.reduceLE, if_true, if_false, w_iload1, w_iload0, w_ishr, ki_1, w_iand, w_iadd, w_iinc, w_goto, w_iret, lg_127, pm_fit_b, pm_fit_0, pm_fit_1, Bool.false_eq_true, e1]
      rw [show k = 6 by omega]
    | succ j ih =>
      intro k hk
      have e1 : ((6 : Int32) ≤ nI k) = False := by rw [li_le 6 k (by omega) (by omega)]; exact eq_false (by omega)
      have e2 : nI m >>> (nI k &&& 31) &&& 1 = nI (tb m k) := bt_n m (by omega) k (by omega)
      have := ih (k + 1) (by omega)
      rw [pc] at this
      rw [b_M_countOf_4]
      simp (maxDischargeDepth := 20) (maxSteps := 2000000) only [pm_WL_nil, bi_900, bi_901, bi_904, bi_905, pm_lget_0, pm_lget_s, pm_oI_s, pm_oA_s, pm_oJ_s, pm_oK_s, pm_oR_s, pm_oO_s, pm_oN_s, pm_oF_s, pm_oM_s, pm_oP_s, pm_pu_n, pm_pu_s, pm_bo_ne, pm_bo_eq, Nat.reduceAdd, Nat.reduceSub, Nat.reduceLT, Nat.reduceLeDiff, Nat.reduceEqDiff, Nat.zero_add, Nat.lt_add_one, Nat.zero_ne_one, Nat.succ_ne_self, List.length_cons, List.length_nil, true_and, and_true, true_or, or_true, false_or, or_false, false_implies, true_implies, implies_true, not_true_eq_false, not_false_eq_true, ne_eq, eq_self, e_M_countOf, pm_okW_0, pm_okW_i, pm_okW_r, pm_okW_l, pm_ent_0, pm_ent_i, pm_ent_r, pm_ent_l, List.reduceReplicate, b_M_countOf_0, b_M_countOf_10, b_M_countOf_24, w_iconst, ki_0, w_istore1, pm_lset_0, pm_lset_1, pm_lset_n, pm_no2_n, pm_no2_i, pm_no2_r, pm_no2_l, w_istore2, w_iload2, w_bipush, kb_6, w_icmp_ge, pm_tgt_is, Int.cast_ofNat_Int, Int.reduceNeg, Int.reduceAdd, Int.reduceToNat, Int.zero_add, Int.zero_le_ofNat, Int.reduceLE, if_true, if_false, w_iload1, w_iload0, w_ishr, ki_1, w_iand, w_iadd, w_iinc, w_goto, w_iret, lg_127, pm_fit_b, pm_fit_0, pm_fit_1, Bool.false_eq_true, e1, e2, ni_add, ni_1]
      exact this
  simp (maxDischargeDepth := 20) (maxSteps := 2000000) only [pm_WL_nil, bi_900, bi_901, bi_904, bi_905, pm_lget_0, pm_lget_s, pm_oI_s, pm_oA_s, pm_oJ_s, pm_oK_s, pm_oR_s, pm_oO_s, pm_oN_s, pm_oF_s, pm_oM_s, pm_oP_s, pm_pu_n, pm_pu_s, pm_bo_ne, pm_bo_eq, Nat.reduceAdd, Nat.reduceSub, Nat.reduceLT, Nat.reduceLeDiff, Nat.reduceEqDiff, Nat.zero_add, Nat.lt_add_one, Nat.zero_ne_one, Nat.succ_ne_self, List.length_cons, List.length_nil, true_and, and_true, true_or, or_true, false_or, or_false, false_implies, true_implies, implies_true, not_true_eq_false, not_false_eq_true, ne_eq, eq_self, e_M_countOf, pm_okW_0, pm_okW_i, pm_okW_r, pm_okW_l, pm_ent_0, pm_ent_i, pm_ent_r, pm_ent_l, List.reduceReplicate, b_M_countOf_0, b_M_countOf_10, b_M_countOf_24, w_iconst, ki_0, w_istore1, pm_lset_0, pm_lset_1, pm_lset_n, pm_no2_n, pm_no2_i, pm_no2_r, pm_no2_l, w_istore2, w_iload2, w_bipush, kb_6, w_icmp_ge, pm_tgt_is, Int.cast_ofNat_Int, Int.reduceNeg, Int.reduceAdd, Int.reduceToNat, Int.zero_add, Int.zero_le_ofNat, Int.reduceLE, if_true, if_false, w_iload1, w_iload0, w_ishr, ki_1, w_iand, w_iadd, w_iinc, w_goto, w_iret, lg_127, pm_fit_b, pm_fit_0, pm_fit_1, Bool.false_eq_true]
  exact key 6 0 (by omega)
theorem c_M_carriedOnes {d T : Nat} {h : Nat → List Int32} {s f xs : List Int32} {K : Option Value → pm_S → Prop} (hw : WF T s) : pm_WC fqP (d + 1) 128 [.ref 85] (mk (rs h s f xs)) K = K (some (.int (nI (cN s)))) (mk (rs h s f xs)) := by
  have hl := wf_len hw
  have key : ∀ j k : Nat, j + k = 5 → pm_W fqP d 128 4 [some (.ref 85), some (.int (nI (msk (fun m => nN s (1 + m)) k))), some (.int (nI k))] [] (mk (rs h s f xs)) K = K (some (.int (nI (cN s)))) (mk (rs h s f xs)) := by
    intro j
    induction j with
    | zero =>
      intro k hk
      have e1 : ((5 : Int32) ≤ nI k) = True := by rw [li_le 5 k (by omega) (by omega)]; exact eq_true (by omega)
      rw [b_M_carriedOnes_4]
      simp (maxDischargeDepth := 20) (maxSteps := 2000000) only [pm_WL_nil, bi_900, bi_901, bi_904, bi_905, pm_lget_0, pm_lget_s, pm_oI_s, pm_oA_s, pm_oJ_s, pm_oK_s, pm_oR_s, pm_oO_s, pm_oN_s, pm_oF_s, pm_oM_s, pm_oP_s, pm_pu_n, pm_pu_s, pm_bo_ne, pm_bo_eq, Nat.reduceAdd, Nat.reduceSub, Nat.reduceLT, Nat.reduceLeDiff, Nat.reduceEqDiff, Nat.zero_add, Nat.lt_add_one, Nat.zero_ne_one, Nat.succ_ne_self, List.length_cons, List.length_nil, true_and, and_true, true_or, or_true, false_or, or_false, false_implies, true_implies, implies_true, not_true_eq_false, not_false_eq_true, ne_eq, eq_self, e_M_carriedOnes, pm_okW_0, pm_okW_i, pm_okW_r, pm_okW_l, pm_ent_0, pm_ent_i, pm_ent_r, pm_ent_l, List.reduceReplicate, b_M_carriedOnes_0, b_M_carriedOnes_9, b_M_carriedOnes_28, w_iconst, ki_0, w_istore1, pm_lset_0, pm_lset_1, pm_lset_n, pm_no2_n, pm_no2_i, pm_no2_r, pm_no2_l, w_istore2, w_iload2, ki_5, w_icmp_ge, pm_tgt_is, Int.cast_ofNat_Int, Int.reduceNeg, Int.reduceAdd, Int.reduceToNat, Int.zero_add, Int.zero_le_ofNat, Int.reduceLE, if_true, if_false, w_iload1, w_aload0, w_getf, lg_128, lf_8_9, List.getElem?_cons_succ, List.getElem?_cons_zero, ki_1, w_iadd, w_iaload, w_ishl, w_ior, w_iinc, w_goto, w_iret, pm_fit_b, pm_fit_0, pm_fit_1, Bool.false_eq_true, e1]
      rw [show k = 5 by omega]; rfl
    | succ j ih =>
      intro k hk
      have e1 : ((5 : Int32) ≤ nI k) = False := by rw [li_le 5 k (by omega) (by omega)]; exact eq_false (by omega)
      obtain ⟨r1, r2, _⟩ := rd9 hl (i := 1 + k) (by omega)
      obtain ⟨r3, r4⟩ := wf_c hw (m := k) (by omega)
      have := ih (k + 1) (by omega)
      rw [msk, ← or_a k (by omega) _ (msk_lt k fun i hi => (wf_c hw (by omega)).2) _ r4] at this
      rw [b_M_carriedOnes_4]
      simp (maxDischargeDepth := 20) (maxSteps := 2000000) only [pm_WL_nil, bi_900, bi_901, bi_904, bi_905, pm_lget_0, pm_lget_s, pm_oI_s, pm_oA_s, pm_oJ_s, pm_oK_s, pm_oR_s, pm_oO_s, pm_oN_s, pm_oF_s, pm_oM_s, pm_oP_s, pm_pu_n, pm_pu_s, pm_bo_ne, pm_bo_eq, Nat.reduceAdd, Nat.reduceSub, Nat.reduceLT, Nat.reduceLeDiff, Nat.reduceEqDiff, Nat.zero_add, Nat.lt_add_one, Nat.zero_ne_one, Nat.succ_ne_self, List.length_cons, List.length_nil, true_and, and_true, true_or, or_true, false_or, or_false, false_implies, true_implies, implies_true, not_true_eq_false, not_false_eq_true, ne_eq, eq_self, e_M_carriedOnes, pm_okW_0, pm_okW_i, pm_okW_r, pm_okW_l, pm_ent_0, pm_ent_i, pm_ent_r, pm_ent_l, List.reduceReplicate, b_M_carriedOnes_0, b_M_carriedOnes_9, b_M_carriedOnes_28, w_iconst, ki_0, w_istore1, pm_lset_0, pm_lset_1, pm_lset_n, pm_no2_n, pm_no2_i, pm_no2_r, pm_no2_l, w_istore2, w_iload2, ki_5, w_icmp_ge, pm_tgt_is, Int.cast_ofNat_Int, Int.reduceNeg, Int.reduceAdd, Int.reduceToNat, Int.zero_add, Int.zero_le_ofNat, Int.reduceLE, if_true, if_false, w_iload1, w_aload0, w_getf, lg_128, lf_8_9, List.getElem?_cons_succ, List.getElem?_cons_zero, ki_1, w_iadd, w_iaload, w_ishl, w_ior, w_iinc, w_goto, w_iret, pm_fit_b, pm_fit_0, pm_fit_1, Bool.false_eq_true, hg_85, hs_85, hg_86, hs_86, ia_86, iw_86, ar_86, lia_0, lrd_0, lin_0, lwr_0, lia_1, lrd_1, lin_1, lwr_1, lia_2, lrd_2, lin_2, lwr_2, lia_3, lrd_3, lin_3, lwr_3, lia_4, lrd_4, lin_4, lwr_4, lia_5, lrd_5, lin_5, lwr_5, lia_6, lrd_6, lin_6, lwr_6, lia_12, lrd_12, lin_12, lwr_12, lia_18, lrd_18, lin_18, lwr_18, lia_22, lrd_22, lin_22, lwr_22, lia_23, lrd_23, lin_23, lwr_23, lia_24, lrd_24, lin_24, lwr_24, lia_25, lrd_25, lin_25, lwr_25, lia_26, lrd_26, lin_26, lwr_26, lia_27, lrd_27, lin_27, lwr_27, lia_28, lrd_28, lin_28, lwr_28, lia_29, lrd_29, lin_29, lwr_29, lia_30, lrd_30, lin_30, lwr_30, lia_36, lrd_36, lin_36, lwr_36, lia_42, lrd_42, lin_42, lwr_42, lia_48, lrd_48, lin_48, lwr_48, lia_72, lrd_72, lin_72, lwr_72, lia_77, lrd_77, lin_77, lwr_77, lia_82, lrd_82, lin_82, lwr_82, lia_87, lrd_87, lin_87, lwr_87, lia_92, lrd_92, lin_92, lwr_92, lia_100, lrd_100, lin_100, lwr_100, lia_108, lrd_108, lin_108, lwr_108, lia_116, lrd_116, lin_116, lwr_116, lia_124, lrd_124, lin_124, lwr_124, lia_224, lrd_224, lin_224, lwr_224, lia_229, lrd_229, lin_229, lwr_229, lia_234, lrd_234, lin_234, lwr_234, rs_86, e1, ni_1, r1, r2, r3]
      exact this
  simp (maxDischargeDepth := 20) (maxSteps := 2000000) only [pm_WL_nil, bi_900, bi_901, bi_904, bi_905, pm_lget_0, pm_lget_s, pm_oI_s, pm_oA_s, pm_oJ_s, pm_oK_s, pm_oR_s, pm_oO_s, pm_oN_s, pm_oF_s, pm_oM_s, pm_oP_s, pm_pu_n, pm_pu_s, pm_bo_ne, pm_bo_eq, Nat.reduceAdd, Nat.reduceSub, Nat.reduceLT, Nat.reduceLeDiff, Nat.reduceEqDiff, Nat.zero_add, Nat.lt_add_one, Nat.zero_ne_one, Nat.succ_ne_self, List.length_cons, List.length_nil, true_and, and_true, true_or, or_true, false_or, or_false, false_implies, true_implies, implies_true, not_true_eq_false, not_false_eq_true, ne_eq, eq_self, e_M_carriedOnes, pm_okW_0, pm_okW_i, pm_okW_r, pm_okW_l, pm_ent_0, pm_ent_i, pm_ent_r, pm_ent_l, List.reduceReplicate, b_M_carriedOnes_0, b_M_carriedOnes_9, b_M_carriedOnes_28, w_iconst, ki_0, w_istore1, pm_lset_0, pm_lset_1, pm_lset_n, pm_no2_n, pm_no2_i, pm_no2_r, pm_no2_l, w_istore2, w_iload2, ki_5, w_icmp_ge, pm_tgt_is, Int.cast_ofNat_Int, Int.reduceNeg, Int.reduceAdd, Int.reduceToNat, Int.zero_add, Int.zero_le_ofNat, Int.reduceLE, if_true, if_false, w_iload1, w_aload0, w_getf, lg_128, lf_8_9, List.getElem?_cons_succ, List.getElem?_cons_zero, ki_1, w_iadd, w_iaload, w_ishl, w_ior, w_iinc, w_goto, w_iret, pm_fit_b, pm_fit_0, pm_fit_1, Bool.false_eq_true]
  exact key 5 0 (by omega)
