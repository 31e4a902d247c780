/-! IMAGE, UNDO -/
def ecpK (h : Nat → List Int32) : Nat → List Int32 := (up (up (up (up (up (up (up (up (up (up (up (up (up (up (up (up (up (up (up (up (up (up (up (up (up (up (up h 36 (h 8)) 37 (h 9)) 38 (h 10)) 35 (h 7)) 40 (h 12)) 41 (h 13)) 42 (h 14)) 43 (h 15)) 44 (h 16)) 39 (h 11)) 45 (h 17)) 46 (h 18)) 34 (h 6)) 48 (h 20)) 33 (h 5)) 50 (h 22)) 51 (h 23)) 52 (h 24)) 49 (h 21)) 54 (h 26)) 55 (h 27)) 56 (h 28)) 53 (h 25)) 58 (h 30)) 59 (h 31)) 60 (h 32)) 57 (h 29))
theorem c_ecpK {d : Nat} {h : Nat → List Int32} {K : Option Value → pm_S → Prop} (hL : LN h) : pm_WC fqP (d + 10) 12 [.ref 33, .ref 5] (mk h) K = K none (mk (ecpK h)) := c_Every_copy_33_5 hL
theorem ln_ecpK {h : Nat → List Int32} (hL : LN h) : LN (ecpK h) := (ln_up (ln_up (ln_up (ln_up (ln_up (ln_up (ln_up (ln_up (ln_up (ln_up (ln_up (ln_up (ln_up (ln_up (ln_up (ln_up (ln_up (ln_up (ln_up (ln_up (ln_up (ln_up (ln_up (ln_up (ln_up (ln_up (ln_up hL (hL 8 (by omega) (by omega))) (hL 9 (by omega) (by omega))) (hL 10 (by omega) (by omega))) (hL 7 (by omega) (by omega))) (hL 12 (by omega) (by omega))) (hL 13 (by omega) (by omega))) (hL 14 (by omega) (by omega))) (hL 15 (by omega) (by omega))) (hL 16 (by omega) (by omega))) (hL 11 (by omega) (by omega))) (hL 17 (by omega) (by omega))) (hL 18 (by omega) (by omega))) (hL 6 (by omega) (by omega))) (hL 20 (by omega) (by omega))) (hL 5 (by omega) (by omega))) (hL 22 (by omega) (by omega))) (hL 23 (by omega) (by omega))) (hL 24 (by omega) (by omega))) (hL 21 (by omega) (by omega))) (hL 26 (by omega) (by omega))) (hL 27 (by omega) (by omega))) (hL 28 (by omega) (by omega))) (hL 25 (by omega) (by omega))) (hL 30 (by omega) (by omega))) (hL 31 (by omega) (by omega))) (hL 32 (by omega) (by omega))) (hL 29 (by omega) (by omega)))
theorem ecpK_o {h : Nat → List Int32} {k : Nat} (hk : k < 33 ∨ 61 ≤ k) : ecpK h k = h k := by
  unfold ecpK
  rw [up_ne (by omega), up_ne (by omega), up_ne (by omega), up_ne (by omega), up_ne (by omega), up_ne (by omega), up_ne (by omega), up_ne (by omega), up_ne (by omega), up_ne (by omega), up_ne (by omega), up_ne (by omega), up_ne (by omega), up_ne (by omega), up_ne (by omega), up_ne (by omega), up_ne (by omega), up_ne (by omega), up_ne (by omega), up_ne (by omega), up_ne (by omega), up_ne (by omega), up_ne (by omega), up_ne (by omega), up_ne (by omega), up_ne (by omega), up_ne (by omega)]
theorem ecpK_36 (h : Nat → List Int32) : ecpK h 36 = (h 8) := by unfold ecpK; simp only [up_at, up_ne, Nat.reduceEqDiff, not_false_eq_true]
theorem ecpK_37 (h : Nat → List Int32) : ecpK h 37 = (h 9) := by unfold ecpK; simp only [up_at, up_ne, Nat.reduceEqDiff, not_false_eq_true]
theorem ecpK_38 (h : Nat → List Int32) : ecpK h 38 = (h 10) := by unfold ecpK; simp only [up_at, up_ne, Nat.reduceEqDiff, not_false_eq_true]
theorem ecpK_35 (h : Nat → List Int32) : ecpK h 35 = (h 7) := by unfold ecpK; simp only [up_at, up_ne, Nat.reduceEqDiff, not_false_eq_true]
theorem ecpK_40 (h : Nat → List Int32) : ecpK h 40 = (h 12) := by unfold ecpK; simp only [up_at, up_ne, Nat.reduceEqDiff, not_false_eq_true]
theorem ecpK_41 (h : Nat → List Int32) : ecpK h 41 = (h 13) := by unfold ecpK; simp only [up_at, up_ne, Nat.reduceEqDiff, not_false_eq_true]
theorem ecpK_42 (h : Nat → List Int32) : ecpK h 42 = (h 14) := by unfold ecpK; simp only [up_at, up_ne, Nat.reduceEqDiff, not_false_eq_true]
theorem ecpK_43 (h : Nat → List Int32) : ecpK h 43 = (h 15) := by unfold ecpK; simp only [up_at, up_ne, Nat.reduceEqDiff, not_false_eq_true]
theorem ecpK_44 (h : Nat → List Int32) : ecpK h 44 = (h 16) := by unfold ecpK; simp only [up_at, up_ne, Nat.reduceEqDiff, not_false_eq_true]
theorem ecpK_39 (h : Nat → List Int32) : ecpK h 39 = (h 11) := by unfold ecpK; simp only [up_at, up_ne, Nat.reduceEqDiff, not_false_eq_true]
theorem ecpK_45 (h : Nat → List Int32) : ecpK h 45 = (h 17) := by unfold ecpK; simp only [up_at, up_ne, Nat.reduceEqDiff, not_false_eq_true]
theorem ecpK_46 (h : Nat → List Int32) : ecpK h 46 = (h 18) := by unfold ecpK; simp only [up_at, up_ne, Nat.reduceEqDiff, not_false_eq_true]
theorem ecpK_34 (h : Nat → List Int32) : ecpK h 34 = (h 6) := by unfold ecpK; simp only [up_at, up_ne, Nat.reduceEqDiff, not_false_eq_true]
theorem ecpK_48 (h : Nat → List Int32) : ecpK h 48 = (h 20) := by unfold ecpK; simp only [up_at, up_ne, Nat.reduceEqDiff, not_false_eq_true]
theorem ecpK_33 (h : Nat → List Int32) : ecpK h 33 = (h 5) := by unfold ecpK; simp only [up_at, up_ne, Nat.reduceEqDiff, not_false_eq_true]
theorem ecpK_50 (h : Nat → List Int32) : ecpK h 50 = (h 22) := by unfold ecpK; simp only [up_at, up_ne, Nat.reduceEqDiff, not_false_eq_true]
theorem ecpK_51 (h : Nat → List Int32) : ecpK h 51 = (h 23) := by unfold ecpK; simp only [up_at, up_ne, Nat.reduceEqDiff, not_false_eq_true]
theorem ecpK_52 (h : Nat → List Int32) : ecpK h 52 = (h 24) := by unfold ecpK; simp only [up_at, up_ne, Nat.reduceEqDiff, not_false_eq_true]
theorem ecpK_49 (h : Nat → List Int32) : ecpK h 49 = (h 21) := by unfold ecpK; simp only [up_at, up_ne, Nat.reduceEqDiff, not_false_eq_true]
theorem ecpK_54 (h : Nat → List Int32) : ecpK h 54 = (h 26) := by unfold ecpK; simp only [up_at, up_ne, Nat.reduceEqDiff, not_false_eq_true]
theorem ecpK_55 (h : Nat → List Int32) : ecpK h 55 = (h 27) := by unfold ecpK; simp only [up_at, up_ne, Nat.reduceEqDiff, not_false_eq_true]
theorem ecpK_56 (h : Nat → List Int32) : ecpK h 56 = (h 28) := by unfold ecpK; simp only [up_at, up_ne, Nat.reduceEqDiff, not_false_eq_true]
theorem ecpK_53 (h : Nat → List Int32) : ecpK h 53 = (h 25) := by unfold ecpK; simp only [up_at, up_ne, Nat.reduceEqDiff, not_false_eq_true]
theorem ecpK_58 (h : Nat → List Int32) : ecpK h 58 = (h 30) := by unfold ecpK; simp only [up_at, up_ne, Nat.reduceEqDiff, not_false_eq_true]
theorem ecpK_59 (h : Nat → List Int32) : ecpK h 59 = (h 31) := by unfold ecpK; simp only [up_at, up_ne, Nat.reduceEqDiff, not_false_eq_true]
theorem ecpK_60 (h : Nat → List Int32) : ecpK h 60 = (h 32) := by unfold ecpK; simp only [up_at, up_ne, Nat.reduceEqDiff, not_false_eq_true]
theorem ecpK_57 (h : Nat → List Int32) : ecpK h 57 = (h 29) := by unfold ecpK; simp only [up_at, up_ne, Nat.reduceEqDiff, not_false_eq_true]
theorem ce_ecpK {s : List Int32} {h : Nat → List Int32} (hc : CE 5 s h) (hL : LN h) : CE 33 s (ecpK h) := by
  obtain ⟨⟨c0, c5, c6, c7, c8, c9, c10, c11, c12, c13, ⟨b0, b1, b2, b3, b4, b5, b6, b7⟩⟩, d0, d15, d16, d17, d18, d19, d20, d21, d22, d24, d25, d26, dis⟩ := hc
  have hn : 33 + 1 + 13 = 47 := rfl
  simp only [Nat.reduceAdd] at c0 c5 c6 c7 c8 c9 c10 c11 c12 c13 b0 b1 b2 b3 b4 b5 b6 b7 d0 d15 d16 d17 d18 d19 d20 d21 d22 d24 d25 d26
  have f14 : (ecpK h 47).length = 6 := by
    have := ln_ecpK hL 47 (by omega) (by omega)
    exact this
  refine ⟨⟨?_, ?_, ?_, ?_, ?_, ?_, ?_, ?_, ?_, f14, ?_, ?_, ?_, ?_, ?_, ?_, ?_, ?_⟩, ?_, ?_, ?_, ?_, ?_, ?_, ?_, ?_, ?_, ?_, ?_, ?_, dis⟩ <;> simp only [Nat.reduceAdd, ecpK_36, ecpK_37, ecpK_38, ecpK_35, ecpK_40, ecpK_41, ecpK_42, ecpK_43, ecpK_44, ecpK_39, ecpK_45, ecpK_46, ecpK_34, ecpK_48, ecpK_33, ecpK_50, ecpK_51, ecpK_52, ecpK_49, ecpK_54, ecpK_55, ecpK_56, ecpK_53, ecpK_58, ecpK_59, ecpK_60, ecpK_57] <;> assumption
def ecpU (h : Nat → List Int32) : Nat → List Int32 := (up (up (up (up (up (up (up (up (up (up (up (up (up (up (up (up (up (up (up (up (up (up (up (up (up (up (up h 8 (h 36)) 9 (h 37)) 10 (h 38)) 7 (h 35)) 12 (h 40)) 13 (h 41)) 14 (h 42)) 15 (h 43)) 16 (h 44)) 11 (h 39)) 17 (h 45)) 18 (h 46)) 6 (h 34)) 20 (h 48)) 5 (h 33)) 22 (h 50)) 23 (h 51)) 24 (h 52)) 21 (h 49)) 26 (h 54)) 27 (h 55)) 28 (h 56)) 25 (h 53)) 30 (h 58)) 31 (h 59)) 32 (h 60)) 29 (h 57))
theorem c_ecpU {d : Nat} {h : Nat → List Int32} {K : Option Value → pm_S → Prop} (hL : LN h) : pm_WC fqP (d + 10) 12 [.ref 5, .ref 33] (mk h) K = K none (mk (ecpU h)) := c_Every_copy_5_33 hL
theorem ln_ecpU {h : Nat → List Int32} (hL : LN h) : LN (ecpU h) := (ln_up (ln_up (ln_up (ln_up (ln_up (ln_up (ln_up (ln_up (ln_up (ln_up (ln_up (ln_up (ln_up (ln_up (ln_up (ln_up (ln_up (ln_up (ln_up (ln_up (ln_up (ln_up (ln_up (ln_up (ln_up (ln_up (ln_up hL (hL 36 (by omega) (by omega))) (hL 37 (by omega) (by omega))) (hL 38 (by omega) (by omega))) (hL 35 (by omega) (by omega))) (hL 40 (by omega) (by omega))) (hL 41 (by omega) (by omega))) (hL 42 (by omega) (by omega))) (hL 43 (by omega) (by omega))) (hL 44 (by omega) (by omega))) (hL 39 (by omega) (by omega))) (hL 45 (by omega) (by omega))) (hL 46 (by omega) (by omega))) (hL 34 (by omega) (by omega))) (hL 48 (by omega) (by omega))) (hL 33 (by omega) (by omega))) (hL 50 (by omega) (by omega))) (hL 51 (by omega) (by omega))) (hL 52 (by omega) (by omega))) (hL 49 (by omega) (by omega))) (hL 54 (by omega) (by omega))) (hL 55 (by omega) (by omega))) (hL 56 (by omega) (by omega))) (hL 53 (by omega) (by omega))) (hL 58 (by omega) (by omega))) (hL 59 (by omega) (by omega))) (hL 60 (by omega) (by omega))) (hL 57 (by omega) (by omega)))
theorem ecpU_o {h : Nat → List Int32} {k : Nat} (hk : k < 5 ∨ 33 ≤ k) : ecpU h k = h k := by
  unfold ecpU
  rw [up_ne (by omega), up_ne (by omega), up_ne (by omega), up_ne (by omega), up_ne (by omega), up_ne (by omega), up_ne (by omega), up_ne (by omega), up_ne (by omega), up_ne (by omega), up_ne (by omega), up_ne (by omega), up_ne (by omega), up_ne (by omega), up_ne (by omega), up_ne (by omega), up_ne (by omega), up_ne (by omega), up_ne (by omega), up_ne (by omega), up_ne (by omega), up_ne (by omega), up_ne (by omega), up_ne (by omega), up_ne (by omega), up_ne (by omega), up_ne (by omega)]
theorem ecpU_8 (h : Nat → List Int32) : ecpU h 8 = (h 36) := by unfold ecpU; simp only [up_at, up_ne, Nat.reduceEqDiff, not_false_eq_true]
theorem ecpU_9 (h : Nat → List Int32) : ecpU h 9 = (h 37) := by unfold ecpU; simp only [up_at, up_ne, Nat.reduceEqDiff, not_false_eq_true]
theorem ecpU_10 (h : Nat → List Int32) : ecpU h 10 = (h 38) := by unfold ecpU; simp only [up_at, up_ne, Nat.reduceEqDiff, not_false_eq_true]
theorem ecpU_7 (h : Nat → List Int32) : ecpU h 7 = (h 35) := by unfold ecpU; simp only [up_at, up_ne, Nat.reduceEqDiff, not_false_eq_true]
theorem ecpU_12 (h : Nat → List Int32) : ecpU h 12 = (h 40) := by unfold ecpU; simp only [up_at, up_ne, Nat.reduceEqDiff, not_false_eq_true]
theorem ecpU_13 (h : Nat → List Int32) : ecpU h 13 = (h 41) := by unfold ecpU; simp only [up_at, up_ne, Nat.reduceEqDiff, not_false_eq_true]
theorem ecpU_14 (h : Nat → List Int32) : ecpU h 14 = (h 42) := by unfold ecpU; simp only [up_at, up_ne, Nat.reduceEqDiff, not_false_eq_true]
theorem ecpU_15 (h : Nat → List Int32) : ecpU h 15 = (h 43) := by unfold ecpU; simp only [up_at, up_ne, Nat.reduceEqDiff, not_false_eq_true]
theorem ecpU_16 (h : Nat → List Int32) : ecpU h 16 = (h 44) := by unfold ecpU; simp only [up_at, up_ne, Nat.reduceEqDiff, not_false_eq_true]
theorem ecpU_11 (h : Nat → List Int32) : ecpU h 11 = (h 39) := by unfold ecpU; simp only [up_at, up_ne, Nat.reduceEqDiff, not_false_eq_true]
theorem ecpU_17 (h : Nat → List Int32) : ecpU h 17 = (h 45) := by unfold ecpU; simp only [up_at, up_ne, Nat.reduceEqDiff, not_false_eq_true]
theorem ecpU_18 (h : Nat → List Int32) : ecpU h 18 = (h 46) := by unfold ecpU; simp only [up_at, up_ne, Nat.reduceEqDiff, not_false_eq_true]
theorem ecpU_6 (h : Nat → List Int32) : ecpU h 6 = (h 34) := by unfold ecpU; simp only [up_at, up_ne, Nat.reduceEqDiff, not_false_eq_true]
theorem ecpU_20 (h : Nat → List Int32) : ecpU h 20 = (h 48) := by unfold ecpU; simp only [up_at, up_ne, Nat.reduceEqDiff, not_false_eq_true]
theorem ecpU_5 (h : Nat → List Int32) : ecpU h 5 = (h 33) := by unfold ecpU; simp only [up_at, up_ne, Nat.reduceEqDiff, not_false_eq_true]
theorem ecpU_22 (h : Nat → List Int32) : ecpU h 22 = (h 50) := by unfold ecpU; simp only [up_at, up_ne, Nat.reduceEqDiff, not_false_eq_true]
theorem ecpU_23 (h : Nat → List Int32) : ecpU h 23 = (h 51) := by unfold ecpU; simp only [up_at, up_ne, Nat.reduceEqDiff, not_false_eq_true]
theorem ecpU_24 (h : Nat → List Int32) : ecpU h 24 = (h 52) := by unfold ecpU; simp only [up_at, up_ne, Nat.reduceEqDiff, not_false_eq_true]
theorem ecpU_21 (h : Nat → List Int32) : ecpU h 21 = (h 49) := by unfold ecpU; simp only [up_at, up_ne, Nat.reduceEqDiff, not_false_eq_true]
theorem ecpU_26 (h : Nat → List Int32) : ecpU h 26 = (h 54) := by unfold ecpU; simp only [up_at, up_ne, Nat.reduceEqDiff, not_false_eq_true]
theorem ecpU_27 (h : Nat → List Int32) : ecpU h 27 = (h 55) := by unfold ecpU; simp only [up_at, up_ne, Nat.reduceEqDiff, not_false_eq_true]
theorem ecpU_28 (h : Nat → List Int32) : ecpU h 28 = (h 56) := by unfold ecpU; simp only [up_at, up_ne, Nat.reduceEqDiff, not_false_eq_true]
theorem ecpU_25 (h : Nat → List Int32) : ecpU h 25 = (h 53) := by unfold ecpU; simp only [up_at, up_ne, Nat.reduceEqDiff, not_false_eq_true]
theorem ecpU_30 (h : Nat → List Int32) : ecpU h 30 = (h 58) := by unfold ecpU; simp only [up_at, up_ne, Nat.reduceEqDiff, not_false_eq_true]
theorem ecpU_31 (h : Nat → List Int32) : ecpU h 31 = (h 59) := by unfold ecpU; simp only [up_at, up_ne, Nat.reduceEqDiff, not_false_eq_true]
theorem ecpU_32 (h : Nat → List Int32) : ecpU h 32 = (h 60) := by unfold ecpU; simp only [up_at, up_ne, Nat.reduceEqDiff, not_false_eq_true]
theorem ecpU_29 (h : Nat → List Int32) : ecpU h 29 = (h 57) := by unfold ecpU; simp only [up_at, up_ne, Nat.reduceEqDiff, not_false_eq_true]
theorem ce_ecpU {s : List Int32} {h : Nat → List Int32} (hc : CE 33 s h) (hL : LN h) : CE 5 s (ecpU h) := by
  obtain ⟨⟨c0, c5, c6, c7, c8, c9, c10, c11, c12, c13, ⟨b0, b1, b2, b3, b4, b5, b6, b7⟩⟩, d0, d15, d16, d17, d18, d19, d20, d21, d22, d24, d25, d26, dis⟩ := hc
  have hn : 5 + 1 + 13 = 19 := rfl
  simp only [Nat.reduceAdd] at c0 c5 c6 c7 c8 c9 c10 c11 c12 c13 b0 b1 b2 b3 b4 b5 b6 b7 d0 d15 d16 d17 d18 d19 d20 d21 d22 d24 d25 d26
  have f14 : (ecpU h 19).length = 6 := by
    have := ln_ecpU hL 19 (by omega) (by omega)
    exact this
  refine ⟨⟨?_, ?_, ?_, ?_, ?_, ?_, ?_, ?_, ?_, f14, ?_, ?_, ?_, ?_, ?_, ?_, ?_, ?_⟩, ?_, ?_, ?_, ?_, ?_, ?_, ?_, ?_, ?_, ?_, ?_, ?_, dis⟩ <;> simp only [Nat.reduceAdd, ecpU_8, ecpU_9, ecpU_10, ecpU_7, ecpU_12, ecpU_13, ecpU_14, ecpU_15, ecpU_16, ecpU_11, ecpU_17, ecpU_18, ecpU_6, ecpU_20, ecpU_5, ecpU_22, ecpU_23, ecpU_24, ecpU_21, ecpU_26, ecpU_27, ecpU_28, ecpU_25, ecpU_30, ecpU_31, ecpU_32, ecpU_29] <;> assumption
def fil (t s : List Int32) : Nat → List Int32
  | 0 => t
  | k + 1 => (fil t s k).set k (gd s k)
theorem fil_gd {t s : List Int32} (hl : t.length = 934) : ∀ k, k ≤ 934 → (fil t s k).length = 934 ∧ ∀ i, gd (fil t s k) i = if i < k then gd s i else gd t i
  | 0, _ => ⟨hl, fun i => by rw [if_neg (by omega)]; rfl⟩
  | k + 1, hk => by
    obtain ⟨i1, i2⟩ := fil_gd (s := s) hl k (by omega)
    refine ⟨by rw [fil, List.length_set, i1], fun i => ?_⟩
    rw [fil, gd_set _ (by omega), i2]
    by_cases e : i = k
    · rw [if_pos e, if_pos (by omega), e]
    · rw [if_neg e]
      by_cases e2 : i < k
      · rw [if_pos e2, if_pos (by omega)]
      · rw [if_neg e2, if_neg (by omega)]
theorem fil_is {t s : List Int32} (hl : t.length = 934) (hs : s.length = 934) : fil t s 934 = s := by
  obtain ⟨i1, i2⟩ := fil_gd (s := s) hl 934 (by omega)
  apply gd_ext (by rw [i1, hs])
  intro k hk
  rw [i2, if_pos (by omega)]
theorem q_image {scr : List Int32} {d : Nat} {h : Nat → List Int32} (hi : INV scr h) : BOTH scr (d + 40) 75 182 [] h := by
  have hi0 := hi
  obtain ⟨hL, ⟨ro0, ro1, ro2, ro3⟩, hw, hc, hk, ha⟩ := hi
  have hc0 := hc
  obtain ⟨⟨c0, c5, c6, c7, c8, c9, c10, c11, c12, c13, cb⟩, d0, d15, d16, d17, d18, d19, d20, d21, d22, d24, d25, d26, dis⟩ := hc
  simp only [Nat.reduceAdd] at c0 c5 c6 c7 c8 c9 c10 c11 c12 c13 cb d0 d15 d16 d17 d18 d19 d20 d21 d22 d24 d25 d26
  have hl := wf_len hw
  obtain ⟨hn, hn6⟩ := wf_n hw
  have ha5 := (wf_a hw).2
  unfold BOTH
  have ct := fun K => @c_ecpK (d + 29) h K hL
  have k11 : ecpK h 11 = h 11 := ecpK_o (by omega)
  have k86 : ecpK h 86 = h 86 := ecpK_o (by omega)
  have hLk := ln_ecpK hL
  have l87 : (ecpK h 87).length = 934 := hLk 87 (by omega) (by omega)
  have pq : ∀ pc n r L S Q h, pm_WL fqP (d + 39) 75 pc ((.putfield 278, n) :: r) L (.int 1 :: .ref 4 :: S) (mk h) Q = pm_WL fqP (d + 39) 75 (pc + n) r L S (mk (up h 4 [1])) Q := fun _ _ _ _ _ _ _ => pf_75_278_4 pm_fit_1
  have pq2 : ∀ pc n r L S Q (h : Nat → List Int32), pm_WL fqP (d + 39) 182 pc ((.putfield 264, n) :: r) L (.int 1 :: .ref 85 :: S) (mk h) Q = pm_WL fqP (d + 39) 182 (pc + n) r L S (mk (up h 85 [gd (h 85) 0, 1, gd (h 85) 2, gd (h 85) 3, gd (h 85) 4, gd (h 85) 5, gd (h 85) 6, gd (h 85) 7, gd (h 85) 8, gd (h 85) 9, gd (h 85) 10, gd (h 85) 11])) Q := fun _ _ _ _ _ _ _ => pf_182_264_85 pm_fit_1
  simp (maxDischargeDepth := 20) (maxSteps := 2000000) only [↓reduceIte, pm_WL_nil, bi_900, bi_901, bi_904, bi_905, pm_lget_0, pm_lget_s, pm_oI_s, pm_oA_s, pm_oJ_s, pm_oK_s, pm_oR_s, pm_oO_s, pm_oN_s, pm_oF_s, pm_oM_s, pm_oP_s, pm_pu_n, pm_pu_s, pm_bo_ne, pm_bo_eq, Nat.reduceAdd, Nat.reduceSub, Nat.reduceLT, Nat.reduceLeDiff, Nat.reduceEqDiff, Nat.zero_add, Nat.lt_add_one, Nat.zero_ne_one, Nat.succ_ne_self, List.length_cons, List.length_nil, true_and, and_true, true_or, or_true, false_or, or_false, false_implies, true_implies, implies_true, not_true_eq_false, not_false_eq_true, ne_eq, eq_self, e_X_image, pm_okW_0, pm_okW_i, pm_okW_r, pm_okW_l, pm_ent_0, pm_ent_i, pm_ent_r, pm_ent_l, List.reduceReplicate, b_X_image_0, f_aloadn0, gf_75_18_4, gf_75_12_4, iv_75_275_5, iv_75_275_33, kk_n, kk_s, w_iconst, ki_1, pf_75_278_4, pm_fit_b, pm_fit_0, pm_fit_1, gf_75_70_5, gf_75_70_33, gf_75_93_6, gf_75_93_34, gf_75_93_61, gf_75_97_11, gf_75_97_39, gf_75_97_66, w_iret, lg_75, Bool.false_eq_true, hs_4, hs_5, hs_6, hs_11, up_at, up_ne, up_up, gd_0, gd_s, ct, k11, c5, hn, pq]
  have key : ∀ (j k : Nat), j + k = 934 → pm_W fqP (d + 39) 182 2 [some (.ref 85), some (.int (nI k))] [] (mk (up (up (ecpK h) 4 [1]) 87 (fil (ecpK h 87) (h 86) k))) (fun r' σ' => PO scr (some (.int (nI (nN (h 86) 22)))) r' σ') := by
    intro j
    induction j with
    | zero =>
      intro k hk
      have hk9 : k = 934 := by omega
      subst hk9
      have e1 : ((934 : Int32) ≤ nI 934) = True := by rw [li_le 934 934 (by omega) (by omega)]; exact eq_true (by omega)
      rw [b_M_image_2, fil_is l87 hl]
      simp (maxDischargeDepth := 20) (maxSteps := 2000000) only [↓reduceIte, pm_WL_nil, bi_900, bi_901, bi_904, bi_905, pm_lget_0, pm_lget_s, pm_oI_s, pm_oA_s, pm_oJ_s, pm_oK_s, pm_oR_s, pm_oO_s, pm_oN_s, pm_oF_s, pm_oM_s, pm_oP_s, pm_pu_n, pm_pu_s, pm_bo_ne, pm_bo_eq, Nat.reduceAdd, Nat.reduceSub, Nat.reduceLT, Nat.reduceLeDiff, Nat.reduceEqDiff, Nat.zero_add, Nat.lt_add_one, Nat.zero_ne_one, Nat.succ_ne_self, List.length_cons, List.length_nil, true_and, and_true, true_or, or_true, false_or, or_false, false_implies, true_implies, implies_true, not_true_eq_false, not_false_eq_true, ne_eq, eq_self, e_M_image, pm_okW_0, pm_okW_i, pm_okW_r, pm_okW_l, pm_ent_0, pm_ent_i, pm_ent_r, pm_ent_l, List.reduceReplicate, b_M_image_0, b_M_image_9, b_M_image_27, w_iconst, ki_0, w_istore1, pm_lset_0, pm_lset_1, pm_lset_n, pm_no2_n, pm_no2_i, pm_no2_r, pm_no2_l, f_iloadn1, w_sipush, ks_934, w_icmp_ge, pm_tgt_is, Int.cast_ofNat_Int, Int.reduceNeg, Int.reduceAdd, Int.reduceToNat, Int.zero_add, Int.zero_le_ofNat, Int.reduceLE, if_true, if_false, f_aloadn0, gf_182_15_85, gf_182_9_85, f_iinc1, ki_1, w_goto, pf_182_264_85, pm_fit_b, pm_fit_0, pm_fit_1, w_bipush, kb_22, w_iret, lg_182, Bool.false_eq_true, hs_85, f_iald_86, f_alen_86, ia_86, ar_86, f_iast_86, iw_86, hs_86, f_iald_87, f_alen_87, ia_87, ar_87, f_iast_87, iw_87, hs_87, up_at, up_ne, up_up, gd_0, gd_s, lia_0, lrd_0, lin_0, lwr_0, lia_1, lrd_1, lin_1, lwr_1, lia_2, lrd_2, lin_2, lwr_2, lia_3, lrd_3, lin_3, lwr_3, lia_4, lrd_4, lin_4, lwr_4, lia_5, lrd_5, lin_5, lwr_5, lia_6, lrd_6, lin_6, lwr_6, lia_12, lrd_12, lin_12, lwr_12, lia_18, lrd_18, lin_18, lwr_18, lia_22, lrd_22, lin_22, lwr_22, lia_23, lrd_23, lin_23, lwr_23, lia_24, lrd_24, lin_24, lwr_24, lia_25, lrd_25, lin_25, lwr_25, lia_26, lrd_26, lin_26, lwr_26, lia_27, lrd_27, lin_27, lwr_27, lia_28, lrd_28, lin_28, lwr_28, lia_29, lrd_29, lin_29, lwr_29, lia_30, lrd_30, lin_30, lwr_30, lia_36, lrd_36, lin_36, lwr_36, lia_42, lrd_42, lin_42, lwr_42, lia_48, lrd_48, lin_48, lwr_48, lia_72, lrd_72, lin_72, lwr_72, lia_77, lrd_77, lin_77, lwr_77, lia_82, lrd_82, lin_82, lwr_82, lia_87, lrd_87, lin_87, lwr_87, lia_92, lrd_92, lin_92, lwr_92, lia_100, lrd_100, lin_100, lwr_100, lia_108, lrd_108, lin_108, lwr_108, lia_116, lrd_116, lin_116, lwr_116, lia_124, lrd_124, lin_124, lwr_124, lia_224, lrd_224, lin_224, lwr_224, lia_229, lrd_229, lin_229, lwr_229, lia_234, lrd_234, lin_234, lwr_234, k86, hl, hn, e1, pq2]
      refine po_i ?_
      have k85 : ecpK h 85 = h 85 := ecpK_o (by omega)
      have hne : ∀ (l : List Int32) (k : Nat), ¬ k = 4 → ¬ k = 87 → ¬ k = 85 → (up (up (up (ecpK h) 4 [1]) 87 (h 86)) 85 l) k = ecpK h k := fun l k a b c => by rw [up_ne c, up_ne b, up_ne a]
      refine ⟨ln_up (ln_up (ln_up hLk rfl) hl) rfl, ?_, ?_, ?_, ?_, ?_⟩
      · rw [hne _ 0 (by omega) (by omega) (by omega), hne _ 1 (by omega) (by omega) (by omega), hne _ 2 (by omega) (by omega) (by omega), hne _ 3 (by omega) (by omega) (by omega)]
        exact ⟨(ecpK_o (by omega)).trans ro0, (ecpK_o (by omega)).trans ro1, (ecpK_o (by omega)).trans ro2, (ecpK_o (by omega)).trans ro3⟩
      · rw [hne _ 86 (by omega) (by omega) (by omega), k86]; exact hw
      · rw [hne _ 86 (by omega) (by omega) (by omega), k86]
        exact ce_cg hc0 (by rw [hne _ 19 (by omega) (by omega) (by omega)]; exact hLk 19 (by omega) (by omega)) fun k a b c => by rw [hne _ k (by omega) (by omega) (by omega)]; exact ecpK_o (by omega)
      · refine Or.inr ⟨?_, ?_, ?_, ?_⟩
        · rw [up_ne (by decide), up_ne (by decide), up_at]; rfl
        · rw [up_at]; rfl
        · rw [up_ne (by decide), up_at]; exact hw
        · rw [up_ne (k := 85) (j := 87) (by decide), up_at]
          exact ce_cg (ce_ecpK hc0 hL) (by rw [hne _ 47 (by omega) (by omega) (by omega)]; exact hLk 47 (by omega) (by omega)) fun k a b c => hne _ k (by omega) (by omega) (by omega)
      · rw [hne _ 81 (by omega) (by omega) (by omega), hne _ 82 (by omega) (by omega) (by omega), hne _ 93 (by omega) (by omega) (by omega), ecpK_o (k := 81) (by omega), ecpK_o (k := 82) (by omega), ecpK_o (k := 93) (by omega), up_at]
        simp only [up_ne, Nat.reduceEqDiff, not_false_eq_true, k85]
        exact ha
    | succ j ih =>
      intro k hk
      obtain ⟨g1, g2⟩ := fil_gd (s := h 86) l87 k (by omega)
      obtain ⟨ra, rb, rc⟩ := ix (j := k) (by omega)
      have e1 : ((934 : Int32) ≤ nI k) = False := by rw [li_le 934 k (by omega) (by omega)]; exact eq_false (by omega)
      rw [b_M_image_2]
      simp (maxDischargeDepth := 20) (maxSteps := 2000000) only [↓reduceIte, pm_WL_nil, bi_900, bi_901, bi_904, bi_905, pm_lget_0, pm_lget_s, pm_oI_s, pm_oA_s, pm_oJ_s, pm_oK_s, pm_oR_s, pm_oO_s, pm_oN_s, pm_oF_s, pm_oM_s, pm_oP_s, pm_pu_n, pm_pu_s, pm_bo_ne, pm_bo_eq, Nat.reduceAdd, Nat.reduceSub, Nat.reduceLT, Nat.reduceLeDiff, Nat.reduceEqDiff, Nat.zero_add, Nat.lt_add_one, Nat.zero_ne_one, Nat.succ_ne_self, List.length_cons, List.length_nil, true_and, and_true, true_or, or_true, false_or, or_false, false_implies, true_implies, implies_true, not_true_eq_false, not_false_eq_true, ne_eq, eq_self, e_M_image, pm_okW_0, pm_okW_i, pm_okW_r, pm_okW_l, pm_ent_0, pm_ent_i, pm_ent_r, pm_ent_l, List.reduceReplicate, b_M_image_0, b_M_image_9, b_M_image_27, w_iconst, ki_0, w_istore1, pm_lset_0, pm_lset_1, pm_lset_n, pm_no2_n, pm_no2_i, pm_no2_r, pm_no2_l, f_iloadn1, w_sipush, ks_934, w_icmp_ge, pm_tgt_is, Int.cast_ofNat_Int, Int.reduceNeg, Int.reduceAdd, Int.reduceToNat, Int.zero_add, Int.zero_le_ofNat, Int.reduceLE, if_true, if_false, f_aloadn0, gf_182_15_85, gf_182_9_85, f_iinc1, ki_1, w_goto, pf_182_264_85, pm_fit_b, pm_fit_0, pm_fit_1, w_bipush, kb_22, w_iret, lg_182, Bool.false_eq_true, hs_85, f_iald_86, f_alen_86, ia_86, ar_86, f_iast_86, iw_86, hs_86, f_iald_87, f_alen_87, ia_87, ar_87, f_iast_87, iw_87, hs_87, up_at, up_ne, up_up, gd_0, gd_s, lia_0, lrd_0, lin_0, lwr_0, lia_1, lrd_1, lin_1, lwr_1, lia_2, lrd_2, lin_2, lwr_2, lia_3, lrd_3, lin_3, lwr_3, lia_4, lrd_4, lin_4, lwr_4, lia_5, lrd_5, lin_5, lwr_5, lia_6, lrd_6, lin_6, lwr_6, lia_12, lrd_12, lin_12, lwr_12, lia_18, lrd_18, lin_18, lwr_18, lia_22, lrd_22, lin_22, lwr_22, lia_23, lrd_23, lin_23, lwr_23, lia_24, lrd_24, lin_24, lwr_24, lia_25, lrd_25, lin_25, lwr_25, lia_26, lrd_26, lin_26, lwr_26, lia_27, lrd_27, lin_27, lwr_27, lia_28, lrd_28, lin_28, lwr_28, lia_29, lrd_29, lin_29, lwr_29, lia_30, lrd_30, lin_30, lwr_30, lia_36, lrd_36, lin_36, lwr_36, lia_42, lrd_42, lin_42, lwr_42, lia_48, lrd_48, lin_48, lwr_48, lia_72, lrd_72, lin_72, lwr_72, lia_77, lrd_77, lin_77, lwr_77, lia_82, lrd_82, lin_82, lwr_82, lia_87, lrd_87, lin_87, lwr_87, lia_92, lrd_92, lin_92, lwr_92, lia_100, lrd_100, lin_100, lwr_100, lia_108, lrd_108, lin_108, lwr_108, lia_116, lrd_116, lin_116, lwr_116, lia_124, lrd_124, lin_124, lwr_124, lia_224, lrd_224, lin_224, lwr_224, lia_229, lrd_229, lin_229, lwr_229, lia_234, lrd_234, lin_234, lwr_234, k86, hl, g1, e1, ra, rb, rc, ni_1]
      exact ih (k + 1) (by omega)
  simp (maxDischargeDepth := 20) (maxSteps := 2000000) only [↓reduceIte, pm_WL_nil, bi_900, bi_901, bi_904, bi_905, pm_lget_0, pm_lget_s, pm_oI_s, pm_oA_s, pm_oJ_s, pm_oK_s, pm_oR_s, pm_oO_s, pm_oN_s, pm_oF_s, pm_oM_s, pm_oP_s, pm_pu_n, pm_pu_s, pm_bo_ne, pm_bo_eq, Nat.reduceAdd, Nat.reduceSub, Nat.reduceLT, Nat.reduceLeDiff, Nat.reduceEqDiff, Nat.zero_add, Nat.lt_add_one, Nat.zero_ne_one, Nat.succ_ne_self, List.length_cons, List.length_nil, true_and, and_true, true_or, or_true, false_or, or_false, false_implies, true_implies, implies_true, not_true_eq_false, not_false_eq_true, ne_eq, eq_self, e_M_image, pm_okW_0, pm_okW_i, pm_okW_r, pm_okW_l, pm_ent_0, pm_ent_i, pm_ent_r, pm_ent_l, List.reduceReplicate, b_M_image_0, b_M_image_9, b_M_image_27, w_iconst, ki_0, w_istore1, pm_lset_0, pm_lset_1, pm_lset_n, pm_no2_n, pm_no2_i, pm_no2_r, pm_no2_l, f_iloadn1, w_sipush, ks_934, w_icmp_ge, pm_tgt_is, Int.cast_ofNat_Int, Int.reduceNeg, Int.reduceAdd, Int.reduceToNat, Int.zero_add, Int.zero_le_ofNat, Int.reduceLE, if_true, if_false, f_aloadn0, gf_182_15_85, gf_182_9_85, f_iinc1, ki_1, w_goto, pf_182_264_85, pm_fit_b, pm_fit_0, pm_fit_1, w_bipush, kb_22, w_iret, lg_182, Bool.false_eq_true]
  have := key 934 0 rfl
  rw [fil, show ecpK h 87 = (up (ecpK h) 4 [1]) 87 from (up_ne (by decide)).symm, up_id] at this
  exact this

theorem q_undo {scr : List Int32} {d : Nat} {h : Nat → List Int32} (hi : INV scr h) : BOTH scr (d + 40) 76 183 [] h := by
  have hi0 := hi
  obtain ⟨hL, ⟨ro0, ro1, ro2, ro3⟩, hw, hc, hk, ha⟩ := hi
  have hc0 := hc
  obtain ⟨⟨c0, c5, c6, c7, c8, c9, c10, c11, c12, c13, cb⟩, d0, d15, d16, d17, d18, d19, d20, d21, d22, d24, d25, d26, dis⟩ := hc
  simp only [Nat.reduceAdd] at c0 c5 c6 c7 c8 c9 c10 c11 c12 c13 cb d0 d15 d16 d17 d18 d19 d20 d21 d22 d24 d25 d26
  have hl := wf_len hw
  obtain ⟨hn, hn6⟩ := wf_n hw
  have ha5 := (wf_a hw).2
  unfold BOTH
  rcases hk with ⟨n1, n2⟩ | ⟨n1, n2, hw7, hc7⟩
  · have y1 : (gd (h 4) 0 = 0) = True := eq_true n1
    have y2 : (gd (h 85) 1 = 0) = True := eq_true n2
    simp (maxDischargeDepth := 20) (maxSteps := 2000000) only [↓reduceIte, pm_WL_nil, bi_900, bi_901, bi_904, bi_905, pm_lget_0, pm_lget_s, pm_oI_s, pm_oA_s, pm_oJ_s, pm_oK_s, pm_oR_s, pm_oO_s, pm_oN_s, pm_oF_s, pm_oM_s, pm_oP_s, pm_pu_n, pm_pu_s, pm_bo_ne, pm_bo_eq, Nat.reduceAdd, Nat.reduceSub, Nat.reduceLT, Nat.reduceLeDiff, Nat.reduceEqDiff, Nat.zero_add, Nat.lt_add_one, Nat.zero_ne_one, Nat.succ_ne_self, List.length_cons, List.length_nil, true_and, and_true, true_or, or_true, false_or, or_false, false_implies, true_implies, implies_true, not_true_eq_false, not_false_eq_true, ne_eq, eq_self, e_X_undo, pm_okW_0, pm_okW_i, pm_okW_r, pm_okW_l, pm_ent_0, pm_ent_i, pm_ent_r, pm_ent_l, List.reduceReplicate, b_X_undo_0, b_X_undo_7, b_X_undo_10, f_aloadn0, gf_76_278_4, w_if_ne, pm_tgt_is, Int.cast_ofNat_Int, Int.reduceNeg, Int.reduceAdd, Int.reduceToNat, Int.zero_add, Int.zero_le_ofNat, Int.reduceLE, nz_1, nz_m1, if_true, if_false, w_bipush, kb_m3, w_iret, lg_76, pm_fit_b, pm_fit_0, pm_fit_1, Bool.false_eq_true, gf_76_12_4, gf_76_18_4, iv_76_275_5, iv_76_275_33, kk_n, kk_s, gf_76_70_5, gf_76_70_33, gf_76_93_6, gf_76_93_34, gf_76_93_61, gf_76_97_11, gf_76_97_39, gf_76_97_66, hs_4, y1]
    simp (maxDischargeDepth := 20) (maxSteps := 2000000) only [↓reduceIte, pm_WL_nil, bi_900, bi_901, bi_904, bi_905, pm_lget_0, pm_lget_s, pm_oI_s, pm_oA_s, pm_oJ_s, pm_oK_s, pm_oR_s, pm_oO_s, pm_oN_s, pm_oF_s, pm_oM_s, pm_oP_s, pm_pu_n, pm_pu_s, pm_bo_ne, pm_bo_eq, Nat.reduceAdd, Nat.reduceSub, Nat.reduceLT, Nat.reduceLeDiff, Nat.reduceEqDiff, Nat.zero_add, Nat.lt_add_one, Nat.zero_ne_one, Nat.succ_ne_self, List.length_cons, List.length_nil, true_and, and_true, true_or, or_true, false_or, or_false, false_implies, true_implies, implies_true, not_true_eq_false, not_false_eq_true, ne_eq, eq_self, e_M_undo, pm_okW_0, pm_okW_i, pm_okW_r, pm_okW_l, pm_ent_0, pm_ent_i, pm_ent_r, pm_ent_l, List.reduceReplicate, b_M_undo_0, b_M_undo_7, b_M_undo_10, b_M_undo_19, b_M_undo_37, f_aloadn0, gf_183_264_85, w_if_ne, pm_tgt_is, Int.cast_ofNat_Int, Int.reduceNeg, Int.reduceAdd, Int.reduceToNat, Int.zero_add, Int.zero_le_ofNat, Int.reduceLE, nz_1, nz_m1, if_true, if_false, w_bipush, kb_m3, w_iret, lg_183, pm_fit_b, pm_fit_0, pm_fit_1, Bool.false_eq_true, w_iconst, ki_0, w_istore1, pm_lset_0, pm_lset_1, pm_lset_n, pm_no2_n, pm_no2_i, pm_no2_r, pm_no2_l, f_iloadn1, w_sipush, ks_934, w_icmp_ge, gf_183_9_85, gf_183_15_85, f_iinc1, ki_1, w_goto, kb_22, hs_85, y2]
    exact po_i hi0
  have ct := fun K => @c_ecpU (d + 29) h K hL
  have hl7 := wf_len hw7
  obtain ⟨hn7, _⟩ := wf_n hw7
  have y1 : (gd (h 4) 0 = 0) = False := eq_false (by rw [n1]; decide)
  have hLk := ln_ecpU hL
  have hcu := ce_ecpU hc7 hL
  have k86 : ecpU h 86 = h 86 := ecpU_o (by omega)
  have k87 : ecpU h 87 = h 87 := ecpU_o (by omega)
  have k85 : ecpU h 85 = h 85 := ecpU_o (by omega)
  have y2 : (gd (h 85) 1 = 0) = False := eq_false (by rw [n2]; decide)
  have k11 : ecpU h 11 = [nI (loN (h 87)), gd (h 87) 22] := hcu.1.2.1
  have l86 : (ecpU h 86).length = 934 := hLk 86 (by omega) (by omega)
  simp (maxDischargeDepth := 20) (maxSteps := 2000000) only [↓reduceIte, pm_WL_nil, bi_900, bi_901, bi_904, bi_905, pm_lget_0, pm_lget_s, pm_oI_s, pm_oA_s, pm_oJ_s, pm_oK_s, pm_oR_s, pm_oO_s, pm_oN_s, pm_oF_s, pm_oM_s, pm_oP_s, pm_pu_n, pm_pu_s, pm_bo_ne, pm_bo_eq, Nat.reduceAdd, Nat.reduceSub, Nat.reduceLT, Nat.reduceLeDiff, Nat.reduceEqDiff, Nat.zero_add, Nat.lt_add_one, Nat.zero_ne_one, Nat.succ_ne_self, List.length_cons, List.length_nil, true_and, and_true, true_or, or_true, false_or, or_false, false_implies, true_implies, implies_true, not_true_eq_false, not_false_eq_true, ne_eq, eq_self, e_X_undo, pm_okW_0, pm_okW_i, pm_okW_r, pm_okW_l, pm_ent_0, pm_ent_i, pm_ent_r, pm_ent_l, List.reduceReplicate, b_X_undo_0, b_X_undo_7, b_X_undo_10, f_aloadn0, gf_76_278_4, w_if_ne, pm_tgt_is, Int.cast_ofNat_Int, Int.reduceNeg, Int.reduceAdd, Int.reduceToNat, Int.zero_add, Int.zero_le_ofNat, Int.reduceLE, nz_1, nz_m1, if_true, if_false, w_bipush, kb_m3, w_iret, lg_76, pm_fit_b, pm_fit_0, pm_fit_1, Bool.false_eq_true, gf_76_12_4, gf_76_18_4, iv_76_275_5, iv_76_275_33, kk_n, kk_s, gf_76_70_5, gf_76_70_33, gf_76_93_6, gf_76_93_34, gf_76_93_61, gf_76_97_11, gf_76_97_39, gf_76_97_66, hs_4, hs_5, hs_6, hs_11, up_at, up_ne, up_up, gd_0, gd_s, ct, k11, hn7, y1]
  have key : ∀ (j k : Nat), j + k = 934 → pm_W fqP (d + 39) 183 12 [some (.ref 85), some (.int (nI k))] [] (mk (up (ecpU h) 86 (fil (ecpU h 86) (h 87) k))) (fun r' σ' => PO scr (some (.int (nI (nN (h 87) 22)))) r' σ') := by
    intro j
    induction j with
    | zero =>
      intro k hk
      have hk9 : k = 934 := by omega
      subst hk9
      have e1 : ((934 : Int32) ≤ nI 934) = True := by rw [li_le 934 934 (by omega) (by omega)]; exact eq_true (by omega)
      rw [b_M_undo_12, fil_is l86 hl7]
      simp (maxDischargeDepth := 20) (maxSteps := 2000000) only [↓reduceIte, pm_WL_nil, bi_900, bi_901, bi_904, bi_905, pm_lget_0, pm_lget_s, pm_oI_s, pm_oA_s, pm_oJ_s, pm_oK_s, pm_oR_s, pm_oO_s, pm_oN_s, pm_oF_s, pm_oM_s, pm_oP_s, pm_pu_n, pm_pu_s, pm_bo_ne, pm_bo_eq, Nat.reduceAdd, Nat.reduceSub, Nat.reduceLT, Nat.reduceLeDiff, Nat.reduceEqDiff, Nat.zero_add, Nat.lt_add_one, Nat.zero_ne_one, Nat.succ_ne_self, List.length_cons, List.length_nil, true_and, and_true, true_or, or_true, false_or, or_false, false_implies, true_implies, implies_true, not_true_eq_false, not_false_eq_true, ne_eq, eq_self, e_M_undo, pm_okW_0, pm_okW_i, pm_okW_r, pm_okW_l, pm_ent_0, pm_ent_i, pm_ent_r, pm_ent_l, List.reduceReplicate, b_M_undo_0, b_M_undo_7, b_M_undo_10, b_M_undo_19, b_M_undo_37, f_aloadn0, gf_183_264_85, w_if_ne, pm_tgt_is, Int.cast_ofNat_Int, Int.reduceNeg, Int.reduceAdd, Int.reduceToNat, Int.zero_add, Int.zero_le_ofNat, Int.reduceLE, nz_1, nz_m1, if_true, if_false, w_bipush, kb_m3, w_iret, lg_183, pm_fit_b, pm_fit_0, pm_fit_1, Bool.false_eq_true, w_iconst, ki_0, w_istore1, pm_lset_0, pm_lset_1, pm_lset_n, pm_no2_n, pm_no2_i, pm_no2_r, pm_no2_l, f_iloadn1, w_sipush, ks_934, w_icmp_ge, gf_183_9_85, gf_183_15_85, f_iinc1, ki_1, w_goto, kb_22, hs_85, f_iald_86, f_alen_86, ia_86, ar_86, f_iast_86, iw_86, hs_86, f_iald_87, f_alen_87, ia_87, ar_87, f_iast_87, iw_87, hs_87, up_at, up_ne, up_up, gd_0, gd_s, lia_0, lrd_0, lin_0, lwr_0, lia_1, lrd_1, lin_1, lwr_1, lia_2, lrd_2, lin_2, lwr_2, lia_3, lrd_3, lin_3, lwr_3, lia_4, lrd_4, lin_4, lwr_4, lia_5, lrd_5, lin_5, lwr_5, lia_6, lrd_6, lin_6, lwr_6, lia_12, lrd_12, lin_12, lwr_12, lia_18, lrd_18, lin_18, lwr_18, lia_22, lrd_22, lin_22, lwr_22, lia_23, lrd_23, lin_23, lwr_23, lia_24, lrd_24, lin_24, lwr_24, lia_25, lrd_25, lin_25, lwr_25, lia_26, lrd_26, lin_26, lwr_26, lia_27, lrd_27, lin_27, lwr_27, lia_28, lrd_28, lin_28, lwr_28, lia_29, lrd_29, lin_29, lwr_29, lia_30, lrd_30, lin_30, lwr_30, lia_36, lrd_36, lin_36, lwr_36, lia_42, lrd_42, lin_42, lwr_42, lia_48, lrd_48, lin_48, lwr_48, lia_72, lrd_72, lin_72, lwr_72, lia_77, lrd_77, lin_77, lwr_77, lia_82, lrd_82, lin_82, lwr_82, lia_87, lrd_87, lin_87, lwr_87, lia_92, lrd_92, lin_92, lwr_92, lia_100, lrd_100, lin_100, lwr_100, lia_108, lrd_108, lin_108, lwr_108, lia_116, lrd_116, lin_116, lwr_116, lia_124, lrd_124, lin_124, lwr_124, lia_224, lrd_224, lin_224, lwr_224, lia_229, lrd_229, lin_229, lwr_229, lia_234, lrd_234, lin_234, lwr_234, hl7, hn7, e1]
      refine po_i ?_
      have hne : ∀ (k : Nat), ¬ k = 86 → (up (ecpU h) 86 (h 87)) k = ecpU h k := fun k a => up_ne a
      refine ⟨ln_up hLk hl7, ?_, ?_, ?_, ?_, ?_⟩
      · rw [hne 0 (by omega), hne 1 (by omega), hne 2 (by omega), hne 3 (by omega)]
        exact ⟨(ecpU_o (by omega)).trans ro0, (ecpU_o (by omega)).trans ro1, (ecpU_o (by omega)).trans ro2, (ecpU_o (by omega)).trans ro3⟩
      · rw [up_at]; exact hw7
      · rw [up_at]
        exact ce_cg hcu (by rw [hne 19 (by omega)]; exact hLk 19 (by omega) (by omega)) fun k a b c => hne k (by omega)
      · refine Or.inr ⟨?_, ?_, ?_, ?_⟩
        · rw [hne 4 (by omega), ecpU_o (by omega)]; exact n1
        · rw [hne 85 (by omega), k85]; exact n2
        · rw [hne 87 (by omega), k87]; exact hw7
        · rw [hne 87 (by omega), k87]
          exact ce_cg hc7 (by rw [hne 47 (by omega)]; exact hLk 47 (by omega) (by omega)) fun k a b c => by rw [hne k (by omega)]; exact ecpU_o (by omega)
      · rw [hne 81 (by omega), hne 82 (by omega), hne 93 (by omega), hne 85 (by omega), ecpU_o (k := 81) (by omega), ecpU_o (k := 82) (by omega), ecpU_o (k := 93) (by omega), k85]
        exact ha
    | succ j ih =>
      intro k hk
      obtain ⟨g1, g2⟩ := fil_gd (s := h 87) l86 k (by omega)
      obtain ⟨ra, rb, rc⟩ := ix (j := k) (by omega)
      have e1 : ((934 : Int32) ≤ nI k) = False := by rw [li_le 934 k (by omega) (by omega)]; exact eq_false (by omega)
      rw [b_M_undo_12]
      simp (maxDischargeDepth := 20) (maxSteps := 2000000) only [↓reduceIte, pm_WL_nil, bi_900, bi_901, bi_904, bi_905, pm_lget_0, pm_lget_s, pm_oI_s, pm_oA_s, pm_oJ_s, pm_oK_s, pm_oR_s, pm_oO_s, pm_oN_s, pm_oF_s, pm_oM_s, pm_oP_s, pm_pu_n, pm_pu_s, pm_bo_ne, pm_bo_eq, Nat.reduceAdd, Nat.reduceSub, Nat.reduceLT, Nat.reduceLeDiff, Nat.reduceEqDiff, Nat.zero_add, Nat.lt_add_one, Nat.zero_ne_one, Nat.succ_ne_self, List.length_cons, List.length_nil, true_and, and_true, true_or, or_true, false_or, or_false, false_implies, true_implies, implies_true, not_true_eq_false, not_false_eq_true, ne_eq, eq_self, e_M_undo, pm_okW_0, pm_okW_i, pm_okW_r, pm_okW_l, pm_ent_0, pm_ent_i, pm_ent_r, pm_ent_l, List.reduceReplicate, b_M_undo_0, b_M_undo_7, b_M_undo_10, b_M_undo_19, b_M_undo_37, f_aloadn0, gf_183_264_85, w_if_ne, pm_tgt_is, Int.cast_ofNat_Int, Int.reduceNeg, Int.reduceAdd, Int.reduceToNat, Int.zero_add, Int.zero_le_ofNat, Int.reduceLE, nz_1, nz_m1, if_true, if_false, w_bipush, kb_m3, w_iret, lg_183, pm_fit_b, pm_fit_0, pm_fit_1, Bool.false_eq_true, w_iconst, ki_0, w_istore1, pm_lset_0, pm_lset_1, pm_lset_n, pm_no2_n, pm_no2_i, pm_no2_r, pm_no2_l, f_iloadn1, w_sipush, ks_934, w_icmp_ge, gf_183_9_85, gf_183_15_85, f_iinc1, ki_1, w_goto, kb_22, hs_85, f_iald_86, f_alen_86, ia_86, ar_86, f_iast_86, iw_86, hs_86, f_iald_87, f_alen_87, ia_87, ar_87, f_iast_87, iw_87, hs_87, up_at, up_ne, up_up, gd_0, gd_s, lia_0, lrd_0, lin_0, lwr_0, lia_1, lrd_1, lin_1, lwr_1, lia_2, lrd_2, lin_2, lwr_2, lia_3, lrd_3, lin_3, lwr_3, lia_4, lrd_4, lin_4, lwr_4, lia_5, lrd_5, lin_5, lwr_5, lia_6, lrd_6, lin_6, lwr_6, lia_12, lrd_12, lin_12, lwr_12, lia_18, lrd_18, lin_18, lwr_18, lia_22, lrd_22, lin_22, lwr_22, lia_23, lrd_23, lin_23, lwr_23, lia_24, lrd_24, lin_24, lwr_24, lia_25, lrd_25, lin_25, lwr_25, lia_26, lrd_26, lin_26, lwr_26, lia_27, lrd_27, lin_27, lwr_27, lia_28, lrd_28, lin_28, lwr_28, lia_29, lrd_29, lin_29, lwr_29, lia_30, lrd_30, lin_30, lwr_30, lia_36, lrd_36, lin_36, lwr_36, lia_42, lrd_42, lin_42, lwr_42, lia_48, lrd_48, lin_48, lwr_48, lia_72, lrd_72, lin_72, lwr_72, lia_77, lrd_77, lin_77, lwr_77, lia_82, lrd_82, lin_82, lwr_82, lia_87, lrd_87, lin_87, lwr_87, lia_92, lrd_92, lin_92, lwr_92, lia_100, lrd_100, lin_100, lwr_100, lia_108, lrd_108, lin_108, lwr_108, lia_116, lrd_116, lin_116, lwr_116, lia_124, lrd_124, lin_124, lwr_124, lia_224, lrd_224, lin_224, lwr_224, lia_229, lrd_229, lin_229, lwr_229, lia_234, lrd_234, lin_234, lwr_234, k87, hl7, g1, e1, ra, rb, rc, ni_1]
      exact ih (k + 1) (by omega)
  simp (maxDischargeDepth := 20) (maxSteps := 2000000) only [↓reduceIte, pm_WL_nil, bi_900, bi_901, bi_904, bi_905, pm_lget_0, pm_lget_s, pm_oI_s, pm_oA_s, pm_oJ_s, pm_oK_s, pm_oR_s, pm_oO_s, pm_oN_s, pm_oF_s, pm_oM_s, pm_oP_s, pm_pu_n, pm_pu_s, pm_bo_ne, pm_bo_eq, Nat.reduceAdd, Nat.reduceSub, Nat.reduceLT, Nat.reduceLeDiff, Nat.reduceEqDiff, Nat.zero_add, Nat.lt_add_one, Nat.zero_ne_one, Nat.succ_ne_self, List.length_cons, List.length_nil, true_and, and_true, true_or, or_true, false_or, or_false, false_implies, true_implies, implies_true, not_true_eq_false, not_false_eq_true, ne_eq, eq_self, e_M_undo, pm_okW_0, pm_okW_i, pm_okW_r, pm_okW_l, pm_ent_0, pm_ent_i, pm_ent_r, pm_ent_l, List.reduceReplicate, b_M_undo_0, b_M_undo_7, b_M_undo_10, b_M_undo_19, b_M_undo_37, f_aloadn0, gf_183_264_85, w_if_ne, pm_tgt_is, Int.cast_ofNat_Int, Int.reduceNeg, Int.reduceAdd, Int.reduceToNat, Int.zero_add, Int.zero_le_ofNat, Int.reduceLE, nz_1, nz_m1, if_true, if_false, w_bipush, kb_m3, w_iret, lg_183, pm_fit_b, pm_fit_0, pm_fit_1, Bool.false_eq_true, w_iconst, ki_0, w_istore1, pm_lset_0, pm_lset_1, pm_lset_n, pm_no2_n, pm_no2_i, pm_no2_r, pm_no2_l, f_iloadn1, w_sipush, ks_934, w_icmp_ge, gf_183_9_85, gf_183_15_85, f_iinc1, ki_1, w_goto, kb_22, hs_85, k85, y2]
  have := key 934 0 rfl
  rw [fil, up_id] at this
  exact this

