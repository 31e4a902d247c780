/-! THE START between the calls -/
def rT : List (List Int32) := (h0T [] [] [] []).drop 4
def hC (k : Nat) : List Int32 := (h0T [] aboveT bodiesT factsT).getD k []
theorem h0_C (scr : List Int32) {k : Nat} (hk : 1 ≤ k) : h0 scr aboveT bodiesT factsT k = hC k := by
  cases k with
  | zero => omega
  | succ k => rfl
theorem hC_ln : ∀ k, k < 94 → 4 ≤ k → (hC k).length = sz k := by decide +kernel
def s00 : List Int32 := hC 86
theorem s00_is : hC 86 = s00 := rfl
theorem s00_b : ∀ i, i < 234 → ¬ i = 29 → ¬ (100 ≤ i ∧ i < 108) → gd s00 i = nI (nN s00 i) ∧ nN s00 i ≤ bnd 9999 i := by decide +kernel
theorem s00_p : ∀ k, k < 8 → (nN s00 (92 + k) = 1 ∨ nN s00 (92 + k) = 2 → gd s00 (100 + k) = nI (nN s00 (100 + k)) ∧ nN s00 (100 + k) < 6) ∧ (nN s00 (92 + k) = 3 → gd s00 (100 + k) = nI (nN s00 (100 + k)) ∧ nN s00 (100 + k) < 5) := by decide +kernel
theorem s00_29 : gd s00 29 = -1 := by decide +kernel
theorem s00_st : stepsOf s00 = [] := by unfold stepsOf; rw [if_pos s00_29]
theorem s00_wf : WF 9999 s00 := ⟨by decide +kernel, s00_b, s00_p, Or.inl s00_29, by rw [s00_st]; exact trivial⟩
theorem s00_24 : nN s00 24 = 0 := by decide +kernel
theorem s00_q : quo s00 = 2 := by unfold quo; rw [if_pos s00_29]
theorem c7_0 : nN (hC 7) 0 = 0 := by decide +kernel
theorem c7_b : CB 7 s00 hC := by
  refine ⟨by decide +kernel, by decide +kernel, by decide +kernel, by decide +kernel, by rw [s00_q]; decide +kernel, by decide +kernel, fun i hi => ?_, fun f _ => ?_⟩
  · rw [c7_0] at hi; omega
  · rw [c7_0]
    unfold rsum
    rw [s00_st]
    rfl
theorem s00_ce : CE 5 s00 hC := by
  refine ⟨⟨?_, ?_, ?_, ?_, ?_, ?_, ?_, ?_, ?_, ?_, c7_b⟩, ?_, ?_, ?_, ?_, ?_, ?_, ?_, ?_, ?_, ?_, ?_, ?_, ?_⟩
  · rw [s00_24]; decide +kernel
  · decide +kernel
  · decide +kernel
  · decide +kernel
  · decide +kernel
  · decide +kernel
  · decide +kernel
  · decide +kernel
  · decide +kernel
  · decide +kernel
  · decide +kernel
  · decide +kernel
  · decide +kernel
  · decide +kernel
  · decide +kernel
  · decide +kernel
  · decide +kernel
  · decide +kernel
  · decide +kernel
  · decide +kernel
  · decide +kernel
  · decide +kernel
  · exact ⟨fun a b h1 h2 => by rw [s00_24] at h2; omega, Or.inl s00_29⟩
theorem inv_0 (scr : List Int32) : INV scr (h0 scr aboveT bodiesT factsT) := by
  have e : ∀ k, 1 ≤ k → h0 scr aboveT bodiesT factsT k = hC k := fun k hk => h0_C scr hk
  refine ⟨fun k k1 k2 => ?_, ⟨rfl, rfl, rfl, rfl⟩, ?_, ?_, Or.inl ⟨?_, ?_⟩, ?_, ⟨0, by omega, ?_⟩, ?_⟩
  · rw [e k (by omega)]; exact hC_ln k k2 k1
  · rw [e 86 (by omega)]; exact s00_wf
  · rw [e 86 (by omega)]
    refine ce_cg s00_ce ?_ fun k k1 k2 k3 => e k (by omega)
    rw [e (5 + 14) (by omega)]; decide +kernel
  · rw [e 4 (by omega)]; decide +kernel
  · rw [e 85 (by omega)]; decide +kernel
  · rw [e 81 (by omega), e 85 (by omega)]; decide +kernel
  · rw [e 85 (by omega)]; decide +kernel
  · rw [e 82 (by omega), e 93 (by omega)]; decide +kernel
theorem sz_ix (B : Nat) : ∀ σ : pm_S, (∀ (k : Nat) (c : pm_C), σ[k]? = some c → sx_szc c ≤ B) → sx_sz σ ≤ σ.length * B
  | [], _ => Nat.zero_le _
  | c :: σ, h => by
    have h1 := h 0 c rfl
    have h2 := sz_ix B σ fun k c hk => h (k + 1) c hk
    rw [sx_sz, List.length_cons, Nat.succ_mul]
    omega
theorem szk_1 {h : Nat → List Int32} (hl : (h 1).length ≤ 100) : ∀ c, pm_hg (mk h) 1 = some c → sx_szc c ≤ 934 := by
  intro c e; rw [hg_1] at e; cases e; show (h 1).length ≤ 934; omega
theorem szk_2 {h : Nat → List Int32} (hl : (h 2).length ≤ 100) : ∀ c, pm_hg (mk h) 2 = some c → sx_szc c ≤ 934 := by
  intro c e; rw [hg_2] at e; cases e; show (h 2).length ≤ 934; omega
theorem szk_3 {h : Nat → List Int32} (hl : (h 3).length ≤ 100) : ∀ c, pm_hg (mk h) 3 = some c → sx_szc c ≤ 934 := by
  intro c e; rw [hg_3] at e; cases e; show (h 3).length ≤ 934; omega
theorem szk_4 {h : Nat → List Int32} : ∀ c, pm_hg (mk h) 4 = some c → sx_szc c ≤ 934 := by
  intro c e; rw [hg_4] at e; cases e; exact Nat.le_of_ble_eq_true rfl
theorem szk_5 {h : Nat → List Int32} : ∀ c, pm_hg (mk h) 5 = some c → sx_szc c ≤ 934 := by
  intro c e; rw [hg_5] at e; cases e; exact Nat.le_of_ble_eq_true rfl
theorem szk_6 {h : Nat → List Int32} : ∀ c, pm_hg (mk h) 6 = some c → sx_szc c ≤ 934 := by
  intro c e; rw [hg_6] at e; cases e; exact Nat.le_of_ble_eq_true rfl
theorem szk_7 {h : Nat → List Int32} : ∀ c, pm_hg (mk h) 7 = some c → sx_szc c ≤ 934 := by
  intro c e; rw [hg_7] at e; cases e; exact Nat.le_of_ble_eq_true rfl
theorem szk_8 {h : Nat → List Int32} (hL : LN h) : ∀ c, pm_hg (mk h) 8 = some c → sx_szc c ≤ 934 := by
  intro c e; rw [hg_8] at e; cases e; show (h 8).length ≤ 934; rw [hL 8 (by omega) (by omega)]; decide
theorem szk_9 {h : Nat → List Int32} (hL : LN h) : ∀ c, pm_hg (mk h) 9 = some c → sx_szc c ≤ 934 := by
  intro c e; rw [hg_9] at e; cases e; show (h 9).length ≤ 934; rw [hL 9 (by omega) (by omega)]; decide
theorem szk_10 {h : Nat → List Int32} (hL : LN h) : ∀ c, pm_hg (mk h) 10 = some c → sx_szc c ≤ 934 := by
  intro c e; rw [hg_10] at e; cases e; show (h 10).length ≤ 934; rw [hL 10 (by omega) (by omega)]; decide
theorem szk_11 {h : Nat → List Int32} : ∀ c, pm_hg (mk h) 11 = some c → sx_szc c ≤ 934 := by
  intro c e; rw [hg_11] at e; cases e; exact Nat.le_of_ble_eq_true rfl
theorem szk_12 {h : Nat → List Int32} (hL : LN h) : ∀ c, pm_hg (mk h) 12 = some c → sx_szc c ≤ 934 := by
  intro c e; rw [hg_12] at e; cases e; show (h 12).length ≤ 934; rw [hL 12 (by omega) (by omega)]; decide
theorem szk_13 {h : Nat → List Int32} (hL : LN h) : ∀ c, pm_hg (mk h) 13 = some c → sx_szc c ≤ 934 := by
  intro c e; rw [hg_13] at e; cases e; show (h 13).length ≤ 934; rw [hL 13 (by omega) (by omega)]; decide
theorem szk_14 {h : Nat → List Int32} (hL : LN h) : ∀ c, pm_hg (mk h) 14 = some c → sx_szc c ≤ 934 := by
  intro c e; rw [hg_14] at e; cases e; show (h 14).length ≤ 934; rw [hL 14 (by omega) (by omega)]; decide
theorem szk_15 {h : Nat → List Int32} (hL : LN h) : ∀ c, pm_hg (mk h) 15 = some c → sx_szc c ≤ 934 := by
  intro c e; rw [hg_15] at e; cases e; show (h 15).length ≤ 934; rw [hL 15 (by omega) (by omega)]; decide
theorem szk_16 {h : Nat → List Int32} (hL : LN h) : ∀ c, pm_hg (mk h) 16 = some c → sx_szc c ≤ 934 := by
  intro c e; rw [hg_16] at e; cases e; show (h 16).length ≤ 934; rw [hL 16 (by omega) (by omega)]; decide
theorem szk_17 {h : Nat → List Int32} (hL : LN h) : ∀ c, pm_hg (mk h) 17 = some c → sx_szc c ≤ 934 := by
  intro c e; rw [hg_17] at e; cases e; show (h 17).length ≤ 934; rw [hL 17 (by omega) (by omega)]; decide
theorem szk_18 {h : Nat → List Int32} (hL : LN h) : ∀ c, pm_hg (mk h) 18 = some c → sx_szc c ≤ 934 := by
  intro c e; rw [hg_18] at e; cases e; show (h 18).length ≤ 934; rw [hL 18 (by omega) (by omega)]; decide
theorem szk_19 {h : Nat → List Int32} (hL : LN h) : ∀ c, pm_hg (mk h) 19 = some c → sx_szc c ≤ 934 := by
  intro c e; rw [hg_19] at e; cases e; show (h 19).length ≤ 934; rw [hL 19 (by omega) (by omega)]; decide
theorem szk_20 {h : Nat → List Int32} (hL : LN h) : ∀ c, pm_hg (mk h) 20 = some c → sx_szc c ≤ 934 := by
  intro c e; rw [hg_20] at e; cases e; show (h 20).length ≤ 934; rw [hL 20 (by omega) (by omega)]; decide
theorem szk_21 {h : Nat → List Int32} : ∀ c, pm_hg (mk h) 21 = some c → sx_szc c ≤ 934 := by
  intro c e; rw [hg_21] at e; cases e; exact Nat.le_of_ble_eq_true rfl
theorem szk_22 {h : Nat → List Int32} (hL : LN h) : ∀ c, pm_hg (mk h) 22 = some c → sx_szc c ≤ 934 := by
  intro c e; rw [hg_22] at e; cases e; show (h 22).length ≤ 934; rw [hL 22 (by omega) (by omega)]; decide
theorem szk_23 {h : Nat → List Int32} (hL : LN h) : ∀ c, pm_hg (mk h) 23 = some c → sx_szc c ≤ 934 := by
  intro c e; rw [hg_23] at e; cases e; show (h 23).length ≤ 934; rw [hL 23 (by omega) (by omega)]; decide
theorem szk_24 {h : Nat → List Int32} (hL : LN h) : ∀ c, pm_hg (mk h) 24 = some c → sx_szc c ≤ 934 := by
  intro c e; rw [hg_24] at e; cases e; show (h 24).length ≤ 934; rw [hL 24 (by omega) (by omega)]; decide
theorem szk_25 {h : Nat → List Int32} : ∀ c, pm_hg (mk h) 25 = some c → sx_szc c ≤ 934 := by
  intro c e; rw [hg_25] at e; cases e; exact Nat.le_of_ble_eq_true rfl
theorem szk_26 {h : Nat → List Int32} (hL : LN h) : ∀ c, pm_hg (mk h) 26 = some c → sx_szc c ≤ 934 := by
  intro c e; rw [hg_26] at e; cases e; show (h 26).length ≤ 934; rw [hL 26 (by omega) (by omega)]; decide
theorem szk_27 {h : Nat → List Int32} (hL : LN h) : ∀ c, pm_hg (mk h) 27 = some c → sx_szc c ≤ 934 := by
  intro c e; rw [hg_27] at e; cases e; show (h 27).length ≤ 934; rw [hL 27 (by omega) (by omega)]; decide
theorem szk_28 {h : Nat → List Int32} (hL : LN h) : ∀ c, pm_hg (mk h) 28 = some c → sx_szc c ≤ 934 := by
  intro c e; rw [hg_28] at e; cases e; show (h 28).length ≤ 934; rw [hL 28 (by omega) (by omega)]; decide
theorem szk_29 {h : Nat → List Int32} : ∀ c, pm_hg (mk h) 29 = some c → sx_szc c ≤ 934 := by
  intro c e; rw [hg_29] at e; cases e; exact Nat.le_of_ble_eq_true rfl
theorem szk_30 {h : Nat → List Int32} (hL : LN h) : ∀ c, pm_hg (mk h) 30 = some c → sx_szc c ≤ 934 := by
  intro c e; rw [hg_30] at e; cases e; show (h 30).length ≤ 934; rw [hL 30 (by omega) (by omega)]; decide
theorem szk_31 {h : Nat → List Int32} (hL : LN h) : ∀ c, pm_hg (mk h) 31 = some c → sx_szc c ≤ 934 := by
  intro c e; rw [hg_31] at e; cases e; show (h 31).length ≤ 934; rw [hL 31 (by omega) (by omega)]; decide
theorem szk_32 {h : Nat → List Int32} (hL : LN h) : ∀ c, pm_hg (mk h) 32 = some c → sx_szc c ≤ 934 := by
  intro c e; rw [hg_32] at e; cases e; show (h 32).length ≤ 934; rw [hL 32 (by omega) (by omega)]; decide
theorem szk_33 {h : Nat → List Int32} : ∀ c, pm_hg (mk h) 33 = some c → sx_szc c ≤ 934 := by
  intro c e; rw [hg_33] at e; cases e; exact Nat.le_of_ble_eq_true rfl
theorem szk_34 {h : Nat → List Int32} : ∀ c, pm_hg (mk h) 34 = some c → sx_szc c ≤ 934 := by
  intro c e; rw [hg_34] at e; cases e; exact Nat.le_of_ble_eq_true rfl
theorem szk_35 {h : Nat → List Int32} : ∀ c, pm_hg (mk h) 35 = some c → sx_szc c ≤ 934 := by
  intro c e; rw [hg_35] at e; cases e; exact Nat.le_of_ble_eq_true rfl
theorem szk_36 {h : Nat → List Int32} (hL : LN h) : ∀ c, pm_hg (mk h) 36 = some c → sx_szc c ≤ 934 := by
  intro c e; rw [hg_36] at e; cases e; show (h 36).length ≤ 934; rw [hL 36 (by omega) (by omega)]; decide
theorem szk_37 {h : Nat → List Int32} (hL : LN h) : ∀ c, pm_hg (mk h) 37 = some c → sx_szc c ≤ 934 := by
  intro c e; rw [hg_37] at e; cases e; show (h 37).length ≤ 934; rw [hL 37 (by omega) (by omega)]; decide
theorem szk_38 {h : Nat → List Int32} (hL : LN h) : ∀ c, pm_hg (mk h) 38 = some c → sx_szc c ≤ 934 := by
  intro c e; rw [hg_38] at e; cases e; show (h 38).length ≤ 934; rw [hL 38 (by omega) (by omega)]; decide
theorem szk_39 {h : Nat → List Int32} : ∀ c, pm_hg (mk h) 39 = some c → sx_szc c ≤ 934 := by
  intro c e; rw [hg_39] at e; cases e; exact Nat.le_of_ble_eq_true rfl
theorem szk_40 {h : Nat → List Int32} (hL : LN h) : ∀ c, pm_hg (mk h) 40 = some c → sx_szc c ≤ 934 := by
  intro c e; rw [hg_40] at e; cases e; show (h 40).length ≤ 934; rw [hL 40 (by omega) (by omega)]; decide
theorem szk_41 {h : Nat → List Int32} (hL : LN h) : ∀ c, pm_hg (mk h) 41 = some c → sx_szc c ≤ 934 := by
  intro c e; rw [hg_41] at e; cases e; show (h 41).length ≤ 934; rw [hL 41 (by omega) (by omega)]; decide
theorem szk_42 {h : Nat → List Int32} (hL : LN h) : ∀ c, pm_hg (mk h) 42 = some c → sx_szc c ≤ 934 := by
  intro c e; rw [hg_42] at e; cases e; show (h 42).length ≤ 934; rw [hL 42 (by omega) (by omega)]; decide
theorem szk_43 {h : Nat → List Int32} (hL : LN h) : ∀ c, pm_hg (mk h) 43 = some c → sx_szc c ≤ 934 := by
  intro c e; rw [hg_43] at e; cases e; show (h 43).length ≤ 934; rw [hL 43 (by omega) (by omega)]; decide
theorem szk_44 {h : Nat → List Int32} (hL : LN h) : ∀ c, pm_hg (mk h) 44 = some c → sx_szc c ≤ 934 := by
  intro c e; rw [hg_44] at e; cases e; show (h 44).length ≤ 934; rw [hL 44 (by omega) (by omega)]; decide
theorem szk_45 {h : Nat → List Int32} (hL : LN h) : ∀ c, pm_hg (mk h) 45 = some c → sx_szc c ≤ 934 := by
  intro c e; rw [hg_45] at e; cases e; show (h 45).length ≤ 934; rw [hL 45 (by omega) (by omega)]; decide
theorem szk_46 {h : Nat → List Int32} (hL : LN h) : ∀ c, pm_hg (mk h) 46 = some c → sx_szc c ≤ 934 := by
  intro c e; rw [hg_46] at e; cases e; show (h 46).length ≤ 934; rw [hL 46 (by omega) (by omega)]; decide
theorem szk_47 {h : Nat → List Int32} (hL : LN h) : ∀ c, pm_hg (mk h) 47 = some c → sx_szc c ≤ 934 := by
  intro c e; rw [hg_47] at e; cases e; show (h 47).length ≤ 934; rw [hL 47 (by omega) (by omega)]; decide
theorem szk_48 {h : Nat → List Int32} (hL : LN h) : ∀ c, pm_hg (mk h) 48 = some c → sx_szc c ≤ 934 := by
  intro c e; rw [hg_48] at e; cases e; show (h 48).length ≤ 934; rw [hL 48 (by omega) (by omega)]; decide
theorem szk_49 {h : Nat → List Int32} : ∀ c, pm_hg (mk h) 49 = some c → sx_szc c ≤ 934 := by
  intro c e; rw [hg_49] at e; cases e; exact Nat.le_of_ble_eq_true rfl
theorem szk_50 {h : Nat → List Int32} (hL : LN h) : ∀ c, pm_hg (mk h) 50 = some c → sx_szc c ≤ 934 := by
  intro c e; rw [hg_50] at e; cases e; show (h 50).length ≤ 934; rw [hL 50 (by omega) (by omega)]; decide
theorem szk_51 {h : Nat → List Int32} (hL : LN h) : ∀ c, pm_hg (mk h) 51 = some c → sx_szc c ≤ 934 := by
  intro c e; rw [hg_51] at e; cases e; show (h 51).length ≤ 934; rw [hL 51 (by omega) (by omega)]; decide
theorem szk_52 {h : Nat → List Int32} (hL : LN h) : ∀ c, pm_hg (mk h) 52 = some c → sx_szc c ≤ 934 := by
  intro c e; rw [hg_52] at e; cases e; show (h 52).length ≤ 934; rw [hL 52 (by omega) (by omega)]; decide
theorem szk_53 {h : Nat → List Int32} : ∀ c, pm_hg (mk h) 53 = some c → sx_szc c ≤ 934 := by
  intro c e; rw [hg_53] at e; cases e; exact Nat.le_of_ble_eq_true rfl
theorem szk_54 {h : Nat → List Int32} (hL : LN h) : ∀ c, pm_hg (mk h) 54 = some c → sx_szc c ≤ 934 := by
  intro c e; rw [hg_54] at e; cases e; show (h 54).length ≤ 934; rw [hL 54 (by omega) (by omega)]; decide
theorem szk_55 {h : Nat → List Int32} (hL : LN h) : ∀ c, pm_hg (mk h) 55 = some c → sx_szc c ≤ 934 := by
  intro c e; rw [hg_55] at e; cases e; show (h 55).length ≤ 934; rw [hL 55 (by omega) (by omega)]; decide
theorem szk_56 {h : Nat → List Int32} (hL : LN h) : ∀ c, pm_hg (mk h) 56 = some c → sx_szc c ≤ 934 := by
  intro c e; rw [hg_56] at e; cases e; show (h 56).length ≤ 934; rw [hL 56 (by omega) (by omega)]; decide
theorem szk_57 {h : Nat → List Int32} : ∀ c, pm_hg (mk h) 57 = some c → sx_szc c ≤ 934 := by
  intro c e; rw [hg_57] at e; cases e; exact Nat.le_of_ble_eq_true rfl
theorem szk_58 {h : Nat → List Int32} (hL : LN h) : ∀ c, pm_hg (mk h) 58 = some c → sx_szc c ≤ 934 := by
  intro c e; rw [hg_58] at e; cases e; show (h 58).length ≤ 934; rw [hL 58 (by omega) (by omega)]; decide
theorem szk_59 {h : Nat → List Int32} (hL : LN h) : ∀ c, pm_hg (mk h) 59 = some c → sx_szc c ≤ 934 := by
  intro c e; rw [hg_59] at e; cases e; show (h 59).length ≤ 934; rw [hL 59 (by omega) (by omega)]; decide
theorem szk_60 {h : Nat → List Int32} (hL : LN h) : ∀ c, pm_hg (mk h) 60 = some c → sx_szc c ≤ 934 := by
  intro c e; rw [hg_60] at e; cases e; show (h 60).length ≤ 934; rw [hL 60 (by omega) (by omega)]; decide
theorem szk_61 {h : Nat → List Int32} : ∀ c, pm_hg (mk h) 61 = some c → sx_szc c ≤ 934 := by
  intro c e; rw [hg_61] at e; cases e; exact Nat.le_of_ble_eq_true rfl
theorem szk_62 {h : Nat → List Int32} : ∀ c, pm_hg (mk h) 62 = some c → sx_szc c ≤ 934 := by
  intro c e; rw [hg_62] at e; cases e; exact Nat.le_of_ble_eq_true rfl
theorem szk_63 {h : Nat → List Int32} (hL : LN h) : ∀ c, pm_hg (mk h) 63 = some c → sx_szc c ≤ 934 := by
  intro c e; rw [hg_63] at e; cases e; show (h 63).length ≤ 934; rw [hL 63 (by omega) (by omega)]; decide
theorem szk_64 {h : Nat → List Int32} (hL : LN h) : ∀ c, pm_hg (mk h) 64 = some c → sx_szc c ≤ 934 := by
  intro c e; rw [hg_64] at e; cases e; show (h 64).length ≤ 934; rw [hL 64 (by omega) (by omega)]; decide
theorem szk_65 {h : Nat → List Int32} (hL : LN h) : ∀ c, pm_hg (mk h) 65 = some c → sx_szc c ≤ 934 := by
  intro c e; rw [hg_65] at e; cases e; show (h 65).length ≤ 934; rw [hL 65 (by omega) (by omega)]; decide
theorem szk_66 {h : Nat → List Int32} : ∀ c, pm_hg (mk h) 66 = some c → sx_szc c ≤ 934 := by
  intro c e; rw [hg_66] at e; cases e; exact Nat.le_of_ble_eq_true rfl
theorem szk_67 {h : Nat → List Int32} (hL : LN h) : ∀ c, pm_hg (mk h) 67 = some c → sx_szc c ≤ 934 := by
  intro c e; rw [hg_67] at e; cases e; show (h 67).length ≤ 934; rw [hL 67 (by omega) (by omega)]; decide
theorem szk_68 {h : Nat → List Int32} (hL : LN h) : ∀ c, pm_hg (mk h) 68 = some c → sx_szc c ≤ 934 := by
  intro c e; rw [hg_68] at e; cases e; show (h 68).length ≤ 934; rw [hL 68 (by omega) (by omega)]; decide
theorem szk_69 {h : Nat → List Int32} (hL : LN h) : ∀ c, pm_hg (mk h) 69 = some c → sx_szc c ≤ 934 := by
  intro c e; rw [hg_69] at e; cases e; show (h 69).length ≤ 934; rw [hL 69 (by omega) (by omega)]; decide
theorem szk_70 {h : Nat → List Int32} (hL : LN h) : ∀ c, pm_hg (mk h) 70 = some c → sx_szc c ≤ 934 := by
  intro c e; rw [hg_70] at e; cases e; show (h 70).length ≤ 934; rw [hL 70 (by omega) (by omega)]; decide
theorem szk_71 {h : Nat → List Int32} (hL : LN h) : ∀ c, pm_hg (mk h) 71 = some c → sx_szc c ≤ 934 := by
  intro c e; rw [hg_71] at e; cases e; show (h 71).length ≤ 934; rw [hL 71 (by omega) (by omega)]; decide
theorem szk_72 {h : Nat → List Int32} (hL : LN h) : ∀ c, pm_hg (mk h) 72 = some c → sx_szc c ≤ 934 := by
  intro c e; rw [hg_72] at e; cases e; show (h 72).length ≤ 934; rw [hL 72 (by omega) (by omega)]; decide
theorem szk_73 {h : Nat → List Int32} (hL : LN h) : ∀ c, pm_hg (mk h) 73 = some c → sx_szc c ≤ 934 := by
  intro c e; rw [hg_73] at e; cases e; show (h 73).length ≤ 934; rw [hL 73 (by omega) (by omega)]; decide
theorem szk_74 {h : Nat → List Int32} (hL : LN h) : ∀ c, pm_hg (mk h) 74 = some c → sx_szc c ≤ 934 := by
  intro c e; rw [hg_74] at e; cases e; show (h 74).length ≤ 934; rw [hL 74 (by omega) (by omega)]; decide
theorem szk_75 {h : Nat → List Int32} : ∀ c, pm_hg (mk h) 75 = some c → sx_szc c ≤ 934 := by
  intro c e; rw [hg_75] at e; cases e; exact Nat.le_of_ble_eq_true rfl
theorem szk_76 {h : Nat → List Int32} : ∀ c, pm_hg (mk h) 76 = some c → sx_szc c ≤ 934 := by
  intro c e; rw [hg_76] at e; cases e; exact Nat.le_of_ble_eq_true rfl
theorem szk_77 {h : Nat → List Int32} (hL : LN h) : ∀ c, pm_hg (mk h) 77 = some c → sx_szc c ≤ 934 := by
  intro c e; rw [hg_77] at e; cases e; show (h 77).length ≤ 934; rw [hL 77 (by omega) (by omega)]; decide
theorem szk_78 {h : Nat → List Int32} (hL : LN h) : ∀ c, pm_hg (mk h) 78 = some c → sx_szc c ≤ 934 := by
  intro c e; rw [hg_78] at e; cases e; show (h 78).length ≤ 934; rw [hL 78 (by omega) (by omega)]; decide
theorem szk_79 {h : Nat → List Int32} (hL : LN h) : ∀ c, pm_hg (mk h) 79 = some c → sx_szc c ≤ 934 := by
  intro c e; rw [hg_79] at e; cases e; show (h 79).length ≤ 934; rw [hL 79 (by omega) (by omega)]; decide
theorem szk_80 {h : Nat → List Int32} (hL : LN h) : ∀ c, pm_hg (mk h) 80 = some c → sx_szc c ≤ 934 := by
  intro c e; rw [hg_80] at e; cases e; show (h 80).length ≤ 934; rw [hL 80 (by omega) (by omega)]; decide
theorem szk_81 {h : Nat → List Int32} : ∀ c, pm_hg (mk h) 81 = some c → sx_szc c ≤ 934 := by
  intro c e; rw [hg_81] at e; cases e; exact Nat.le_of_ble_eq_true rfl
theorem szk_82 {h : Nat → List Int32} (hL : LN h) : ∀ c, pm_hg (mk h) 82 = some c → sx_szc c ≤ 934 := by
  intro c e; rw [hg_82] at e; cases e; show (h 82).length ≤ 934; rw [hL 82 (by omega) (by omega)]; decide
theorem szk_83 {h : Nat → List Int32} (hL : LN h) : ∀ c, pm_hg (mk h) 83 = some c → sx_szc c ≤ 934 := by
  intro c e; rw [hg_83] at e; cases e; show (h 83).length ≤ 934; rw [hL 83 (by omega) (by omega)]; decide
theorem szk_84 {h : Nat → List Int32} (hL : LN h) : ∀ c, pm_hg (mk h) 84 = some c → sx_szc c ≤ 934 := by
  intro c e; rw [hg_84] at e; cases e; show (h 84).length ≤ 934; rw [hL 84 (by omega) (by omega)]; decide
theorem szk_85 {h : Nat → List Int32} : ∀ c, pm_hg (mk h) 85 = some c → sx_szc c ≤ 934 := by
  intro c e; rw [hg_85] at e; cases e; exact Nat.le_of_ble_eq_true rfl
theorem szk_86 {h : Nat → List Int32} (hL : LN h) : ∀ c, pm_hg (mk h) 86 = some c → sx_szc c ≤ 934 := by
  intro c e; rw [hg_86] at e; cases e; show (h 86).length ≤ 934; rw [hL 86 (by omega) (by omega)]; decide
theorem szk_87 {h : Nat → List Int32} (hL : LN h) : ∀ c, pm_hg (mk h) 87 = some c → sx_szc c ≤ 934 := by
  intro c e; rw [hg_87] at e; cases e; show (h 87).length ≤ 934; rw [hL 87 (by omega) (by omega)]; decide
theorem szk_88 {h : Nat → List Int32} (hL : LN h) : ∀ c, pm_hg (mk h) 88 = some c → sx_szc c ≤ 934 := by
  intro c e; rw [hg_88] at e; cases e; show (h 88).length ≤ 934; rw [hL 88 (by omega) (by omega)]; decide
theorem szk_89 {h : Nat → List Int32} (hL : LN h) : ∀ c, pm_hg (mk h) 89 = some c → sx_szc c ≤ 934 := by
  intro c e; rw [hg_89] at e; cases e; show (h 89).length ≤ 934; rw [hL 89 (by omega) (by omega)]; decide
theorem szk_90 {h : Nat → List Int32} (hL : LN h) : ∀ c, pm_hg (mk h) 90 = some c → sx_szc c ≤ 934 := by
  intro c e; rw [hg_90] at e; cases e; show (h 90).length ≤ 934; rw [hL 90 (by omega) (by omega)]; decide
theorem szk_91 {h : Nat → List Int32} (hL : LN h) : ∀ c, pm_hg (mk h) 91 = some c → sx_szc c ≤ 934 := by
  intro c e; rw [hg_91] at e; cases e; show (h 91).length ≤ 934; rw [hL 91 (by omega) (by omega)]; decide
theorem szk_92 {h : Nat → List Int32} (hL : LN h) : ∀ c, pm_hg (mk h) 92 = some c → sx_szc c ≤ 934 := by
  intro c e; rw [hg_92] at e; cases e; show (h 92).length ≤ 934; rw [hL 92 (by omega) (by omega)]; decide
theorem szk_93 {h : Nat → List Int32} (hL : LN h) : ∀ c, pm_hg (mk h) 93 = some c → sx_szc c ≤ 934 := by
  intro c e; rw [hg_93] at e; cases e; show (h 93).length ≤ 934; rw [hL 93 (by omega) (by omega)]; decide
theorem szk_all {h : Nat → List Int32} (hL : LN h) (l1 : (h 1).length ≤ 100) (l2 : (h 2).length ≤ 100) (l3 : (h 3).length ≤ 100) : ∀ k, k < 93 → ∀ c, pm_hg (mk h) (k + 1) = some c → sx_szc c ≤ 934
  | 0, _ => szk_1 l1
  | 1, _ => szk_2 l2
  | 2, _ => szk_3 l3
  | 3, _ => szk_4
  | 4, _ => szk_5
  | 5, _ => szk_6
  | 6, _ => szk_7
  | 7, _ => szk_8 hL
  | 8, _ => szk_9 hL
  | 9, _ => szk_10 hL
  | 10, _ => szk_11
  | 11, _ => szk_12 hL
  | 12, _ => szk_13 hL
  | 13, _ => szk_14 hL
  | 14, _ => szk_15 hL
  | 15, _ => szk_16 hL
  | 16, _ => szk_17 hL
  | 17, _ => szk_18 hL
  | 18, _ => szk_19 hL
  | 19, _ => szk_20 hL
  | 20, _ => szk_21
  | 21, _ => szk_22 hL
  | 22, _ => szk_23 hL
  | 23, _ => szk_24 hL
  | 24, _ => szk_25
  | 25, _ => szk_26 hL
  | 26, _ => szk_27 hL
  | 27, _ => szk_28 hL
  | 28, _ => szk_29
  | 29, _ => szk_30 hL
  | 30, _ => szk_31 hL
  | 31, _ => szk_32 hL
  | 32, _ => szk_33
  | 33, _ => szk_34
  | 34, _ => szk_35
  | 35, _ => szk_36 hL
  | 36, _ => szk_37 hL
  | 37, _ => szk_38 hL
  | 38, _ => szk_39
  | 39, _ => szk_40 hL
  | 40, _ => szk_41 hL
  | 41, _ => szk_42 hL
  | 42, _ => szk_43 hL
  | 43, _ => szk_44 hL
  | 44, _ => szk_45 hL
  | 45, _ => szk_46 hL
  | 46, _ => szk_47 hL
  | 47, _ => szk_48 hL
  | 48, _ => szk_49
  | 49, _ => szk_50 hL
  | 50, _ => szk_51 hL
  | 51, _ => szk_52 hL
  | 52, _ => szk_53
  | 53, _ => szk_54 hL
  | 54, _ => szk_55 hL
  | 55, _ => szk_56 hL
  | 56, _ => szk_57
  | 57, _ => szk_58 hL
  | 58, _ => szk_59 hL
  | 59, _ => szk_60 hL
  | 60, _ => szk_61
  | 61, _ => szk_62
  | 62, _ => szk_63 hL
  | 63, _ => szk_64 hL
  | 64, _ => szk_65 hL
  | 65, _ => szk_66
  | 66, _ => szk_67 hL
  | 67, _ => szk_68 hL
  | 68, _ => szk_69 hL
  | 69, _ => szk_70 hL
  | 70, _ => szk_71 hL
  | 71, _ => szk_72 hL
  | 72, _ => szk_73 hL
  | 73, _ => szk_74 hL
  | 74, _ => szk_75
  | 75, _ => szk_76
  | 76, _ => szk_77 hL
  | 77, _ => szk_78 hL
  | 78, _ => szk_79 hL
  | 79, _ => szk_80 hL
  | 80, _ => szk_81
  | 81, _ => szk_82 hL
  | 82, _ => szk_83 hL
  | 83, _ => szk_84 hL
  | 84, _ => szk_85
  | 85, _ => szk_86 hL
  | 86, _ => szk_87 hL
  | 87, _ => szk_88 hL
  | 88, _ => szk_89 hL
  | 89, _ => szk_90 hL
  | 90, _ => szk_91 hL
  | 91, _ => szk_92 hL
  | 92, _ => szk_93 hL
  | k + 93, hk => absurd hk (by omega)
theorem mk_tl (h : Nat → List Int32) : mk h = .inr (2, h 0) :: (mk h).tail := id rfl
theorem tl_len (h : Nat → List Int32) : (mk h).tail.length = 93 := by rw [List.length_tail, mk_len]
theorem sz_sum {h : Nat → List Int32} (hL : LN h) (l0 : (h 0).length ≤ 2048) (l1 : (h 1).length ≤ 100) (l2 : (h 2).length ≤ 100) (l3 : (h 3).length ≤ 100) : sx_sz (mk h) ≤ 100000 := by
  have h1 : sx_sz (mk h).tail ≤ (mk h).tail.length * 934 := by
    refine sz_ix 934 _ fun k c hk => ?_
    have lt : k < 93 := by rw [← tl_len h]; exact (List.getElem?_eq_some_iff.mp hk).1
    refine szk_all hL l1 l2 l3 k lt c ?_
    unfold pm_hg
    rw [mk_tl h, List.getElem?_cons_succ]
    exact hk
  rw [tl_len] at h1
  have h2 : sx_sz (mk h) = (h 0).length + sx_sz (mk h).tail := by
    rw [mk_tl h]
    rfl
  rw [h2]
  omega
