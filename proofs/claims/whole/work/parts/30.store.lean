/-! THE STORE behind the makings, as a function of the numbers in it: h k = an array's content, or an object's ints in their order -/
def up (h : Nat → List Int32) (k : Nat) (l : List Int32) : Nat → List Int32 := fun j => if j = k then l else h j
def gd (l : List Int32) (j : Nat) : Int32 := l.getD j 0
theorem gd_0 (a : Int32) (l : List Int32) : gd (a :: l) 0 = a := id rfl
theorem gd_s (a : Int32) (l : List Int32) (n : Nat) : gd (a :: l) (n + 1) = gd l n := id rfl
theorem up_at (h : Nat → List Int32) (k : Nat) (l : List Int32) : up h k l k = l := if_pos rfl
theorem up_ne {h : Nat → List Int32} {k j : Nat} {l : List Int32} (n : ¬ j = k) : up h k l j = h j := if_neg n
theorem up_up (h : Nat → List Int32) (k : Nat) (l m : List Int32) : up (up h k l) k m = up h k m := by funext j; unfold up; by_cases q : j = k <;> simp [q]
theorem up_cm {h : Nat → List Int32} {k j : Nat} {l m : List Int32} (n : j < k) : up (up h k l) j m = up (up h j m) k l := by funext i; unfold up; by_cases q : i = j <;> by_cases p : i = k <;> simp [q, p] <;> omega
theorem up_id (h : Nat → List Int32) (k : Nat) : up h k (h k) = h := by funext i; unfold up; by_cases q : i = k <;> simp [q]
def mk (h : Nat → List Int32) : pm_S := [.inr (2, h 0), .inr (2, h 1), .inr (2, h 2), .inr (2, h 3), .inl (7, [.ref 5, .ref 33, .int (gd (h 4) 0), .ref 61, .ref 75, .ref 81, .ref 83, .ref 84]), .inl (2, [.ref 6, .ref 20, .int (gd (h 5) 0), .int (gd (h 5) 1), .ref 21, .ref 25, .ref 29]), .inl (5, [.ref 7, .ref 11, .ref 17, .ref 18, .int (gd (h 6) 0), .int (gd (h 6) 1), .int (gd (h 6) 2), .ref 19]), .inl (1, [.ref 8, .ref 9, .ref 10, .int (gd (h 7) 0), .int (gd (h 7) 1), .int (gd (h 7) 2)]), .inr (0, h 8), .inr (0, h 9), .inr (0, h 10), .inl (6, [.ref 12, .ref 13, .ref 14, .ref 15, .ref 16, .int (gd (h 11) 0), .int (gd (h 11) 1)]), .inr (0, h 12), .inr (0, h 13), .inr (0, h 14), .inr (0, h 15), .inr (0, h 16), .inr (0, h 17), .inr (0, h 18), .inr (0, h 19), .inr (0, h 20), .inl (4, [.ref 22, .ref 23, .ref 24, .int (gd (h 21) 0)]), .inr (0, h 22), .inr (0, h 23), .inr (0, h 24), .inl (4, [.ref 26, .ref 27, .ref 28, .int (gd (h 25) 0)]), .inr (0, h 26), .inr (0, h 27), .inr (0, h 28), .inl (4, [.ref 30, .ref 31, .ref 32, .int (gd (h 29) 0)]), .inr (0, h 30), .inr (0, h 31), .inr (0, h 32), .inl (2, [.ref 34, .ref 48, .int (gd (h 33) 0), .int (gd (h 33) 1), .ref 49, .ref 53, .ref 57]), .inl (5, [.ref 35, .ref 39, .ref 45, .ref 46, .int (gd (h 34) 0), .int (gd (h 34) 1), .int (gd (h 34) 2), .ref 47]), .inl (1, [.ref 36, .ref 37, .ref 38, .int (gd (h 35) 0), .int (gd (h 35) 1), .int (gd (h 35) 2)]), .inr (0, h 36), .inr (0, h 37), .inr (0, h 38), .inl (6, [.ref 40, .ref 41, .ref 42, .ref 43, .ref 44, .int (gd (h 39) 0), .int (gd (h 39) 1)]), .inr (0, h 40), .inr (0, h 41), .inr (0, h 42), .inr (0, h 43), .inr (0, h 44), .inr (0, h 45), .inr (0, h 46), .inr (0, h 47), .inr (0, h 48), .inl (4, [.ref 50, .ref 51, .ref 52, .int (gd (h 49) 0)]), .inr (0, h 50), .inr (0, h 51), .inr (0, h 52), .inl (4, [.ref 54, .ref 55, .ref 56, .int (gd (h 53) 0)]), .inr (0, h 54), .inr (0, h 55), .inr (0, h 56), .inl (4, [.ref 58, .ref 59, .ref 60, .int (gd (h 57) 0)]), .inr (0, h 58), .inr (0, h 59), .inr (0, h 60), .inl (5, [.ref 62, .ref 66, .ref 72, .ref 73, .int (gd (h 61) 0), .int (gd (h 61) 1), .int (gd (h 61) 2), .ref 74]), .inl (1, [.ref 63, .ref 64, .ref 65, .int (gd (h 62) 0), .int (gd (h 62) 1), .int (gd (h 62) 2)]), .inr (0, h 63), .inr (0, h 64), .inr (0, h 65), .inl (6, [.ref 67, .ref 68, .ref 69, .ref 70, .ref 71, .int (gd (h 66) 0), .int (gd (h 66) 1)]), .inr (0, h 67), .inr (0, h 68), .inr (0, h 69), .inr (0, h 70), .inr (0, h 71), .inr (0, h 72), .inr (0, h 73), .inr (0, h 74), .inl (3, [.ref 76, .int (gd (h 75) 0), .ref 80, .int (gd (h 75) 1), .int (gd (h 75) 2)]), .inl (1, [.ref 77, .ref 78, .ref 79, .int (gd (h 76) 0), .int (gd (h 76) 1), .int (gd (h 76) 2)]), .inr (0, h 77), .inr (0, h 78), .inr (0, h 79), .inr (0, h 80), .inl (0, [.ref 82, .int (gd (h 81) 0), .int (gd (h 81) 1), .int (gd (h 81) 2), .int (gd (h 81) 3)]), .inr (0, h 82), .inr (0, h 83), .inr (0, h 84), .inl (8, [.int (gd (h 85) 0), .ref 86, .ref 87, .ref 88, .int (gd (h 85) 1), .int (gd (h 85) 2), .int (gd (h 85) 3), .int (gd (h 85) 4), .int (gd (h 85) 5), .int (gd (h 85) 6), .ref 89, .ref 90, .ref 91, .ref 92, .int (gd (h 85) 7), .ref 93, .int (gd (h 85) 8), .int (gd (h 85) 9), .int (gd (h 85) 10), .int (gd (h 85) 11)]), .inr (0, h 86), .inr (0, h 87), .inr (0, h 88), .inr (0, h 89), .inr (1, h 90), .inr (0, h 91), .inr (0, h 92), .inr (0, h 93)]
theorem mk_len (h : Nat → List Int32) : (mk h).length = 94 := id rfl
theorem hg_0 (h : Nat → List Int32) : pm_hg (mk h) 0 = some (.inr (2, h 0)) := id rfl
theorem hg_1 (h : Nat → List Int32) : pm_hg (mk h) 1 = some (.inr (2, h 1)) := id rfl
theorem hg_2 (h : Nat → List Int32) : pm_hg (mk h) 2 = some (.inr (2, h 2)) := id rfl
theorem hg_3 (h : Nat → List Int32) : pm_hg (mk h) 3 = some (.inr (2, h 3)) := id rfl
theorem hg_4 (h : Nat → List Int32) : pm_hg (mk h) 4 = some (.inl (7, [.ref 5, .ref 33, .int (gd (h 4) 0), .ref 61, .ref 75, .ref 81, .ref 83, .ref 84])) := id rfl
theorem hg_5 (h : Nat → List Int32) : pm_hg (mk h) 5 = some (.inl (2, [.ref 6, .ref 20, .int (gd (h 5) 0), .int (gd (h 5) 1), .ref 21, .ref 25, .ref 29])) := id rfl
theorem hg_6 (h : Nat → List Int32) : pm_hg (mk h) 6 = some (.inl (5, [.ref 7, .ref 11, .ref 17, .ref 18, .int (gd (h 6) 0), .int (gd (h 6) 1), .int (gd (h 6) 2), .ref 19])) := id rfl
theorem hg_7 (h : Nat → List Int32) : pm_hg (mk h) 7 = some (.inl (1, [.ref 8, .ref 9, .ref 10, .int (gd (h 7) 0), .int (gd (h 7) 1), .int (gd (h 7) 2)])) := id rfl
theorem hg_8 (h : Nat → List Int32) : pm_hg (mk h) 8 = some (.inr (0, h 8)) := id rfl
theorem hg_9 (h : Nat → List Int32) : pm_hg (mk h) 9 = some (.inr (0, h 9)) := id rfl
theorem hg_10 (h : Nat → List Int32) : pm_hg (mk h) 10 = some (.inr (0, h 10)) := id rfl
theorem hg_11 (h : Nat → List Int32) : pm_hg (mk h) 11 = some (.inl (6, [.ref 12, .ref 13, .ref 14, .ref 15, .ref 16, .int (gd (h 11) 0), .int (gd (h 11) 1)])) := id rfl
theorem hg_12 (h : Nat → List Int32) : pm_hg (mk h) 12 = some (.inr (0, h 12)) := id rfl
theorem hg_13 (h : Nat → List Int32) : pm_hg (mk h) 13 = some (.inr (0, h 13)) := id rfl
theorem hg_14 (h : Nat → List Int32) : pm_hg (mk h) 14 = some (.inr (0, h 14)) := id rfl
theorem hg_15 (h : Nat → List Int32) : pm_hg (mk h) 15 = some (.inr (0, h 15)) := id rfl
theorem hg_16 (h : Nat → List Int32) : pm_hg (mk h) 16 = some (.inr (0, h 16)) := id rfl
theorem hg_17 (h : Nat → List Int32) : pm_hg (mk h) 17 = some (.inr (0, h 17)) := id rfl
theorem hg_18 (h : Nat → List Int32) : pm_hg (mk h) 18 = some (.inr (0, h 18)) := id rfl
theorem hg_19 (h : Nat → List Int32) : pm_hg (mk h) 19 = some (.inr (0, h 19)) := id rfl
theorem hg_20 (h : Nat → List Int32) : pm_hg (mk h) 20 = some (.inr (0, h 20)) := id rfl
theorem hg_21 (h : Nat → List Int32) : pm_hg (mk h) 21 = some (.inl (4, [.ref 22, .ref 23, .ref 24, .int (gd (h 21) 0)])) := id rfl
theorem hg_22 (h : Nat → List Int32) : pm_hg (mk h) 22 = some (.inr (0, h 22)) := id rfl
theorem hg_23 (h : Nat → List Int32) : pm_hg (mk h) 23 = some (.inr (0, h 23)) := id rfl
theorem hg_24 (h : Nat → List Int32) : pm_hg (mk h) 24 = some (.inr (0, h 24)) := id rfl
theorem hg_25 (h : Nat → List Int32) : pm_hg (mk h) 25 = some (.inl (4, [.ref 26, .ref 27, .ref 28, .int (gd (h 25) 0)])) := id rfl
theorem hg_26 (h : Nat → List Int32) : pm_hg (mk h) 26 = some (.inr (0, h 26)) := id rfl
theorem hg_27 (h : Nat → List Int32) : pm_hg (mk h) 27 = some (.inr (0, h 27)) := id rfl
theorem hg_28 (h : Nat → List Int32) : pm_hg (mk h) 28 = some (.inr (0, h 28)) := id rfl
theorem hg_29 (h : Nat → List Int32) : pm_hg (mk h) 29 = some (.inl (4, [.ref 30, .ref 31, .ref 32, .int (gd (h 29) 0)])) := id rfl
theorem hg_30 (h : Nat → List Int32) : pm_hg (mk h) 30 = some (.inr (0, h 30)) := id rfl
theorem hg_31 (h : Nat → List Int32) : pm_hg (mk h) 31 = some (.inr (0, h 31)) := id rfl
theorem hg_32 (h : Nat → List Int32) : pm_hg (mk h) 32 = some (.inr (0, h 32)) := id rfl
theorem hg_33 (h : Nat → List Int32) : pm_hg (mk h) 33 = some (.inl (2, [.ref 34, .ref 48, .int (gd (h 33) 0), .int (gd (h 33) 1), .ref 49, .ref 53, .ref 57])) := id rfl
theorem hg_34 (h : Nat → List Int32) : pm_hg (mk h) 34 = some (.inl (5, [.ref 35, .ref 39, .ref 45, .ref 46, .int (gd (h 34) 0), .int (gd (h 34) 1), .int (gd (h 34) 2), .ref 47])) := id rfl
theorem hg_35 (h : Nat → List Int32) : pm_hg (mk h) 35 = some (.inl (1, [.ref 36, .ref 37, .ref 38, .int (gd (h 35) 0), .int (gd (h 35) 1), .int (gd (h 35) 2)])) := id rfl
theorem hg_36 (h : Nat → List Int32) : pm_hg (mk h) 36 = some (.inr (0, h 36)) := id rfl
theorem hg_37 (h : Nat → List Int32) : pm_hg (mk h) 37 = some (.inr (0, h 37)) := id rfl
theorem hg_38 (h : Nat → List Int32) : pm_hg (mk h) 38 = some (.inr (0, h 38)) := id rfl
theorem hg_39 (h : Nat → List Int32) : pm_hg (mk h) 39 = some (.inl (6, [.ref 40, .ref 41, .ref 42, .ref 43, .ref 44, .int (gd (h 39) 0), .int (gd (h 39) 1)])) := id rfl
theorem hg_40 (h : Nat → List Int32) : pm_hg (mk h) 40 = some (.inr (0, h 40)) := id rfl
theorem hg_41 (h : Nat → List Int32) : pm_hg (mk h) 41 = some (.inr (0, h 41)) := id rfl
theorem hg_42 (h : Nat → List Int32) : pm_hg (mk h) 42 = some (.inr (0, h 42)) := id rfl
theorem hg_43 (h : Nat → List Int32) : pm_hg (mk h) 43 = some (.inr (0, h 43)) := id rfl
theorem hg_44 (h : Nat → List Int32) : pm_hg (mk h) 44 = some (.inr (0, h 44)) := id rfl
theorem hg_45 (h : Nat → List Int32) : pm_hg (mk h) 45 = some (.inr (0, h 45)) := id rfl
theorem hg_46 (h : Nat → List Int32) : pm_hg (mk h) 46 = some (.inr (0, h 46)) := id rfl
theorem hg_47 (h : Nat → List Int32) : pm_hg (mk h) 47 = some (.inr (0, h 47)) := id rfl
theorem hg_48 (h : Nat → List Int32) : pm_hg (mk h) 48 = some (.inr (0, h 48)) := id rfl
theorem hg_49 (h : Nat → List Int32) : pm_hg (mk h) 49 = some (.inl (4, [.ref 50, .ref 51, .ref 52, .int (gd (h 49) 0)])) := id rfl
theorem hg_50 (h : Nat → List Int32) : pm_hg (mk h) 50 = some (.inr (0, h 50)) := id rfl
theorem hg_51 (h : Nat → List Int32) : pm_hg (mk h) 51 = some (.inr (0, h 51)) := id rfl
theorem hg_52 (h : Nat → List Int32) : pm_hg (mk h) 52 = some (.inr (0, h 52)) := id rfl
theorem hg_53 (h : Nat → List Int32) : pm_hg (mk h) 53 = some (.inl (4, [.ref 54, .ref 55, .ref 56, .int (gd (h 53) 0)])) := id rfl
theorem hg_54 (h : Nat → List Int32) : pm_hg (mk h) 54 = some (.inr (0, h 54)) := id rfl
theorem hg_55 (h : Nat → List Int32) : pm_hg (mk h) 55 = some (.inr (0, h 55)) := id rfl
theorem hg_56 (h : Nat → List Int32) : pm_hg (mk h) 56 = some (.inr (0, h 56)) := id rfl
theorem hg_57 (h : Nat → List Int32) : pm_hg (mk h) 57 = some (.inl (4, [.ref 58, .ref 59, .ref 60, .int (gd (h 57) 0)])) := id rfl
theorem hg_58 (h : Nat → List Int32) : pm_hg (mk h) 58 = some (.inr (0, h 58)) := id rfl
theorem hg_59 (h : Nat → List Int32) : pm_hg (mk h) 59 = some (.inr (0, h 59)) := id rfl
theorem hg_60 (h : Nat → List Int32) : pm_hg (mk h) 60 = some (.inr (0, h 60)) := id rfl
theorem hg_61 (h : Nat → List Int32) : pm_hg (mk h) 61 = some (.inl (5, [.ref 62, .ref 66, .ref 72, .ref 73, .int (gd (h 61) 0), .int (gd (h 61) 1), .int (gd (h 61) 2), .ref 74])) := id rfl
theorem hg_62 (h : Nat → List Int32) : pm_hg (mk h) 62 = some (.inl (1, [.ref 63, .ref 64, .ref 65, .int (gd (h 62) 0), .int (gd (h 62) 1), .int (gd (h 62) 2)])) := id rfl
theorem hg_63 (h : Nat → List Int32) : pm_hg (mk h) 63 = some (.inr (0, h 63)) := id rfl
theorem hg_64 (h : Nat → List Int32) : pm_hg (mk h) 64 = some (.inr (0, h 64)) := id rfl
theorem hg_65 (h : Nat → List Int32) : pm_hg (mk h) 65 = some (.inr (0, h 65)) := id rfl
theorem hg_66 (h : Nat → List Int32) : pm_hg (mk h) 66 = some (.inl (6, [.ref 67, .ref 68, .ref 69, .ref 70, .ref 71, .int (gd (h 66) 0), .int (gd (h 66) 1)])) := id rfl
theorem hg_67 (h : Nat → List Int32) : pm_hg (mk h) 67 = some (.inr (0, h 67)) := id rfl
theorem hg_68 (h : Nat → List Int32) : pm_hg (mk h) 68 = some (.inr (0, h 68)) := id rfl
theorem hg_69 (h : Nat → List Int32) : pm_hg (mk h) 69 = some (.inr (0, h 69)) := id rfl
theorem hg_70 (h : Nat → List Int32) : pm_hg (mk h) 70 = some (.inr (0, h 70)) := id rfl
theorem hg_71 (h : Nat → List Int32) : pm_hg (mk h) 71 = some (.inr (0, h 71)) := id rfl
theorem hg_72 (h : Nat → List Int32) : pm_hg (mk h) 72 = some (.inr (0, h 72)) := id rfl
theorem hg_73 (h : Nat → List Int32) : pm_hg (mk h) 73 = some (.inr (0, h 73)) := id rfl
theorem hg_74 (h : Nat → List Int32) : pm_hg (mk h) 74 = some (.inr (0, h 74)) := id rfl
theorem hg_75 (h : Nat → List Int32) : pm_hg (mk h) 75 = some (.inl (3, [.ref 76, .int (gd (h 75) 0), .ref 80, .int (gd (h 75) 1), .int (gd (h 75) 2)])) := id rfl
theorem hg_76 (h : Nat → List Int32) : pm_hg (mk h) 76 = some (.inl (1, [.ref 77, .ref 78, .ref 79, .int (gd (h 76) 0), .int (gd (h 76) 1), .int (gd (h 76) 2)])) := id rfl
theorem hg_77 (h : Nat → List Int32) : pm_hg (mk h) 77 = some (.inr (0, h 77)) := id rfl
theorem hg_78 (h : Nat → List Int32) : pm_hg (mk h) 78 = some (.inr (0, h 78)) := id rfl
theorem hg_79 (h : Nat → List Int32) : pm_hg (mk h) 79 = some (.inr (0, h 79)) := id rfl
theorem hg_80 (h : Nat → List Int32) : pm_hg (mk h) 80 = some (.inr (0, h 80)) := id rfl
theorem hg_81 (h : Nat → List Int32) : pm_hg (mk h) 81 = some (.inl (0, [.ref 82, .int (gd (h 81) 0), .int (gd (h 81) 1), .int (gd (h 81) 2), .int (gd (h 81) 3)])) := id rfl
theorem hg_82 (h : Nat → List Int32) : pm_hg (mk h) 82 = some (.inr (0, h 82)) := id rfl
theorem hg_83 (h : Nat → List Int32) : pm_hg (mk h) 83 = some (.inr (0, h 83)) := id rfl
theorem hg_84 (h : Nat → List Int32) : pm_hg (mk h) 84 = some (.inr (0, h 84)) := id rfl
theorem hg_85 (h : Nat → List Int32) : pm_hg (mk h) 85 = some (.inl (8, [.int (gd (h 85) 0), .ref 86, .ref 87, .ref 88, .int (gd (h 85) 1), .int (gd (h 85) 2), .int (gd (h 85) 3), .int (gd (h 85) 4), .int (gd (h 85) 5), .int (gd (h 85) 6), .ref 89, .ref 90, .ref 91, .ref 92, .int (gd (h 85) 7), .ref 93, .int (gd (h 85) 8), .int (gd (h 85) 9), .int (gd (h 85) 10), .int (gd (h 85) 11)])) := id rfl
theorem hg_86 (h : Nat → List Int32) : pm_hg (mk h) 86 = some (.inr (0, h 86)) := id rfl
theorem hg_87 (h : Nat → List Int32) : pm_hg (mk h) 87 = some (.inr (0, h 87)) := id rfl
theorem hg_88 (h : Nat → List Int32) : pm_hg (mk h) 88 = some (.inr (0, h 88)) := id rfl
theorem hg_89 (h : Nat → List Int32) : pm_hg (mk h) 89 = some (.inr (0, h 89)) := id rfl
theorem hg_90 (h : Nat → List Int32) : pm_hg (mk h) 90 = some (.inr (1, h 90)) := id rfl
theorem hg_91 (h : Nat → List Int32) : pm_hg (mk h) 91 = some (.inr (0, h 91)) := id rfl
theorem hg_92 (h : Nat → List Int32) : pm_hg (mk h) 92 = some (.inr (0, h 92)) := id rfl
theorem hg_93 (h : Nat → List Int32) : pm_hg (mk h) 93 = some (.inr (0, h 93)) := id rfl
theorem hs_4 (h : Nat → List Int32) (a0 : Int32) : pm_hs (mk h) 4 (.inl (7, [.ref 5, .ref 33, .int a0, .ref 61, .ref 75, .ref 81, .ref 83, .ref 84])) = mk (up h 4 [a0]) := id rfl
theorem hs_5 (h : Nat → List Int32) (a0 a1 : Int32) : pm_hs (mk h) 5 (.inl (2, [.ref 6, .ref 20, .int a0, .int a1, .ref 21, .ref 25, .ref 29])) = mk (up h 5 [a0, a1]) := id rfl
theorem hs_6 (h : Nat → List Int32) (a0 a1 a2 : Int32) : pm_hs (mk h) 6 (.inl (5, [.ref 7, .ref 11, .ref 17, .ref 18, .int a0, .int a1, .int a2, .ref 19])) = mk (up h 6 [a0, a1, a2]) := id rfl
theorem hs_7 (h : Nat → List Int32) (a0 a1 a2 : Int32) : pm_hs (mk h) 7 (.inl (1, [.ref 8, .ref 9, .ref 10, .int a0, .int a1, .int a2])) = mk (up h 7 [a0, a1, a2]) := id rfl
theorem hs_8 (h : Nat → List Int32) (l : List Int32) : pm_hs (mk h) 8 (.inr (0, l)) = mk (up h 8 l) := id rfl
theorem hs_9 (h : Nat → List Int32) (l : List Int32) : pm_hs (mk h) 9 (.inr (0, l)) = mk (up h 9 l) := id rfl
theorem hs_10 (h : Nat → List Int32) (l : List Int32) : pm_hs (mk h) 10 (.inr (0, l)) = mk (up h 10 l) := id rfl
theorem hs_11 (h : Nat → List Int32) (a0 a1 : Int32) : pm_hs (mk h) 11 (.inl (6, [.ref 12, .ref 13, .ref 14, .ref 15, .ref 16, .int a0, .int a1])) = mk (up h 11 [a0, a1]) := id rfl
theorem hs_12 (h : Nat → List Int32) (l : List Int32) : pm_hs (mk h) 12 (.inr (0, l)) = mk (up h 12 l) := id rfl
theorem hs_13 (h : Nat → List Int32) (l : List Int32) : pm_hs (mk h) 13 (.inr (0, l)) = mk (up h 13 l) := id rfl
theorem hs_14 (h : Nat → List Int32) (l : List Int32) : pm_hs (mk h) 14 (.inr (0, l)) = mk (up h 14 l) := id rfl
theorem hs_15 (h : Nat → List Int32) (l : List Int32) : pm_hs (mk h) 15 (.inr (0, l)) = mk (up h 15 l) := id rfl
theorem hs_16 (h : Nat → List Int32) (l : List Int32) : pm_hs (mk h) 16 (.inr (0, l)) = mk (up h 16 l) := id rfl
theorem hs_17 (h : Nat → List Int32) (l : List Int32) : pm_hs (mk h) 17 (.inr (0, l)) = mk (up h 17 l) := id rfl
theorem hs_18 (h : Nat → List Int32) (l : List Int32) : pm_hs (mk h) 18 (.inr (0, l)) = mk (up h 18 l) := id rfl
theorem hs_19 (h : Nat → List Int32) (l : List Int32) : pm_hs (mk h) 19 (.inr (0, l)) = mk (up h 19 l) := id rfl
theorem hs_20 (h : Nat → List Int32) (l : List Int32) : pm_hs (mk h) 20 (.inr (0, l)) = mk (up h 20 l) := id rfl
theorem hs_21 (h : Nat → List Int32) (a0 : Int32) : pm_hs (mk h) 21 (.inl (4, [.ref 22, .ref 23, .ref 24, .int a0])) = mk (up h 21 [a0]) := id rfl
theorem hs_22 (h : Nat → List Int32) (l : List Int32) : pm_hs (mk h) 22 (.inr (0, l)) = mk (up h 22 l) := id rfl
theorem hs_23 (h : Nat → List Int32) (l : List Int32) : pm_hs (mk h) 23 (.inr (0, l)) = mk (up h 23 l) := id rfl
theorem hs_24 (h : Nat → List Int32) (l : List Int32) : pm_hs (mk h) 24 (.inr (0, l)) = mk (up h 24 l) := id rfl
theorem hs_25 (h : Nat → List Int32) (a0 : Int32) : pm_hs (mk h) 25 (.inl (4, [.ref 26, .ref 27, .ref 28, .int a0])) = mk (up h 25 [a0]) := id rfl
theorem hs_26 (h : Nat → List Int32) (l : List Int32) : pm_hs (mk h) 26 (.inr (0, l)) = mk (up h 26 l) := id rfl
theorem hs_27 (h : Nat → List Int32) (l : List Int32) : pm_hs (mk h) 27 (.inr (0, l)) = mk (up h 27 l) := id rfl
theorem hs_28 (h : Nat → List Int32) (l : List Int32) : pm_hs (mk h) 28 (.inr (0, l)) = mk (up h 28 l) := id rfl
theorem hs_29 (h : Nat → List Int32) (a0 : Int32) : pm_hs (mk h) 29 (.inl (4, [.ref 30, .ref 31, .ref 32, .int a0])) = mk (up h 29 [a0]) := id rfl
theorem hs_30 (h : Nat → List Int32) (l : List Int32) : pm_hs (mk h) 30 (.inr (0, l)) = mk (up h 30 l) := id rfl
theorem hs_31 (h : Nat → List Int32) (l : List Int32) : pm_hs (mk h) 31 (.inr (0, l)) = mk (up h 31 l) := id rfl
theorem hs_32 (h : Nat → List Int32) (l : List Int32) : pm_hs (mk h) 32 (.inr (0, l)) = mk (up h 32 l) := id rfl
theorem hs_33 (h : Nat → List Int32) (a0 a1 : Int32) : pm_hs (mk h) 33 (.inl (2, [.ref 34, .ref 48, .int a0, .int a1, .ref 49, .ref 53, .ref 57])) = mk (up h 33 [a0, a1]) := id rfl
theorem hs_34 (h : Nat → List Int32) (a0 a1 a2 : Int32) : pm_hs (mk h) 34 (.inl (5, [.ref 35, .ref 39, .ref 45, .ref 46, .int a0, .int a1, .int a2, .ref 47])) = mk (up h 34 [a0, a1, a2]) := id rfl
theorem hs_35 (h : Nat → List Int32) (a0 a1 a2 : Int32) : pm_hs (mk h) 35 (.inl (1, [.ref 36, .ref 37, .ref 38, .int a0, .int a1, .int a2])) = mk (up h 35 [a0, a1, a2]) := id rfl
theorem hs_36 (h : Nat → List Int32) (l : List Int32) : pm_hs (mk h) 36 (.inr (0, l)) = mk (up h 36 l) := id rfl
theorem hs_37 (h : Nat → List Int32) (l : List Int32) : pm_hs (mk h) 37 (.inr (0, l)) = mk (up h 37 l) := id rfl
theorem hs_38 (h : Nat → List Int32) (l : List Int32) : pm_hs (mk h) 38 (.inr (0, l)) = mk (up h 38 l) := id rfl
theorem hs_39 (h : Nat → List Int32) (a0 a1 : Int32) : pm_hs (mk h) 39 (.inl (6, [.ref 40, .ref 41, .ref 42, .ref 43, .ref 44, .int a0, .int a1])) = mk (up h 39 [a0, a1]) := id rfl
theorem hs_40 (h : Nat → List Int32) (l : List Int32) : pm_hs (mk h) 40 (.inr (0, l)) = mk (up h 40 l) := id rfl
theorem hs_41 (h : Nat → List Int32) (l : List Int32) : pm_hs (mk h) 41 (.inr (0, l)) = mk (up h 41 l) := id rfl
theorem hs_42 (h : Nat → List Int32) (l : List Int32) : pm_hs (mk h) 42 (.inr (0, l)) = mk (up h 42 l) := id rfl
theorem hs_43 (h : Nat → List Int32) (l : List Int32) : pm_hs (mk h) 43 (.inr (0, l)) = mk (up h 43 l) := id rfl
theorem hs_44 (h : Nat → List Int32) (l : List Int32) : pm_hs (mk h) 44 (.inr (0, l)) = mk (up h 44 l) := id rfl
theorem hs_45 (h : Nat → List Int32) (l : List Int32) : pm_hs (mk h) 45 (.inr (0, l)) = mk (up h 45 l) := id rfl
theorem hs_46 (h : Nat → List Int32) (l : List Int32) : pm_hs (mk h) 46 (.inr (0, l)) = mk (up h 46 l) := id rfl
theorem hs_47 (h : Nat → List Int32) (l : List Int32) : pm_hs (mk h) 47 (.inr (0, l)) = mk (up h 47 l) := id rfl
theorem hs_48 (h : Nat → List Int32) (l : List Int32) : pm_hs (mk h) 48 (.inr (0, l)) = mk (up h 48 l) := id rfl
theorem hs_49 (h : Nat → List Int32) (a0 : Int32) : pm_hs (mk h) 49 (.inl (4, [.ref 50, .ref 51, .ref 52, .int a0])) = mk (up h 49 [a0]) := id rfl
theorem hs_50 (h : Nat → List Int32) (l : List Int32) : pm_hs (mk h) 50 (.inr (0, l)) = mk (up h 50 l) := id rfl
theorem hs_51 (h : Nat → List Int32) (l : List Int32) : pm_hs (mk h) 51 (.inr (0, l)) = mk (up h 51 l) := id rfl
theorem hs_52 (h : Nat → List Int32) (l : List Int32) : pm_hs (mk h) 52 (.inr (0, l)) = mk (up h 52 l) := id rfl
theorem hs_53 (h : Nat → List Int32) (a0 : Int32) : pm_hs (mk h) 53 (.inl (4, [.ref 54, .ref 55, .ref 56, .int a0])) = mk (up h 53 [a0]) := id rfl
theorem hs_54 (h : Nat → List Int32) (l : List Int32) : pm_hs (mk h) 54 (.inr (0, l)) = mk (up h 54 l) := id rfl
theorem hs_55 (h : Nat → List Int32) (l : List Int32) : pm_hs (mk h) 55 (.inr (0, l)) = mk (up h 55 l) := id rfl
theorem hs_56 (h : Nat → List Int32) (l : List Int32) : pm_hs (mk h) 56 (.inr (0, l)) = mk (up h 56 l) := id rfl
theorem hs_57 (h : Nat → List Int32) (a0 : Int32) : pm_hs (mk h) 57 (.inl (4, [.ref 58, .ref 59, .ref 60, .int a0])) = mk (up h 57 [a0]) := id rfl
theorem hs_58 (h : Nat → List Int32) (l : List Int32) : pm_hs (mk h) 58 (.inr (0, l)) = mk (up h 58 l) := id rfl
theorem hs_59 (h : Nat → List Int32) (l : List Int32) : pm_hs (mk h) 59 (.inr (0, l)) = mk (up h 59 l) := id rfl
theorem hs_60 (h : Nat → List Int32) (l : List Int32) : pm_hs (mk h) 60 (.inr (0, l)) = mk (up h 60 l) := id rfl
theorem hs_61 (h : Nat → List Int32) (a0 a1 a2 : Int32) : pm_hs (mk h) 61 (.inl (5, [.ref 62, .ref 66, .ref 72, .ref 73, .int a0, .int a1, .int a2, .ref 74])) = mk (up h 61 [a0, a1, a2]) := id rfl
theorem hs_62 (h : Nat → List Int32) (a0 a1 a2 : Int32) : pm_hs (mk h) 62 (.inl (1, [.ref 63, .ref 64, .ref 65, .int a0, .int a1, .int a2])) = mk (up h 62 [a0, a1, a2]) := id rfl
theorem hs_63 (h : Nat → List Int32) (l : List Int32) : pm_hs (mk h) 63 (.inr (0, l)) = mk (up h 63 l) := id rfl
theorem hs_64 (h : Nat → List Int32) (l : List Int32) : pm_hs (mk h) 64 (.inr (0, l)) = mk (up h 64 l) := id rfl
theorem hs_65 (h : Nat → List Int32) (l : List Int32) : pm_hs (mk h) 65 (.inr (0, l)) = mk (up h 65 l) := id rfl
theorem hs_66 (h : Nat → List Int32) (a0 a1 : Int32) : pm_hs (mk h) 66 (.inl (6, [.ref 67, .ref 68, .ref 69, .ref 70, .ref 71, .int a0, .int a1])) = mk (up h 66 [a0, a1]) := id rfl
theorem hs_67 (h : Nat → List Int32) (l : List Int32) : pm_hs (mk h) 67 (.inr (0, l)) = mk (up h 67 l) := id rfl
theorem hs_68 (h : Nat → List Int32) (l : List Int32) : pm_hs (mk h) 68 (.inr (0, l)) = mk (up h 68 l) := id rfl
theorem hs_69 (h : Nat → List Int32) (l : List Int32) : pm_hs (mk h) 69 (.inr (0, l)) = mk (up h 69 l) := id rfl
theorem hs_70 (h : Nat → List Int32) (l : List Int32) : pm_hs (mk h) 70 (.inr (0, l)) = mk (up h 70 l) := id rfl
theorem hs_71 (h : Nat → List Int32) (l : List Int32) : pm_hs (mk h) 71 (.inr (0, l)) = mk (up h 71 l) := id rfl
theorem hs_72 (h : Nat → List Int32) (l : List Int32) : pm_hs (mk h) 72 (.inr (0, l)) = mk (up h 72 l) := id rfl
theorem hs_73 (h : Nat → List Int32) (l : List Int32) : pm_hs (mk h) 73 (.inr (0, l)) = mk (up h 73 l) := id rfl
theorem hs_74 (h : Nat → List Int32) (l : List Int32) : pm_hs (mk h) 74 (.inr (0, l)) = mk (up h 74 l) := id rfl
theorem hs_75 (h : Nat → List Int32) (a0 a1 a2 : Int32) : pm_hs (mk h) 75 (.inl (3, [.ref 76, .int a0, .ref 80, .int a1, .int a2])) = mk (up h 75 [a0, a1, a2]) := id rfl
theorem hs_76 (h : Nat → List Int32) (a0 a1 a2 : Int32) : pm_hs (mk h) 76 (.inl (1, [.ref 77, .ref 78, .ref 79, .int a0, .int a1, .int a2])) = mk (up h 76 [a0, a1, a2]) := id rfl
theorem hs_77 (h : Nat → List Int32) (l : List Int32) : pm_hs (mk h) 77 (.inr (0, l)) = mk (up h 77 l) := id rfl
theorem hs_78 (h : Nat → List Int32) (l : List Int32) : pm_hs (mk h) 78 (.inr (0, l)) = mk (up h 78 l) := id rfl
theorem hs_79 (h : Nat → List Int32) (l : List Int32) : pm_hs (mk h) 79 (.inr (0, l)) = mk (up h 79 l) := id rfl
theorem hs_80 (h : Nat → List Int32) (l : List Int32) : pm_hs (mk h) 80 (.inr (0, l)) = mk (up h 80 l) := id rfl
theorem hs_81 (h : Nat → List Int32) (a0 a1 a2 a3 : Int32) : pm_hs (mk h) 81 (.inl (0, [.ref 82, .int a0, .int a1, .int a2, .int a3])) = mk (up h 81 [a0, a1, a2, a3]) := id rfl
theorem hs_82 (h : Nat → List Int32) (l : List Int32) : pm_hs (mk h) 82 (.inr (0, l)) = mk (up h 82 l) := id rfl
theorem hs_83 (h : Nat → List Int32) (l : List Int32) : pm_hs (mk h) 83 (.inr (0, l)) = mk (up h 83 l) := id rfl
theorem hs_84 (h : Nat → List Int32) (l : List Int32) : pm_hs (mk h) 84 (.inr (0, l)) = mk (up h 84 l) := id rfl
theorem hs_85 (h : Nat → List Int32) (a0 a1 a2 a3 a4 a5 a6 a7 a8 a9 a10 a11 : Int32) : pm_hs (mk h) 85 (.inl (8, [.int a0, .ref 86, .ref 87, .ref 88, .int a1, .int a2, .int a3, .int a4, .int a5, .int a6, .ref 89, .ref 90, .ref 91, .ref 92, .int a7, .ref 93, .int a8, .int a9, .int a10, .int a11])) = mk (up h 85 [a0, a1, a2, a3, a4, a5, a6, a7, a8, a9, a10, a11]) := id rfl
theorem hs_86 (h : Nat → List Int32) (l : List Int32) : pm_hs (mk h) 86 (.inr (0, l)) = mk (up h 86 l) := id rfl
theorem hs_87 (h : Nat → List Int32) (l : List Int32) : pm_hs (mk h) 87 (.inr (0, l)) = mk (up h 87 l) := id rfl
theorem hs_88 (h : Nat → List Int32) (l : List Int32) : pm_hs (mk h) 88 (.inr (0, l)) = mk (up h 88 l) := id rfl
theorem hs_89 (h : Nat → List Int32) (l : List Int32) : pm_hs (mk h) 89 (.inr (0, l)) = mk (up h 89 l) := id rfl
theorem hs_90 (h : Nat → List Int32) (l : List Int32) : pm_hs (mk h) 90 (.inr (1, l)) = mk (up h 90 l) := id rfl
theorem hs_91 (h : Nat → List Int32) (l : List Int32) : pm_hs (mk h) 91 (.inr (0, l)) = mk (up h 91 l) := id rfl
theorem hs_92 (h : Nat → List Int32) (l : List Int32) : pm_hs (mk h) 92 (.inr (0, l)) = mk (up h 92 l) := id rfl
theorem hs_93 (h : Nat → List Int32) (l : List Int32) : pm_hs (mk h) 93 (.inr (0, l)) = mk (up h 93 l) := id rfl
def pm_isA (σ : pm_S) (k : Nat) : Prop := ∃ t xs, pm_hg σ k = some (.inr (t, xs)) ∧ ¬ t = 1
def pm_isW (σ : pm_S) (k : Nat) : Prop := ∃ xs, pm_hg σ k = some (.inr (0, xs))
def pm_ar (σ : pm_S) (k : Nat) : List Int32 := match pm_hg σ k with | some (.inr (_, xs)) => xs | _ => []
theorem ia_0 (h : Nat → List Int32) : pm_isA (mk h) 0 = True := eq_true ⟨_, _, rfl, by decide⟩
theorem ar_0 (h : Nat → List Int32) : pm_ar (mk h) 0 = h 0 := id rfl
theorem ia_1 (h : Nat → List Int32) : pm_isA (mk h) 1 = True := eq_true ⟨_, _, rfl, by decide⟩
theorem ar_1 (h : Nat → List Int32) : pm_ar (mk h) 1 = h 1 := id rfl
theorem ia_2 (h : Nat → List Int32) : pm_isA (mk h) 2 = True := eq_true ⟨_, _, rfl, by decide⟩
theorem ar_2 (h : Nat → List Int32) : pm_ar (mk h) 2 = h 2 := id rfl
theorem ia_3 (h : Nat → List Int32) : pm_isA (mk h) 3 = True := eq_true ⟨_, _, rfl, by decide⟩
theorem ar_3 (h : Nat → List Int32) : pm_ar (mk h) 3 = h 3 := id rfl
theorem ia_8 (h : Nat → List Int32) : pm_isA (mk h) 8 = True := eq_true ⟨_, _, rfl, by decide⟩
theorem iw_8 (h : Nat → List Int32) : pm_isW (mk h) 8 = True := eq_true ⟨_, rfl⟩
theorem ar_8 (h : Nat → List Int32) : pm_ar (mk h) 8 = h 8 := id rfl
theorem ia_9 (h : Nat → List Int32) : pm_isA (mk h) 9 = True := eq_true ⟨_, _, rfl, by decide⟩
theorem iw_9 (h : Nat → List Int32) : pm_isW (mk h) 9 = True := eq_true ⟨_, rfl⟩
theorem ar_9 (h : Nat → List Int32) : pm_ar (mk h) 9 = h 9 := id rfl
theorem ia_10 (h : Nat → List Int32) : pm_isA (mk h) 10 = True := eq_true ⟨_, _, rfl, by decide⟩
theorem iw_10 (h : Nat → List Int32) : pm_isW (mk h) 10 = True := eq_true ⟨_, rfl⟩
theorem ar_10 (h : Nat → List Int32) : pm_ar (mk h) 10 = h 10 := id rfl
theorem ia_12 (h : Nat → List Int32) : pm_isA (mk h) 12 = True := eq_true ⟨_, _, rfl, by decide⟩
theorem iw_12 (h : Nat → List Int32) : pm_isW (mk h) 12 = True := eq_true ⟨_, rfl⟩
theorem ar_12 (h : Nat → List Int32) : pm_ar (mk h) 12 = h 12 := id rfl
theorem ia_13 (h : Nat → List Int32) : pm_isA (mk h) 13 = True := eq_true ⟨_, _, rfl, by decide⟩
theorem iw_13 (h : Nat → List Int32) : pm_isW (mk h) 13 = True := eq_true ⟨_, rfl⟩
theorem ar_13 (h : Nat → List Int32) : pm_ar (mk h) 13 = h 13 := id rfl
theorem ia_14 (h : Nat → List Int32) : pm_isA (mk h) 14 = True := eq_true ⟨_, _, rfl, by decide⟩
theorem iw_14 (h : Nat → List Int32) : pm_isW (mk h) 14 = True := eq_true ⟨_, rfl⟩
theorem ar_14 (h : Nat → List Int32) : pm_ar (mk h) 14 = h 14 := id rfl
theorem ia_15 (h : Nat → List Int32) : pm_isA (mk h) 15 = True := eq_true ⟨_, _, rfl, by decide⟩
theorem iw_15 (h : Nat → List Int32) : pm_isW (mk h) 15 = True := eq_true ⟨_, rfl⟩
theorem ar_15 (h : Nat → List Int32) : pm_ar (mk h) 15 = h 15 := id rfl
theorem ia_16 (h : Nat → List Int32) : pm_isA (mk h) 16 = True := eq_true ⟨_, _, rfl, by decide⟩
theorem iw_16 (h : Nat → List Int32) : pm_isW (mk h) 16 = True := eq_true ⟨_, rfl⟩
theorem ar_16 (h : Nat → List Int32) : pm_ar (mk h) 16 = h 16 := id rfl
theorem ia_17 (h : Nat → List Int32) : pm_isA (mk h) 17 = True := eq_true ⟨_, _, rfl, by decide⟩
theorem iw_17 (h : Nat → List Int32) : pm_isW (mk h) 17 = True := eq_true ⟨_, rfl⟩
theorem ar_17 (h : Nat → List Int32) : pm_ar (mk h) 17 = h 17 := id rfl
theorem ia_18 (h : Nat → List Int32) : pm_isA (mk h) 18 = True := eq_true ⟨_, _, rfl, by decide⟩
theorem iw_18 (h : Nat → List Int32) : pm_isW (mk h) 18 = True := eq_true ⟨_, rfl⟩
theorem ar_18 (h : Nat → List Int32) : pm_ar (mk h) 18 = h 18 := id rfl
theorem ia_19 (h : Nat → List Int32) : pm_isA (mk h) 19 = True := eq_true ⟨_, _, rfl, by decide⟩
theorem iw_19 (h : Nat → List Int32) : pm_isW (mk h) 19 = True := eq_true ⟨_, rfl⟩
theorem ar_19 (h : Nat → List Int32) : pm_ar (mk h) 19 = h 19 := id rfl
theorem ia_20 (h : Nat → List Int32) : pm_isA (mk h) 20 = True := eq_true ⟨_, _, rfl, by decide⟩
theorem iw_20 (h : Nat → List Int32) : pm_isW (mk h) 20 = True := eq_true ⟨_, rfl⟩
theorem ar_20 (h : Nat → List Int32) : pm_ar (mk h) 20 = h 20 := id rfl
theorem ia_22 (h : Nat → List Int32) : pm_isA (mk h) 22 = True := eq_true ⟨_, _, rfl, by decide⟩
theorem iw_22 (h : Nat → List Int32) : pm_isW (mk h) 22 = True := eq_true ⟨_, rfl⟩
theorem ar_22 (h : Nat → List Int32) : pm_ar (mk h) 22 = h 22 := id rfl
theorem ia_23 (h : Nat → List Int32) : pm_isA (mk h) 23 = True := eq_true ⟨_, _, rfl, by decide⟩
theorem iw_23 (h : Nat → List Int32) : pm_isW (mk h) 23 = True := eq_true ⟨_, rfl⟩
theorem ar_23 (h : Nat → List Int32) : pm_ar (mk h) 23 = h 23 := id rfl
theorem ia_24 (h : Nat → List Int32) : pm_isA (mk h) 24 = True := eq_true ⟨_, _, rfl, by decide⟩
theorem iw_24 (h : Nat → List Int32) : pm_isW (mk h) 24 = True := eq_true ⟨_, rfl⟩
theorem ar_24 (h : Nat → List Int32) : pm_ar (mk h) 24 = h 24 := id rfl
theorem ia_26 (h : Nat → List Int32) : pm_isA (mk h) 26 = True := eq_true ⟨_, _, rfl, by decide⟩
theorem iw_26 (h : Nat → List Int32) : pm_isW (mk h) 26 = True := eq_true ⟨_, rfl⟩
theorem ar_26 (h : Nat → List Int32) : pm_ar (mk h) 26 = h 26 := id rfl
theorem ia_27 (h : Nat → List Int32) : pm_isA (mk h) 27 = True := eq_true ⟨_, _, rfl, by decide⟩
theorem iw_27 (h : Nat → List Int32) : pm_isW (mk h) 27 = True := eq_true ⟨_, rfl⟩
theorem ar_27 (h : Nat → List Int32) : pm_ar (mk h) 27 = h 27 := id rfl
theorem ia_28 (h : Nat → List Int32) : pm_isA (mk h) 28 = True := eq_true ⟨_, _, rfl, by decide⟩
theorem iw_28 (h : Nat → List Int32) : pm_isW (mk h) 28 = True := eq_true ⟨_, rfl⟩
theorem ar_28 (h : Nat → List Int32) : pm_ar (mk h) 28 = h 28 := id rfl
theorem ia_30 (h : Nat → List Int32) : pm_isA (mk h) 30 = True := eq_true ⟨_, _, rfl, by decide⟩
theorem iw_30 (h : Nat → List Int32) : pm_isW (mk h) 30 = True := eq_true ⟨_, rfl⟩
theorem ar_30 (h : Nat → List Int32) : pm_ar (mk h) 30 = h 30 := id rfl
theorem ia_31 (h : Nat → List Int32) : pm_isA (mk h) 31 = True := eq_true ⟨_, _, rfl, by decide⟩
theorem iw_31 (h : Nat → List Int32) : pm_isW (mk h) 31 = True := eq_true ⟨_, rfl⟩
theorem ar_31 (h : Nat → List Int32) : pm_ar (mk h) 31 = h 31 := id rfl
theorem ia_32 (h : Nat → List Int32) : pm_isA (mk h) 32 = True := eq_true ⟨_, _, rfl, by decide⟩
theorem iw_32 (h : Nat → List Int32) : pm_isW (mk h) 32 = True := eq_true ⟨_, rfl⟩
theorem ar_32 (h : Nat → List Int32) : pm_ar (mk h) 32 = h 32 := id rfl
theorem ia_36 (h : Nat → List Int32) : pm_isA (mk h) 36 = True := eq_true ⟨_, _, rfl, by decide⟩
theorem iw_36 (h : Nat → List Int32) : pm_isW (mk h) 36 = True := eq_true ⟨_, rfl⟩
theorem ar_36 (h : Nat → List Int32) : pm_ar (mk h) 36 = h 36 := id rfl
theorem ia_37 (h : Nat → List Int32) : pm_isA (mk h) 37 = True := eq_true ⟨_, _, rfl, by decide⟩
theorem iw_37 (h : Nat → List Int32) : pm_isW (mk h) 37 = True := eq_true ⟨_, rfl⟩
theorem ar_37 (h : Nat → List Int32) : pm_ar (mk h) 37 = h 37 := id rfl
theorem ia_38 (h : Nat → List Int32) : pm_isA (mk h) 38 = True := eq_true ⟨_, _, rfl, by decide⟩
theorem iw_38 (h : Nat → List Int32) : pm_isW (mk h) 38 = True := eq_true ⟨_, rfl⟩
theorem ar_38 (h : Nat → List Int32) : pm_ar (mk h) 38 = h 38 := id rfl
theorem ia_40 (h : Nat → List Int32) : pm_isA (mk h) 40 = True := eq_true ⟨_, _, rfl, by decide⟩
theorem iw_40 (h : Nat → List Int32) : pm_isW (mk h) 40 = True := eq_true ⟨_, rfl⟩
theorem ar_40 (h : Nat → List Int32) : pm_ar (mk h) 40 = h 40 := id rfl
theorem ia_41 (h : Nat → List Int32) : pm_isA (mk h) 41 = True := eq_true ⟨_, _, rfl, by decide⟩
theorem iw_41 (h : Nat → List Int32) : pm_isW (mk h) 41 = True := eq_true ⟨_, rfl⟩
theorem ar_41 (h : Nat → List Int32) : pm_ar (mk h) 41 = h 41 := id rfl
theorem ia_42 (h : Nat → List Int32) : pm_isA (mk h) 42 = True := eq_true ⟨_, _, rfl, by decide⟩
theorem iw_42 (h : Nat → List Int32) : pm_isW (mk h) 42 = True := eq_true ⟨_, rfl⟩
theorem ar_42 (h : Nat → List Int32) : pm_ar (mk h) 42 = h 42 := id rfl
theorem ia_43 (h : Nat → List Int32) : pm_isA (mk h) 43 = True := eq_true ⟨_, _, rfl, by decide⟩
theorem iw_43 (h : Nat → List Int32) : pm_isW (mk h) 43 = True := eq_true ⟨_, rfl⟩
theorem ar_43 (h : Nat → List Int32) : pm_ar (mk h) 43 = h 43 := id rfl
theorem ia_44 (h : Nat → List Int32) : pm_isA (mk h) 44 = True := eq_true ⟨_, _, rfl, by decide⟩
theorem iw_44 (h : Nat → List Int32) : pm_isW (mk h) 44 = True := eq_true ⟨_, rfl⟩
theorem ar_44 (h : Nat → List Int32) : pm_ar (mk h) 44 = h 44 := id rfl
theorem ia_45 (h : Nat → List Int32) : pm_isA (mk h) 45 = True := eq_true ⟨_, _, rfl, by decide⟩
theorem iw_45 (h : Nat → List Int32) : pm_isW (mk h) 45 = True := eq_true ⟨_, rfl⟩
theorem ar_45 (h : Nat → List Int32) : pm_ar (mk h) 45 = h 45 := id rfl
theorem ia_46 (h : Nat → List Int32) : pm_isA (mk h) 46 = True := eq_true ⟨_, _, rfl, by decide⟩
theorem iw_46 (h : Nat → List Int32) : pm_isW (mk h) 46 = True := eq_true ⟨_, rfl⟩
theorem ar_46 (h : Nat → List Int32) : pm_ar (mk h) 46 = h 46 := id rfl
theorem ia_47 (h : Nat → List Int32) : pm_isA (mk h) 47 = True := eq_true ⟨_, _, rfl, by decide⟩
theorem iw_47 (h : Nat → List Int32) : pm_isW (mk h) 47 = True := eq_true ⟨_, rfl⟩
theorem ar_47 (h : Nat → List Int32) : pm_ar (mk h) 47 = h 47 := id rfl
theorem ia_48 (h : Nat → List Int32) : pm_isA (mk h) 48 = True := eq_true ⟨_, _, rfl, by decide⟩
theorem iw_48 (h : Nat → List Int32) : pm_isW (mk h) 48 = True := eq_true ⟨_, rfl⟩
theorem ar_48 (h : Nat → List Int32) : pm_ar (mk h) 48 = h 48 := id rfl
theorem ia_50 (h : Nat → List Int32) : pm_isA (mk h) 50 = True := eq_true ⟨_, _, rfl, by decide⟩
theorem iw_50 (h : Nat → List Int32) : pm_isW (mk h) 50 = True := eq_true ⟨_, rfl⟩
theorem ar_50 (h : Nat → List Int32) : pm_ar (mk h) 50 = h 50 := id rfl
theorem ia_51 (h : Nat → List Int32) : pm_isA (mk h) 51 = True := eq_true ⟨_, _, rfl, by decide⟩
theorem iw_51 (h : Nat → List Int32) : pm_isW (mk h) 51 = True := eq_true ⟨_, rfl⟩
theorem ar_51 (h : Nat → List Int32) : pm_ar (mk h) 51 = h 51 := id rfl
theorem ia_52 (h : Nat → List Int32) : pm_isA (mk h) 52 = True := eq_true ⟨_, _, rfl, by decide⟩
theorem iw_52 (h : Nat → List Int32) : pm_isW (mk h) 52 = True := eq_true ⟨_, rfl⟩
theorem ar_52 (h : Nat → List Int32) : pm_ar (mk h) 52 = h 52 := id rfl
theorem ia_54 (h : Nat → List Int32) : pm_isA (mk h) 54 = True := eq_true ⟨_, _, rfl, by decide⟩
theorem iw_54 (h : Nat → List Int32) : pm_isW (mk h) 54 = True := eq_true ⟨_, rfl⟩
theorem ar_54 (h : Nat → List Int32) : pm_ar (mk h) 54 = h 54 := id rfl
theorem ia_55 (h : Nat → List Int32) : pm_isA (mk h) 55 = True := eq_true ⟨_, _, rfl, by decide⟩
theorem iw_55 (h : Nat → List Int32) : pm_isW (mk h) 55 = True := eq_true ⟨_, rfl⟩
theorem ar_55 (h : Nat → List Int32) : pm_ar (mk h) 55 = h 55 := id rfl
theorem ia_56 (h : Nat → List Int32) : pm_isA (mk h) 56 = True := eq_true ⟨_, _, rfl, by decide⟩
theorem iw_56 (h : Nat → List Int32) : pm_isW (mk h) 56 = True := eq_true ⟨_, rfl⟩
theorem ar_56 (h : Nat → List Int32) : pm_ar (mk h) 56 = h 56 := id rfl
theorem ia_58 (h : Nat → List Int32) : pm_isA (mk h) 58 = True := eq_true ⟨_, _, rfl, by decide⟩
theorem iw_58 (h : Nat → List Int32) : pm_isW (mk h) 58 = True := eq_true ⟨_, rfl⟩
theorem ar_58 (h : Nat → List Int32) : pm_ar (mk h) 58 = h 58 := id rfl
theorem ia_59 (h : Nat → List Int32) : pm_isA (mk h) 59 = True := eq_true ⟨_, _, rfl, by decide⟩
theorem iw_59 (h : Nat → List Int32) : pm_isW (mk h) 59 = True := eq_true ⟨_, rfl⟩
theorem ar_59 (h : Nat → List Int32) : pm_ar (mk h) 59 = h 59 := id rfl
theorem ia_60 (h : Nat → List Int32) : pm_isA (mk h) 60 = True := eq_true ⟨_, _, rfl, by decide⟩
theorem iw_60 (h : Nat → List Int32) : pm_isW (mk h) 60 = True := eq_true ⟨_, rfl⟩
theorem ar_60 (h : Nat → List Int32) : pm_ar (mk h) 60 = h 60 := id rfl
theorem ia_63 (h : Nat → List Int32) : pm_isA (mk h) 63 = True := eq_true ⟨_, _, rfl, by decide⟩
theorem iw_63 (h : Nat → List Int32) : pm_isW (mk h) 63 = True := eq_true ⟨_, rfl⟩
theorem ar_63 (h : Nat → List Int32) : pm_ar (mk h) 63 = h 63 := id rfl
theorem ia_64 (h : Nat → List Int32) : pm_isA (mk h) 64 = True := eq_true ⟨_, _, rfl, by decide⟩
theorem iw_64 (h : Nat → List Int32) : pm_isW (mk h) 64 = True := eq_true ⟨_, rfl⟩
theorem ar_64 (h : Nat → List Int32) : pm_ar (mk h) 64 = h 64 := id rfl
theorem ia_65 (h : Nat → List Int32) : pm_isA (mk h) 65 = True := eq_true ⟨_, _, rfl, by decide⟩
theorem iw_65 (h : Nat → List Int32) : pm_isW (mk h) 65 = True := eq_true ⟨_, rfl⟩
theorem ar_65 (h : Nat → List Int32) : pm_ar (mk h) 65 = h 65 := id rfl
theorem ia_67 (h : Nat → List Int32) : pm_isA (mk h) 67 = True := eq_true ⟨_, _, rfl, by decide⟩
theorem iw_67 (h : Nat → List Int32) : pm_isW (mk h) 67 = True := eq_true ⟨_, rfl⟩
theorem ar_67 (h : Nat → List Int32) : pm_ar (mk h) 67 = h 67 := id rfl
theorem ia_68 (h : Nat → List Int32) : pm_isA (mk h) 68 = True := eq_true ⟨_, _, rfl, by decide⟩
theorem iw_68 (h : Nat → List Int32) : pm_isW (mk h) 68 = True := eq_true ⟨_, rfl⟩
theorem ar_68 (h : Nat → List Int32) : pm_ar (mk h) 68 = h 68 := id rfl
theorem ia_69 (h : Nat → List Int32) : pm_isA (mk h) 69 = True := eq_true ⟨_, _, rfl, by decide⟩
theorem iw_69 (h : Nat → List Int32) : pm_isW (mk h) 69 = True := eq_true ⟨_, rfl⟩
theorem ar_69 (h : Nat → List Int32) : pm_ar (mk h) 69 = h 69 := id rfl
theorem ia_70 (h : Nat → List Int32) : pm_isA (mk h) 70 = True := eq_true ⟨_, _, rfl, by decide⟩
theorem iw_70 (h : Nat → List Int32) : pm_isW (mk h) 70 = True := eq_true ⟨_, rfl⟩
theorem ar_70 (h : Nat → List Int32) : pm_ar (mk h) 70 = h 70 := id rfl
theorem ia_71 (h : Nat → List Int32) : pm_isA (mk h) 71 = True := eq_true ⟨_, _, rfl, by decide⟩
theorem iw_71 (h : Nat → List Int32) : pm_isW (mk h) 71 = True := eq_true ⟨_, rfl⟩
theorem ar_71 (h : Nat → List Int32) : pm_ar (mk h) 71 = h 71 := id rfl
theorem ia_72 (h : Nat → List Int32) : pm_isA (mk h) 72 = True := eq_true ⟨_, _, rfl, by decide⟩
theorem iw_72 (h : Nat → List Int32) : pm_isW (mk h) 72 = True := eq_true ⟨_, rfl⟩
theorem ar_72 (h : Nat → List Int32) : pm_ar (mk h) 72 = h 72 := id rfl
theorem ia_73 (h : Nat → List Int32) : pm_isA (mk h) 73 = True := eq_true ⟨_, _, rfl, by decide⟩
theorem iw_73 (h : Nat → List Int32) : pm_isW (mk h) 73 = True := eq_true ⟨_, rfl⟩
theorem ar_73 (h : Nat → List Int32) : pm_ar (mk h) 73 = h 73 := id rfl
theorem ia_74 (h : Nat → List Int32) : pm_isA (mk h) 74 = True := eq_true ⟨_, _, rfl, by decide⟩
theorem iw_74 (h : Nat → List Int32) : pm_isW (mk h) 74 = True := eq_true ⟨_, rfl⟩
theorem ar_74 (h : Nat → List Int32) : pm_ar (mk h) 74 = h 74 := id rfl
theorem ia_77 (h : Nat → List Int32) : pm_isA (mk h) 77 = True := eq_true ⟨_, _, rfl, by decide⟩
theorem iw_77 (h : Nat → List Int32) : pm_isW (mk h) 77 = True := eq_true ⟨_, rfl⟩
theorem ar_77 (h : Nat → List Int32) : pm_ar (mk h) 77 = h 77 := id rfl
theorem ia_78 (h : Nat → List Int32) : pm_isA (mk h) 78 = True := eq_true ⟨_, _, rfl, by decide⟩
theorem iw_78 (h : Nat → List Int32) : pm_isW (mk h) 78 = True := eq_true ⟨_, rfl⟩
theorem ar_78 (h : Nat → List Int32) : pm_ar (mk h) 78 = h 78 := id rfl
theorem ia_79 (h : Nat → List Int32) : pm_isA (mk h) 79 = True := eq_true ⟨_, _, rfl, by decide⟩
theorem iw_79 (h : Nat → List Int32) : pm_isW (mk h) 79 = True := eq_true ⟨_, rfl⟩
theorem ar_79 (h : Nat → List Int32) : pm_ar (mk h) 79 = h 79 := id rfl
theorem ia_80 (h : Nat → List Int32) : pm_isA (mk h) 80 = True := eq_true ⟨_, _, rfl, by decide⟩
theorem iw_80 (h : Nat → List Int32) : pm_isW (mk h) 80 = True := eq_true ⟨_, rfl⟩
theorem ar_80 (h : Nat → List Int32) : pm_ar (mk h) 80 = h 80 := id rfl
theorem ia_82 (h : Nat → List Int32) : pm_isA (mk h) 82 = True := eq_true ⟨_, _, rfl, by decide⟩
theorem iw_82 (h : Nat → List Int32) : pm_isW (mk h) 82 = True := eq_true ⟨_, rfl⟩
theorem ar_82 (h : Nat → List Int32) : pm_ar (mk h) 82 = h 82 := id rfl
theorem ia_83 (h : Nat → List Int32) : pm_isA (mk h) 83 = True := eq_true ⟨_, _, rfl, by decide⟩
theorem iw_83 (h : Nat → List Int32) : pm_isW (mk h) 83 = True := eq_true ⟨_, rfl⟩
theorem ar_83 (h : Nat → List Int32) : pm_ar (mk h) 83 = h 83 := id rfl
theorem ia_84 (h : Nat → List Int32) : pm_isA (mk h) 84 = True := eq_true ⟨_, _, rfl, by decide⟩
theorem iw_84 (h : Nat → List Int32) : pm_isW (mk h) 84 = True := eq_true ⟨_, rfl⟩
theorem ar_84 (h : Nat → List Int32) : pm_ar (mk h) 84 = h 84 := id rfl
theorem ia_86 (h : Nat → List Int32) : pm_isA (mk h) 86 = True := eq_true ⟨_, _, rfl, by decide⟩
theorem iw_86 (h : Nat → List Int32) : pm_isW (mk h) 86 = True := eq_true ⟨_, rfl⟩
theorem ar_86 (h : Nat → List Int32) : pm_ar (mk h) 86 = h 86 := id rfl
theorem ia_87 (h : Nat → List Int32) : pm_isA (mk h) 87 = True := eq_true ⟨_, _, rfl, by decide⟩
theorem iw_87 (h : Nat → List Int32) : pm_isW (mk h) 87 = True := eq_true ⟨_, rfl⟩
theorem ar_87 (h : Nat → List Int32) : pm_ar (mk h) 87 = h 87 := id rfl
theorem ia_88 (h : Nat → List Int32) : pm_isA (mk h) 88 = True := eq_true ⟨_, _, rfl, by decide⟩
theorem iw_88 (h : Nat → List Int32) : pm_isW (mk h) 88 = True := eq_true ⟨_, rfl⟩
theorem ar_88 (h : Nat → List Int32) : pm_ar (mk h) 88 = h 88 := id rfl
theorem ia_89 (h : Nat → List Int32) : pm_isA (mk h) 89 = True := eq_true ⟨_, _, rfl, by decide⟩
theorem iw_89 (h : Nat → List Int32) : pm_isW (mk h) 89 = True := eq_true ⟨_, rfl⟩
theorem ar_89 (h : Nat → List Int32) : pm_ar (mk h) 89 = h 89 := id rfl
theorem ar_90 (h : Nat → List Int32) : pm_ar (mk h) 90 = h 90 := id rfl
theorem ia_91 (h : Nat → List Int32) : pm_isA (mk h) 91 = True := eq_true ⟨_, _, rfl, by decide⟩
theorem iw_91 (h : Nat → List Int32) : pm_isW (mk h) 91 = True := eq_true ⟨_, rfl⟩
theorem ar_91 (h : Nat → List Int32) : pm_ar (mk h) 91 = h 91 := id rfl
theorem ia_92 (h : Nat → List Int32) : pm_isA (mk h) 92 = True := eq_true ⟨_, _, rfl, by decide⟩
theorem iw_92 (h : Nat → List Int32) : pm_isW (mk h) 92 = True := eq_true ⟨_, rfl⟩
theorem ar_92 (h : Nat → List Int32) : pm_ar (mk h) 92 = h 92 := id rfl
theorem ia_93 (h : Nat → List Int32) : pm_isA (mk h) 93 = True := eq_true ⟨_, _, rfl, by decide⟩
theorem iw_93 (h : Nat → List Int32) : pm_isW (mk h) 93 = True := eq_true ⟨_, rfl⟩
theorem ar_93 (h : Nat → List Int32) : pm_ar (mk h) 93 = h 93 := id rfl
