/-! FAST ROWS: loads by the locals' shape, fields and elements by the cell, calls with a closed continuation -/
def pm_kk (P : pm_T) (d y pc : Nat) (r : List pm_I) (L : pm_L) (S : List Value) (Q : Option Value → pm_S → Prop) : Option Value → pm_S → Prop := fun v σ => pm_WL P d y pc r L (pm_pu v S) σ Q
section FF
variable {P : pm_T} {d y pc n : Nat} {r : List pm_I} {L : pm_L} {S : List Value} {σ : pm_S} {Q : Option Value → pm_S → Prop} {h : Nat → List Int32}
theorem kk_n : pm_kk P d y pc r L S Q none σ = pm_WL P d y pc r L S σ Q := id rfl
theorem kk_s {v : Value} : pm_kk P d y pc r L S Q (some v) σ = pm_WL P d y pc r L (v :: S) σ Q := id rfl
theorem f_iloadn0 {x : Int32} : pm_WL P d y pc ((.iload_n 0, n) :: r) (some (.int x) :: L) S σ Q = pm_WL P d y (pc + n) r (some (.int x) :: L) (.int x :: S) σ Q := by
  simp only [w_iload0, pm_lget_s, pm_lget_0, pm_oI_s]
theorem f_iloadn1 {a0 : Option Value} {x : Int32} : pm_WL P d y pc ((.iload_n 1, n) :: r) (a0 :: some (.int x) :: L) S σ Q = pm_WL P d y (pc + n) r (a0 :: some (.int x) :: L) (.int x :: S) σ Q := by
  simp only [w_iload1, pm_lget_s, pm_lget_0, pm_oI_s]
theorem f_iloadn2 {a0 a1 : Option Value} {x : Int32} : pm_WL P d y pc ((.iload_n 2, n) :: r) (a0 :: a1 :: some (.int x) :: L) S σ Q = pm_WL P d y (pc + n) r (a0 :: a1 :: some (.int x) :: L) (.int x :: S) σ Q := by
  simp only [w_iload2, pm_lget_s, pm_lget_0, pm_oI_s]
theorem f_iloadn3 {a0 a1 a2 : Option Value} {x : Int32} : pm_WL P d y pc ((.iload_n 3, n) :: r) (a0 :: a1 :: a2 :: some (.int x) :: L) S σ Q = pm_WL P d y (pc + n) r (a0 :: a1 :: a2 :: some (.int x) :: L) (.int x :: S) σ Q := by
  simp only [w_iload3, pm_lget_s, pm_lget_0, pm_oI_s]
theorem f_iload4 {a0 a1 a2 a3 : Option Value} {x : Int32} : pm_WL P d y pc ((.iload 4, n) :: r) (a0 :: a1 :: a2 :: a3 :: some (.int x) :: L) S σ Q = pm_WL P d y (pc + n) r (a0 :: a1 :: a2 :: a3 :: some (.int x) :: L) (.int x :: S) σ Q := by
  simp only [w_iload, pm_lget_s, pm_lget_0, pm_oI_s]
theorem f_iload5 {a0 a1 a2 a3 a4 : Option Value} {x : Int32} : pm_WL P d y pc ((.iload 5, n) :: r) (a0 :: a1 :: a2 :: a3 :: a4 :: some (.int x) :: L) S σ Q = pm_WL P d y (pc + n) r (a0 :: a1 :: a2 :: a3 :: a4 :: some (.int x) :: L) (.int x :: S) σ Q := by
  simp only [w_iload, pm_lget_s, pm_lget_0, pm_oI_s]
theorem f_iload6 {a0 a1 a2 a3 a4 a5 : Option Value} {x : Int32} : pm_WL P d y pc ((.iload 6, n) :: r) (a0 :: a1 :: a2 :: a3 :: a4 :: a5 :: some (.int x) :: L) S σ Q = pm_WL P d y (pc + n) r (a0 :: a1 :: a2 :: a3 :: a4 :: a5 :: some (.int x) :: L) (.int x :: S) σ Q := by
  simp only [w_iload, pm_lget_s, pm_lget_0, pm_oI_s]
theorem f_iload7 {a0 a1 a2 a3 a4 a5 a6 : Option Value} {x : Int32} : pm_WL P d y pc ((.iload 7, n) :: r) (a0 :: a1 :: a2 :: a3 :: a4 :: a5 :: a6 :: some (.int x) :: L) S σ Q = pm_WL P d y (pc + n) r (a0 :: a1 :: a2 :: a3 :: a4 :: a5 :: a6 :: some (.int x) :: L) (.int x :: S) σ Q := by
  simp only [w_iload, pm_lget_s, pm_lget_0, pm_oI_s]
theorem f_iload8 {a0 a1 a2 a3 a4 a5 a6 a7 : Option Value} {x : Int32} : pm_WL P d y pc ((.iload 8, n) :: r) (a0 :: a1 :: a2 :: a3 :: a4 :: a5 :: a6 :: a7 :: some (.int x) :: L) S σ Q = pm_WL P d y (pc + n) r (a0 :: a1 :: a2 :: a3 :: a4 :: a5 :: a6 :: a7 :: some (.int x) :: L) (.int x :: S) σ Q := by
  simp only [w_iload, pm_lget_s, pm_lget_0, pm_oI_s]
theorem f_iload9 {a0 a1 a2 a3 a4 a5 a6 a7 a8 : Option Value} {x : Int32} : pm_WL P d y pc ((.iload 9, n) :: r) (a0 :: a1 :: a2 :: a3 :: a4 :: a5 :: a6 :: a7 :: a8 :: some (.int x) :: L) S σ Q = pm_WL P d y (pc + n) r (a0 :: a1 :: a2 :: a3 :: a4 :: a5 :: a6 :: a7 :: a8 :: some (.int x) :: L) (.int x :: S) σ Q := by
  simp only [w_iload, pm_lget_s, pm_lget_0, pm_oI_s]
theorem f_iload10 {a0 a1 a2 a3 a4 a5 a6 a7 a8 a9 : Option Value} {x : Int32} : pm_WL P d y pc ((.iload 10, n) :: r) (a0 :: a1 :: a2 :: a3 :: a4 :: a5 :: a6 :: a7 :: a8 :: a9 :: some (.int x) :: L) S σ Q = pm_WL P d y (pc + n) r (a0 :: a1 :: a2 :: a3 :: a4 :: a5 :: a6 :: a7 :: a8 :: a9 :: some (.int x) :: L) (.int x :: S) σ Q := by
  simp only [w_iload, pm_lget_s, pm_lget_0, pm_oI_s]
theorem f_iload11 {a0 a1 a2 a3 a4 a5 a6 a7 a8 a9 a10 : Option Value} {x : Int32} : pm_WL P d y pc ((.iload 11, n) :: r) (a0 :: a1 :: a2 :: a3 :: a4 :: a5 :: a6 :: a7 :: a8 :: a9 :: a10 :: some (.int x) :: L) S σ Q = pm_WL P d y (pc + n) r (a0 :: a1 :: a2 :: a3 :: a4 :: a5 :: a6 :: a7 :: a8 :: a9 :: a10 :: some (.int x) :: L) (.int x :: S) σ Q := by
  simp only [w_iload, pm_lget_s, pm_lget_0, pm_oI_s]
theorem f_iload12 {a0 a1 a2 a3 a4 a5 a6 a7 a8 a9 a10 a11 : Option Value} {x : Int32} : pm_WL P d y pc ((.iload 12, n) :: r) (a0 :: a1 :: a2 :: a3 :: a4 :: a5 :: a6 :: a7 :: a8 :: a9 :: a10 :: a11 :: some (.int x) :: L) S σ Q = pm_WL P d y (pc + n) r (a0 :: a1 :: a2 :: a3 :: a4 :: a5 :: a6 :: a7 :: a8 :: a9 :: a10 :: a11 :: some (.int x) :: L) (.int x :: S) σ Q := by
  simp only [w_iload, pm_lget_s, pm_lget_0, pm_oI_s]
theorem f_iload13 {a0 a1 a2 a3 a4 a5 a6 a7 a8 a9 a10 a11 a12 : Option Value} {x : Int32} : pm_WL P d y pc ((.iload 13, n) :: r) (a0 :: a1 :: a2 :: a3 :: a4 :: a5 :: a6 :: a7 :: a8 :: a9 :: a10 :: a11 :: a12 :: some (.int x) :: L) S σ Q = pm_WL P d y (pc + n) r (a0 :: a1 :: a2 :: a3 :: a4 :: a5 :: a6 :: a7 :: a8 :: a9 :: a10 :: a11 :: a12 :: some (.int x) :: L) (.int x :: S) σ Q := by
  simp only [w_iload, pm_lget_s, pm_lget_0, pm_oI_s]
theorem f_iload14 {a0 a1 a2 a3 a4 a5 a6 a7 a8 a9 a10 a11 a12 a13 : Option Value} {x : Int32} : pm_WL P d y pc ((.iload 14, n) :: r) (a0 :: a1 :: a2 :: a3 :: a4 :: a5 :: a6 :: a7 :: a8 :: a9 :: a10 :: a11 :: a12 :: a13 :: some (.int x) :: L) S σ Q = pm_WL P d y (pc + n) r (a0 :: a1 :: a2 :: a3 :: a4 :: a5 :: a6 :: a7 :: a8 :: a9 :: a10 :: a11 :: a12 :: a13 :: some (.int x) :: L) (.int x :: S) σ Q := by
  simp only [w_iload, pm_lget_s, pm_lget_0, pm_oI_s]
theorem f_aloadn0 {x : Nat} : pm_WL P d y pc ((.aload_n 0, n) :: r) (some (.ref x) :: L) S σ Q = pm_WL P d y (pc + n) r (some (.ref x) :: L) (.ref x :: S) σ Q := by
  simp only [w_aload0, pm_lget_s, pm_lget_0, pm_oA_s]
theorem f_aloadn1 {a0 : Option Value} {x : Nat} : pm_WL P d y pc ((.aload_n 1, n) :: r) (a0 :: some (.ref x) :: L) S σ Q = pm_WL P d y (pc + n) r (a0 :: some (.ref x) :: L) (.ref x :: S) σ Q := by
  simp only [w_aload1, pm_lget_s, pm_lget_0, pm_oA_s]
theorem f_aloadn2 {a0 a1 : Option Value} {x : Nat} : pm_WL P d y pc ((.aload_n 2, n) :: r) (a0 :: a1 :: some (.ref x) :: L) S σ Q = pm_WL P d y (pc + n) r (a0 :: a1 :: some (.ref x) :: L) (.ref x :: S) σ Q := by
  simp only [w_aload2, pm_lget_s, pm_lget_0, pm_oA_s]
theorem f_aloadn3 {a0 a1 a2 : Option Value} {x : Nat} : pm_WL P d y pc ((.aload_n 3, n) :: r) (a0 :: a1 :: a2 :: some (.ref x) :: L) S σ Q = pm_WL P d y (pc + n) r (a0 :: a1 :: a2 :: some (.ref x) :: L) (.ref x :: S) σ Q := by
  simp only [w_aload3, pm_lget_s, pm_lget_0, pm_oA_s]
theorem f_aload4 {a0 a1 a2 a3 : Option Value} {x : Nat} : pm_WL P d y pc ((.aload 4, n) :: r) (a0 :: a1 :: a2 :: a3 :: some (.ref x) :: L) S σ Q = pm_WL P d y (pc + n) r (a0 :: a1 :: a2 :: a3 :: some (.ref x) :: L) (.ref x :: S) σ Q := by
  simp only [w_aload, pm_lget_s, pm_lget_0, pm_oA_s]
theorem f_aload5 {a0 a1 a2 a3 a4 : Option Value} {x : Nat} : pm_WL P d y pc ((.aload 5, n) :: r) (a0 :: a1 :: a2 :: a3 :: a4 :: some (.ref x) :: L) S σ Q = pm_WL P d y (pc + n) r (a0 :: a1 :: a2 :: a3 :: a4 :: some (.ref x) :: L) (.ref x :: S) σ Q := by
  simp only [w_aload, pm_lget_s, pm_lget_0, pm_oA_s]
theorem f_aload6 {a0 a1 a2 a3 a4 a5 : Option Value} {x : Nat} : pm_WL P d y pc ((.aload 6, n) :: r) (a0 :: a1 :: a2 :: a3 :: a4 :: a5 :: some (.ref x) :: L) S σ Q = pm_WL P d y (pc + n) r (a0 :: a1 :: a2 :: a3 :: a4 :: a5 :: some (.ref x) :: L) (.ref x :: S) σ Q := by
  simp only [w_aload, pm_lget_s, pm_lget_0, pm_oA_s]
theorem f_aload7 {a0 a1 a2 a3 a4 a5 a6 : Option Value} {x : Nat} : pm_WL P d y pc ((.aload 7, n) :: r) (a0 :: a1 :: a2 :: a3 :: a4 :: a5 :: a6 :: some (.ref x) :: L) S σ Q = pm_WL P d y (pc + n) r (a0 :: a1 :: a2 :: a3 :: a4 :: a5 :: a6 :: some (.ref x) :: L) (.ref x :: S) σ Q := by
  simp only [w_aload, pm_lget_s, pm_lget_0, pm_oA_s]
theorem f_aload8 {a0 a1 a2 a3 a4 a5 a6 a7 : Option Value} {x : Nat} : pm_WL P d y pc ((.aload 8, n) :: r) (a0 :: a1 :: a2 :: a3 :: a4 :: a5 :: a6 :: a7 :: some (.ref x) :: L) S σ Q = pm_WL P d y (pc + n) r (a0 :: a1 :: a2 :: a3 :: a4 :: a5 :: a6 :: a7 :: some (.ref x) :: L) (.ref x :: S) σ Q := by
  simp only [w_aload, pm_lget_s, pm_lget_0, pm_oA_s]
theorem f_aload9 {a0 a1 a2 a3 a4 a5 a6 a7 a8 : Option Value} {x : Nat} : pm_WL P d y pc ((.aload 9, n) :: r) (a0 :: a1 :: a2 :: a3 :: a4 :: a5 :: a6 :: a7 :: a8 :: some (.ref x) :: L) S σ Q = pm_WL P d y (pc + n) r (a0 :: a1 :: a2 :: a3 :: a4 :: a5 :: a6 :: a7 :: a8 :: some (.ref x) :: L) (.ref x :: S) σ Q := by
  simp only [w_aload, pm_lget_s, pm_lget_0, pm_oA_s]
theorem f_aload10 {a0 a1 a2 a3 a4 a5 a6 a7 a8 a9 : Option Value} {x : Nat} : pm_WL P d y pc ((.aload 10, n) :: r) (a0 :: a1 :: a2 :: a3 :: a4 :: a5 :: a6 :: a7 :: a8 :: a9 :: some (.ref x) :: L) S σ Q = pm_WL P d y (pc + n) r (a0 :: a1 :: a2 :: a3 :: a4 :: a5 :: a6 :: a7 :: a8 :: a9 :: some (.ref x) :: L) (.ref x :: S) σ Q := by
  simp only [w_aload, pm_lget_s, pm_lget_0, pm_oA_s]
theorem f_aload11 {a0 a1 a2 a3 a4 a5 a6 a7 a8 a9 a10 : Option Value} {x : Nat} : pm_WL P d y pc ((.aload 11, n) :: r) (a0 :: a1 :: a2 :: a3 :: a4 :: a5 :: a6 :: a7 :: a8 :: a9 :: a10 :: some (.ref x) :: L) S σ Q = pm_WL P d y (pc + n) r (a0 :: a1 :: a2 :: a3 :: a4 :: a5 :: a6 :: a7 :: a8 :: a9 :: a10 :: some (.ref x) :: L) (.ref x :: S) σ Q := by
  simp only [w_aload, pm_lget_s, pm_lget_0, pm_oA_s]
theorem f_aload12 {a0 a1 a2 a3 a4 a5 a6 a7 a8 a9 a10 a11 : Option Value} {x : Nat} : pm_WL P d y pc ((.aload 12, n) :: r) (a0 :: a1 :: a2 :: a3 :: a4 :: a5 :: a6 :: a7 :: a8 :: a9 :: a10 :: a11 :: some (.ref x) :: L) S σ Q = pm_WL P d y (pc + n) r (a0 :: a1 :: a2 :: a3 :: a4 :: a5 :: a6 :: a7 :: a8 :: a9 :: a10 :: a11 :: some (.ref x) :: L) (.ref x :: S) σ Q := by
  simp only [w_aload, pm_lget_s, pm_lget_0, pm_oA_s]
theorem f_aload13 {a0 a1 a2 a3 a4 a5 a6 a7 a8 a9 a10 a11 a12 : Option Value} {x : Nat} : pm_WL P d y pc ((.aload 13, n) :: r) (a0 :: a1 :: a2 :: a3 :: a4 :: a5 :: a6 :: a7 :: a8 :: a9 :: a10 :: a11 :: a12 :: some (.ref x) :: L) S σ Q = pm_WL P d y (pc + n) r (a0 :: a1 :: a2 :: a3 :: a4 :: a5 :: a6 :: a7 :: a8 :: a9 :: a10 :: a11 :: a12 :: some (.ref x) :: L) (.ref x :: S) σ Q := by
  simp only [w_aload, pm_lget_s, pm_lget_0, pm_oA_s]
theorem f_aload14 {a0 a1 a2 a3 a4 a5 a6 a7 a8 a9 a10 a11 a12 a13 : Option Value} {x : Nat} : pm_WL P d y pc ((.aload 14, n) :: r) (a0 :: a1 :: a2 :: a3 :: a4 :: a5 :: a6 :: a7 :: a8 :: a9 :: a10 :: a11 :: a12 :: a13 :: some (.ref x) :: L) S σ Q = pm_WL P d y (pc + n) r (a0 :: a1 :: a2 :: a3 :: a4 :: a5 :: a6 :: a7 :: a8 :: a9 :: a10 :: a11 :: a12 :: a13 :: some (.ref x) :: L) (.ref x :: S) σ Q := by
  simp only [w_aload, pm_lget_s, pm_lget_0, pm_oA_s]
theorem f_lloadn0 {x : Int64} : pm_WL P d y pc ((.lload_n 0, n) :: r) (some (.long x) :: L) S σ Q = pm_WL P d y (pc + n) r (some (.long x) :: L) (.long x :: S) σ Q := by
  simp only [w_lload0, pm_lget_s, pm_lget_0, pm_oJ_s]
theorem f_lloadn1 {a0 : Option Value} {x : Int64} : pm_WL P d y pc ((.lload_n 1, n) :: r) (a0 :: some (.long x) :: L) S σ Q = pm_WL P d y (pc + n) r (a0 :: some (.long x) :: L) (.long x :: S) σ Q := by
  simp only [w_lload1, pm_lget_s, pm_lget_0, pm_oJ_s]
theorem f_lloadn2 {a0 a1 : Option Value} {x : Int64} : pm_WL P d y pc ((.lload_n 2, n) :: r) (a0 :: a1 :: some (.long x) :: L) S σ Q = pm_WL P d y (pc + n) r (a0 :: a1 :: some (.long x) :: L) (.long x :: S) σ Q := by
  simp only [w_lload2, pm_lget_s, pm_lget_0, pm_oJ_s]
theorem f_lloadn3 {a0 a1 a2 : Option Value} {x : Int64} : pm_WL P d y pc ((.lload_n 3, n) :: r) (a0 :: a1 :: a2 :: some (.long x) :: L) S σ Q = pm_WL P d y (pc + n) r (a0 :: a1 :: a2 :: some (.long x) :: L) (.long x :: S) σ Q := by
  simp only [w_lload3, pm_lget_s, pm_lget_0, pm_oJ_s]
theorem f_lload4 {a0 a1 a2 a3 : Option Value} {x : Int64} : pm_WL P d y pc ((.lload 4, n) :: r) (a0 :: a1 :: a2 :: a3 :: some (.long x) :: L) S σ Q = pm_WL P d y (pc + n) r (a0 :: a1 :: a2 :: a3 :: some (.long x) :: L) (.long x :: S) σ Q := by
  simp only [w_lload, pm_lget_s, pm_lget_0, pm_oJ_s]
theorem f_lload5 {a0 a1 a2 a3 a4 : Option Value} {x : Int64} : pm_WL P d y pc ((.lload 5, n) :: r) (a0 :: a1 :: a2 :: a3 :: a4 :: some (.long x) :: L) S σ Q = pm_WL P d y (pc + n) r (a0 :: a1 :: a2 :: a3 :: a4 :: some (.long x) :: L) (.long x :: S) σ Q := by
  simp only [w_lload, pm_lget_s, pm_lget_0, pm_oJ_s]
theorem f_lload6 {a0 a1 a2 a3 a4 a5 : Option Value} {x : Int64} : pm_WL P d y pc ((.lload 6, n) :: r) (a0 :: a1 :: a2 :: a3 :: a4 :: a5 :: some (.long x) :: L) S σ Q = pm_WL P d y (pc + n) r (a0 :: a1 :: a2 :: a3 :: a4 :: a5 :: some (.long x) :: L) (.long x :: S) σ Q := by
  simp only [w_lload, pm_lget_s, pm_lget_0, pm_oJ_s]
theorem f_lload7 {a0 a1 a2 a3 a4 a5 a6 : Option Value} {x : Int64} : pm_WL P d y pc ((.lload 7, n) :: r) (a0 :: a1 :: a2 :: a3 :: a4 :: a5 :: a6 :: some (.long x) :: L) S σ Q = pm_WL P d y (pc + n) r (a0 :: a1 :: a2 :: a3 :: a4 :: a5 :: a6 :: some (.long x) :: L) (.long x :: S) σ Q := by
  simp only [w_lload, pm_lget_s, pm_lget_0, pm_oJ_s]
theorem f_lload8 {a0 a1 a2 a3 a4 a5 a6 a7 : Option Value} {x : Int64} : pm_WL P d y pc ((.lload 8, n) :: r) (a0 :: a1 :: a2 :: a3 :: a4 :: a5 :: a6 :: a7 :: some (.long x) :: L) S σ Q = pm_WL P d y (pc + n) r (a0 :: a1 :: a2 :: a3 :: a4 :: a5 :: a6 :: a7 :: some (.long x) :: L) (.long x :: S) σ Q := by
  simp only [w_lload, pm_lget_s, pm_lget_0, pm_oJ_s]
theorem f_lload9 {a0 a1 a2 a3 a4 a5 a6 a7 a8 : Option Value} {x : Int64} : pm_WL P d y pc ((.lload 9, n) :: r) (a0 :: a1 :: a2 :: a3 :: a4 :: a5 :: a6 :: a7 :: a8 :: some (.long x) :: L) S σ Q = pm_WL P d y (pc + n) r (a0 :: a1 :: a2 :: a3 :: a4 :: a5 :: a6 :: a7 :: a8 :: some (.long x) :: L) (.long x :: S) σ Q := by
  simp only [w_lload, pm_lget_s, pm_lget_0, pm_oJ_s]
theorem f_lload10 {a0 a1 a2 a3 a4 a5 a6 a7 a8 a9 : Option Value} {x : Int64} : pm_WL P d y pc ((.lload 10, n) :: r) (a0 :: a1 :: a2 :: a3 :: a4 :: a5 :: a6 :: a7 :: a8 :: a9 :: some (.long x) :: L) S σ Q = pm_WL P d y (pc + n) r (a0 :: a1 :: a2 :: a3 :: a4 :: a5 :: a6 :: a7 :: a8 :: a9 :: some (.long x) :: L) (.long x :: S) σ Q := by
  simp only [w_lload, pm_lget_s, pm_lget_0, pm_oJ_s]
theorem f_lload11 {a0 a1 a2 a3 a4 a5 a6 a7 a8 a9 a10 : Option Value} {x : Int64} : pm_WL P d y pc ((.lload 11, n) :: r) (a0 :: a1 :: a2 :: a3 :: a4 :: a5 :: a6 :: a7 :: a8 :: a9 :: a10 :: some (.long x) :: L) S σ Q = pm_WL P d y (pc + n) r (a0 :: a1 :: a2 :: a3 :: a4 :: a5 :: a6 :: a7 :: a8 :: a9 :: a10 :: some (.long x) :: L) (.long x :: S) σ Q := by
  simp only [w_lload, pm_lget_s, pm_lget_0, pm_oJ_s]
theorem f_lload12 {a0 a1 a2 a3 a4 a5 a6 a7 a8 a9 a10 a11 : Option Value} {x : Int64} : pm_WL P d y pc ((.lload 12, n) :: r) (a0 :: a1 :: a2 :: a3 :: a4 :: a5 :: a6 :: a7 :: a8 :: a9 :: a10 :: a11 :: some (.long x) :: L) S σ Q = pm_WL P d y (pc + n) r (a0 :: a1 :: a2 :: a3 :: a4 :: a5 :: a6 :: a7 :: a8 :: a9 :: a10 :: a11 :: some (.long x) :: L) (.long x :: S) σ Q := by
  simp only [w_lload, pm_lget_s, pm_lget_0, pm_oJ_s]
theorem f_lload13 {a0 a1 a2 a3 a4 a5 a6 a7 a8 a9 a10 a11 a12 : Option Value} {x : Int64} : pm_WL P d y pc ((.lload 13, n) :: r) (a0 :: a1 :: a2 :: a3 :: a4 :: a5 :: a6 :: a7 :: a8 :: a9 :: a10 :: a11 :: a12 :: some (.long x) :: L) S σ Q = pm_WL P d y (pc + n) r (a0 :: a1 :: a2 :: a3 :: a4 :: a5 :: a6 :: a7 :: a8 :: a9 :: a10 :: a11 :: a12 :: some (.long x) :: L) (.long x :: S) σ Q := by
  simp only [w_lload, pm_lget_s, pm_lget_0, pm_oJ_s]
theorem f_lload14 {a0 a1 a2 a3 a4 a5 a6 a7 a8 a9 a10 a11 a12 a13 : Option Value} {x : Int64} : pm_WL P d y pc ((.lload 14, n) :: r) (a0 :: a1 :: a2 :: a3 :: a4 :: a5 :: a6 :: a7 :: a8 :: a9 :: a10 :: a11 :: a12 :: a13 :: some (.long x) :: L) S σ Q = pm_WL P d y (pc + n) r (a0 :: a1 :: a2 :: a3 :: a4 :: a5 :: a6 :: a7 :: a8 :: a9 :: a10 :: a11 :: a12 :: a13 :: some (.long x) :: L) (.long x :: S) σ Q := by
  simp only [w_lload, pm_lget_s, pm_lget_0, pm_oJ_s]
theorem f_iinc0 {x : Int32} {v : Int} : pm_WL P d y pc ((.iinc 0 v, n) :: r) (some (.int x) :: L) S σ Q = ((0 < (some (.int x) :: L).length) ∧ pm_WL P d y (pc + n) r (pm_lset (some (.int x) :: L) 0 (.int (x + Int32.ofInt v))) S σ Q) := by
  simp only [w_iinc, pm_lget_s, pm_lget_0, pm_oI_s]
theorem f_iinc1 {a0 : Option Value} {x : Int32} {v : Int} : pm_WL P d y pc ((.iinc 1 v, n) :: r) (a0 :: some (.int x) :: L) S σ Q = ((1 < (a0 :: some (.int x) :: L).length) ∧ pm_WL P d y (pc + n) r (pm_lset (a0 :: some (.int x) :: L) 1 (.int (x + Int32.ofInt v))) S σ Q) := by
  simp only [w_iinc, pm_lget_s, pm_lget_0, pm_oI_s]
theorem f_iinc2 {a0 a1 : Option Value} {x : Int32} {v : Int} : pm_WL P d y pc ((.iinc 2 v, n) :: r) (a0 :: a1 :: some (.int x) :: L) S σ Q = ((2 < (a0 :: a1 :: some (.int x) :: L).length) ∧ pm_WL P d y (pc + n) r (pm_lset (a0 :: a1 :: some (.int x) :: L) 2 (.int (x + Int32.ofInt v))) S σ Q) := by
  simp only [w_iinc, pm_lget_s, pm_lget_0, pm_oI_s]
theorem f_iinc3 {a0 a1 a2 : Option Value} {x : Int32} {v : Int} : pm_WL P d y pc ((.iinc 3 v, n) :: r) (a0 :: a1 :: a2 :: some (.int x) :: L) S σ Q = ((3 < (a0 :: a1 :: a2 :: some (.int x) :: L).length) ∧ pm_WL P d y (pc + n) r (pm_lset (a0 :: a1 :: a2 :: some (.int x) :: L) 3 (.int (x + Int32.ofInt v))) S σ Q) := by
  simp only [w_iinc, pm_lget_s, pm_lget_0, pm_oI_s]
theorem f_iinc4 {a0 a1 a2 a3 : Option Value} {x : Int32} {v : Int} : pm_WL P d y pc ((.iinc 4 v, n) :: r) (a0 :: a1 :: a2 :: a3 :: some (.int x) :: L) S σ Q = ((4 < (a0 :: a1 :: a2 :: a3 :: some (.int x) :: L).length) ∧ pm_WL P d y (pc + n) r (pm_lset (a0 :: a1 :: a2 :: a3 :: some (.int x) :: L) 4 (.int (x + Int32.ofInt v))) S σ Q) := by
  simp only [w_iinc, pm_lget_s, pm_lget_0, pm_oI_s]
theorem f_iinc5 {a0 a1 a2 a3 a4 : Option Value} {x : Int32} {v : Int} : pm_WL P d y pc ((.iinc 5 v, n) :: r) (a0 :: a1 :: a2 :: a3 :: a4 :: some (.int x) :: L) S σ Q = ((5 < (a0 :: a1 :: a2 :: a3 :: a4 :: some (.int x) :: L).length) ∧ pm_WL P d y (pc + n) r (pm_lset (a0 :: a1 :: a2 :: a3 :: a4 :: some (.int x) :: L) 5 (.int (x + Int32.ofInt v))) S σ Q) := by
  simp only [w_iinc, pm_lget_s, pm_lget_0, pm_oI_s]
theorem f_iinc6 {a0 a1 a2 a3 a4 a5 : Option Value} {x : Int32} {v : Int} : pm_WL P d y pc ((.iinc 6 v, n) :: r) (a0 :: a1 :: a2 :: a3 :: a4 :: a5 :: some (.int x) :: L) S σ Q = ((6 < (a0 :: a1 :: a2 :: a3 :: a4 :: a5 :: some (.int x) :: L).length) ∧ pm_WL P d y (pc + n) r (pm_lset (a0 :: a1 :: a2 :: a3 :: a4 :: a5 :: some (.int x) :: L) 6 (.int (x + Int32.ofInt v))) S σ Q) := by
  simp only [w_iinc, pm_lget_s, pm_lget_0, pm_oI_s]
theorem f_iinc7 {a0 a1 a2 a3 a4 a5 a6 : Option Value} {x : Int32} {v : Int} : pm_WL P d y pc ((.iinc 7 v, n) :: r) (a0 :: a1 :: a2 :: a3 :: a4 :: a5 :: a6 :: some (.int x) :: L) S σ Q = ((7 < (a0 :: a1 :: a2 :: a3 :: a4 :: a5 :: a6 :: some (.int x) :: L).length) ∧ pm_WL P d y (pc + n) r (pm_lset (a0 :: a1 :: a2 :: a3 :: a4 :: a5 :: a6 :: some (.int x) :: L) 7 (.int (x + Int32.ofInt v))) S σ Q) := by
  simp only [w_iinc, pm_lget_s, pm_lget_0, pm_oI_s]
theorem f_iinc8 {a0 a1 a2 a3 a4 a5 a6 a7 : Option Value} {x : Int32} {v : Int} : pm_WL P d y pc ((.iinc 8 v, n) :: r) (a0 :: a1 :: a2 :: a3 :: a4 :: a5 :: a6 :: a7 :: some (.int x) :: L) S σ Q = ((8 < (a0 :: a1 :: a2 :: a3 :: a4 :: a5 :: a6 :: a7 :: some (.int x) :: L).length) ∧ pm_WL P d y (pc + n) r (pm_lset (a0 :: a1 :: a2 :: a3 :: a4 :: a5 :: a6 :: a7 :: some (.int x) :: L) 8 (.int (x + Int32.ofInt v))) S σ Q) := by
  simp only [w_iinc, pm_lget_s, pm_lget_0, pm_oI_s]
theorem f_iinc9 {a0 a1 a2 a3 a4 a5 a6 a7 a8 : Option Value} {x : Int32} {v : Int} : pm_WL P d y pc ((.iinc 9 v, n) :: r) (a0 :: a1 :: a2 :: a3 :: a4 :: a5 :: a6 :: a7 :: a8 :: some (.int x) :: L) S σ Q = ((9 < (a0 :: a1 :: a2 :: a3 :: a4 :: a5 :: a6 :: a7 :: a8 :: some (.int x) :: L).length) ∧ pm_WL P d y (pc + n) r (pm_lset (a0 :: a1 :: a2 :: a3 :: a4 :: a5 :: a6 :: a7 :: a8 :: some (.int x) :: L) 9 (.int (x + Int32.ofInt v))) S σ Q) := by
  simp only [w_iinc, pm_lget_s, pm_lget_0, pm_oI_s]
theorem f_iinc10 {a0 a1 a2 a3 a4 a5 a6 a7 a8 a9 : Option Value} {x : Int32} {v : Int} : pm_WL P d y pc ((.iinc 10 v, n) :: r) (a0 :: a1 :: a2 :: a3 :: a4 :: a5 :: a6 :: a7 :: a8 :: a9 :: some (.int x) :: L) S σ Q = ((10 < (a0 :: a1 :: a2 :: a3 :: a4 :: a5 :: a6 :: a7 :: a8 :: a9 :: some (.int x) :: L).length) ∧ pm_WL P d y (pc + n) r (pm_lset (a0 :: a1 :: a2 :: a3 :: a4 :: a5 :: a6 :: a7 :: a8 :: a9 :: some (.int x) :: L) 10 (.int (x + Int32.ofInt v))) S σ Q) := by
  simp only [w_iinc, pm_lget_s, pm_lget_0, pm_oI_s]
theorem f_iinc11 {a0 a1 a2 a3 a4 a5 a6 a7 a8 a9 a10 : Option Value} {x : Int32} {v : Int} : pm_WL P d y pc ((.iinc 11 v, n) :: r) (a0 :: a1 :: a2 :: a3 :: a4 :: a5 :: a6 :: a7 :: a8 :: a9 :: a10 :: some (.int x) :: L) S σ Q = ((11 < (a0 :: a1 :: a2 :: a3 :: a4 :: a5 :: a6 :: a7 :: a8 :: a9 :: a10 :: some (.int x) :: L).length) ∧ pm_WL P d y (pc + n) r (pm_lset (a0 :: a1 :: a2 :: a3 :: a4 :: a5 :: a6 :: a7 :: a8 :: a9 :: a10 :: some (.int x) :: L) 11 (.int (x + Int32.ofInt v))) S σ Q) := by
  simp only [w_iinc, pm_lget_s, pm_lget_0, pm_oI_s]
theorem f_iinc12 {a0 a1 a2 a3 a4 a5 a6 a7 a8 a9 a10 a11 : Option Value} {x : Int32} {v : Int} : pm_WL P d y pc ((.iinc 12 v, n) :: r) (a0 :: a1 :: a2 :: a3 :: a4 :: a5 :: a6 :: a7 :: a8 :: a9 :: a10 :: a11 :: some (.int x) :: L) S σ Q = ((12 < (a0 :: a1 :: a2 :: a3 :: a4 :: a5 :: a6 :: a7 :: a8 :: a9 :: a10 :: a11 :: some (.int x) :: L).length) ∧ pm_WL P d y (pc + n) r (pm_lset (a0 :: a1 :: a2 :: a3 :: a4 :: a5 :: a6 :: a7 :: a8 :: a9 :: a10 :: a11 :: some (.int x) :: L) 12 (.int (x + Int32.ofInt v))) S σ Q) := by
  simp only [w_iinc, pm_lget_s, pm_lget_0, pm_oI_s]
theorem f_iinc13 {a0 a1 a2 a3 a4 a5 a6 a7 a8 a9 a10 a11 a12 : Option Value} {x : Int32} {v : Int} : pm_WL P d y pc ((.iinc 13 v, n) :: r) (a0 :: a1 :: a2 :: a3 :: a4 :: a5 :: a6 :: a7 :: a8 :: a9 :: a10 :: a11 :: a12 :: some (.int x) :: L) S σ Q = ((13 < (a0 :: a1 :: a2 :: a3 :: a4 :: a5 :: a6 :: a7 :: a8 :: a9 :: a10 :: a11 :: a12 :: some (.int x) :: L).length) ∧ pm_WL P d y (pc + n) r (pm_lset (a0 :: a1 :: a2 :: a3 :: a4 :: a5 :: a6 :: a7 :: a8 :: a9 :: a10 :: a11 :: a12 :: some (.int x) :: L) 13 (.int (x + Int32.ofInt v))) S σ Q) := by
  simp only [w_iinc, pm_lget_s, pm_lget_0, pm_oI_s]
theorem f_iinc14 {a0 a1 a2 a3 a4 a5 a6 a7 a8 a9 a10 a11 a12 a13 : Option Value} {x : Int32} {v : Int} : pm_WL P d y pc ((.iinc 14 v, n) :: r) (a0 :: a1 :: a2 :: a3 :: a4 :: a5 :: a6 :: a7 :: a8 :: a9 :: a10 :: a11 :: a12 :: a13 :: some (.int x) :: L) S σ Q = ((14 < (a0 :: a1 :: a2 :: a3 :: a4 :: a5 :: a6 :: a7 :: a8 :: a9 :: a10 :: a11 :: a12 :: a13 :: some (.int x) :: L).length) ∧ pm_WL P d y (pc + n) r (pm_lset (a0 :: a1 :: a2 :: a3 :: a4 :: a5 :: a6 :: a7 :: a8 :: a9 :: a10 :: a11 :: a12 :: a13 :: some (.int x) :: L) 14 (.int (x + Int32.ofInt v))) S σ Q) := by
  simp only [w_iinc, pm_lget_s, pm_lget_0, pm_oI_s]
theorem f_iald_0 {i : Int32} : pm_WL P d y pc ((.iaload, n) :: r) L (.int i :: .ref 0 :: S) (mk h) Q = (pm_inR i (h 0).length ∧ pm_WL P d y (pc + n) r L (.int (pm_rd (h 0) i) :: S) (mk h) Q) := by
  simp only [w_iaload, hg_0, pm_oR_s, ne_eq, Nat.reduceEqDiff, Nat.zero_ne_one, Nat.succ_ne_self, not_false_eq_true, true_and]
theorem f_alen_0 : pm_WL P d y pc ((.arraylength, n) :: r) L (.ref 0 :: S) (mk h) Q = pm_WL P d y (pc + n) r L (.int (nI (h 0).length) :: S) (mk h) Q := by
  simp only [w_alen, hg_0, pm_oR_s]
theorem f_iald_1 {i : Int32} : pm_WL P d y pc ((.iaload, n) :: r) L (.int i :: .ref 1 :: S) (mk h) Q = (pm_inR i (h 1).length ∧ pm_WL P d y (pc + n) r L (.int (pm_rd (h 1) i) :: S) (mk h) Q) := by
  simp only [w_iaload, hg_1, pm_oR_s, ne_eq, Nat.reduceEqDiff, Nat.zero_ne_one, Nat.succ_ne_self, not_false_eq_true, true_and]
theorem f_alen_1 : pm_WL P d y pc ((.arraylength, n) :: r) L (.ref 1 :: S) (mk h) Q = pm_WL P d y (pc + n) r L (.int (nI (h 1).length) :: S) (mk h) Q := by
  simp only [w_alen, hg_1, pm_oR_s]
theorem f_iald_2 {i : Int32} : pm_WL P d y pc ((.iaload, n) :: r) L (.int i :: .ref 2 :: S) (mk h) Q = (pm_inR i (h 2).length ∧ pm_WL P d y (pc + n) r L (.int (pm_rd (h 2) i) :: S) (mk h) Q) := by
  simp only [w_iaload, hg_2, pm_oR_s, ne_eq, Nat.reduceEqDiff, Nat.zero_ne_one, Nat.succ_ne_self, not_false_eq_true, true_and]
theorem f_alen_2 : pm_WL P d y pc ((.arraylength, n) :: r) L (.ref 2 :: S) (mk h) Q = pm_WL P d y (pc + n) r L (.int (nI (h 2).length) :: S) (mk h) Q := by
  simp only [w_alen, hg_2, pm_oR_s]
theorem f_iald_3 {i : Int32} : pm_WL P d y pc ((.iaload, n) :: r) L (.int i :: .ref 3 :: S) (mk h) Q = (pm_inR i (h 3).length ∧ pm_WL P d y (pc + n) r L (.int (pm_rd (h 3) i) :: S) (mk h) Q) := by
  simp only [w_iaload, hg_3, pm_oR_s, ne_eq, Nat.reduceEqDiff, Nat.zero_ne_one, Nat.succ_ne_self, not_false_eq_true, true_and]
theorem f_alen_3 : pm_WL P d y pc ((.arraylength, n) :: r) L (.ref 3 :: S) (mk h) Q = pm_WL P d y (pc + n) r L (.int (nI (h 3).length) :: S) (mk h) Q := by
  simp only [w_alen, hg_3, pm_oR_s]
theorem f_iald_8 {i : Int32} : pm_WL P d y pc ((.iaload, n) :: r) L (.int i :: .ref 8 :: S) (mk h) Q = (pm_inR i (h 8).length ∧ pm_WL P d y (pc + n) r L (.int (pm_rd (h 8) i) :: S) (mk h) Q) := by
  simp only [w_iaload, hg_8, pm_oR_s, ne_eq, Nat.reduceEqDiff, Nat.zero_ne_one, Nat.succ_ne_self, not_false_eq_true, true_and]
theorem f_alen_8 : pm_WL P d y pc ((.arraylength, n) :: r) L (.ref 8 :: S) (mk h) Q = pm_WL P d y (pc + n) r L (.int (nI (h 8).length) :: S) (mk h) Q := by
  simp only [w_alen, hg_8, pm_oR_s]
theorem f_iast_8 {i x : Int32} : pm_WL P d y pc ((.iastore, n) :: r) L (.int x :: .int i :: .ref 8 :: S) (mk h) Q = (pm_inR i (h 8).length ∧ pm_WL P d y (pc + n) r L S (mk (up h 8 (pm_wr (h 8) i x))) Q) := by
  simp only [w_iastore, hg_8, hs_8, pm_oR_s, true_and]
theorem f_iald_9 {i : Int32} : pm_WL P d y pc ((.iaload, n) :: r) L (.int i :: .ref 9 :: S) (mk h) Q = (pm_inR i (h 9).length ∧ pm_WL P d y (pc + n) r L (.int (pm_rd (h 9) i) :: S) (mk h) Q) := by
  simp only [w_iaload, hg_9, pm_oR_s, ne_eq, Nat.reduceEqDiff, Nat.zero_ne_one, Nat.succ_ne_self, not_false_eq_true, true_and]
theorem f_alen_9 : pm_WL P d y pc ((.arraylength, n) :: r) L (.ref 9 :: S) (mk h) Q = pm_WL P d y (pc + n) r L (.int (nI (h 9).length) :: S) (mk h) Q := by
  simp only [w_alen, hg_9, pm_oR_s]
theorem f_iast_9 {i x : Int32} : pm_WL P d y pc ((.iastore, n) :: r) L (.int x :: .int i :: .ref 9 :: S) (mk h) Q = (pm_inR i (h 9).length ∧ pm_WL P d y (pc + n) r L S (mk (up h 9 (pm_wr (h 9) i x))) Q) := by
  simp only [w_iastore, hg_9, hs_9, pm_oR_s, true_and]
theorem f_iald_10 {i : Int32} : pm_WL P d y pc ((.iaload, n) :: r) L (.int i :: .ref 10 :: S) (mk h) Q = (pm_inR i (h 10).length ∧ pm_WL P d y (pc + n) r L (.int (pm_rd (h 10) i) :: S) (mk h) Q) := by
  simp only [w_iaload, hg_10, pm_oR_s, ne_eq, Nat.reduceEqDiff, Nat.zero_ne_one, Nat.succ_ne_self, not_false_eq_true, true_and]
theorem f_alen_10 : pm_WL P d y pc ((.arraylength, n) :: r) L (.ref 10 :: S) (mk h) Q = pm_WL P d y (pc + n) r L (.int (nI (h 10).length) :: S) (mk h) Q := by
  simp only [w_alen, hg_10, pm_oR_s]
theorem f_iast_10 {i x : Int32} : pm_WL P d y pc ((.iastore, n) :: r) L (.int x :: .int i :: .ref 10 :: S) (mk h) Q = (pm_inR i (h 10).length ∧ pm_WL P d y (pc + n) r L S (mk (up h 10 (pm_wr (h 10) i x))) Q) := by
  simp only [w_iastore, hg_10, hs_10, pm_oR_s, true_and]
theorem f_iald_12 {i : Int32} : pm_WL P d y pc ((.iaload, n) :: r) L (.int i :: .ref 12 :: S) (mk h) Q = (pm_inR i (h 12).length ∧ pm_WL P d y (pc + n) r L (.int (pm_rd (h 12) i) :: S) (mk h) Q) := by
  simp only [w_iaload, hg_12, pm_oR_s, ne_eq, Nat.reduceEqDiff, Nat.zero_ne_one, Nat.succ_ne_self, not_false_eq_true, true_and]
theorem f_alen_12 : pm_WL P d y pc ((.arraylength, n) :: r) L (.ref 12 :: S) (mk h) Q = pm_WL P d y (pc + n) r L (.int (nI (h 12).length) :: S) (mk h) Q := by
  simp only [w_alen, hg_12, pm_oR_s]
theorem f_iast_12 {i x : Int32} : pm_WL P d y pc ((.iastore, n) :: r) L (.int x :: .int i :: .ref 12 :: S) (mk h) Q = (pm_inR i (h 12).length ∧ pm_WL P d y (pc + n) r L S (mk (up h 12 (pm_wr (h 12) i x))) Q) := by
  simp only [w_iastore, hg_12, hs_12, pm_oR_s, true_and]
theorem f_iald_13 {i : Int32} : pm_WL P d y pc ((.iaload, n) :: r) L (.int i :: .ref 13 :: S) (mk h) Q = (pm_inR i (h 13).length ∧ pm_WL P d y (pc + n) r L (.int (pm_rd (h 13) i) :: S) (mk h) Q) := by
  simp only [w_iaload, hg_13, pm_oR_s, ne_eq, Nat.reduceEqDiff, Nat.zero_ne_one, Nat.succ_ne_self, not_false_eq_true, true_and]
theorem f_alen_13 : pm_WL P d y pc ((.arraylength, n) :: r) L (.ref 13 :: S) (mk h) Q = pm_WL P d y (pc + n) r L (.int (nI (h 13).length) :: S) (mk h) Q := by
  simp only [w_alen, hg_13, pm_oR_s]
theorem f_iast_13 {i x : Int32} : pm_WL P d y pc ((.iastore, n) :: r) L (.int x :: .int i :: .ref 13 :: S) (mk h) Q = (pm_inR i (h 13).length ∧ pm_WL P d y (pc + n) r L S (mk (up h 13 (pm_wr (h 13) i x))) Q) := by
  simp only [w_iastore, hg_13, hs_13, pm_oR_s, true_and]
theorem f_iald_14 {i : Int32} : pm_WL P d y pc ((.iaload, n) :: r) L (.int i :: .ref 14 :: S) (mk h) Q = (pm_inR i (h 14).length ∧ pm_WL P d y (pc + n) r L (.int (pm_rd (h 14) i) :: S) (mk h) Q) := by
  simp only [w_iaload, hg_14, pm_oR_s, ne_eq, Nat.reduceEqDiff, Nat.zero_ne_one, Nat.succ_ne_self, not_false_eq_true, true_and]
theorem f_alen_14 : pm_WL P d y pc ((.arraylength, n) :: r) L (.ref 14 :: S) (mk h) Q = pm_WL P d y (pc + n) r L (.int (nI (h 14).length) :: S) (mk h) Q := by
  simp only [w_alen, hg_14, pm_oR_s]
theorem f_iast_14 {i x : Int32} : pm_WL P d y pc ((.iastore, n) :: r) L (.int x :: .int i :: .ref 14 :: S) (mk h) Q = (pm_inR i (h 14).length ∧ pm_WL P d y (pc + n) r L S (mk (up h 14 (pm_wr (h 14) i x))) Q) := by
  simp only [w_iastore, hg_14, hs_14, pm_oR_s, true_and]
theorem f_iald_15 {i : Int32} : pm_WL P d y pc ((.iaload, n) :: r) L (.int i :: .ref 15 :: S) (mk h) Q = (pm_inR i (h 15).length ∧ pm_WL P d y (pc + n) r L (.int (pm_rd (h 15) i) :: S) (mk h) Q) := by
  simp only [w_iaload, hg_15, pm_oR_s, ne_eq, Nat.reduceEqDiff, Nat.zero_ne_one, Nat.succ_ne_self, not_false_eq_true, true_and]
theorem f_alen_15 : pm_WL P d y pc ((.arraylength, n) :: r) L (.ref 15 :: S) (mk h) Q = pm_WL P d y (pc + n) r L (.int (nI (h 15).length) :: S) (mk h) Q := by
  simp only [w_alen, hg_15, pm_oR_s]
theorem f_iast_15 {i x : Int32} : pm_WL P d y pc ((.iastore, n) :: r) L (.int x :: .int i :: .ref 15 :: S) (mk h) Q = (pm_inR i (h 15).length ∧ pm_WL P d y (pc + n) r L S (mk (up h 15 (pm_wr (h 15) i x))) Q) := by
  simp only [w_iastore, hg_15, hs_15, pm_oR_s, true_and]
theorem f_iald_16 {i : Int32} : pm_WL P d y pc ((.iaload, n) :: r) L (.int i :: .ref 16 :: S) (mk h) Q = (pm_inR i (h 16).length ∧ pm_WL P d y (pc + n) r L (.int (pm_rd (h 16) i) :: S) (mk h) Q) := by
  simp only [w_iaload, hg_16, pm_oR_s, ne_eq, Nat.reduceEqDiff, Nat.zero_ne_one, Nat.succ_ne_self, not_false_eq_true, true_and]
theorem f_alen_16 : pm_WL P d y pc ((.arraylength, n) :: r) L (.ref 16 :: S) (mk h) Q = pm_WL P d y (pc + n) r L (.int (nI (h 16).length) :: S) (mk h) Q := by
  simp only [w_alen, hg_16, pm_oR_s]
theorem f_iast_16 {i x : Int32} : pm_WL P d y pc ((.iastore, n) :: r) L (.int x :: .int i :: .ref 16 :: S) (mk h) Q = (pm_inR i (h 16).length ∧ pm_WL P d y (pc + n) r L S (mk (up h 16 (pm_wr (h 16) i x))) Q) := by
  simp only [w_iastore, hg_16, hs_16, pm_oR_s, true_and]
theorem f_iald_17 {i : Int32} : pm_WL P d y pc ((.iaload, n) :: r) L (.int i :: .ref 17 :: S) (mk h) Q = (pm_inR i (h 17).length ∧ pm_WL P d y (pc + n) r L (.int (pm_rd (h 17) i) :: S) (mk h) Q) := by
  simp only [w_iaload, hg_17, pm_oR_s, ne_eq, Nat.reduceEqDiff, Nat.zero_ne_one, Nat.succ_ne_self, not_false_eq_true, true_and]
theorem f_alen_17 : pm_WL P d y pc ((.arraylength, n) :: r) L (.ref 17 :: S) (mk h) Q = pm_WL P d y (pc + n) r L (.int (nI (h 17).length) :: S) (mk h) Q := by
  simp only [w_alen, hg_17, pm_oR_s]
theorem f_iast_17 {i x : Int32} : pm_WL P d y pc ((.iastore, n) :: r) L (.int x :: .int i :: .ref 17 :: S) (mk h) Q = (pm_inR i (h 17).length ∧ pm_WL P d y (pc + n) r L S (mk (up h 17 (pm_wr (h 17) i x))) Q) := by
  simp only [w_iastore, hg_17, hs_17, pm_oR_s, true_and]
theorem f_iald_18 {i : Int32} : pm_WL P d y pc ((.iaload, n) :: r) L (.int i :: .ref 18 :: S) (mk h) Q = (pm_inR i (h 18).length ∧ pm_WL P d y (pc + n) r L (.int (pm_rd (h 18) i) :: S) (mk h) Q) := by
  simp only [w_iaload, hg_18, pm_oR_s, ne_eq, Nat.reduceEqDiff, Nat.zero_ne_one, Nat.succ_ne_self, not_false_eq_true, true_and]
theorem f_alen_18 : pm_WL P d y pc ((.arraylength, n) :: r) L (.ref 18 :: S) (mk h) Q = pm_WL P d y (pc + n) r L (.int (nI (h 18).length) :: S) (mk h) Q := by
  simp only [w_alen, hg_18, pm_oR_s]
theorem f_iast_18 {i x : Int32} : pm_WL P d y pc ((.iastore, n) :: r) L (.int x :: .int i :: .ref 18 :: S) (mk h) Q = (pm_inR i (h 18).length ∧ pm_WL P d y (pc + n) r L S (mk (up h 18 (pm_wr (h 18) i x))) Q) := by
  simp only [w_iastore, hg_18, hs_18, pm_oR_s, true_and]
theorem f_iald_19 {i : Int32} : pm_WL P d y pc ((.iaload, n) :: r) L (.int i :: .ref 19 :: S) (mk h) Q = (pm_inR i (h 19).length ∧ pm_WL P d y (pc + n) r L (.int (pm_rd (h 19) i) :: S) (mk h) Q) := by
  simp only [w_iaload, hg_19, pm_oR_s, ne_eq, Nat.reduceEqDiff, Nat.zero_ne_one, Nat.succ_ne_self, not_false_eq_true, true_and]
theorem f_alen_19 : pm_WL P d y pc ((.arraylength, n) :: r) L (.ref 19 :: S) (mk h) Q = pm_WL P d y (pc + n) r L (.int (nI (h 19).length) :: S) (mk h) Q := by
  simp only [w_alen, hg_19, pm_oR_s]
theorem f_iast_19 {i x : Int32} : pm_WL P d y pc ((.iastore, n) :: r) L (.int x :: .int i :: .ref 19 :: S) (mk h) Q = (pm_inR i (h 19).length ∧ pm_WL P d y (pc + n) r L S (mk (up h 19 (pm_wr (h 19) i x))) Q) := by
  simp only [w_iastore, hg_19, hs_19, pm_oR_s, true_and]
theorem f_iald_20 {i : Int32} : pm_WL P d y pc ((.iaload, n) :: r) L (.int i :: .ref 20 :: S) (mk h) Q = (pm_inR i (h 20).length ∧ pm_WL P d y (pc + n) r L (.int (pm_rd (h 20) i) :: S) (mk h) Q) := by
  simp only [w_iaload, hg_20, pm_oR_s, ne_eq, Nat.reduceEqDiff, Nat.zero_ne_one, Nat.succ_ne_self, not_false_eq_true, true_and]
theorem f_alen_20 : pm_WL P d y pc ((.arraylength, n) :: r) L (.ref 20 :: S) (mk h) Q = pm_WL P d y (pc + n) r L (.int (nI (h 20).length) :: S) (mk h) Q := by
  simp only [w_alen, hg_20, pm_oR_s]
theorem f_iast_20 {i x : Int32} : pm_WL P d y pc ((.iastore, n) :: r) L (.int x :: .int i :: .ref 20 :: S) (mk h) Q = (pm_inR i (h 20).length ∧ pm_WL P d y (pc + n) r L S (mk (up h 20 (pm_wr (h 20) i x))) Q) := by
  simp only [w_iastore, hg_20, hs_20, pm_oR_s, true_and]
theorem f_iald_22 {i : Int32} : pm_WL P d y pc ((.iaload, n) :: r) L (.int i :: .ref 22 :: S) (mk h) Q = (pm_inR i (h 22).length ∧ pm_WL P d y (pc + n) r L (.int (pm_rd (h 22) i) :: S) (mk h) Q) := by
  simp only [w_iaload, hg_22, pm_oR_s, ne_eq, Nat.reduceEqDiff, Nat.zero_ne_one, Nat.succ_ne_self, not_false_eq_true, true_and]
theorem f_alen_22 : pm_WL P d y pc ((.arraylength, n) :: r) L (.ref 22 :: S) (mk h) Q = pm_WL P d y (pc + n) r L (.int (nI (h 22).length) :: S) (mk h) Q := by
  simp only [w_alen, hg_22, pm_oR_s]
theorem f_iast_22 {i x : Int32} : pm_WL P d y pc ((.iastore, n) :: r) L (.int x :: .int i :: .ref 22 :: S) (mk h) Q = (pm_inR i (h 22).length ∧ pm_WL P d y (pc + n) r L S (mk (up h 22 (pm_wr (h 22) i x))) Q) := by
  simp only [w_iastore, hg_22, hs_22, pm_oR_s, true_and]
theorem f_iald_23 {i : Int32} : pm_WL P d y pc ((.iaload, n) :: r) L (.int i :: .ref 23 :: S) (mk h) Q = (pm_inR i (h 23).length ∧ pm_WL P d y (pc + n) r L (.int (pm_rd (h 23) i) :: S) (mk h) Q) := by
  simp only [w_iaload, hg_23, pm_oR_s, ne_eq, Nat.reduceEqDiff, Nat.zero_ne_one, Nat.succ_ne_self, not_false_eq_true, true_and]
theorem f_alen_23 : pm_WL P d y pc ((.arraylength, n) :: r) L (.ref 23 :: S) (mk h) Q = pm_WL P d y (pc + n) r L (.int (nI (h 23).length) :: S) (mk h) Q := by
  simp only [w_alen, hg_23, pm_oR_s]
theorem f_iast_23 {i x : Int32} : pm_WL P d y pc ((.iastore, n) :: r) L (.int x :: .int i :: .ref 23 :: S) (mk h) Q = (pm_inR i (h 23).length ∧ pm_WL P d y (pc + n) r L S (mk (up h 23 (pm_wr (h 23) i x))) Q) := by
  simp only [w_iastore, hg_23, hs_23, pm_oR_s, true_and]
theorem f_iald_24 {i : Int32} : pm_WL P d y pc ((.iaload, n) :: r) L (.int i :: .ref 24 :: S) (mk h) Q = (pm_inR i (h 24).length ∧ pm_WL P d y (pc + n) r L (.int (pm_rd (h 24) i) :: S) (mk h) Q) := by
  simp only [w_iaload, hg_24, pm_oR_s, ne_eq, Nat.reduceEqDiff, Nat.zero_ne_one, Nat.succ_ne_self, not_false_eq_true, true_and]
theorem f_alen_24 : pm_WL P d y pc ((.arraylength, n) :: r) L (.ref 24 :: S) (mk h) Q = pm_WL P d y (pc + n) r L (.int (nI (h 24).length) :: S) (mk h) Q := by
  simp only [w_alen, hg_24, pm_oR_s]
theorem f_iast_24 {i x : Int32} : pm_WL P d y pc ((.iastore, n) :: r) L (.int x :: .int i :: .ref 24 :: S) (mk h) Q = (pm_inR i (h 24).length ∧ pm_WL P d y (pc + n) r L S (mk (up h 24 (pm_wr (h 24) i x))) Q) := by
  simp only [w_iastore, hg_24, hs_24, pm_oR_s, true_and]
theorem f_iald_26 {i : Int32} : pm_WL P d y pc ((.iaload, n) :: r) L (.int i :: .ref 26 :: S) (mk h) Q = (pm_inR i (h 26).length ∧ pm_WL P d y (pc + n) r L (.int (pm_rd (h 26) i) :: S) (mk h) Q) := by
  simp only [w_iaload, hg_26, pm_oR_s, ne_eq, Nat.reduceEqDiff, Nat.zero_ne_one, Nat.succ_ne_self, not_false_eq_true, true_and]
theorem f_alen_26 : pm_WL P d y pc ((.arraylength, n) :: r) L (.ref 26 :: S) (mk h) Q = pm_WL P d y (pc + n) r L (.int (nI (h 26).length) :: S) (mk h) Q := by
  simp only [w_alen, hg_26, pm_oR_s]
theorem f_iast_26 {i x : Int32} : pm_WL P d y pc ((.iastore, n) :: r) L (.int x :: .int i :: .ref 26 :: S) (mk h) Q = (pm_inR i (h 26).length ∧ pm_WL P d y (pc + n) r L S (mk (up h 26 (pm_wr (h 26) i x))) Q) := by
  simp only [w_iastore, hg_26, hs_26, pm_oR_s, true_and]
theorem f_iald_27 {i : Int32} : pm_WL P d y pc ((.iaload, n) :: r) L (.int i :: .ref 27 :: S) (mk h) Q = (pm_inR i (h 27).length ∧ pm_WL P d y (pc + n) r L (.int (pm_rd (h 27) i) :: S) (mk h) Q) := by
  simp only [w_iaload, hg_27, pm_oR_s, ne_eq, Nat.reduceEqDiff, Nat.zero_ne_one, Nat.succ_ne_self, not_false_eq_true, true_and]
theorem f_alen_27 : pm_WL P d y pc ((.arraylength, n) :: r) L (.ref 27 :: S) (mk h) Q = pm_WL P d y (pc + n) r L (.int (nI (h 27).length) :: S) (mk h) Q := by
  simp only [w_alen, hg_27, pm_oR_s]
theorem f_iast_27 {i x : Int32} : pm_WL P d y pc ((.iastore, n) :: r) L (.int x :: .int i :: .ref 27 :: S) (mk h) Q = (pm_inR i (h 27).length ∧ pm_WL P d y (pc + n) r L S (mk (up h 27 (pm_wr (h 27) i x))) Q) := by
  simp only [w_iastore, hg_27, hs_27, pm_oR_s, true_and]
theorem f_iald_28 {i : Int32} : pm_WL P d y pc ((.iaload, n) :: r) L (.int i :: .ref 28 :: S) (mk h) Q = (pm_inR i (h 28).length ∧ pm_WL P d y (pc + n) r L (.int (pm_rd (h 28) i) :: S) (mk h) Q) := by
  simp only [w_iaload, hg_28, pm_oR_s, ne_eq, Nat.reduceEqDiff, Nat.zero_ne_one, Nat.succ_ne_self, not_false_eq_true, true_and]
theorem f_alen_28 : pm_WL P d y pc ((.arraylength, n) :: r) L (.ref 28 :: S) (mk h) Q = pm_WL P d y (pc + n) r L (.int (nI (h 28).length) :: S) (mk h) Q := by
  simp only [w_alen, hg_28, pm_oR_s]
theorem f_iast_28 {i x : Int32} : pm_WL P d y pc ((.iastore, n) :: r) L (.int x :: .int i :: .ref 28 :: S) (mk h) Q = (pm_inR i (h 28).length ∧ pm_WL P d y (pc + n) r L S (mk (up h 28 (pm_wr (h 28) i x))) Q) := by
  simp only [w_iastore, hg_28, hs_28, pm_oR_s, true_and]
theorem f_iald_30 {i : Int32} : pm_WL P d y pc ((.iaload, n) :: r) L (.int i :: .ref 30 :: S) (mk h) Q = (pm_inR i (h 30).length ∧ pm_WL P d y (pc + n) r L (.int (pm_rd (h 30) i) :: S) (mk h) Q) := by
  simp only [w_iaload, hg_30, pm_oR_s, ne_eq, Nat.reduceEqDiff, Nat.zero_ne_one, Nat.succ_ne_self, not_false_eq_true, true_and]
theorem f_alen_30 : pm_WL P d y pc ((.arraylength, n) :: r) L (.ref 30 :: S) (mk h) Q = pm_WL P d y (pc + n) r L (.int (nI (h 30).length) :: S) (mk h) Q := by
  simp only [w_alen, hg_30, pm_oR_s]
theorem f_iast_30 {i x : Int32} : pm_WL P d y pc ((.iastore, n) :: r) L (.int x :: .int i :: .ref 30 :: S) (mk h) Q = (pm_inR i (h 30).length ∧ pm_WL P d y (pc + n) r L S (mk (up h 30 (pm_wr (h 30) i x))) Q) := by
  simp only [w_iastore, hg_30, hs_30, pm_oR_s, true_and]
theorem f_iald_31 {i : Int32} : pm_WL P d y pc ((.iaload, n) :: r) L (.int i :: .ref 31 :: S) (mk h) Q = (pm_inR i (h 31).length ∧ pm_WL P d y (pc + n) r L (.int (pm_rd (h 31) i) :: S) (mk h) Q) := by
  simp only [w_iaload, hg_31, pm_oR_s, ne_eq, Nat.reduceEqDiff, Nat.zero_ne_one, Nat.succ_ne_self, not_false_eq_true, true_and]
theorem f_alen_31 : pm_WL P d y pc ((.arraylength, n) :: r) L (.ref 31 :: S) (mk h) Q = pm_WL P d y (pc + n) r L (.int (nI (h 31).length) :: S) (mk h) Q := by
  simp only [w_alen, hg_31, pm_oR_s]
theorem f_iast_31 {i x : Int32} : pm_WL P d y pc ((.iastore, n) :: r) L (.int x :: .int i :: .ref 31 :: S) (mk h) Q = (pm_inR i (h 31).length ∧ pm_WL P d y (pc + n) r L S (mk (up h 31 (pm_wr (h 31) i x))) Q) := by
  simp only [w_iastore, hg_31, hs_31, pm_oR_s, true_and]
theorem f_iald_32 {i : Int32} : pm_WL P d y pc ((.iaload, n) :: r) L (.int i :: .ref 32 :: S) (mk h) Q = (pm_inR i (h 32).length ∧ pm_WL P d y (pc + n) r L (.int (pm_rd (h 32) i) :: S) (mk h) Q) := by
  simp only [w_iaload, hg_32, pm_oR_s, ne_eq, Nat.reduceEqDiff, Nat.zero_ne_one, Nat.succ_ne_self, not_false_eq_true, true_and]
theorem f_alen_32 : pm_WL P d y pc ((.arraylength, n) :: r) L (.ref 32 :: S) (mk h) Q = pm_WL P d y (pc + n) r L (.int (nI (h 32).length) :: S) (mk h) Q := by
  simp only [w_alen, hg_32, pm_oR_s]
theorem f_iast_32 {i x : Int32} : pm_WL P d y pc ((.iastore, n) :: r) L (.int x :: .int i :: .ref 32 :: S) (mk h) Q = (pm_inR i (h 32).length ∧ pm_WL P d y (pc + n) r L S (mk (up h 32 (pm_wr (h 32) i x))) Q) := by
  simp only [w_iastore, hg_32, hs_32, pm_oR_s, true_and]
theorem f_iald_36 {i : Int32} : pm_WL P d y pc ((.iaload, n) :: r) L (.int i :: .ref 36 :: S) (mk h) Q = (pm_inR i (h 36).length ∧ pm_WL P d y (pc + n) r L (.int (pm_rd (h 36) i) :: S) (mk h) Q) := by
  simp only [w_iaload, hg_36, pm_oR_s, ne_eq, Nat.reduceEqDiff, Nat.zero_ne_one, Nat.succ_ne_self, not_false_eq_true, true_and]
theorem f_alen_36 : pm_WL P d y pc ((.arraylength, n) :: r) L (.ref 36 :: S) (mk h) Q = pm_WL P d y (pc + n) r L (.int (nI (h 36).length) :: S) (mk h) Q := by
  simp only [w_alen, hg_36, pm_oR_s]
theorem f_iast_36 {i x : Int32} : pm_WL P d y pc ((.iastore, n) :: r) L (.int x :: .int i :: .ref 36 :: S) (mk h) Q = (pm_inR i (h 36).length ∧ pm_WL P d y (pc + n) r L S (mk (up h 36 (pm_wr (h 36) i x))) Q) := by
  simp only [w_iastore, hg_36, hs_36, pm_oR_s, true_and]
theorem f_iald_37 {i : Int32} : pm_WL P d y pc ((.iaload, n) :: r) L (.int i :: .ref 37 :: S) (mk h) Q = (pm_inR i (h 37).length ∧ pm_WL P d y (pc + n) r L (.int (pm_rd (h 37) i) :: S) (mk h) Q) := by
  simp only [w_iaload, hg_37, pm_oR_s, ne_eq, Nat.reduceEqDiff, Nat.zero_ne_one, Nat.succ_ne_self, not_false_eq_true, true_and]
theorem f_alen_37 : pm_WL P d y pc ((.arraylength, n) :: r) L (.ref 37 :: S) (mk h) Q = pm_WL P d y (pc + n) r L (.int (nI (h 37).length) :: S) (mk h) Q := by
  simp only [w_alen, hg_37, pm_oR_s]
theorem f_iast_37 {i x : Int32} : pm_WL P d y pc ((.iastore, n) :: r) L (.int x :: .int i :: .ref 37 :: S) (mk h) Q = (pm_inR i (h 37).length ∧ pm_WL P d y (pc + n) r L S (mk (up h 37 (pm_wr (h 37) i x))) Q) := by
  simp only [w_iastore, hg_37, hs_37, pm_oR_s, true_and]
theorem f_iald_38 {i : Int32} : pm_WL P d y pc ((.iaload, n) :: r) L (.int i :: .ref 38 :: S) (mk h) Q = (pm_inR i (h 38).length ∧ pm_WL P d y (pc + n) r L (.int (pm_rd (h 38) i) :: S) (mk h) Q) := by
  simp only [w_iaload, hg_38, pm_oR_s, ne_eq, Nat.reduceEqDiff, Nat.zero_ne_one, Nat.succ_ne_self, not_false_eq_true, true_and]
theorem f_alen_38 : pm_WL P d y pc ((.arraylength, n) :: r) L (.ref 38 :: S) (mk h) Q = pm_WL P d y (pc + n) r L (.int (nI (h 38).length) :: S) (mk h) Q := by
  simp only [w_alen, hg_38, pm_oR_s]
theorem f_iast_38 {i x : Int32} : pm_WL P d y pc ((.iastore, n) :: r) L (.int x :: .int i :: .ref 38 :: S) (mk h) Q = (pm_inR i (h 38).length ∧ pm_WL P d y (pc + n) r L S (mk (up h 38 (pm_wr (h 38) i x))) Q) := by
  simp only [w_iastore, hg_38, hs_38, pm_oR_s, true_and]
theorem f_iald_40 {i : Int32} : pm_WL P d y pc ((.iaload, n) :: r) L (.int i :: .ref 40 :: S) (mk h) Q = (pm_inR i (h 40).length ∧ pm_WL P d y (pc + n) r L (.int (pm_rd (h 40) i) :: S) (mk h) Q) := by
  simp only [w_iaload, hg_40, pm_oR_s, ne_eq, Nat.reduceEqDiff, Nat.zero_ne_one, Nat.succ_ne_self, not_false_eq_true, true_and]
theorem f_alen_40 : pm_WL P d y pc ((.arraylength, n) :: r) L (.ref 40 :: S) (mk h) Q = pm_WL P d y (pc + n) r L (.int (nI (h 40).length) :: S) (mk h) Q := by
  simp only [w_alen, hg_40, pm_oR_s]
theorem f_iast_40 {i x : Int32} : pm_WL P d y pc ((.iastore, n) :: r) L (.int x :: .int i :: .ref 40 :: S) (mk h) Q = (pm_inR i (h 40).length ∧ pm_WL P d y (pc + n) r L S (mk (up h 40 (pm_wr (h 40) i x))) Q) := by
  simp only [w_iastore, hg_40, hs_40, pm_oR_s, true_and]
theorem f_iald_41 {i : Int32} : pm_WL P d y pc ((.iaload, n) :: r) L (.int i :: .ref 41 :: S) (mk h) Q = (pm_inR i (h 41).length ∧ pm_WL P d y (pc + n) r L (.int (pm_rd (h 41) i) :: S) (mk h) Q) := by
  simp only [w_iaload, hg_41, pm_oR_s, ne_eq, Nat.reduceEqDiff, Nat.zero_ne_one, Nat.succ_ne_self, not_false_eq_true, true_and]
theorem f_alen_41 : pm_WL P d y pc ((.arraylength, n) :: r) L (.ref 41 :: S) (mk h) Q = pm_WL P d y (pc + n) r L (.int (nI (h 41).length) :: S) (mk h) Q := by
  simp only [w_alen, hg_41, pm_oR_s]
theorem f_iast_41 {i x : Int32} : pm_WL P d y pc ((.iastore, n) :: r) L (.int x :: .int i :: .ref 41 :: S) (mk h) Q = (pm_inR i (h 41).length ∧ pm_WL P d y (pc + n) r L S (mk (up h 41 (pm_wr (h 41) i x))) Q) := by
  simp only [w_iastore, hg_41, hs_41, pm_oR_s, true_and]
theorem f_iald_42 {i : Int32} : pm_WL P d y pc ((.iaload, n) :: r) L (.int i :: .ref 42 :: S) (mk h) Q = (pm_inR i (h 42).length ∧ pm_WL P d y (pc + n) r L (.int (pm_rd (h 42) i) :: S) (mk h) Q) := by
  simp only [w_iaload, hg_42, pm_oR_s, ne_eq, Nat.reduceEqDiff, Nat.zero_ne_one, Nat.succ_ne_self, not_false_eq_true, true_and]
theorem f_alen_42 : pm_WL P d y pc ((.arraylength, n) :: r) L (.ref 42 :: S) (mk h) Q = pm_WL P d y (pc + n) r L (.int (nI (h 42).length) :: S) (mk h) Q := by
  simp only [w_alen, hg_42, pm_oR_s]
theorem f_iast_42 {i x : Int32} : pm_WL P d y pc ((.iastore, n) :: r) L (.int x :: .int i :: .ref 42 :: S) (mk h) Q = (pm_inR i (h 42).length ∧ pm_WL P d y (pc + n) r L S (mk (up h 42 (pm_wr (h 42) i x))) Q) := by
  simp only [w_iastore, hg_42, hs_42, pm_oR_s, true_and]
theorem f_iald_43 {i : Int32} : pm_WL P d y pc ((.iaload, n) :: r) L (.int i :: .ref 43 :: S) (mk h) Q = (pm_inR i (h 43).length ∧ pm_WL P d y (pc + n) r L (.int (pm_rd (h 43) i) :: S) (mk h) Q) := by
  simp only [w_iaload, hg_43, pm_oR_s, ne_eq, Nat.reduceEqDiff, Nat.zero_ne_one, Nat.succ_ne_self, not_false_eq_true, true_and]
theorem f_alen_43 : pm_WL P d y pc ((.arraylength, n) :: r) L (.ref 43 :: S) (mk h) Q = pm_WL P d y (pc + n) r L (.int (nI (h 43).length) :: S) (mk h) Q := by
  simp only [w_alen, hg_43, pm_oR_s]
theorem f_iast_43 {i x : Int32} : pm_WL P d y pc ((.iastore, n) :: r) L (.int x :: .int i :: .ref 43 :: S) (mk h) Q = (pm_inR i (h 43).length ∧ pm_WL P d y (pc + n) r L S (mk (up h 43 (pm_wr (h 43) i x))) Q) := by
  simp only [w_iastore, hg_43, hs_43, pm_oR_s, true_and]
theorem f_iald_44 {i : Int32} : pm_WL P d y pc ((.iaload, n) :: r) L (.int i :: .ref 44 :: S) (mk h) Q = (pm_inR i (h 44).length ∧ pm_WL P d y (pc + n) r L (.int (pm_rd (h 44) i) :: S) (mk h) Q) := by
  simp only [w_iaload, hg_44, pm_oR_s, ne_eq, Nat.reduceEqDiff, Nat.zero_ne_one, Nat.succ_ne_self, not_false_eq_true, true_and]
theorem f_alen_44 : pm_WL P d y pc ((.arraylength, n) :: r) L (.ref 44 :: S) (mk h) Q = pm_WL P d y (pc + n) r L (.int (nI (h 44).length) :: S) (mk h) Q := by
  simp only [w_alen, hg_44, pm_oR_s]
theorem f_iast_44 {i x : Int32} : pm_WL P d y pc ((.iastore, n) :: r) L (.int x :: .int i :: .ref 44 :: S) (mk h) Q = (pm_inR i (h 44).length ∧ pm_WL P d y (pc + n) r L S (mk (up h 44 (pm_wr (h 44) i x))) Q) := by
  simp only [w_iastore, hg_44, hs_44, pm_oR_s, true_and]
theorem f_iald_45 {i : Int32} : pm_WL P d y pc ((.iaload, n) :: r) L (.int i :: .ref 45 :: S) (mk h) Q = (pm_inR i (h 45).length ∧ pm_WL P d y (pc + n) r L (.int (pm_rd (h 45) i) :: S) (mk h) Q) := by
  simp only [w_iaload, hg_45, pm_oR_s, ne_eq, Nat.reduceEqDiff, Nat.zero_ne_one, Nat.succ_ne_self, not_false_eq_true, true_and]
theorem f_alen_45 : pm_WL P d y pc ((.arraylength, n) :: r) L (.ref 45 :: S) (mk h) Q = pm_WL P d y (pc + n) r L (.int (nI (h 45).length) :: S) (mk h) Q := by
  simp only [w_alen, hg_45, pm_oR_s]
theorem f_iast_45 {i x : Int32} : pm_WL P d y pc ((.iastore, n) :: r) L (.int x :: .int i :: .ref 45 :: S) (mk h) Q = (pm_inR i (h 45).length ∧ pm_WL P d y (pc + n) r L S (mk (up h 45 (pm_wr (h 45) i x))) Q) := by
  simp only [w_iastore, hg_45, hs_45, pm_oR_s, true_and]
theorem f_iald_46 {i : Int32} : pm_WL P d y pc ((.iaload, n) :: r) L (.int i :: .ref 46 :: S) (mk h) Q = (pm_inR i (h 46).length ∧ pm_WL P d y (pc + n) r L (.int (pm_rd (h 46) i) :: S) (mk h) Q) := by
  simp only [w_iaload, hg_46, pm_oR_s, ne_eq, Nat.reduceEqDiff, Nat.zero_ne_one, Nat.succ_ne_self, not_false_eq_true, true_and]
theorem f_alen_46 : pm_WL P d y pc ((.arraylength, n) :: r) L (.ref 46 :: S) (mk h) Q = pm_WL P d y (pc + n) r L (.int (nI (h 46).length) :: S) (mk h) Q := by
  simp only [w_alen, hg_46, pm_oR_s]
theorem f_iast_46 {i x : Int32} : pm_WL P d y pc ((.iastore, n) :: r) L (.int x :: .int i :: .ref 46 :: S) (mk h) Q = (pm_inR i (h 46).length ∧ pm_WL P d y (pc + n) r L S (mk (up h 46 (pm_wr (h 46) i x))) Q) := by
  simp only [w_iastore, hg_46, hs_46, pm_oR_s, true_and]
theorem f_iald_47 {i : Int32} : pm_WL P d y pc ((.iaload, n) :: r) L (.int i :: .ref 47 :: S) (mk h) Q = (pm_inR i (h 47).length ∧ pm_WL P d y (pc + n) r L (.int (pm_rd (h 47) i) :: S) (mk h) Q) := by
  simp only [w_iaload, hg_47, pm_oR_s, ne_eq, Nat.reduceEqDiff, Nat.zero_ne_one, Nat.succ_ne_self, not_false_eq_true, true_and]
theorem f_alen_47 : pm_WL P d y pc ((.arraylength, n) :: r) L (.ref 47 :: S) (mk h) Q = pm_WL P d y (pc + n) r L (.int (nI (h 47).length) :: S) (mk h) Q := by
  simp only [w_alen, hg_47, pm_oR_s]
theorem f_iast_47 {i x : Int32} : pm_WL P d y pc ((.iastore, n) :: r) L (.int x :: .int i :: .ref 47 :: S) (mk h) Q = (pm_inR i (h 47).length ∧ pm_WL P d y (pc + n) r L S (mk (up h 47 (pm_wr (h 47) i x))) Q) := by
  simp only [w_iastore, hg_47, hs_47, pm_oR_s, true_and]
theorem f_iald_48 {i : Int32} : pm_WL P d y pc ((.iaload, n) :: r) L (.int i :: .ref 48 :: S) (mk h) Q = (pm_inR i (h 48).length ∧ pm_WL P d y (pc + n) r L (.int (pm_rd (h 48) i) :: S) (mk h) Q) := by
  simp only [w_iaload, hg_48, pm_oR_s, ne_eq, Nat.reduceEqDiff, Nat.zero_ne_one, Nat.succ_ne_self, not_false_eq_true, true_and]
theorem f_alen_48 : pm_WL P d y pc ((.arraylength, n) :: r) L (.ref 48 :: S) (mk h) Q = pm_WL P d y (pc + n) r L (.int (nI (h 48).length) :: S) (mk h) Q := by
  simp only [w_alen, hg_48, pm_oR_s]
theorem f_iast_48 {i x : Int32} : pm_WL P d y pc ((.iastore, n) :: r) L (.int x :: .int i :: .ref 48 :: S) (mk h) Q = (pm_inR i (h 48).length ∧ pm_WL P d y (pc + n) r L S (mk (up h 48 (pm_wr (h 48) i x))) Q) := by
  simp only [w_iastore, hg_48, hs_48, pm_oR_s, true_and]
theorem f_iald_50 {i : Int32} : pm_WL P d y pc ((.iaload, n) :: r) L (.int i :: .ref 50 :: S) (mk h) Q = (pm_inR i (h 50).length ∧ pm_WL P d y (pc + n) r L (.int (pm_rd (h 50) i) :: S) (mk h) Q) := by
  simp only [w_iaload, hg_50, pm_oR_s, ne_eq, Nat.reduceEqDiff, Nat.zero_ne_one, Nat.succ_ne_self, not_false_eq_true, true_and]
theorem f_alen_50 : pm_WL P d y pc ((.arraylength, n) :: r) L (.ref 50 :: S) (mk h) Q = pm_WL P d y (pc + n) r L (.int (nI (h 50).length) :: S) (mk h) Q := by
  simp only [w_alen, hg_50, pm_oR_s]
theorem f_iast_50 {i x : Int32} : pm_WL P d y pc ((.iastore, n) :: r) L (.int x :: .int i :: .ref 50 :: S) (mk h) Q = (pm_inR i (h 50).length ∧ pm_WL P d y (pc + n) r L S (mk (up h 50 (pm_wr (h 50) i x))) Q) := by
  simp only [w_iastore, hg_50, hs_50, pm_oR_s, true_and]
theorem f_iald_51 {i : Int32} : pm_WL P d y pc ((.iaload, n) :: r) L (.int i :: .ref 51 :: S) (mk h) Q = (pm_inR i (h 51).length ∧ pm_WL P d y (pc + n) r L (.int (pm_rd (h 51) i) :: S) (mk h) Q) := by
  simp only [w_iaload, hg_51, pm_oR_s, ne_eq, Nat.reduceEqDiff, Nat.zero_ne_one, Nat.succ_ne_self, not_false_eq_true, true_and]
theorem f_alen_51 : pm_WL P d y pc ((.arraylength, n) :: r) L (.ref 51 :: S) (mk h) Q = pm_WL P d y (pc + n) r L (.int (nI (h 51).length) :: S) (mk h) Q := by
  simp only [w_alen, hg_51, pm_oR_s]
theorem f_iast_51 {i x : Int32} : pm_WL P d y pc ((.iastore, n) :: r) L (.int x :: .int i :: .ref 51 :: S) (mk h) Q = (pm_inR i (h 51).length ∧ pm_WL P d y (pc + n) r L S (mk (up h 51 (pm_wr (h 51) i x))) Q) := by
  simp only [w_iastore, hg_51, hs_51, pm_oR_s, true_and]
theorem f_iald_52 {i : Int32} : pm_WL P d y pc ((.iaload, n) :: r) L (.int i :: .ref 52 :: S) (mk h) Q = (pm_inR i (h 52).length ∧ pm_WL P d y (pc + n) r L (.int (pm_rd (h 52) i) :: S) (mk h) Q) := by
  simp only [w_iaload, hg_52, pm_oR_s, ne_eq, Nat.reduceEqDiff, Nat.zero_ne_one, Nat.succ_ne_self, not_false_eq_true, true_and]
theorem f_alen_52 : pm_WL P d y pc ((.arraylength, n) :: r) L (.ref 52 :: S) (mk h) Q = pm_WL P d y (pc + n) r L (.int (nI (h 52).length) :: S) (mk h) Q := by
  simp only [w_alen, hg_52, pm_oR_s]
theorem f_iast_52 {i x : Int32} : pm_WL P d y pc ((.iastore, n) :: r) L (.int x :: .int i :: .ref 52 :: S) (mk h) Q = (pm_inR i (h 52).length ∧ pm_WL P d y (pc + n) r L S (mk (up h 52 (pm_wr (h 52) i x))) Q) := by
  simp only [w_iastore, hg_52, hs_52, pm_oR_s, true_and]
theorem f_iald_54 {i : Int32} : pm_WL P d y pc ((.iaload, n) :: r) L (.int i :: .ref 54 :: S) (mk h) Q = (pm_inR i (h 54).length ∧ pm_WL P d y (pc + n) r L (.int (pm_rd (h 54) i) :: S) (mk h) Q) := by
  simp only [w_iaload, hg_54, pm_oR_s, ne_eq, Nat.reduceEqDiff, Nat.zero_ne_one, Nat.succ_ne_self, not_false_eq_true, true_and]
theorem f_alen_54 : pm_WL P d y pc ((.arraylength, n) :: r) L (.ref 54 :: S) (mk h) Q = pm_WL P d y (pc + n) r L (.int (nI (h 54).length) :: S) (mk h) Q := by
  simp only [w_alen, hg_54, pm_oR_s]
theorem f_iast_54 {i x : Int32} : pm_WL P d y pc ((.iastore, n) :: r) L (.int x :: .int i :: .ref 54 :: S) (mk h) Q = (pm_inR i (h 54).length ∧ pm_WL P d y (pc + n) r L S (mk (up h 54 (pm_wr (h 54) i x))) Q) := by
  simp only [w_iastore, hg_54, hs_54, pm_oR_s, true_and]
theorem f_iald_55 {i : Int32} : pm_WL P d y pc ((.iaload, n) :: r) L (.int i :: .ref 55 :: S) (mk h) Q = (pm_inR i (h 55).length ∧ pm_WL P d y (pc + n) r L (.int (pm_rd (h 55) i) :: S) (mk h) Q) := by
  simp only [w_iaload, hg_55, pm_oR_s, ne_eq, Nat.reduceEqDiff, Nat.zero_ne_one, Nat.succ_ne_self, not_false_eq_true, true_and]
theorem f_alen_55 : pm_WL P d y pc ((.arraylength, n) :: r) L (.ref 55 :: S) (mk h) Q = pm_WL P d y (pc + n) r L (.int (nI (h 55).length) :: S) (mk h) Q := by
  simp only [w_alen, hg_55, pm_oR_s]
theorem f_iast_55 {i x : Int32} : pm_WL P d y pc ((.iastore, n) :: r) L (.int x :: .int i :: .ref 55 :: S) (mk h) Q = (pm_inR i (h 55).length ∧ pm_WL P d y (pc + n) r L S (mk (up h 55 (pm_wr (h 55) i x))) Q) := by
  simp only [w_iastore, hg_55, hs_55, pm_oR_s, true_and]
theorem f_iald_56 {i : Int32} : pm_WL P d y pc ((.iaload, n) :: r) L (.int i :: .ref 56 :: S) (mk h) Q = (pm_inR i (h 56).length ∧ pm_WL P d y (pc + n) r L (.int (pm_rd (h 56) i) :: S) (mk h) Q) := by
  simp only [w_iaload, hg_56, pm_oR_s, ne_eq, Nat.reduceEqDiff, Nat.zero_ne_one, Nat.succ_ne_self, not_false_eq_true, true_and]
theorem f_alen_56 : pm_WL P d y pc ((.arraylength, n) :: r) L (.ref 56 :: S) (mk h) Q = pm_WL P d y (pc + n) r L (.int (nI (h 56).length) :: S) (mk h) Q := by
  simp only [w_alen, hg_56, pm_oR_s]
theorem f_iast_56 {i x : Int32} : pm_WL P d y pc ((.iastore, n) :: r) L (.int x :: .int i :: .ref 56 :: S) (mk h) Q = (pm_inR i (h 56).length ∧ pm_WL P d y (pc + n) r L S (mk (up h 56 (pm_wr (h 56) i x))) Q) := by
  simp only [w_iastore, hg_56, hs_56, pm_oR_s, true_and]
theorem f_iald_58 {i : Int32} : pm_WL P d y pc ((.iaload, n) :: r) L (.int i :: .ref 58 :: S) (mk h) Q = (pm_inR i (h 58).length ∧ pm_WL P d y (pc + n) r L (.int (pm_rd (h 58) i) :: S) (mk h) Q) := by
  simp only [w_iaload, hg_58, pm_oR_s, ne_eq, Nat.reduceEqDiff, Nat.zero_ne_one, Nat.succ_ne_self, not_false_eq_true, true_and]
theorem f_alen_58 : pm_WL P d y pc ((.arraylength, n) :: r) L (.ref 58 :: S) (mk h) Q = pm_WL P d y (pc + n) r L (.int (nI (h 58).length) :: S) (mk h) Q := by
  simp only [w_alen, hg_58, pm_oR_s]
theorem f_iast_58 {i x : Int32} : pm_WL P d y pc ((.iastore, n) :: r) L (.int x :: .int i :: .ref 58 :: S) (mk h) Q = (pm_inR i (h 58).length ∧ pm_WL P d y (pc + n) r L S (mk (up h 58 (pm_wr (h 58) i x))) Q) := by
  simp only [w_iastore, hg_58, hs_58, pm_oR_s, true_and]
theorem f_iald_59 {i : Int32} : pm_WL P d y pc ((.iaload, n) :: r) L (.int i :: .ref 59 :: S) (mk h) Q = (pm_inR i (h 59).length ∧ pm_WL P d y (pc + n) r L (.int (pm_rd (h 59) i) :: S) (mk h) Q) := by
  simp only [w_iaload, hg_59, pm_oR_s, ne_eq, Nat.reduceEqDiff, Nat.zero_ne_one, Nat.succ_ne_self, not_false_eq_true, true_and]
theorem f_alen_59 : pm_WL P d y pc ((.arraylength, n) :: r) L (.ref 59 :: S) (mk h) Q = pm_WL P d y (pc + n) r L (.int (nI (h 59).length) :: S) (mk h) Q := by
  simp only [w_alen, hg_59, pm_oR_s]
theorem f_iast_59 {i x : Int32} : pm_WL P d y pc ((.iastore, n) :: r) L (.int x :: .int i :: .ref 59 :: S) (mk h) Q = (pm_inR i (h 59).length ∧ pm_WL P d y (pc + n) r L S (mk (up h 59 (pm_wr (h 59) i x))) Q) := by
  simp only [w_iastore, hg_59, hs_59, pm_oR_s, true_and]
theorem f_iald_60 {i : Int32} : pm_WL P d y pc ((.iaload, n) :: r) L (.int i :: .ref 60 :: S) (mk h) Q = (pm_inR i (h 60).length ∧ pm_WL P d y (pc + n) r L (.int (pm_rd (h 60) i) :: S) (mk h) Q) := by
  simp only [w_iaload, hg_60, pm_oR_s, ne_eq, Nat.reduceEqDiff, Nat.zero_ne_one, Nat.succ_ne_self, not_false_eq_true, true_and]
theorem f_alen_60 : pm_WL P d y pc ((.arraylength, n) :: r) L (.ref 60 :: S) (mk h) Q = pm_WL P d y (pc + n) r L (.int (nI (h 60).length) :: S) (mk h) Q := by
  simp only [w_alen, hg_60, pm_oR_s]
theorem f_iast_60 {i x : Int32} : pm_WL P d y pc ((.iastore, n) :: r) L (.int x :: .int i :: .ref 60 :: S) (mk h) Q = (pm_inR i (h 60).length ∧ pm_WL P d y (pc + n) r L S (mk (up h 60 (pm_wr (h 60) i x))) Q) := by
  simp only [w_iastore, hg_60, hs_60, pm_oR_s, true_and]
theorem f_iald_63 {i : Int32} : pm_WL P d y pc ((.iaload, n) :: r) L (.int i :: .ref 63 :: S) (mk h) Q = (pm_inR i (h 63).length ∧ pm_WL P d y (pc + n) r L (.int (pm_rd (h 63) i) :: S) (mk h) Q) := by
  simp only [w_iaload, hg_63, pm_oR_s, ne_eq, Nat.reduceEqDiff, Nat.zero_ne_one, Nat.succ_ne_self, not_false_eq_true, true_and]
theorem f_alen_63 : pm_WL P d y pc ((.arraylength, n) :: r) L (.ref 63 :: S) (mk h) Q = pm_WL P d y (pc + n) r L (.int (nI (h 63).length) :: S) (mk h) Q := by
  simp only [w_alen, hg_63, pm_oR_s]
theorem f_iast_63 {i x : Int32} : pm_WL P d y pc ((.iastore, n) :: r) L (.int x :: .int i :: .ref 63 :: S) (mk h) Q = (pm_inR i (h 63).length ∧ pm_WL P d y (pc + n) r L S (mk (up h 63 (pm_wr (h 63) i x))) Q) := by
  simp only [w_iastore, hg_63, hs_63, pm_oR_s, true_and]
theorem f_iald_64 {i : Int32} : pm_WL P d y pc ((.iaload, n) :: r) L (.int i :: .ref 64 :: S) (mk h) Q = (pm_inR i (h 64).length ∧ pm_WL P d y (pc + n) r L (.int (pm_rd (h 64) i) :: S) (mk h) Q) := by
  simp only [w_iaload, hg_64, pm_oR_s, ne_eq, Nat.reduceEqDiff, Nat.zero_ne_one, Nat.succ_ne_self, not_false_eq_true, true_and]
theorem f_alen_64 : pm_WL P d y pc ((.arraylength, n) :: r) L (.ref 64 :: S) (mk h) Q = pm_WL P d y (pc + n) r L (.int (nI (h 64).length) :: S) (mk h) Q := by
  simp only [w_alen, hg_64, pm_oR_s]
theorem f_iast_64 {i x : Int32} : pm_WL P d y pc ((.iastore, n) :: r) L (.int x :: .int i :: .ref 64 :: S) (mk h) Q = (pm_inR i (h 64).length ∧ pm_WL P d y (pc + n) r L S (mk (up h 64 (pm_wr (h 64) i x))) Q) := by
  simp only [w_iastore, hg_64, hs_64, pm_oR_s, true_and]
theorem f_iald_65 {i : Int32} : pm_WL P d y pc ((.iaload, n) :: r) L (.int i :: .ref 65 :: S) (mk h) Q = (pm_inR i (h 65).length ∧ pm_WL P d y (pc + n) r L (.int (pm_rd (h 65) i) :: S) (mk h) Q) := by
  simp only [w_iaload, hg_65, pm_oR_s, ne_eq, Nat.reduceEqDiff, Nat.zero_ne_one, Nat.succ_ne_self, not_false_eq_true, true_and]
theorem f_alen_65 : pm_WL P d y pc ((.arraylength, n) :: r) L (.ref 65 :: S) (mk h) Q = pm_WL P d y (pc + n) r L (.int (nI (h 65).length) :: S) (mk h) Q := by
  simp only [w_alen, hg_65, pm_oR_s]
theorem f_iast_65 {i x : Int32} : pm_WL P d y pc ((.iastore, n) :: r) L (.int x :: .int i :: .ref 65 :: S) (mk h) Q = (pm_inR i (h 65).length ∧ pm_WL P d y (pc + n) r L S (mk (up h 65 (pm_wr (h 65) i x))) Q) := by
  simp only [w_iastore, hg_65, hs_65, pm_oR_s, true_and]
theorem f_iald_67 {i : Int32} : pm_WL P d y pc ((.iaload, n) :: r) L (.int i :: .ref 67 :: S) (mk h) Q = (pm_inR i (h 67).length ∧ pm_WL P d y (pc + n) r L (.int (pm_rd (h 67) i) :: S) (mk h) Q) := by
  simp only [w_iaload, hg_67, pm_oR_s, ne_eq, Nat.reduceEqDiff, Nat.zero_ne_one, Nat.succ_ne_self, not_false_eq_true, true_and]
theorem f_alen_67 : pm_WL P d y pc ((.arraylength, n) :: r) L (.ref 67 :: S) (mk h) Q = pm_WL P d y (pc + n) r L (.int (nI (h 67).length) :: S) (mk h) Q := by
  simp only [w_alen, hg_67, pm_oR_s]
theorem f_iast_67 {i x : Int32} : pm_WL P d y pc ((.iastore, n) :: r) L (.int x :: .int i :: .ref 67 :: S) (mk h) Q = (pm_inR i (h 67).length ∧ pm_WL P d y (pc + n) r L S (mk (up h 67 (pm_wr (h 67) i x))) Q) := by
  simp only [w_iastore, hg_67, hs_67, pm_oR_s, true_and]
theorem f_iald_68 {i : Int32} : pm_WL P d y pc ((.iaload, n) :: r) L (.int i :: .ref 68 :: S) (mk h) Q = (pm_inR i (h 68).length ∧ pm_WL P d y (pc + n) r L (.int (pm_rd (h 68) i) :: S) (mk h) Q) := by
  simp only [w_iaload, hg_68, pm_oR_s, ne_eq, Nat.reduceEqDiff, Nat.zero_ne_one, Nat.succ_ne_self, not_false_eq_true, true_and]
theorem f_alen_68 : pm_WL P d y pc ((.arraylength, n) :: r) L (.ref 68 :: S) (mk h) Q = pm_WL P d y (pc + n) r L (.int (nI (h 68).length) :: S) (mk h) Q := by
  simp only [w_alen, hg_68, pm_oR_s]
theorem f_iast_68 {i x : Int32} : pm_WL P d y pc ((.iastore, n) :: r) L (.int x :: .int i :: .ref 68 :: S) (mk h) Q = (pm_inR i (h 68).length ∧ pm_WL P d y (pc + n) r L S (mk (up h 68 (pm_wr (h 68) i x))) Q) := by
  simp only [w_iastore, hg_68, hs_68, pm_oR_s, true_and]
theorem f_iald_69 {i : Int32} : pm_WL P d y pc ((.iaload, n) :: r) L (.int i :: .ref 69 :: S) (mk h) Q = (pm_inR i (h 69).length ∧ pm_WL P d y (pc + n) r L (.int (pm_rd (h 69) i) :: S) (mk h) Q) := by
  simp only [w_iaload, hg_69, pm_oR_s, ne_eq, Nat.reduceEqDiff, Nat.zero_ne_one, Nat.succ_ne_self, not_false_eq_true, true_and]
theorem f_alen_69 : pm_WL P d y pc ((.arraylength, n) :: r) L (.ref 69 :: S) (mk h) Q = pm_WL P d y (pc + n) r L (.int (nI (h 69).length) :: S) (mk h) Q := by
  simp only [w_alen, hg_69, pm_oR_s]
theorem f_iast_69 {i x : Int32} : pm_WL P d y pc ((.iastore, n) :: r) L (.int x :: .int i :: .ref 69 :: S) (mk h) Q = (pm_inR i (h 69).length ∧ pm_WL P d y (pc + n) r L S (mk (up h 69 (pm_wr (h 69) i x))) Q) := by
  simp only [w_iastore, hg_69, hs_69, pm_oR_s, true_and]
theorem f_iald_70 {i : Int32} : pm_WL P d y pc ((.iaload, n) :: r) L (.int i :: .ref 70 :: S) (mk h) Q = (pm_inR i (h 70).length ∧ pm_WL P d y (pc + n) r L (.int (pm_rd (h 70) i) :: S) (mk h) Q) := by
  simp only [w_iaload, hg_70, pm_oR_s, ne_eq, Nat.reduceEqDiff, Nat.zero_ne_one, Nat.succ_ne_self, not_false_eq_true, true_and]
theorem f_alen_70 : pm_WL P d y pc ((.arraylength, n) :: r) L (.ref 70 :: S) (mk h) Q = pm_WL P d y (pc + n) r L (.int (nI (h 70).length) :: S) (mk h) Q := by
  simp only [w_alen, hg_70, pm_oR_s]
theorem f_iast_70 {i x : Int32} : pm_WL P d y pc ((.iastore, n) :: r) L (.int x :: .int i :: .ref 70 :: S) (mk h) Q = (pm_inR i (h 70).length ∧ pm_WL P d y (pc + n) r L S (mk (up h 70 (pm_wr (h 70) i x))) Q) := by
  simp only [w_iastore, hg_70, hs_70, pm_oR_s, true_and]
theorem f_iald_71 {i : Int32} : pm_WL P d y pc ((.iaload, n) :: r) L (.int i :: .ref 71 :: S) (mk h) Q = (pm_inR i (h 71).length ∧ pm_WL P d y (pc + n) r L (.int (pm_rd (h 71) i) :: S) (mk h) Q) := by
  simp only [w_iaload, hg_71, pm_oR_s, ne_eq, Nat.reduceEqDiff, Nat.zero_ne_one, Nat.succ_ne_self, not_false_eq_true, true_and]
theorem f_alen_71 : pm_WL P d y pc ((.arraylength, n) :: r) L (.ref 71 :: S) (mk h) Q = pm_WL P d y (pc + n) r L (.int (nI (h 71).length) :: S) (mk h) Q := by
  simp only [w_alen, hg_71, pm_oR_s]
theorem f_iast_71 {i x : Int32} : pm_WL P d y pc ((.iastore, n) :: r) L (.int x :: .int i :: .ref 71 :: S) (mk h) Q = (pm_inR i (h 71).length ∧ pm_WL P d y (pc + n) r L S (mk (up h 71 (pm_wr (h 71) i x))) Q) := by
  simp only [w_iastore, hg_71, hs_71, pm_oR_s, true_and]
theorem f_iald_72 {i : Int32} : pm_WL P d y pc ((.iaload, n) :: r) L (.int i :: .ref 72 :: S) (mk h) Q = (pm_inR i (h 72).length ∧ pm_WL P d y (pc + n) r L (.int (pm_rd (h 72) i) :: S) (mk h) Q) := by
  simp only [w_iaload, hg_72, pm_oR_s, ne_eq, Nat.reduceEqDiff, Nat.zero_ne_one, Nat.succ_ne_self, not_false_eq_true, true_and]
theorem f_alen_72 : pm_WL P d y pc ((.arraylength, n) :: r) L (.ref 72 :: S) (mk h) Q = pm_WL P d y (pc + n) r L (.int (nI (h 72).length) :: S) (mk h) Q := by
  simp only [w_alen, hg_72, pm_oR_s]
theorem f_iast_72 {i x : Int32} : pm_WL P d y pc ((.iastore, n) :: r) L (.int x :: .int i :: .ref 72 :: S) (mk h) Q = (pm_inR i (h 72).length ∧ pm_WL P d y (pc + n) r L S (mk (up h 72 (pm_wr (h 72) i x))) Q) := by
  simp only [w_iastore, hg_72, hs_72, pm_oR_s, true_and]
theorem f_iald_73 {i : Int32} : pm_WL P d y pc ((.iaload, n) :: r) L (.int i :: .ref 73 :: S) (mk h) Q = (pm_inR i (h 73).length ∧ pm_WL P d y (pc + n) r L (.int (pm_rd (h 73) i) :: S) (mk h) Q) := by
  simp only [w_iaload, hg_73, pm_oR_s, ne_eq, Nat.reduceEqDiff, Nat.zero_ne_one, Nat.succ_ne_self, not_false_eq_true, true_and]
theorem f_alen_73 : pm_WL P d y pc ((.arraylength, n) :: r) L (.ref 73 :: S) (mk h) Q = pm_WL P d y (pc + n) r L (.int (nI (h 73).length) :: S) (mk h) Q := by
  simp only [w_alen, hg_73, pm_oR_s]
theorem f_iast_73 {i x : Int32} : pm_WL P d y pc ((.iastore, n) :: r) L (.int x :: .int i :: .ref 73 :: S) (mk h) Q = (pm_inR i (h 73).length ∧ pm_WL P d y (pc + n) r L S (mk (up h 73 (pm_wr (h 73) i x))) Q) := by
  simp only [w_iastore, hg_73, hs_73, pm_oR_s, true_and]
theorem f_iald_74 {i : Int32} : pm_WL P d y pc ((.iaload, n) :: r) L (.int i :: .ref 74 :: S) (mk h) Q = (pm_inR i (h 74).length ∧ pm_WL P d y (pc + n) r L (.int (pm_rd (h 74) i) :: S) (mk h) Q) := by
  simp only [w_iaload, hg_74, pm_oR_s, ne_eq, Nat.reduceEqDiff, Nat.zero_ne_one, Nat.succ_ne_self, not_false_eq_true, true_and]
theorem f_alen_74 : pm_WL P d y pc ((.arraylength, n) :: r) L (.ref 74 :: S) (mk h) Q = pm_WL P d y (pc + n) r L (.int (nI (h 74).length) :: S) (mk h) Q := by
  simp only [w_alen, hg_74, pm_oR_s]
theorem f_iast_74 {i x : Int32} : pm_WL P d y pc ((.iastore, n) :: r) L (.int x :: .int i :: .ref 74 :: S) (mk h) Q = (pm_inR i (h 74).length ∧ pm_WL P d y (pc + n) r L S (mk (up h 74 (pm_wr (h 74) i x))) Q) := by
  simp only [w_iastore, hg_74, hs_74, pm_oR_s, true_and]
theorem f_iald_77 {i : Int32} : pm_WL P d y pc ((.iaload, n) :: r) L (.int i :: .ref 77 :: S) (mk h) Q = (pm_inR i (h 77).length ∧ pm_WL P d y (pc + n) r L (.int (pm_rd (h 77) i) :: S) (mk h) Q) := by
  simp only [w_iaload, hg_77, pm_oR_s, ne_eq, Nat.reduceEqDiff, Nat.zero_ne_one, Nat.succ_ne_self, not_false_eq_true, true_and]
theorem f_alen_77 : pm_WL P d y pc ((.arraylength, n) :: r) L (.ref 77 :: S) (mk h) Q = pm_WL P d y (pc + n) r L (.int (nI (h 77).length) :: S) (mk h) Q := by
  simp only [w_alen, hg_77, pm_oR_s]
theorem f_iast_77 {i x : Int32} : pm_WL P d y pc ((.iastore, n) :: r) L (.int x :: .int i :: .ref 77 :: S) (mk h) Q = (pm_inR i (h 77).length ∧ pm_WL P d y (pc + n) r L S (mk (up h 77 (pm_wr (h 77) i x))) Q) := by
  simp only [w_iastore, hg_77, hs_77, pm_oR_s, true_and]
theorem f_iald_78 {i : Int32} : pm_WL P d y pc ((.iaload, n) :: r) L (.int i :: .ref 78 :: S) (mk h) Q = (pm_inR i (h 78).length ∧ pm_WL P d y (pc + n) r L (.int (pm_rd (h 78) i) :: S) (mk h) Q) := by
  simp only [w_iaload, hg_78, pm_oR_s, ne_eq, Nat.reduceEqDiff, Nat.zero_ne_one, Nat.succ_ne_self, not_false_eq_true, true_and]
theorem f_alen_78 : pm_WL P d y pc ((.arraylength, n) :: r) L (.ref 78 :: S) (mk h) Q = pm_WL P d y (pc + n) r L (.int (nI (h 78).length) :: S) (mk h) Q := by
  simp only [w_alen, hg_78, pm_oR_s]
theorem f_iast_78 {i x : Int32} : pm_WL P d y pc ((.iastore, n) :: r) L (.int x :: .int i :: .ref 78 :: S) (mk h) Q = (pm_inR i (h 78).length ∧ pm_WL P d y (pc + n) r L S (mk (up h 78 (pm_wr (h 78) i x))) Q) := by
  simp only [w_iastore, hg_78, hs_78, pm_oR_s, true_and]
theorem f_iald_79 {i : Int32} : pm_WL P d y pc ((.iaload, n) :: r) L (.int i :: .ref 79 :: S) (mk h) Q = (pm_inR i (h 79).length ∧ pm_WL P d y (pc + n) r L (.int (pm_rd (h 79) i) :: S) (mk h) Q) := by
  simp only [w_iaload, hg_79, pm_oR_s, ne_eq, Nat.reduceEqDiff, Nat.zero_ne_one, Nat.succ_ne_self, not_false_eq_true, true_and]
theorem f_alen_79 : pm_WL P d y pc ((.arraylength, n) :: r) L (.ref 79 :: S) (mk h) Q = pm_WL P d y (pc + n) r L (.int (nI (h 79).length) :: S) (mk h) Q := by
  simp only [w_alen, hg_79, pm_oR_s]
theorem f_iast_79 {i x : Int32} : pm_WL P d y pc ((.iastore, n) :: r) L (.int x :: .int i :: .ref 79 :: S) (mk h) Q = (pm_inR i (h 79).length ∧ pm_WL P d y (pc + n) r L S (mk (up h 79 (pm_wr (h 79) i x))) Q) := by
  simp only [w_iastore, hg_79, hs_79, pm_oR_s, true_and]
theorem f_iald_80 {i : Int32} : pm_WL P d y pc ((.iaload, n) :: r) L (.int i :: .ref 80 :: S) (mk h) Q = (pm_inR i (h 80).length ∧ pm_WL P d y (pc + n) r L (.int (pm_rd (h 80) i) :: S) (mk h) Q) := by
  simp only [w_iaload, hg_80, pm_oR_s, ne_eq, Nat.reduceEqDiff, Nat.zero_ne_one, Nat.succ_ne_self, not_false_eq_true, true_and]
theorem f_alen_80 : pm_WL P d y pc ((.arraylength, n) :: r) L (.ref 80 :: S) (mk h) Q = pm_WL P d y (pc + n) r L (.int (nI (h 80).length) :: S) (mk h) Q := by
  simp only [w_alen, hg_80, pm_oR_s]
theorem f_iast_80 {i x : Int32} : pm_WL P d y pc ((.iastore, n) :: r) L (.int x :: .int i :: .ref 80 :: S) (mk h) Q = (pm_inR i (h 80).length ∧ pm_WL P d y (pc + n) r L S (mk (up h 80 (pm_wr (h 80) i x))) Q) := by
  simp only [w_iastore, hg_80, hs_80, pm_oR_s, true_and]
theorem f_iald_82 {i : Int32} : pm_WL P d y pc ((.iaload, n) :: r) L (.int i :: .ref 82 :: S) (mk h) Q = (pm_inR i (h 82).length ∧ pm_WL P d y (pc + n) r L (.int (pm_rd (h 82) i) :: S) (mk h) Q) := by
  simp only [w_iaload, hg_82, pm_oR_s, ne_eq, Nat.reduceEqDiff, Nat.zero_ne_one, Nat.succ_ne_self, not_false_eq_true, true_and]
theorem f_alen_82 : pm_WL P d y pc ((.arraylength, n) :: r) L (.ref 82 :: S) (mk h) Q = pm_WL P d y (pc + n) r L (.int (nI (h 82).length) :: S) (mk h) Q := by
  simp only [w_alen, hg_82, pm_oR_s]
theorem f_iast_82 {i x : Int32} : pm_WL P d y pc ((.iastore, n) :: r) L (.int x :: .int i :: .ref 82 :: S) (mk h) Q = (pm_inR i (h 82).length ∧ pm_WL P d y (pc + n) r L S (mk (up h 82 (pm_wr (h 82) i x))) Q) := by
  simp only [w_iastore, hg_82, hs_82, pm_oR_s, true_and]
theorem f_iald_83 {i : Int32} : pm_WL P d y pc ((.iaload, n) :: r) L (.int i :: .ref 83 :: S) (mk h) Q = (pm_inR i (h 83).length ∧ pm_WL P d y (pc + n) r L (.int (pm_rd (h 83) i) :: S) (mk h) Q) := by
  simp only [w_iaload, hg_83, pm_oR_s, ne_eq, Nat.reduceEqDiff, Nat.zero_ne_one, Nat.succ_ne_self, not_false_eq_true, true_and]
theorem f_alen_83 : pm_WL P d y pc ((.arraylength, n) :: r) L (.ref 83 :: S) (mk h) Q = pm_WL P d y (pc + n) r L (.int (nI (h 83).length) :: S) (mk h) Q := by
  simp only [w_alen, hg_83, pm_oR_s]
theorem f_iast_83 {i x : Int32} : pm_WL P d y pc ((.iastore, n) :: r) L (.int x :: .int i :: .ref 83 :: S) (mk h) Q = (pm_inR i (h 83).length ∧ pm_WL P d y (pc + n) r L S (mk (up h 83 (pm_wr (h 83) i x))) Q) := by
  simp only [w_iastore, hg_83, hs_83, pm_oR_s, true_and]
theorem f_iald_84 {i : Int32} : pm_WL P d y pc ((.iaload, n) :: r) L (.int i :: .ref 84 :: S) (mk h) Q = (pm_inR i (h 84).length ∧ pm_WL P d y (pc + n) r L (.int (pm_rd (h 84) i) :: S) (mk h) Q) := by
  simp only [w_iaload, hg_84, pm_oR_s, ne_eq, Nat.reduceEqDiff, Nat.zero_ne_one, Nat.succ_ne_self, not_false_eq_true, true_and]
theorem f_alen_84 : pm_WL P d y pc ((.arraylength, n) :: r) L (.ref 84 :: S) (mk h) Q = pm_WL P d y (pc + n) r L (.int (nI (h 84).length) :: S) (mk h) Q := by
  simp only [w_alen, hg_84, pm_oR_s]
theorem f_iast_84 {i x : Int32} : pm_WL P d y pc ((.iastore, n) :: r) L (.int x :: .int i :: .ref 84 :: S) (mk h) Q = (pm_inR i (h 84).length ∧ pm_WL P d y (pc + n) r L S (mk (up h 84 (pm_wr (h 84) i x))) Q) := by
  simp only [w_iastore, hg_84, hs_84, pm_oR_s, true_and]
theorem f_iald_86 {i : Int32} : pm_WL P d y pc ((.iaload, n) :: r) L (.int i :: .ref 86 :: S) (mk h) Q = (pm_inR i (h 86).length ∧ pm_WL P d y (pc + n) r L (.int (pm_rd (h 86) i) :: S) (mk h) Q) := by
  simp only [w_iaload, hg_86, pm_oR_s, ne_eq, Nat.reduceEqDiff, Nat.zero_ne_one, Nat.succ_ne_self, not_false_eq_true, true_and]
theorem f_alen_86 : pm_WL P d y pc ((.arraylength, n) :: r) L (.ref 86 :: S) (mk h) Q = pm_WL P d y (pc + n) r L (.int (nI (h 86).length) :: S) (mk h) Q := by
  simp only [w_alen, hg_86, pm_oR_s]
theorem f_iast_86 {i x : Int32} : pm_WL P d y pc ((.iastore, n) :: r) L (.int x :: .int i :: .ref 86 :: S) (mk h) Q = (pm_inR i (h 86).length ∧ pm_WL P d y (pc + n) r L S (mk (up h 86 (pm_wr (h 86) i x))) Q) := by
  simp only [w_iastore, hg_86, hs_86, pm_oR_s, true_and]
theorem f_iald_87 {i : Int32} : pm_WL P d y pc ((.iaload, n) :: r) L (.int i :: .ref 87 :: S) (mk h) Q = (pm_inR i (h 87).length ∧ pm_WL P d y (pc + n) r L (.int (pm_rd (h 87) i) :: S) (mk h) Q) := by
  simp only [w_iaload, hg_87, pm_oR_s, ne_eq, Nat.reduceEqDiff, Nat.zero_ne_one, Nat.succ_ne_self, not_false_eq_true, true_and]
theorem f_alen_87 : pm_WL P d y pc ((.arraylength, n) :: r) L (.ref 87 :: S) (mk h) Q = pm_WL P d y (pc + n) r L (.int (nI (h 87).length) :: S) (mk h) Q := by
  simp only [w_alen, hg_87, pm_oR_s]
theorem f_iast_87 {i x : Int32} : pm_WL P d y pc ((.iastore, n) :: r) L (.int x :: .int i :: .ref 87 :: S) (mk h) Q = (pm_inR i (h 87).length ∧ pm_WL P d y (pc + n) r L S (mk (up h 87 (pm_wr (h 87) i x))) Q) := by
  simp only [w_iastore, hg_87, hs_87, pm_oR_s, true_and]
theorem f_iald_88 {i : Int32} : pm_WL P d y pc ((.iaload, n) :: r) L (.int i :: .ref 88 :: S) (mk h) Q = (pm_inR i (h 88).length ∧ pm_WL P d y (pc + n) r L (.int (pm_rd (h 88) i) :: S) (mk h) Q) := by
  simp only [w_iaload, hg_88, pm_oR_s, ne_eq, Nat.reduceEqDiff, Nat.zero_ne_one, Nat.succ_ne_self, not_false_eq_true, true_and]
theorem f_alen_88 : pm_WL P d y pc ((.arraylength, n) :: r) L (.ref 88 :: S) (mk h) Q = pm_WL P d y (pc + n) r L (.int (nI (h 88).length) :: S) (mk h) Q := by
  simp only [w_alen, hg_88, pm_oR_s]
theorem f_iast_88 {i x : Int32} : pm_WL P d y pc ((.iastore, n) :: r) L (.int x :: .int i :: .ref 88 :: S) (mk h) Q = (pm_inR i (h 88).length ∧ pm_WL P d y (pc + n) r L S (mk (up h 88 (pm_wr (h 88) i x))) Q) := by
  simp only [w_iastore, hg_88, hs_88, pm_oR_s, true_and]
theorem f_iald_89 {i : Int32} : pm_WL P d y pc ((.iaload, n) :: r) L (.int i :: .ref 89 :: S) (mk h) Q = (pm_inR i (h 89).length ∧ pm_WL P d y (pc + n) r L (.int (pm_rd (h 89) i) :: S) (mk h) Q) := by
  simp only [w_iaload, hg_89, pm_oR_s, ne_eq, Nat.reduceEqDiff, Nat.zero_ne_one, Nat.succ_ne_self, not_false_eq_true, true_and]
theorem f_alen_89 : pm_WL P d y pc ((.arraylength, n) :: r) L (.ref 89 :: S) (mk h) Q = pm_WL P d y (pc + n) r L (.int (nI (h 89).length) :: S) (mk h) Q := by
  simp only [w_alen, hg_89, pm_oR_s]
theorem f_iast_89 {i x : Int32} : pm_WL P d y pc ((.iastore, n) :: r) L (.int x :: .int i :: .ref 89 :: S) (mk h) Q = (pm_inR i (h 89).length ∧ pm_WL P d y (pc + n) r L S (mk (up h 89 (pm_wr (h 89) i x))) Q) := by
  simp only [w_iastore, hg_89, hs_89, pm_oR_s, true_and]
theorem f_bald_90 {i : Int32} : pm_WL P d y pc ((.baload, n) :: r) L (.int i :: .ref 90 :: S) (mk h) Q = (pm_inR i (h 90).length ∧ pm_WL P d y (pc + n) r L (.int (pm_rd (h 90) i) :: S) (mk h) Q) := by
  simp only [w_baload, hg_90, pm_oR_s, true_and]
theorem f_bast_90 {i x : Int32} : pm_WL P d y pc ((.bastore, n) :: r) L (.int x :: .int i :: .ref 90 :: S) (mk h) Q = ((pm_inR i (h 90).length ∧ pm_fit 1 (.int x) = true) ∧ pm_WL P d y (pc + n) r L S (mk (up h 90 (pm_wr (h 90) i x))) Q) := by
  simp only [w_bastore, hg_90, hs_90, pm_oR_s, true_and]
theorem f_iald_91 {i : Int32} : pm_WL P d y pc ((.iaload, n) :: r) L (.int i :: .ref 91 :: S) (mk h) Q = (pm_inR i (h 91).length ∧ pm_WL P d y (pc + n) r L (.int (pm_rd (h 91) i) :: S) (mk h) Q) := by
  simp only [w_iaload, hg_91, pm_oR_s, ne_eq, Nat.reduceEqDiff, Nat.zero_ne_one, Nat.succ_ne_self, not_false_eq_true, true_and]
theorem f_alen_91 : pm_WL P d y pc ((.arraylength, n) :: r) L (.ref 91 :: S) (mk h) Q = pm_WL P d y (pc + n) r L (.int (nI (h 91).length) :: S) (mk h) Q := by
  simp only [w_alen, hg_91, pm_oR_s]
theorem f_iast_91 {i x : Int32} : pm_WL P d y pc ((.iastore, n) :: r) L (.int x :: .int i :: .ref 91 :: S) (mk h) Q = (pm_inR i (h 91).length ∧ pm_WL P d y (pc + n) r L S (mk (up h 91 (pm_wr (h 91) i x))) Q) := by
  simp only [w_iastore, hg_91, hs_91, pm_oR_s, true_and]
theorem f_iald_92 {i : Int32} : pm_WL P d y pc ((.iaload, n) :: r) L (.int i :: .ref 92 :: S) (mk h) Q = (pm_inR i (h 92).length ∧ pm_WL P d y (pc + n) r L (.int (pm_rd (h 92) i) :: S) (mk h) Q) := by
  simp only [w_iaload, hg_92, pm_oR_s, ne_eq, Nat.reduceEqDiff, Nat.zero_ne_one, Nat.succ_ne_self, not_false_eq_true, true_and]
theorem f_alen_92 : pm_WL P d y pc ((.arraylength, n) :: r) L (.ref 92 :: S) (mk h) Q = pm_WL P d y (pc + n) r L (.int (nI (h 92).length) :: S) (mk h) Q := by
  simp only [w_alen, hg_92, pm_oR_s]
theorem f_iast_92 {i x : Int32} : pm_WL P d y pc ((.iastore, n) :: r) L (.int x :: .int i :: .ref 92 :: S) (mk h) Q = (pm_inR i (h 92).length ∧ pm_WL P d y (pc + n) r L S (mk (up h 92 (pm_wr (h 92) i x))) Q) := by
  simp only [w_iastore, hg_92, hs_92, pm_oR_s, true_and]
theorem f_iald_93 {i : Int32} : pm_WL P d y pc ((.iaload, n) :: r) L (.int i :: .ref 93 :: S) (mk h) Q = (pm_inR i (h 93).length ∧ pm_WL P d y (pc + n) r L (.int (pm_rd (h 93) i) :: S) (mk h) Q) := by
  simp only [w_iaload, hg_93, pm_oR_s, ne_eq, Nat.reduceEqDiff, Nat.zero_ne_one, Nat.succ_ne_self, not_false_eq_true, true_and]
theorem f_alen_93 : pm_WL P d y pc ((.arraylength, n) :: r) L (.ref 93 :: S) (mk h) Q = pm_WL P d y (pc + n) r L (.int (nI (h 93).length) :: S) (mk h) Q := by
  simp only [w_alen, hg_93, pm_oR_s]
theorem f_iast_93 {i x : Int32} : pm_WL P d y pc ((.iastore, n) :: r) L (.int x :: .int i :: .ref 93 :: S) (mk h) Q = (pm_inR i (h 93).length ∧ pm_WL P d y (pc + n) r L S (mk (up h 93 (pm_wr (h 93) i x))) Q) := by
  simp only [w_iastore, hg_93, hs_93, pm_oR_s, true_and]
theorem iv_1_15 {x0 : Int32} {x1 : Int32} : pm_WL fqP d 1 pc ((.invokestatic 15, n) :: r) L (.int x1 :: .int x0 :: S) σ Q = (pm_okW 8 S = true ∧ pm_WC fqP d 2 [.int x0, .int x1] σ (pm_kk fqP d 1 (pc + n) r L S Q)) := by
  show _ = (pm_okW 8 S = true ∧ pm_WC fqP d 2 [.int x0, .int x1] σ (fun v σ' => pm_WL fqP d 1 (pc + n) r L (pm_pu v S) σ' Q))
  simp only [w_invs, lg_1, lm_0_15, pm_oM_s, pm_oP_s, pm_pop_0, pm_pop_s, pm_ref1_is, Nat.reduceEqDiff, Nat.zero_ne_one, Nat.succ_ne_self, true_or, or_true, or_false, false_or, or_self, false_implies, true_implies, implies_true, true_and]
theorem iv_1_22 {x0 : Nat} {x1 : Int32} : pm_WL fqP d 1 pc ((.invokestatic 22, n) :: r) L (.int x1 :: .ref x0 :: S) σ Q = (pm_okW 8 S = true ∧ pm_WC fqP d 91 [.ref x0, .int x1] σ (pm_kk fqP d 1 (pc + n) r L S Q)) := by
  show _ = (pm_okW 8 S = true ∧ pm_WC fqP d 91 [.ref x0, .int x1] σ (fun v σ' => pm_WL fqP d 1 (pc + n) r L (pm_pu v S) σ' Q))
  simp only [w_invs, lg_1, lm_0_22, pm_oM_s, pm_oP_s, pm_pop_0, pm_pop_s, pm_ref1_is, Nat.reduceEqDiff, Nat.zero_ne_one, Nat.succ_ne_self, true_or, or_true, or_false, false_or, or_self, false_implies, true_implies, implies_true, true_and]
theorem gf_1_9_81 : pm_WL fqP d 1 pc ((.getfield 9, n) :: r) L (.ref 81 :: S) (mk h) Q = pm_WL fqP d 1 (pc + n) r L (.ref 82 :: S) (mk h) Q := by
  simp only [w_getf, lg_1, lf_0_9, pm_oF_s, hg_81, pm_oO_s, List.getElem?_cons_succ, List.getElem?_cons_zero, pm_oK_s, true_and]
theorem gf_1_29_81 : pm_WL fqP d 1 pc ((.getfield 29, n) :: r) L (.ref 81 :: S) (mk h) Q = pm_WL fqP d 1 (pc + n) r L (.int (gd (h 81) 0) :: S) (mk h) Q := by
  simp only [w_getf, lg_1, lf_0_29, pm_oF_s, hg_81, pm_oO_s, List.getElem?_cons_succ, List.getElem?_cons_zero, pm_oK_s, true_and]
theorem iv_1_33 {x0 : Nat} {x1 : Int32} {x2 : Int32} : pm_WL fqP d 1 pc ((.invokestatic 33, n) :: r) L (.int x2 :: .int x1 :: .ref x0 :: S) σ Q = (pm_okW 8 S = true ∧ pm_WC fqP d 92 [.ref x0, .int x1, .int x2] σ (pm_kk fqP d 1 (pc + n) r L S Q)) := by
  show _ = (pm_okW 8 S = true ∧ pm_WC fqP d 92 [.ref x0, .int x1, .int x2] σ (fun v σ' => pm_WL fqP d 1 (pc + n) r L (pm_pu v S) σ' Q))
  simp only [w_invs, lg_1, lm_0_33, pm_oM_s, pm_oP_s, pm_pop_0, pm_pop_s, pm_ref1_is, Nat.reduceEqDiff, Nat.zero_ne_one, Nat.succ_ne_self, true_or, or_true, or_false, false_or, or_self, false_implies, true_implies, implies_true, true_and]
theorem pf_1_29_81 {x : Int32} : pm_WL fqP d 1 pc ((.putfield 29, n) :: r) L (.int x :: .ref 81 :: S) (mk h) Q = pm_WL fqP d 1 (pc + n) r L S (mk (up h 81 [x, gd (h 81) 1, gd (h 81) 2, gd (h 81) 3])) Q := by
  simp only [w_putf, lg_1, lf_0_29, lt_0_1, pm_oF_s, hg_81, pm_oO_s, List.set_cons_succ, List.set_cons_zero, List.length_cons, List.length_nil, pm_fit_i, Nat.reduceAdd, Nat.reduceLT, Nat.zero_add, Nat.lt_add_one, Bool.false_eq_true, false_implies, true_and, and_true, hs_81]
theorem gf_1_37_81 : pm_WL fqP d 1 pc ((.getfield 37, n) :: r) L (.ref 81 :: S) (mk h) Q = pm_WL fqP d 1 (pc + n) r L (.int (gd (h 81) 1) :: S) (mk h) Q := by
  simp only [w_getf, lg_1, lf_0_37, pm_oF_s, hg_81, pm_oO_s, List.getElem?_cons_succ, List.getElem?_cons_zero, pm_oK_s, true_and]
theorem gf_1_40_81 : pm_WL fqP d 1 pc ((.getfield 40, n) :: r) L (.ref 81 :: S) (mk h) Q = pm_WL fqP d 1 (pc + n) r L (.int (gd (h 81) 2) :: S) (mk h) Q := by
  simp only [w_getf, lg_1, lf_0_40, pm_oF_s, hg_81, pm_oO_s, List.getElem?_cons_succ, List.getElem?_cons_zero, pm_oK_s, true_and]
theorem iv_1_43 {x0 : Nat} {x1 : Int32} {x2 : Int32} {x3 : Int32} {x4 : Int32} : pm_WL fqP d 1 pc ((.invokestatic 43, n) :: r) L (.int x4 :: .int x3 :: .int x2 :: .int x1 :: .ref x0 :: S) σ Q = (pm_okW 8 S = true ∧ pm_WC fqP d 1 [.ref x0, .int x1, .int x2, .int x3, .int x4] σ (pm_kk fqP d 1 (pc + n) r L S Q)) := by
  show _ = (pm_okW 8 S = true ∧ pm_WC fqP d 1 [.ref x0, .int x1, .int x2, .int x3, .int x4] σ (fun v σ' => pm_WL fqP d 1 (pc + n) r L (pm_pu v S) σ' Q))
  simp only [w_invs, lg_1, lm_0_43, pm_oM_s, pm_oP_s, pm_pop_0, pm_pop_s, pm_ref1_is, Nat.reduceEqDiff, Nat.zero_ne_one, Nat.succ_ne_self, true_or, or_true, or_false, false_or, or_self, false_implies, true_implies, implies_true, true_and]
theorem gf_1_47_81 : pm_WL fqP d 1 pc ((.getfield 47, n) :: r) L (.ref 81 :: S) (mk h) Q = pm_WL fqP d 1 (pc + n) r L (.int (gd (h 81) 3) :: S) (mk h) Q := by
  simp only [w_getf, lg_1, lf_0_47, pm_oF_s, hg_81, pm_oO_s, List.getElem?_cons_succ, List.getElem?_cons_zero, pm_oK_s, true_and]
theorem iv_2_22 {x0 : Nat} {x1 : Int32} : pm_WL fqP d 2 pc ((.invokestatic 22, n) :: r) L (.int x1 :: .ref x0 :: S) σ Q = (pm_okW 8 S = true ∧ pm_WC fqP d 91 [.ref x0, .int x1] σ (pm_kk fqP d 2 (pc + n) r L S Q)) := by
  show _ = (pm_okW 8 S = true ∧ pm_WC fqP d 91 [.ref x0, .int x1] σ (fun v σ' => pm_WL fqP d 2 (pc + n) r L (pm_pu v S) σ' Q))
  simp only [w_invs, lg_2, lm_0_22, pm_oM_s, pm_oP_s, pm_pop_0, pm_pop_s, pm_ref1_is, Nat.reduceEqDiff, Nat.zero_ne_one, Nat.succ_ne_self, true_or, or_true, or_false, false_or, or_self, false_implies, true_implies, implies_true, true_and]
theorem pf_4_25_7 {x : Int32} : pm_WL fqP d 4 pc ((.putfield 25, n) :: r) L (.int x :: .ref 7 :: S) (mk h) Q = pm_WL fqP d 4 (pc + n) r L S (mk (up h 7 [x, gd (h 7) 1, gd (h 7) 2])) Q := by
  simp only [w_putf, lg_4, lf_1_25, lt_1_3, pm_oF_s, hg_7, pm_oO_s, List.set_cons_succ, List.set_cons_zero, List.length_cons, List.length_nil, pm_fit_i, Nat.reduceAdd, Nat.reduceLT, Nat.zero_add, Nat.lt_add_one, Bool.false_eq_true, false_implies, true_and, and_true, hs_7]
theorem pf_4_25_35 {x : Int32} : pm_WL fqP d 4 pc ((.putfield 25, n) :: r) L (.int x :: .ref 35 :: S) (mk h) Q = pm_WL fqP d 4 (pc + n) r L S (mk (up h 35 [x, gd (h 35) 1, gd (h 35) 2])) Q := by
  simp only [w_putf, lg_4, lf_1_25, lt_1_3, pm_oF_s, hg_35, pm_oO_s, List.set_cons_succ, List.set_cons_zero, List.length_cons, List.length_nil, pm_fit_i, Nat.reduceAdd, Nat.reduceLT, Nat.zero_add, Nat.lt_add_one, Bool.false_eq_true, false_implies, true_and, and_true, hs_35]
theorem pf_4_25_62 {x : Int32} : pm_WL fqP d 4 pc ((.putfield 25, n) :: r) L (.int x :: .ref 62 :: S) (mk h) Q = pm_WL fqP d 4 (pc + n) r L S (mk (up h 62 [x, gd (h 62) 1, gd (h 62) 2])) Q := by
  simp only [w_putf, lg_4, lf_1_25, lt_1_3, pm_oF_s, hg_62, pm_oO_s, List.set_cons_succ, List.set_cons_zero, List.length_cons, List.length_nil, pm_fit_i, Nat.reduceAdd, Nat.reduceLT, Nat.zero_add, Nat.lt_add_one, Bool.false_eq_true, false_implies, true_and, and_true, hs_62]
theorem pf_4_25_76 {x : Int32} : pm_WL fqP d 4 pc ((.putfield 25, n) :: r) L (.int x :: .ref 76 :: S) (mk h) Q = pm_WL fqP d 4 (pc + n) r L S (mk (up h 76 [x, gd (h 76) 1, gd (h 76) 2])) Q := by
  simp only [w_putf, lg_4, lf_1_25, lt_1_3, pm_oF_s, hg_76, pm_oO_s, List.set_cons_succ, List.set_cons_zero, List.length_cons, List.length_nil, pm_fit_i, Nat.reduceAdd, Nat.reduceLT, Nat.zero_add, Nat.lt_add_one, Bool.false_eq_true, false_implies, true_and, and_true, hs_76]
theorem pf_4_28_7 {x : Int32} : pm_WL fqP d 4 pc ((.putfield 28, n) :: r) L (.int x :: .ref 7 :: S) (mk h) Q = pm_WL fqP d 4 (pc + n) r L S (mk (up h 7 [gd (h 7) 0, x, gd (h 7) 2])) Q := by
  simp only [w_putf, lg_4, lf_1_28, lt_1_4, pm_oF_s, hg_7, pm_oO_s, List.set_cons_succ, List.set_cons_zero, List.length_cons, List.length_nil, pm_fit_i, Nat.reduceAdd, Nat.reduceLT, Nat.zero_add, Nat.lt_add_one, Bool.false_eq_true, false_implies, true_and, and_true, hs_7]
theorem pf_4_28_35 {x : Int32} : pm_WL fqP d 4 pc ((.putfield 28, n) :: r) L (.int x :: .ref 35 :: S) (mk h) Q = pm_WL fqP d 4 (pc + n) r L S (mk (up h 35 [gd (h 35) 0, x, gd (h 35) 2])) Q := by
  simp only [w_putf, lg_4, lf_1_28, lt_1_4, pm_oF_s, hg_35, pm_oO_s, List.set_cons_succ, List.set_cons_zero, List.length_cons, List.length_nil, pm_fit_i, Nat.reduceAdd, Nat.reduceLT, Nat.zero_add, Nat.lt_add_one, Bool.false_eq_true, false_implies, true_and, and_true, hs_35]
theorem pf_4_28_62 {x : Int32} : pm_WL fqP d 4 pc ((.putfield 28, n) :: r) L (.int x :: .ref 62 :: S) (mk h) Q = pm_WL fqP d 4 (pc + n) r L S (mk (up h 62 [gd (h 62) 0, x, gd (h 62) 2])) Q := by
  simp only [w_putf, lg_4, lf_1_28, lt_1_4, pm_oF_s, hg_62, pm_oO_s, List.set_cons_succ, List.set_cons_zero, List.length_cons, List.length_nil, pm_fit_i, Nat.reduceAdd, Nat.reduceLT, Nat.zero_add, Nat.lt_add_one, Bool.false_eq_true, false_implies, true_and, and_true, hs_62]
theorem pf_4_28_76 {x : Int32} : pm_WL fqP d 4 pc ((.putfield 28, n) :: r) L (.int x :: .ref 76 :: S) (mk h) Q = pm_WL fqP d 4 (pc + n) r L S (mk (up h 76 [gd (h 76) 0, x, gd (h 76) 2])) Q := by
  simp only [w_putf, lg_4, lf_1_28, lt_1_4, pm_oF_s, hg_76, pm_oO_s, List.set_cons_succ, List.set_cons_zero, List.length_cons, List.length_nil, pm_fit_i, Nat.reduceAdd, Nat.reduceLT, Nat.zero_add, Nat.lt_add_one, Bool.false_eq_true, false_implies, true_and, and_true, hs_76]
theorem pf_4_21_7 {x : Int32} : pm_WL fqP d 4 pc ((.putfield 21, n) :: r) L (.int x :: .ref 7 :: S) (mk h) Q = pm_WL fqP d 4 (pc + n) r L S (mk (up h 7 [gd (h 7) 0, gd (h 7) 1, x])) Q := by
  simp only [w_putf, lg_4, lf_1_21, lt_1_5, pm_oF_s, hg_7, pm_oO_s, List.set_cons_succ, List.set_cons_zero, List.length_cons, List.length_nil, pm_fit_i, Nat.reduceAdd, Nat.reduceLT, Nat.zero_add, Nat.lt_add_one, Bool.false_eq_true, false_implies, true_and, and_true, hs_7]
theorem pf_4_21_35 {x : Int32} : pm_WL fqP d 4 pc ((.putfield 21, n) :: r) L (.int x :: .ref 35 :: S) (mk h) Q = pm_WL fqP d 4 (pc + n) r L S (mk (up h 35 [gd (h 35) 0, gd (h 35) 1, x])) Q := by
  simp only [w_putf, lg_4, lf_1_21, lt_1_5, pm_oF_s, hg_35, pm_oO_s, List.set_cons_succ, List.set_cons_zero, List.length_cons, List.length_nil, pm_fit_i, Nat.reduceAdd, Nat.reduceLT, Nat.zero_add, Nat.lt_add_one, Bool.false_eq_true, false_implies, true_and, and_true, hs_35]
theorem pf_4_21_62 {x : Int32} : pm_WL fqP d 4 pc ((.putfield 21, n) :: r) L (.int x :: .ref 62 :: S) (mk h) Q = pm_WL fqP d 4 (pc + n) r L S (mk (up h 62 [gd (h 62) 0, gd (h 62) 1, x])) Q := by
  simp only [w_putf, lg_4, lf_1_21, lt_1_5, pm_oF_s, hg_62, pm_oO_s, List.set_cons_succ, List.set_cons_zero, List.length_cons, List.length_nil, pm_fit_i, Nat.reduceAdd, Nat.reduceLT, Nat.zero_add, Nat.lt_add_one, Bool.false_eq_true, false_implies, true_and, and_true, hs_62]
theorem pf_4_21_76 {x : Int32} : pm_WL fqP d 4 pc ((.putfield 21, n) :: r) L (.int x :: .ref 76 :: S) (mk h) Q = pm_WL fqP d 4 (pc + n) r L S (mk (up h 76 [gd (h 76) 0, gd (h 76) 1, x])) Q := by
  simp only [w_putf, lg_4, lf_1_21, lt_1_5, pm_oF_s, hg_76, pm_oO_s, List.set_cons_succ, List.set_cons_zero, List.length_cons, List.length_nil, pm_fit_i, Nat.reduceAdd, Nat.reduceLT, Nat.zero_add, Nat.lt_add_one, Bool.false_eq_true, false_implies, true_and, and_true, hs_76]
theorem gf_5_9_7 : pm_WL fqP d 5 pc ((.getfield 9, n) :: r) L (.ref 7 :: S) (mk h) Q = pm_WL fqP d 5 (pc + n) r L (.ref 8 :: S) (mk h) Q := by
  simp only [w_getf, lg_5, lf_1_9, pm_oF_s, hg_7, pm_oO_s, List.getElem?_cons_succ, List.getElem?_cons_zero, pm_oK_s, true_and]
theorem gf_5_9_35 : pm_WL fqP d 5 pc ((.getfield 9, n) :: r) L (.ref 35 :: S) (mk h) Q = pm_WL fqP d 5 (pc + n) r L (.ref 36 :: S) (mk h) Q := by
  simp only [w_getf, lg_5, lf_1_9, pm_oF_s, hg_35, pm_oO_s, List.getElem?_cons_succ, List.getElem?_cons_zero, pm_oK_s, true_and]
theorem gf_5_9_62 : pm_WL fqP d 5 pc ((.getfield 9, n) :: r) L (.ref 62 :: S) (mk h) Q = pm_WL fqP d 5 (pc + n) r L (.ref 63 :: S) (mk h) Q := by
  simp only [w_getf, lg_5, lf_1_9, pm_oF_s, hg_62, pm_oO_s, List.getElem?_cons_succ, List.getElem?_cons_zero, pm_oK_s, true_and]
theorem gf_5_9_76 : pm_WL fqP d 5 pc ((.getfield 9, n) :: r) L (.ref 76 :: S) (mk h) Q = pm_WL fqP d 5 (pc + n) r L (.ref 77 :: S) (mk h) Q := by
  simp only [w_getf, lg_5, lf_1_9, pm_oF_s, hg_76, pm_oO_s, List.getElem?_cons_succ, List.getElem?_cons_zero, pm_oK_s, true_and]
theorem gf_5_25_7 : pm_WL fqP d 5 pc ((.getfield 25, n) :: r) L (.ref 7 :: S) (mk h) Q = pm_WL fqP d 5 (pc + n) r L (.int (gd (h 7) 0) :: S) (mk h) Q := by
  simp only [w_getf, lg_5, lf_1_25, pm_oF_s, hg_7, pm_oO_s, List.getElem?_cons_succ, List.getElem?_cons_zero, pm_oK_s, true_and]
theorem gf_5_25_35 : pm_WL fqP d 5 pc ((.getfield 25, n) :: r) L (.ref 35 :: S) (mk h) Q = pm_WL fqP d 5 (pc + n) r L (.int (gd (h 35) 0) :: S) (mk h) Q := by
  simp only [w_getf, lg_5, lf_1_25, pm_oF_s, hg_35, pm_oO_s, List.getElem?_cons_succ, List.getElem?_cons_zero, pm_oK_s, true_and]
theorem gf_5_25_62 : pm_WL fqP d 5 pc ((.getfield 25, n) :: r) L (.ref 62 :: S) (mk h) Q = pm_WL fqP d 5 (pc + n) r L (.int (gd (h 62) 0) :: S) (mk h) Q := by
  simp only [w_getf, lg_5, lf_1_25, pm_oF_s, hg_62, pm_oO_s, List.getElem?_cons_succ, List.getElem?_cons_zero, pm_oK_s, true_and]
theorem gf_5_25_76 : pm_WL fqP d 5 pc ((.getfield 25, n) :: r) L (.ref 76 :: S) (mk h) Q = pm_WL fqP d 5 (pc + n) r L (.int (gd (h 76) 0) :: S) (mk h) Q := by
  simp only [w_getf, lg_5, lf_1_25, pm_oF_s, hg_76, pm_oO_s, List.getElem?_cons_succ, List.getElem?_cons_zero, pm_oK_s, true_and]
theorem iv_5_31 {x0 : Nat} {x1 : Int32} {x2 : Int32} : pm_WL fqP d 5 pc ((.invokestatic 31, n) :: r) L (.int x2 :: .int x1 :: .ref x0 :: S) σ Q = (pm_okW 8 S = true ∧ pm_WC fqP d 92 [.ref x0, .int x1, .int x2] σ (pm_kk fqP d 5 (pc + n) r L S Q)) := by
  show _ = (pm_okW 8 S = true ∧ pm_WC fqP d 92 [.ref x0, .int x1, .int x2] σ (fun v σ' => pm_WL fqP d 5 (pc + n) r L (pm_pu v S) σ' Q))
  simp only [w_invs, lg_5, lm_1_31, pm_oM_s, pm_oP_s, pm_pop_0, pm_pop_s, pm_ref1_is, Nat.reduceEqDiff, Nat.zero_ne_one, Nat.succ_ne_self, true_or, or_true, or_false, false_or, or_self, false_implies, true_implies, implies_true, true_and]
theorem gf_5_15_7 : pm_WL fqP d 5 pc ((.getfield 15, n) :: r) L (.ref 7 :: S) (mk h) Q = pm_WL fqP d 5 (pc + n) r L (.ref 9 :: S) (mk h) Q := by
  simp only [w_getf, lg_5, lf_1_15, pm_oF_s, hg_7, pm_oO_s, List.getElem?_cons_succ, List.getElem?_cons_zero, pm_oK_s, true_and]
theorem gf_5_15_35 : pm_WL fqP d 5 pc ((.getfield 15, n) :: r) L (.ref 35 :: S) (mk h) Q = pm_WL fqP d 5 (pc + n) r L (.ref 37 :: S) (mk h) Q := by
  simp only [w_getf, lg_5, lf_1_15, pm_oF_s, hg_35, pm_oO_s, List.getElem?_cons_succ, List.getElem?_cons_zero, pm_oK_s, true_and]
theorem gf_5_15_62 : pm_WL fqP d 5 pc ((.getfield 15, n) :: r) L (.ref 62 :: S) (mk h) Q = pm_WL fqP d 5 (pc + n) r L (.ref 64 :: S) (mk h) Q := by
  simp only [w_getf, lg_5, lf_1_15, pm_oF_s, hg_62, pm_oO_s, List.getElem?_cons_succ, List.getElem?_cons_zero, pm_oK_s, true_and]
theorem gf_5_15_76 : pm_WL fqP d 5 pc ((.getfield 15, n) :: r) L (.ref 76 :: S) (mk h) Q = pm_WL fqP d 5 (pc + n) r L (.ref 78 :: S) (mk h) Q := by
  simp only [w_getf, lg_5, lf_1_15, pm_oF_s, hg_76, pm_oO_s, List.getElem?_cons_succ, List.getElem?_cons_zero, pm_oK_s, true_and]
theorem gf_5_28_7 : pm_WL fqP d 5 pc ((.getfield 28, n) :: r) L (.ref 7 :: S) (mk h) Q = pm_WL fqP d 5 (pc + n) r L (.int (gd (h 7) 1) :: S) (mk h) Q := by
  simp only [w_getf, lg_5, lf_1_28, pm_oF_s, hg_7, pm_oO_s, List.getElem?_cons_succ, List.getElem?_cons_zero, pm_oK_s, true_and]
theorem gf_5_28_35 : pm_WL fqP d 5 pc ((.getfield 28, n) :: r) L (.ref 35 :: S) (mk h) Q = pm_WL fqP d 5 (pc + n) r L (.int (gd (h 35) 1) :: S) (mk h) Q := by
  simp only [w_getf, lg_5, lf_1_28, pm_oF_s, hg_35, pm_oO_s, List.getElem?_cons_succ, List.getElem?_cons_zero, pm_oK_s, true_and]
theorem gf_5_28_62 : pm_WL fqP d 5 pc ((.getfield 28, n) :: r) L (.ref 62 :: S) (mk h) Q = pm_WL fqP d 5 (pc + n) r L (.int (gd (h 62) 1) :: S) (mk h) Q := by
  simp only [w_getf, lg_5, lf_1_28, pm_oF_s, hg_62, pm_oO_s, List.getElem?_cons_succ, List.getElem?_cons_zero, pm_oK_s, true_and]
theorem gf_5_28_76 : pm_WL fqP d 5 pc ((.getfield 28, n) :: r) L (.ref 76 :: S) (mk h) Q = pm_WL fqP d 5 (pc + n) r L (.int (gd (h 76) 1) :: S) (mk h) Q := by
  simp only [w_getf, lg_5, lf_1_28, pm_oF_s, hg_76, pm_oO_s, List.getElem?_cons_succ, List.getElem?_cons_zero, pm_oK_s, true_and]
theorem pf_5_25_7 {x : Int32} : pm_WL fqP d 5 pc ((.putfield 25, n) :: r) L (.int x :: .ref 7 :: S) (mk h) Q = pm_WL fqP d 5 (pc + n) r L S (mk (up h 7 [x, gd (h 7) 1, gd (h 7) 2])) Q := by
  simp only [w_putf, lg_5, lf_1_25, lt_1_3, pm_oF_s, hg_7, pm_oO_s, List.set_cons_succ, List.set_cons_zero, List.length_cons, List.length_nil, pm_fit_i, Nat.reduceAdd, Nat.reduceLT, Nat.zero_add, Nat.lt_add_one, Bool.false_eq_true, false_implies, true_and, and_true, hs_7]
theorem pf_5_25_35 {x : Int32} : pm_WL fqP d 5 pc ((.putfield 25, n) :: r) L (.int x :: .ref 35 :: S) (mk h) Q = pm_WL fqP d 5 (pc + n) r L S (mk (up h 35 [x, gd (h 35) 1, gd (h 35) 2])) Q := by
  simp only [w_putf, lg_5, lf_1_25, lt_1_3, pm_oF_s, hg_35, pm_oO_s, List.set_cons_succ, List.set_cons_zero, List.length_cons, List.length_nil, pm_fit_i, Nat.reduceAdd, Nat.reduceLT, Nat.zero_add, Nat.lt_add_one, Bool.false_eq_true, false_implies, true_and, and_true, hs_35]
theorem pf_5_25_62 {x : Int32} : pm_WL fqP d 5 pc ((.putfield 25, n) :: r) L (.int x :: .ref 62 :: S) (mk h) Q = pm_WL fqP d 5 (pc + n) r L S (mk (up h 62 [x, gd (h 62) 1, gd (h 62) 2])) Q := by
  simp only [w_putf, lg_5, lf_1_25, lt_1_3, pm_oF_s, hg_62, pm_oO_s, List.set_cons_succ, List.set_cons_zero, List.length_cons, List.length_nil, pm_fit_i, Nat.reduceAdd, Nat.reduceLT, Nat.zero_add, Nat.lt_add_one, Bool.false_eq_true, false_implies, true_and, and_true, hs_62]
theorem pf_5_25_76 {x : Int32} : pm_WL fqP d 5 pc ((.putfield 25, n) :: r) L (.int x :: .ref 76 :: S) (mk h) Q = pm_WL fqP d 5 (pc + n) r L S (mk (up h 76 [x, gd (h 76) 1, gd (h 76) 2])) Q := by
  simp only [w_putf, lg_5, lf_1_25, lt_1_3, pm_oF_s, hg_76, pm_oO_s, List.set_cons_succ, List.set_cons_zero, List.length_cons, List.length_nil, pm_fit_i, Nat.reduceAdd, Nat.reduceLT, Nat.zero_add, Nat.lt_add_one, Bool.false_eq_true, false_implies, true_and, and_true, hs_76]
theorem gf_6_18_7 : pm_WL fqP d 6 pc ((.getfield 18, n) :: r) L (.ref 7 :: S) (mk h) Q = pm_WL fqP d 6 (pc + n) r L (.ref 10 :: S) (mk h) Q := by
  simp only [w_getf, lg_6, lf_1_18, pm_oF_s, hg_7, pm_oO_s, List.getElem?_cons_succ, List.getElem?_cons_zero, pm_oK_s, true_and]
theorem gf_6_18_35 : pm_WL fqP d 6 pc ((.getfield 18, n) :: r) L (.ref 35 :: S) (mk h) Q = pm_WL fqP d 6 (pc + n) r L (.ref 38 :: S) (mk h) Q := by
  simp only [w_getf, lg_6, lf_1_18, pm_oF_s, hg_35, pm_oO_s, List.getElem?_cons_succ, List.getElem?_cons_zero, pm_oK_s, true_and]
theorem gf_6_18_62 : pm_WL fqP d 6 pc ((.getfield 18, n) :: r) L (.ref 62 :: S) (mk h) Q = pm_WL fqP d 6 (pc + n) r L (.ref 65 :: S) (mk h) Q := by
  simp only [w_getf, lg_6, lf_1_18, pm_oF_s, hg_62, pm_oO_s, List.getElem?_cons_succ, List.getElem?_cons_zero, pm_oK_s, true_and]
theorem gf_6_18_76 : pm_WL fqP d 6 pc ((.getfield 18, n) :: r) L (.ref 76 :: S) (mk h) Q = pm_WL fqP d 6 (pc + n) r L (.ref 79 :: S) (mk h) Q := by
  simp only [w_getf, lg_6, lf_1_18, pm_oF_s, hg_76, pm_oO_s, List.getElem?_cons_succ, List.getElem?_cons_zero, pm_oK_s, true_and]
theorem gf_6_28_7 : pm_WL fqP d 6 pc ((.getfield 28, n) :: r) L (.ref 7 :: S) (mk h) Q = pm_WL fqP d 6 (pc + n) r L (.int (gd (h 7) 1) :: S) (mk h) Q := by
  simp only [w_getf, lg_6, lf_1_28, pm_oF_s, hg_7, pm_oO_s, List.getElem?_cons_succ, List.getElem?_cons_zero, pm_oK_s, true_and]
theorem gf_6_28_35 : pm_WL fqP d 6 pc ((.getfield 28, n) :: r) L (.ref 35 :: S) (mk h) Q = pm_WL fqP d 6 (pc + n) r L (.int (gd (h 35) 1) :: S) (mk h) Q := by
  simp only [w_getf, lg_6, lf_1_28, pm_oF_s, hg_35, pm_oO_s, List.getElem?_cons_succ, List.getElem?_cons_zero, pm_oK_s, true_and]
theorem gf_6_28_62 : pm_WL fqP d 6 pc ((.getfield 28, n) :: r) L (.ref 62 :: S) (mk h) Q = pm_WL fqP d 6 (pc + n) r L (.int (gd (h 62) 1) :: S) (mk h) Q := by
  simp only [w_getf, lg_6, lf_1_28, pm_oF_s, hg_62, pm_oO_s, List.getElem?_cons_succ, List.getElem?_cons_zero, pm_oK_s, true_and]
theorem gf_6_28_76 : pm_WL fqP d 6 pc ((.getfield 28, n) :: r) L (.ref 76 :: S) (mk h) Q = pm_WL fqP d 6 (pc + n) r L (.int (gd (h 76) 1) :: S) (mk h) Q := by
  simp only [w_getf, lg_6, lf_1_28, pm_oF_s, hg_76, pm_oO_s, List.getElem?_cons_succ, List.getElem?_cons_zero, pm_oK_s, true_and]
theorem iv_6_31 {x0 : Nat} {x1 : Int32} {x2 : Int32} : pm_WL fqP d 6 pc ((.invokestatic 31, n) :: r) L (.int x2 :: .int x1 :: .ref x0 :: S) σ Q = (pm_okW 8 S = true ∧ pm_WC fqP d 92 [.ref x0, .int x1, .int x2] σ (pm_kk fqP d 6 (pc + n) r L S Q)) := by
  show _ = (pm_okW 8 S = true ∧ pm_WC fqP d 92 [.ref x0, .int x1, .int x2] σ (fun v σ' => pm_WL fqP d 6 (pc + n) r L (pm_pu v S) σ' Q))
  simp only [w_invs, lg_6, lm_1_31, pm_oM_s, pm_oP_s, pm_pop_0, pm_pop_s, pm_ref1_is, Nat.reduceEqDiff, Nat.zero_ne_one, Nat.succ_ne_self, true_or, or_true, or_false, false_or, or_self, false_implies, true_implies, implies_true, true_and]
theorem pf_6_28_7 {x : Int32} : pm_WL fqP d 6 pc ((.putfield 28, n) :: r) L (.int x :: .ref 7 :: S) (mk h) Q = pm_WL fqP d 6 (pc + n) r L S (mk (up h 7 [gd (h 7) 0, x, gd (h 7) 2])) Q := by
  simp only [w_putf, lg_6, lf_1_28, lt_1_4, pm_oF_s, hg_7, pm_oO_s, List.set_cons_succ, List.set_cons_zero, List.length_cons, List.length_nil, pm_fit_i, Nat.reduceAdd, Nat.reduceLT, Nat.zero_add, Nat.lt_add_one, Bool.false_eq_true, false_implies, true_and, and_true, hs_7]
theorem pf_6_28_35 {x : Int32} : pm_WL fqP d 6 pc ((.putfield 28, n) :: r) L (.int x :: .ref 35 :: S) (mk h) Q = pm_WL fqP d 6 (pc + n) r L S (mk (up h 35 [gd (h 35) 0, x, gd (h 35) 2])) Q := by
  simp only [w_putf, lg_6, lf_1_28, lt_1_4, pm_oF_s, hg_35, pm_oO_s, List.set_cons_succ, List.set_cons_zero, List.length_cons, List.length_nil, pm_fit_i, Nat.reduceAdd, Nat.reduceLT, Nat.zero_add, Nat.lt_add_one, Bool.false_eq_true, false_implies, true_and, and_true, hs_35]
theorem pf_6_28_62 {x : Int32} : pm_WL fqP d 6 pc ((.putfield 28, n) :: r) L (.int x :: .ref 62 :: S) (mk h) Q = pm_WL fqP d 6 (pc + n) r L S (mk (up h 62 [gd (h 62) 0, x, gd (h 62) 2])) Q := by
  simp only [w_putf, lg_6, lf_1_28, lt_1_4, pm_oF_s, hg_62, pm_oO_s, List.set_cons_succ, List.set_cons_zero, List.length_cons, List.length_nil, pm_fit_i, Nat.reduceAdd, Nat.reduceLT, Nat.zero_add, Nat.lt_add_one, Bool.false_eq_true, false_implies, true_and, and_true, hs_62]
theorem pf_6_28_76 {x : Int32} : pm_WL fqP d 6 pc ((.putfield 28, n) :: r) L (.int x :: .ref 76 :: S) (mk h) Q = pm_WL fqP d 6 (pc + n) r L S (mk (up h 76 [gd (h 76) 0, x, gd (h 76) 2])) Q := by
  simp only [w_putf, lg_6, lf_1_28, lt_1_4, pm_oF_s, hg_76, pm_oO_s, List.set_cons_succ, List.set_cons_zero, List.length_cons, List.length_nil, pm_fit_i, Nat.reduceAdd, Nat.reduceLT, Nat.zero_add, Nat.lt_add_one, Bool.false_eq_true, false_implies, true_and, and_true, hs_76]
theorem gf_7_18_7 : pm_WL fqP d 7 pc ((.getfield 18, n) :: r) L (.ref 7 :: S) (mk h) Q = pm_WL fqP d 7 (pc + n) r L (.ref 10 :: S) (mk h) Q := by
  simp only [w_getf, lg_7, lf_1_18, pm_oF_s, hg_7, pm_oO_s, List.getElem?_cons_succ, List.getElem?_cons_zero, pm_oK_s, true_and]
theorem gf_7_18_35 : pm_WL fqP d 7 pc ((.getfield 18, n) :: r) L (.ref 35 :: S) (mk h) Q = pm_WL fqP d 7 (pc + n) r L (.ref 38 :: S) (mk h) Q := by
  simp only [w_getf, lg_7, lf_1_18, pm_oF_s, hg_35, pm_oO_s, List.getElem?_cons_succ, List.getElem?_cons_zero, pm_oK_s, true_and]
theorem gf_7_18_62 : pm_WL fqP d 7 pc ((.getfield 18, n) :: r) L (.ref 62 :: S) (mk h) Q = pm_WL fqP d 7 (pc + n) r L (.ref 65 :: S) (mk h) Q := by
  simp only [w_getf, lg_7, lf_1_18, pm_oF_s, hg_62, pm_oO_s, List.getElem?_cons_succ, List.getElem?_cons_zero, pm_oK_s, true_and]
theorem gf_7_18_76 : pm_WL fqP d 7 pc ((.getfield 18, n) :: r) L (.ref 76 :: S) (mk h) Q = pm_WL fqP d 7 (pc + n) r L (.ref 79 :: S) (mk h) Q := by
  simp only [w_getf, lg_7, lf_1_18, pm_oF_s, hg_76, pm_oO_s, List.getElem?_cons_succ, List.getElem?_cons_zero, pm_oK_s, true_and]
theorem iv_7_35 {x0 : Nat} {x1 : Int32} : pm_WL fqP d 7 pc ((.invokestatic 35, n) :: r) L (.int x1 :: .ref x0 :: S) σ Q = (pm_okW 8 S = true ∧ pm_WC fqP d 91 [.ref x0, .int x1] σ (pm_kk fqP d 7 (pc + n) r L S Q)) := by
  show _ = (pm_okW 8 S = true ∧ pm_WC fqP d 91 [.ref x0, .int x1] σ (fun v σ' => pm_WL fqP d 7 (pc + n) r L (pm_pu v S) σ' Q))
  simp only [w_invs, lg_7, lm_1_35, pm_oM_s, pm_oP_s, pm_pop_0, pm_pop_s, pm_ref1_is, Nat.reduceEqDiff, Nat.zero_ne_one, Nat.succ_ne_self, true_or, or_true, or_false, false_or, or_self, false_implies, true_implies, implies_true, true_and]
theorem gf_7_28_7 : pm_WL fqP d 7 pc ((.getfield 28, n) :: r) L (.ref 7 :: S) (mk h) Q = pm_WL fqP d 7 (pc + n) r L (.int (gd (h 7) 1) :: S) (mk h) Q := by
  simp only [w_getf, lg_7, lf_1_28, pm_oF_s, hg_7, pm_oO_s, List.getElem?_cons_succ, List.getElem?_cons_zero, pm_oK_s, true_and]
theorem gf_7_28_35 : pm_WL fqP d 7 pc ((.getfield 28, n) :: r) L (.ref 35 :: S) (mk h) Q = pm_WL fqP d 7 (pc + n) r L (.int (gd (h 35) 1) :: S) (mk h) Q := by
  simp only [w_getf, lg_7, lf_1_28, pm_oF_s, hg_35, pm_oO_s, List.getElem?_cons_succ, List.getElem?_cons_zero, pm_oK_s, true_and]
theorem gf_7_28_62 : pm_WL fqP d 7 pc ((.getfield 28, n) :: r) L (.ref 62 :: S) (mk h) Q = pm_WL fqP d 7 (pc + n) r L (.int (gd (h 62) 1) :: S) (mk h) Q := by
  simp only [w_getf, lg_7, lf_1_28, pm_oF_s, hg_62, pm_oO_s, List.getElem?_cons_succ, List.getElem?_cons_zero, pm_oK_s, true_and]
theorem gf_7_28_76 : pm_WL fqP d 7 pc ((.getfield 28, n) :: r) L (.ref 76 :: S) (mk h) Q = pm_WL fqP d 7 (pc + n) r L (.int (gd (h 76) 1) :: S) (mk h) Q := by
  simp only [w_getf, lg_7, lf_1_28, pm_oF_s, hg_76, pm_oO_s, List.getElem?_cons_succ, List.getElem?_cons_zero, pm_oK_s, true_and]
theorem iv_7_31 {x0 : Nat} {x1 : Int32} {x2 : Int32} : pm_WL fqP d 7 pc ((.invokestatic 31, n) :: r) L (.int x2 :: .int x1 :: .ref x0 :: S) σ Q = (pm_okW 8 S = true ∧ pm_WC fqP d 92 [.ref x0, .int x1, .int x2] σ (pm_kk fqP d 7 (pc + n) r L S Q)) := by
  show _ = (pm_okW 8 S = true ∧ pm_WC fqP d 92 [.ref x0, .int x1, .int x2] σ (fun v σ' => pm_WL fqP d 7 (pc + n) r L (pm_pu v S) σ' Q))
  simp only [w_invs, lg_7, lm_1_31, pm_oM_s, pm_oP_s, pm_pop_0, pm_pop_s, pm_ref1_is, Nat.reduceEqDiff, Nat.zero_ne_one, Nat.succ_ne_self, true_or, or_true, or_false, false_or, or_self, false_implies, true_implies, implies_true, true_and]
theorem gf_8_25_7 : pm_WL fqP d 8 pc ((.getfield 25, n) :: r) L (.ref 7 :: S) (mk h) Q = pm_WL fqP d 8 (pc + n) r L (.int (gd (h 7) 0) :: S) (mk h) Q := by
  simp only [w_getf, lg_8, lf_1_25, pm_oF_s, hg_7, pm_oO_s, List.getElem?_cons_succ, List.getElem?_cons_zero, pm_oK_s, true_and]
theorem gf_8_25_35 : pm_WL fqP d 8 pc ((.getfield 25, n) :: r) L (.ref 35 :: S) (mk h) Q = pm_WL fqP d 8 (pc + n) r L (.int (gd (h 35) 0) :: S) (mk h) Q := by
  simp only [w_getf, lg_8, lf_1_25, pm_oF_s, hg_35, pm_oO_s, List.getElem?_cons_succ, List.getElem?_cons_zero, pm_oK_s, true_and]
theorem gf_8_25_62 : pm_WL fqP d 8 pc ((.getfield 25, n) :: r) L (.ref 62 :: S) (mk h) Q = pm_WL fqP d 8 (pc + n) r L (.int (gd (h 62) 0) :: S) (mk h) Q := by
  simp only [w_getf, lg_8, lf_1_25, pm_oF_s, hg_62, pm_oO_s, List.getElem?_cons_succ, List.getElem?_cons_zero, pm_oK_s, true_and]
theorem gf_8_25_76 : pm_WL fqP d 8 pc ((.getfield 25, n) :: r) L (.ref 76 :: S) (mk h) Q = pm_WL fqP d 8 (pc + n) r L (.int (gd (h 76) 0) :: S) (mk h) Q := by
  simp only [w_getf, lg_8, lf_1_25, pm_oF_s, hg_76, pm_oO_s, List.getElem?_cons_succ, List.getElem?_cons_zero, pm_oK_s, true_and]
theorem gf_8_15_7 : pm_WL fqP d 8 pc ((.getfield 15, n) :: r) L (.ref 7 :: S) (mk h) Q = pm_WL fqP d 8 (pc + n) r L (.ref 9 :: S) (mk h) Q := by
  simp only [w_getf, lg_8, lf_1_15, pm_oF_s, hg_7, pm_oO_s, List.getElem?_cons_succ, List.getElem?_cons_zero, pm_oK_s, true_and]
theorem gf_8_15_35 : pm_WL fqP d 8 pc ((.getfield 15, n) :: r) L (.ref 35 :: S) (mk h) Q = pm_WL fqP d 8 (pc + n) r L (.ref 37 :: S) (mk h) Q := by
  simp only [w_getf, lg_8, lf_1_15, pm_oF_s, hg_35, pm_oO_s, List.getElem?_cons_succ, List.getElem?_cons_zero, pm_oK_s, true_and]
theorem gf_8_15_62 : pm_WL fqP d 8 pc ((.getfield 15, n) :: r) L (.ref 62 :: S) (mk h) Q = pm_WL fqP d 8 (pc + n) r L (.ref 64 :: S) (mk h) Q := by
  simp only [w_getf, lg_8, lf_1_15, pm_oF_s, hg_62, pm_oO_s, List.getElem?_cons_succ, List.getElem?_cons_zero, pm_oK_s, true_and]
theorem gf_8_15_76 : pm_WL fqP d 8 pc ((.getfield 15, n) :: r) L (.ref 76 :: S) (mk h) Q = pm_WL fqP d 8 (pc + n) r L (.ref 78 :: S) (mk h) Q := by
  simp only [w_getf, lg_8, lf_1_15, pm_oF_s, hg_76, pm_oO_s, List.getElem?_cons_succ, List.getElem?_cons_zero, pm_oK_s, true_and]
theorem iv_8_35 {x0 : Nat} {x1 : Int32} : pm_WL fqP d 8 pc ((.invokestatic 35, n) :: r) L (.int x1 :: .ref x0 :: S) σ Q = (pm_okW 8 S = true ∧ pm_WC fqP d 91 [.ref x0, .int x1] σ (pm_kk fqP d 8 (pc + n) r L S Q)) := by
  show _ = (pm_okW 8 S = true ∧ pm_WC fqP d 91 [.ref x0, .int x1] σ (fun v σ' => pm_WL fqP d 8 (pc + n) r L (pm_pu v S) σ' Q))
  simp only [w_invs, lg_8, lm_1_35, pm_oM_s, pm_oP_s, pm_pop_0, pm_pop_s, pm_ref1_is, Nat.reduceEqDiff, Nat.zero_ne_one, Nat.succ_ne_self, true_or, or_true, or_false, false_or, or_self, false_implies, true_implies, implies_true, true_and]
theorem iv_8_39_7 {x1 : Int32} {x2 : Int32} {x3 : Nat} : pm_WL fqP d 8 pc ((.invokevirtual 39, n) :: r) L (.ref x3 :: .int x2 :: .int x1 :: .ref 7 :: S) (mk h) Q = (pm_okW 8 S = true ∧ pm_WC fqP d 9 [.ref 7, .int x1, .int x2, .ref x3] (mk h) (pm_kk fqP d 8 (pc + n) r L S Q)) := by
  show _ = (pm_okW 8 S = true ∧ pm_WC fqP d 9 [.ref 7, .int x1, .int x2, .ref x3] (mk h) (fun v σ' => pm_WL fqP d 8 (pc + n) r L (pm_pu v S) σ' Q))
  simp only [w_invv, lg_8, lm_1_39, pm_oM_s, pm_oP_s, pm_pop_0, pm_pop_s, pm_rcv_is, hg_7, pm_oO_s, pm_ref1_is, Nat.reduceEqDiff, Nat.zero_ne_one, Nat.succ_ne_self, true_or, or_true, or_false, false_or, or_self, false_implies, true_implies, implies_true, true_and]
theorem iv_8_39_35 {x1 : Int32} {x2 : Int32} {x3 : Nat} : pm_WL fqP d 8 pc ((.invokevirtual 39, n) :: r) L (.ref x3 :: .int x2 :: .int x1 :: .ref 35 :: S) (mk h) Q = (pm_okW 8 S = true ∧ pm_WC fqP d 9 [.ref 35, .int x1, .int x2, .ref x3] (mk h) (pm_kk fqP d 8 (pc + n) r L S Q)) := by
  show _ = (pm_okW 8 S = true ∧ pm_WC fqP d 9 [.ref 35, .int x1, .int x2, .ref x3] (mk h) (fun v σ' => pm_WL fqP d 8 (pc + n) r L (pm_pu v S) σ' Q))
  simp only [w_invv, lg_8, lm_1_39, pm_oM_s, pm_oP_s, pm_pop_0, pm_pop_s, pm_rcv_is, hg_35, pm_oO_s, pm_ref1_is, Nat.reduceEqDiff, Nat.zero_ne_one, Nat.succ_ne_self, true_or, or_true, or_false, false_or, or_self, false_implies, true_implies, implies_true, true_and]
theorem iv_8_39_62 {x1 : Int32} {x2 : Int32} {x3 : Nat} : pm_WL fqP d 8 pc ((.invokevirtual 39, n) :: r) L (.ref x3 :: .int x2 :: .int x1 :: .ref 62 :: S) (mk h) Q = (pm_okW 8 S = true ∧ pm_WC fqP d 9 [.ref 62, .int x1, .int x2, .ref x3] (mk h) (pm_kk fqP d 8 (pc + n) r L S Q)) := by
  show _ = (pm_okW 8 S = true ∧ pm_WC fqP d 9 [.ref 62, .int x1, .int x2, .ref x3] (mk h) (fun v σ' => pm_WL fqP d 8 (pc + n) r L (pm_pu v S) σ' Q))
  simp only [w_invv, lg_8, lm_1_39, pm_oM_s, pm_oP_s, pm_pop_0, pm_pop_s, pm_rcv_is, hg_62, pm_oO_s, pm_ref1_is, Nat.reduceEqDiff, Nat.zero_ne_one, Nat.succ_ne_self, true_or, or_true, or_false, false_or, or_self, false_implies, true_implies, implies_true, true_and]
theorem iv_8_39_76 {x1 : Int32} {x2 : Int32} {x3 : Nat} : pm_WL fqP d 8 pc ((.invokevirtual 39, n) :: r) L (.ref x3 :: .int x2 :: .int x1 :: .ref 76 :: S) (mk h) Q = (pm_okW 8 S = true ∧ pm_WC fqP d 9 [.ref 76, .int x1, .int x2, .ref x3] (mk h) (pm_kk fqP d 8 (pc + n) r L S Q)) := by
  show _ = (pm_okW 8 S = true ∧ pm_WC fqP d 9 [.ref 76, .int x1, .int x2, .ref x3] (mk h) (fun v σ' => pm_WL fqP d 8 (pc + n) r L (pm_pu v S) σ' Q))
  simp only [w_invv, lg_8, lm_1_39, pm_oM_s, pm_oP_s, pm_pop_0, pm_pop_s, pm_rcv_is, hg_76, pm_oO_s, pm_ref1_is, Nat.reduceEqDiff, Nat.zero_ne_one, Nat.succ_ne_self, true_or, or_true, or_false, false_or, or_self, false_implies, true_implies, implies_true, true_and]
theorem gf_8_9_7 : pm_WL fqP d 8 pc ((.getfield 9, n) :: r) L (.ref 7 :: S) (mk h) Q = pm_WL fqP d 8 (pc + n) r L (.ref 8 :: S) (mk h) Q := by
  simp only [w_getf, lg_8, lf_1_9, pm_oF_s, hg_7, pm_oO_s, List.getElem?_cons_succ, List.getElem?_cons_zero, pm_oK_s, true_and]
theorem gf_8_9_35 : pm_WL fqP d 8 pc ((.getfield 9, n) :: r) L (.ref 35 :: S) (mk h) Q = pm_WL fqP d 8 (pc + n) r L (.ref 36 :: S) (mk h) Q := by
  simp only [w_getf, lg_8, lf_1_9, pm_oF_s, hg_35, pm_oO_s, List.getElem?_cons_succ, List.getElem?_cons_zero, pm_oK_s, true_and]
theorem gf_8_9_62 : pm_WL fqP d 8 pc ((.getfield 9, n) :: r) L (.ref 62 :: S) (mk h) Q = pm_WL fqP d 8 (pc + n) r L (.ref 63 :: S) (mk h) Q := by
  simp only [w_getf, lg_8, lf_1_9, pm_oF_s, hg_62, pm_oO_s, List.getElem?_cons_succ, List.getElem?_cons_zero, pm_oK_s, true_and]
theorem gf_8_9_76 : pm_WL fqP d 8 pc ((.getfield 9, n) :: r) L (.ref 76 :: S) (mk h) Q = pm_WL fqP d 8 (pc + n) r L (.ref 77 :: S) (mk h) Q := by
  simp only [w_getf, lg_8, lf_1_9, pm_oF_s, hg_76, pm_oO_s, List.getElem?_cons_succ, List.getElem?_cons_zero, pm_oK_s, true_and]
theorem gf_9_18_7 : pm_WL fqP d 9 pc ((.getfield 18, n) :: r) L (.ref 7 :: S) (mk h) Q = pm_WL fqP d 9 (pc + n) r L (.ref 10 :: S) (mk h) Q := by
  simp only [w_getf, lg_9, lf_1_18, pm_oF_s, hg_7, pm_oO_s, List.getElem?_cons_succ, List.getElem?_cons_zero, pm_oK_s, true_and]
theorem gf_9_18_35 : pm_WL fqP d 9 pc ((.getfield 18, n) :: r) L (.ref 35 :: S) (mk h) Q = pm_WL fqP d 9 (pc + n) r L (.ref 38 :: S) (mk h) Q := by
  simp only [w_getf, lg_9, lf_1_18, pm_oF_s, hg_35, pm_oO_s, List.getElem?_cons_succ, List.getElem?_cons_zero, pm_oK_s, true_and]
theorem gf_9_18_62 : pm_WL fqP d 9 pc ((.getfield 18, n) :: r) L (.ref 62 :: S) (mk h) Q = pm_WL fqP d 9 (pc + n) r L (.ref 65 :: S) (mk h) Q := by
  simp only [w_getf, lg_9, lf_1_18, pm_oF_s, hg_62, pm_oO_s, List.getElem?_cons_succ, List.getElem?_cons_zero, pm_oK_s, true_and]
theorem gf_9_18_76 : pm_WL fqP d 9 pc ((.getfield 18, n) :: r) L (.ref 76 :: S) (mk h) Q = pm_WL fqP d 9 (pc + n) r L (.ref 79 :: S) (mk h) Q := by
  simp only [w_getf, lg_9, lf_1_18, pm_oF_s, hg_76, pm_oO_s, List.getElem?_cons_succ, List.getElem?_cons_zero, pm_oK_s, true_and]
theorem gf_10_9_7 : pm_WL fqP d 10 pc ((.getfield 9, n) :: r) L (.ref 7 :: S) (mk h) Q = pm_WL fqP d 10 (pc + n) r L (.ref 8 :: S) (mk h) Q := by
  simp only [w_getf, lg_10, lf_1_9, pm_oF_s, hg_7, pm_oO_s, List.getElem?_cons_succ, List.getElem?_cons_zero, pm_oK_s, true_and]
theorem gf_10_9_35 : pm_WL fqP d 10 pc ((.getfield 9, n) :: r) L (.ref 35 :: S) (mk h) Q = pm_WL fqP d 10 (pc + n) r L (.ref 36 :: S) (mk h) Q := by
  simp only [w_getf, lg_10, lf_1_9, pm_oF_s, hg_35, pm_oO_s, List.getElem?_cons_succ, List.getElem?_cons_zero, pm_oK_s, true_and]
theorem gf_10_9_62 : pm_WL fqP d 10 pc ((.getfield 9, n) :: r) L (.ref 62 :: S) (mk h) Q = pm_WL fqP d 10 (pc + n) r L (.ref 63 :: S) (mk h) Q := by
  simp only [w_getf, lg_10, lf_1_9, pm_oF_s, hg_62, pm_oO_s, List.getElem?_cons_succ, List.getElem?_cons_zero, pm_oK_s, true_and]
theorem gf_10_9_76 : pm_WL fqP d 10 pc ((.getfield 9, n) :: r) L (.ref 76 :: S) (mk h) Q = pm_WL fqP d 10 (pc + n) r L (.ref 77 :: S) (mk h) Q := by
  simp only [w_getf, lg_10, lf_1_9, pm_oF_s, hg_76, pm_oO_s, List.getElem?_cons_succ, List.getElem?_cons_zero, pm_oK_s, true_and]
theorem iv_10_43 {x0 : Nat} {x1 : Nat} : pm_WL fqP d 10 pc ((.invokestatic 43, n) :: r) L (.ref x1 :: .ref x0 :: S) σ Q = (pm_okW 8 S = true ∧ pm_WC fqP d 94 [.ref x0, .ref x1] σ (pm_kk fqP d 10 (pc + n) r L S Q)) := by
  show _ = (pm_okW 8 S = true ∧ pm_WC fqP d 94 [.ref x0, .ref x1] σ (fun v σ' => pm_WL fqP d 10 (pc + n) r L (pm_pu v S) σ' Q))
  simp only [w_invs, lg_10, lm_1_43, pm_oM_s, pm_oP_s, pm_pop_0, pm_pop_s, pm_ref1_is, Nat.reduceEqDiff, Nat.zero_ne_one, Nat.succ_ne_self, true_or, or_true, or_false, false_or, or_self, false_implies, true_implies, implies_true, true_and]
theorem gf_10_15_7 : pm_WL fqP d 10 pc ((.getfield 15, n) :: r) L (.ref 7 :: S) (mk h) Q = pm_WL fqP d 10 (pc + n) r L (.ref 9 :: S) (mk h) Q := by
  simp only [w_getf, lg_10, lf_1_15, pm_oF_s, hg_7, pm_oO_s, List.getElem?_cons_succ, List.getElem?_cons_zero, pm_oK_s, true_and]
theorem gf_10_15_35 : pm_WL fqP d 10 pc ((.getfield 15, n) :: r) L (.ref 35 :: S) (mk h) Q = pm_WL fqP d 10 (pc + n) r L (.ref 37 :: S) (mk h) Q := by
  simp only [w_getf, lg_10, lf_1_15, pm_oF_s, hg_35, pm_oO_s, List.getElem?_cons_succ, List.getElem?_cons_zero, pm_oK_s, true_and]
theorem gf_10_15_62 : pm_WL fqP d 10 pc ((.getfield 15, n) :: r) L (.ref 62 :: S) (mk h) Q = pm_WL fqP d 10 (pc + n) r L (.ref 64 :: S) (mk h) Q := by
  simp only [w_getf, lg_10, lf_1_15, pm_oF_s, hg_62, pm_oO_s, List.getElem?_cons_succ, List.getElem?_cons_zero, pm_oK_s, true_and]
theorem gf_10_15_76 : pm_WL fqP d 10 pc ((.getfield 15, n) :: r) L (.ref 76 :: S) (mk h) Q = pm_WL fqP d 10 (pc + n) r L (.ref 78 :: S) (mk h) Q := by
  simp only [w_getf, lg_10, lf_1_15, pm_oF_s, hg_76, pm_oO_s, List.getElem?_cons_succ, List.getElem?_cons_zero, pm_oK_s, true_and]
theorem gf_10_18_7 : pm_WL fqP d 10 pc ((.getfield 18, n) :: r) L (.ref 7 :: S) (mk h) Q = pm_WL fqP d 10 (pc + n) r L (.ref 10 :: S) (mk h) Q := by
  simp only [w_getf, lg_10, lf_1_18, pm_oF_s, hg_7, pm_oO_s, List.getElem?_cons_succ, List.getElem?_cons_zero, pm_oK_s, true_and]
theorem gf_10_18_35 : pm_WL fqP d 10 pc ((.getfield 18, n) :: r) L (.ref 35 :: S) (mk h) Q = pm_WL fqP d 10 (pc + n) r L (.ref 38 :: S) (mk h) Q := by
  simp only [w_getf, lg_10, lf_1_18, pm_oF_s, hg_35, pm_oO_s, List.getElem?_cons_succ, List.getElem?_cons_zero, pm_oK_s, true_and]
theorem gf_10_18_62 : pm_WL fqP d 10 pc ((.getfield 18, n) :: r) L (.ref 62 :: S) (mk h) Q = pm_WL fqP d 10 (pc + n) r L (.ref 65 :: S) (mk h) Q := by
  simp only [w_getf, lg_10, lf_1_18, pm_oF_s, hg_62, pm_oO_s, List.getElem?_cons_succ, List.getElem?_cons_zero, pm_oK_s, true_and]
theorem gf_10_18_76 : pm_WL fqP d 10 pc ((.getfield 18, n) :: r) L (.ref 76 :: S) (mk h) Q = pm_WL fqP d 10 (pc + n) r L (.ref 79 :: S) (mk h) Q := by
  simp only [w_getf, lg_10, lf_1_18, pm_oF_s, hg_76, pm_oO_s, List.getElem?_cons_succ, List.getElem?_cons_zero, pm_oK_s, true_and]
theorem gf_10_25_7 : pm_WL fqP d 10 pc ((.getfield 25, n) :: r) L (.ref 7 :: S) (mk h) Q = pm_WL fqP d 10 (pc + n) r L (.int (gd (h 7) 0) :: S) (mk h) Q := by
  simp only [w_getf, lg_10, lf_1_25, pm_oF_s, hg_7, pm_oO_s, List.getElem?_cons_succ, List.getElem?_cons_zero, pm_oK_s, true_and]
theorem gf_10_25_35 : pm_WL fqP d 10 pc ((.getfield 25, n) :: r) L (.ref 35 :: S) (mk h) Q = pm_WL fqP d 10 (pc + n) r L (.int (gd (h 35) 0) :: S) (mk h) Q := by
  simp only [w_getf, lg_10, lf_1_25, pm_oF_s, hg_35, pm_oO_s, List.getElem?_cons_succ, List.getElem?_cons_zero, pm_oK_s, true_and]
theorem gf_10_25_62 : pm_WL fqP d 10 pc ((.getfield 25, n) :: r) L (.ref 62 :: S) (mk h) Q = pm_WL fqP d 10 (pc + n) r L (.int (gd (h 62) 0) :: S) (mk h) Q := by
  simp only [w_getf, lg_10, lf_1_25, pm_oF_s, hg_62, pm_oO_s, List.getElem?_cons_succ, List.getElem?_cons_zero, pm_oK_s, true_and]
theorem gf_10_25_76 : pm_WL fqP d 10 pc ((.getfield 25, n) :: r) L (.ref 76 :: S) (mk h) Q = pm_WL fqP d 10 (pc + n) r L (.int (gd (h 76) 0) :: S) (mk h) Q := by
  simp only [w_getf, lg_10, lf_1_25, pm_oF_s, hg_76, pm_oO_s, List.getElem?_cons_succ, List.getElem?_cons_zero, pm_oK_s, true_and]
theorem pf_10_25_7 {x : Int32} : pm_WL fqP d 10 pc ((.putfield 25, n) :: r) L (.int x :: .ref 7 :: S) (mk h) Q = pm_WL fqP d 10 (pc + n) r L S (mk (up h 7 [x, gd (h 7) 1, gd (h 7) 2])) Q := by
  simp only [w_putf, lg_10, lf_1_25, lt_1_3, pm_oF_s, hg_7, pm_oO_s, List.set_cons_succ, List.set_cons_zero, List.length_cons, List.length_nil, pm_fit_i, Nat.reduceAdd, Nat.reduceLT, Nat.zero_add, Nat.lt_add_one, Bool.false_eq_true, false_implies, true_and, and_true, hs_7]
theorem pf_10_25_35 {x : Int32} : pm_WL fqP d 10 pc ((.putfield 25, n) :: r) L (.int x :: .ref 35 :: S) (mk h) Q = pm_WL fqP d 10 (pc + n) r L S (mk (up h 35 [x, gd (h 35) 1, gd (h 35) 2])) Q := by
  simp only [w_putf, lg_10, lf_1_25, lt_1_3, pm_oF_s, hg_35, pm_oO_s, List.set_cons_succ, List.set_cons_zero, List.length_cons, List.length_nil, pm_fit_i, Nat.reduceAdd, Nat.reduceLT, Nat.zero_add, Nat.lt_add_one, Bool.false_eq_true, false_implies, true_and, and_true, hs_35]
theorem pf_10_25_62 {x : Int32} : pm_WL fqP d 10 pc ((.putfield 25, n) :: r) L (.int x :: .ref 62 :: S) (mk h) Q = pm_WL fqP d 10 (pc + n) r L S (mk (up h 62 [x, gd (h 62) 1, gd (h 62) 2])) Q := by
  simp only [w_putf, lg_10, lf_1_25, lt_1_3, pm_oF_s, hg_62, pm_oO_s, List.set_cons_succ, List.set_cons_zero, List.length_cons, List.length_nil, pm_fit_i, Nat.reduceAdd, Nat.reduceLT, Nat.zero_add, Nat.lt_add_one, Bool.false_eq_true, false_implies, true_and, and_true, hs_62]
theorem pf_10_25_76 {x : Int32} : pm_WL fqP d 10 pc ((.putfield 25, n) :: r) L (.int x :: .ref 76 :: S) (mk h) Q = pm_WL fqP d 10 (pc + n) r L S (mk (up h 76 [x, gd (h 76) 1, gd (h 76) 2])) Q := by
  simp only [w_putf, lg_10, lf_1_25, lt_1_3, pm_oF_s, hg_76, pm_oO_s, List.set_cons_succ, List.set_cons_zero, List.length_cons, List.length_nil, pm_fit_i, Nat.reduceAdd, Nat.reduceLT, Nat.zero_add, Nat.lt_add_one, Bool.false_eq_true, false_implies, true_and, and_true, hs_76]
theorem gf_10_28_7 : pm_WL fqP d 10 pc ((.getfield 28, n) :: r) L (.ref 7 :: S) (mk h) Q = pm_WL fqP d 10 (pc + n) r L (.int (gd (h 7) 1) :: S) (mk h) Q := by
  simp only [w_getf, lg_10, lf_1_28, pm_oF_s, hg_7, pm_oO_s, List.getElem?_cons_succ, List.getElem?_cons_zero, pm_oK_s, true_and]
theorem gf_10_28_35 : pm_WL fqP d 10 pc ((.getfield 28, n) :: r) L (.ref 35 :: S) (mk h) Q = pm_WL fqP d 10 (pc + n) r L (.int (gd (h 35) 1) :: S) (mk h) Q := by
  simp only [w_getf, lg_10, lf_1_28, pm_oF_s, hg_35, pm_oO_s, List.getElem?_cons_succ, List.getElem?_cons_zero, pm_oK_s, true_and]
theorem gf_10_28_62 : pm_WL fqP d 10 pc ((.getfield 28, n) :: r) L (.ref 62 :: S) (mk h) Q = pm_WL fqP d 10 (pc + n) r L (.int (gd (h 62) 1) :: S) (mk h) Q := by
  simp only [w_getf, lg_10, lf_1_28, pm_oF_s, hg_62, pm_oO_s, List.getElem?_cons_succ, List.getElem?_cons_zero, pm_oK_s, true_and]
theorem gf_10_28_76 : pm_WL fqP d 10 pc ((.getfield 28, n) :: r) L (.ref 76 :: S) (mk h) Q = pm_WL fqP d 10 (pc + n) r L (.int (gd (h 76) 1) :: S) (mk h) Q := by
  simp only [w_getf, lg_10, lf_1_28, pm_oF_s, hg_76, pm_oO_s, List.getElem?_cons_succ, List.getElem?_cons_zero, pm_oK_s, true_and]
theorem pf_10_28_7 {x : Int32} : pm_WL fqP d 10 pc ((.putfield 28, n) :: r) L (.int x :: .ref 7 :: S) (mk h) Q = pm_WL fqP d 10 (pc + n) r L S (mk (up h 7 [gd (h 7) 0, x, gd (h 7) 2])) Q := by
  simp only [w_putf, lg_10, lf_1_28, lt_1_4, pm_oF_s, hg_7, pm_oO_s, List.set_cons_succ, List.set_cons_zero, List.length_cons, List.length_nil, pm_fit_i, Nat.reduceAdd, Nat.reduceLT, Nat.zero_add, Nat.lt_add_one, Bool.false_eq_true, false_implies, true_and, and_true, hs_7]
theorem pf_10_28_35 {x : Int32} : pm_WL fqP d 10 pc ((.putfield 28, n) :: r) L (.int x :: .ref 35 :: S) (mk h) Q = pm_WL fqP d 10 (pc + n) r L S (mk (up h 35 [gd (h 35) 0, x, gd (h 35) 2])) Q := by
  simp only [w_putf, lg_10, lf_1_28, lt_1_4, pm_oF_s, hg_35, pm_oO_s, List.set_cons_succ, List.set_cons_zero, List.length_cons, List.length_nil, pm_fit_i, Nat.reduceAdd, Nat.reduceLT, Nat.zero_add, Nat.lt_add_one, Bool.false_eq_true, false_implies, true_and, and_true, hs_35]
theorem pf_10_28_62 {x : Int32} : pm_WL fqP d 10 pc ((.putfield 28, n) :: r) L (.int x :: .ref 62 :: S) (mk h) Q = pm_WL fqP d 10 (pc + n) r L S (mk (up h 62 [gd (h 62) 0, x, gd (h 62) 2])) Q := by
  simp only [w_putf, lg_10, lf_1_28, lt_1_4, pm_oF_s, hg_62, pm_oO_s, List.set_cons_succ, List.set_cons_zero, List.length_cons, List.length_nil, pm_fit_i, Nat.reduceAdd, Nat.reduceLT, Nat.zero_add, Nat.lt_add_one, Bool.false_eq_true, false_implies, true_and, and_true, hs_62]
theorem pf_10_28_76 {x : Int32} : pm_WL fqP d 10 pc ((.putfield 28, n) :: r) L (.int x :: .ref 76 :: S) (mk h) Q = pm_WL fqP d 10 (pc + n) r L S (mk (up h 76 [gd (h 76) 0, x, gd (h 76) 2])) Q := by
  simp only [w_putf, lg_10, lf_1_28, lt_1_4, pm_oF_s, hg_76, pm_oO_s, List.set_cons_succ, List.set_cons_zero, List.length_cons, List.length_nil, pm_fit_i, Nat.reduceAdd, Nat.reduceLT, Nat.zero_add, Nat.lt_add_one, Bool.false_eq_true, false_implies, true_and, and_true, hs_76]
theorem gf_10_21_7 : pm_WL fqP d 10 pc ((.getfield 21, n) :: r) L (.ref 7 :: S) (mk h) Q = pm_WL fqP d 10 (pc + n) r L (.int (gd (h 7) 2) :: S) (mk h) Q := by
  simp only [w_getf, lg_10, lf_1_21, pm_oF_s, hg_7, pm_oO_s, List.getElem?_cons_succ, List.getElem?_cons_zero, pm_oK_s, true_and]
theorem gf_10_21_35 : pm_WL fqP d 10 pc ((.getfield 21, n) :: r) L (.ref 35 :: S) (mk h) Q = pm_WL fqP d 10 (pc + n) r L (.int (gd (h 35) 2) :: S) (mk h) Q := by
  simp only [w_getf, lg_10, lf_1_21, pm_oF_s, hg_35, pm_oO_s, List.getElem?_cons_succ, List.getElem?_cons_zero, pm_oK_s, true_and]
theorem gf_10_21_62 : pm_WL fqP d 10 pc ((.getfield 21, n) :: r) L (.ref 62 :: S) (mk h) Q = pm_WL fqP d 10 (pc + n) r L (.int (gd (h 62) 2) :: S) (mk h) Q := by
  simp only [w_getf, lg_10, lf_1_21, pm_oF_s, hg_62, pm_oO_s, List.getElem?_cons_succ, List.getElem?_cons_zero, pm_oK_s, true_and]
theorem gf_10_21_76 : pm_WL fqP d 10 pc ((.getfield 21, n) :: r) L (.ref 76 :: S) (mk h) Q = pm_WL fqP d 10 (pc + n) r L (.int (gd (h 76) 2) :: S) (mk h) Q := by
  simp only [w_getf, lg_10, lf_1_21, pm_oF_s, hg_76, pm_oO_s, List.getElem?_cons_succ, List.getElem?_cons_zero, pm_oK_s, true_and]
theorem pf_10_21_7 {x : Int32} : pm_WL fqP d 10 pc ((.putfield 21, n) :: r) L (.int x :: .ref 7 :: S) (mk h) Q = pm_WL fqP d 10 (pc + n) r L S (mk (up h 7 [gd (h 7) 0, gd (h 7) 1, x])) Q := by
  simp only [w_putf, lg_10, lf_1_21, lt_1_5, pm_oF_s, hg_7, pm_oO_s, List.set_cons_succ, List.set_cons_zero, List.length_cons, List.length_nil, pm_fit_i, Nat.reduceAdd, Nat.reduceLT, Nat.zero_add, Nat.lt_add_one, Bool.false_eq_true, false_implies, true_and, and_true, hs_7]
theorem pf_10_21_35 {x : Int32} : pm_WL fqP d 10 pc ((.putfield 21, n) :: r) L (.int x :: .ref 35 :: S) (mk h) Q = pm_WL fqP d 10 (pc + n) r L S (mk (up h 35 [gd (h 35) 0, gd (h 35) 1, x])) Q := by
  simp only [w_putf, lg_10, lf_1_21, lt_1_5, pm_oF_s, hg_35, pm_oO_s, List.set_cons_succ, List.set_cons_zero, List.length_cons, List.length_nil, pm_fit_i, Nat.reduceAdd, Nat.reduceLT, Nat.zero_add, Nat.lt_add_one, Bool.false_eq_true, false_implies, true_and, and_true, hs_35]
theorem pf_10_21_62 {x : Int32} : pm_WL fqP d 10 pc ((.putfield 21, n) :: r) L (.int x :: .ref 62 :: S) (mk h) Q = pm_WL fqP d 10 (pc + n) r L S (mk (up h 62 [gd (h 62) 0, gd (h 62) 1, x])) Q := by
  simp only [w_putf, lg_10, lf_1_21, lt_1_5, pm_oF_s, hg_62, pm_oO_s, List.set_cons_succ, List.set_cons_zero, List.length_cons, List.length_nil, pm_fit_i, Nat.reduceAdd, Nat.reduceLT, Nat.zero_add, Nat.lt_add_one, Bool.false_eq_true, false_implies, true_and, and_true, hs_62]
theorem pf_10_21_76 {x : Int32} : pm_WL fqP d 10 pc ((.putfield 21, n) :: r) L (.int x :: .ref 76 :: S) (mk h) Q = pm_WL fqP d 10 (pc + n) r L S (mk (up h 76 [gd (h 76) 0, gd (h 76) 1, x])) Q := by
  simp only [w_putf, lg_10, lf_1_21, lt_1_5, pm_oF_s, hg_76, pm_oO_s, List.set_cons_succ, List.set_cons_zero, List.length_cons, List.length_nil, pm_fit_i, Nat.reduceAdd, Nat.reduceLT, Nat.zero_add, Nat.lt_add_one, Bool.false_eq_true, false_implies, true_and, and_true, hs_76]
theorem gf_12_12_5 : pm_WL fqP d 12 pc ((.getfield 12, n) :: r) L (.ref 5 :: S) (mk h) Q = pm_WL fqP d 12 (pc + n) r L (.ref 6 :: S) (mk h) Q := by
  simp only [w_getf, lg_12, lf_2_12, pm_oF_s, hg_5, pm_oO_s, List.getElem?_cons_succ, List.getElem?_cons_zero, pm_oK_s, true_and]
theorem gf_12_12_33 : pm_WL fqP d 12 pc ((.getfield 12, n) :: r) L (.ref 33 :: S) (mk h) Q = pm_WL fqP d 12 (pc + n) r L (.ref 34 :: S) (mk h) Q := by
  simp only [w_getf, lg_12, lf_2_12, pm_oF_s, hg_33, pm_oO_s, List.getElem?_cons_succ, List.getElem?_cons_zero, pm_oK_s, true_and]
theorem iv_12_37_6 {x1 : Nat} : pm_WL fqP d 12 pc ((.invokevirtual 37, n) :: r) L (.ref x1 :: .ref 6 :: S) (mk h) Q = (pm_okW 8 S = true ∧ pm_WC fqP d 38 [.ref 6, .ref x1] (mk h) (pm_kk fqP d 12 (pc + n) r L S Q)) := by
  show _ = (pm_okW 8 S = true ∧ pm_WC fqP d 38 [.ref 6, .ref x1] (mk h) (fun v σ' => pm_WL fqP d 12 (pc + n) r L (pm_pu v S) σ' Q))
  simp only [w_invv, lg_12, lm_2_37, pm_oM_s, pm_oP_s, pm_pop_0, pm_pop_s, pm_rcv_is, hg_6, pm_oO_s, pm_ref1_is, Nat.reduceEqDiff, Nat.zero_ne_one, Nat.succ_ne_self, true_or, or_true, or_false, false_or, or_self, false_implies, true_implies, implies_true, true_and]
theorem iv_12_37_34 {x1 : Nat} : pm_WL fqP d 12 pc ((.invokevirtual 37, n) :: r) L (.ref x1 :: .ref 34 :: S) (mk h) Q = (pm_okW 8 S = true ∧ pm_WC fqP d 38 [.ref 34, .ref x1] (mk h) (pm_kk fqP d 12 (pc + n) r L S Q)) := by
  show _ = (pm_okW 8 S = true ∧ pm_WC fqP d 38 [.ref 34, .ref x1] (mk h) (fun v σ' => pm_WL fqP d 12 (pc + n) r L (pm_pu v S) σ' Q))
  simp only [w_invv, lg_12, lm_2_37, pm_oM_s, pm_oP_s, pm_pop_0, pm_pop_s, pm_rcv_is, hg_34, pm_oO_s, pm_ref1_is, Nat.reduceEqDiff, Nat.zero_ne_one, Nat.succ_ne_self, true_or, or_true, or_false, false_or, or_self, false_implies, true_implies, implies_true, true_and]
theorem iv_12_37_61 {x1 : Nat} : pm_WL fqP d 12 pc ((.invokevirtual 37, n) :: r) L (.ref x1 :: .ref 61 :: S) (mk h) Q = (pm_okW 8 S = true ∧ pm_WC fqP d 38 [.ref 61, .ref x1] (mk h) (pm_kk fqP d 12 (pc + n) r L S Q)) := by
  show _ = (pm_okW 8 S = true ∧ pm_WC fqP d 38 [.ref 61, .ref x1] (mk h) (fun v σ' => pm_WL fqP d 12 (pc + n) r L (pm_pu v S) σ' Q))
  simp only [w_invv, lg_12, lm_2_37, pm_oM_s, pm_oP_s, pm_pop_0, pm_pop_s, pm_rcv_is, hg_61, pm_oO_s, pm_ref1_is, Nat.reduceEqDiff, Nat.zero_ne_one, Nat.succ_ne_self, true_or, or_true, or_false, false_or, or_self, false_implies, true_implies, implies_true, true_and]
theorem gf_12_18_5 : pm_WL fqP d 12 pc ((.getfield 18, n) :: r) L (.ref 5 :: S) (mk h) Q = pm_WL fqP d 12 (pc + n) r L (.ref 20 :: S) (mk h) Q := by
  simp only [w_getf, lg_12, lf_2_18, pm_oF_s, hg_5, pm_oO_s, List.getElem?_cons_succ, List.getElem?_cons_zero, pm_oK_s, true_and]
theorem gf_12_18_33 : pm_WL fqP d 12 pc ((.getfield 18, n) :: r) L (.ref 33 :: S) (mk h) Q = pm_WL fqP d 12 (pc + n) r L (.ref 48 :: S) (mk h) Q := by
  simp only [w_getf, lg_12, lf_2_18, pm_oF_s, hg_33, pm_oO_s, List.getElem?_cons_succ, List.getElem?_cons_zero, pm_oK_s, true_and]
theorem iv_12_41 {x0 : Nat} {x1 : Nat} : pm_WL fqP d 12 pc ((.invokestatic 41, n) :: r) L (.ref x1 :: .ref x0 :: S) σ Q = (pm_okW 8 S = true ∧ pm_WC fqP d 94 [.ref x0, .ref x1] σ (pm_kk fqP d 12 (pc + n) r L S Q)) := by
  show _ = (pm_okW 8 S = true ∧ pm_WC fqP d 94 [.ref x0, .ref x1] σ (fun v σ' => pm_WL fqP d 12 (pc + n) r L (pm_pu v S) σ' Q))
  simp only [w_invs, lg_12, lm_2_41, pm_oM_s, pm_oP_s, pm_pop_0, pm_pop_s, pm_ref1_is, Nat.reduceEqDiff, Nat.zero_ne_one, Nat.succ_ne_self, true_or, or_true, or_false, false_or, or_self, false_implies, true_implies, implies_true, true_and]
theorem gf_12_45_5 : pm_WL fqP d 12 pc ((.getfield 45, n) :: r) L (.ref 5 :: S) (mk h) Q = pm_WL fqP d 12 (pc + n) r L (.int (gd (h 5) 0) :: S) (mk h) Q := by
  simp only [w_getf, lg_12, lf_2_45, pm_oF_s, hg_5, pm_oO_s, List.getElem?_cons_succ, List.getElem?_cons_zero, pm_oK_s, true_and]
theorem gf_12_45_33 : pm_WL fqP d 12 pc ((.getfield 45, n) :: r) L (.ref 33 :: S) (mk h) Q = pm_WL fqP d 12 (pc + n) r L (.int (gd (h 33) 0) :: S) (mk h) Q := by
  simp only [w_getf, lg_12, lf_2_45, pm_oF_s, hg_33, pm_oO_s, List.getElem?_cons_succ, List.getElem?_cons_zero, pm_oK_s, true_and]
theorem pf_12_45_5 {x : Int32} : pm_WL fqP d 12 pc ((.putfield 45, n) :: r) L (.int x :: .ref 5 :: S) (mk h) Q = pm_WL fqP d 12 (pc + n) r L S (mk (up h 5 [x, gd (h 5) 1])) Q := by
  simp only [w_putf, lg_12, lf_2_45, lt_2_2, pm_oF_s, hg_5, pm_oO_s, List.set_cons_succ, List.set_cons_zero, List.length_cons, List.length_nil, pm_fit_i, Nat.reduceAdd, Nat.reduceLT, Nat.zero_add, Nat.lt_add_one, Bool.false_eq_true, false_implies, true_and, and_true, hs_5]
theorem pf_12_45_33 {x : Int32} : pm_WL fqP d 12 pc ((.putfield 45, n) :: r) L (.int x :: .ref 33 :: S) (mk h) Q = pm_WL fqP d 12 (pc + n) r L S (mk (up h 33 [x, gd (h 33) 1])) Q := by
  simp only [w_putf, lg_12, lf_2_45, lt_2_2, pm_oF_s, hg_33, pm_oO_s, List.set_cons_succ, List.set_cons_zero, List.length_cons, List.length_nil, pm_fit_i, Nat.reduceAdd, Nat.reduceLT, Nat.zero_add, Nat.lt_add_one, Bool.false_eq_true, false_implies, true_and, and_true, hs_33]
theorem gf_12_49_5 : pm_WL fqP d 12 pc ((.getfield 49, n) :: r) L (.ref 5 :: S) (mk h) Q = pm_WL fqP d 12 (pc + n) r L (.int (gd (h 5) 1) :: S) (mk h) Q := by
  simp only [w_getf, lg_12, lf_2_49, pm_oF_s, hg_5, pm_oO_s, List.getElem?_cons_succ, List.getElem?_cons_zero, pm_oK_s, true_and]
theorem gf_12_49_33 : pm_WL fqP d 12 pc ((.getfield 49, n) :: r) L (.ref 33 :: S) (mk h) Q = pm_WL fqP d 12 (pc + n) r L (.int (gd (h 33) 1) :: S) (mk h) Q := by
  simp only [w_getf, lg_12, lf_2_49, pm_oF_s, hg_33, pm_oO_s, List.getElem?_cons_succ, List.getElem?_cons_zero, pm_oK_s, true_and]
theorem pf_12_49_5 {x : Int32} : pm_WL fqP d 12 pc ((.putfield 49, n) :: r) L (.int x :: .ref 5 :: S) (mk h) Q = pm_WL fqP d 12 (pc + n) r L S (mk (up h 5 [gd (h 5) 0, x])) Q := by
  simp only [w_putf, lg_12, lf_2_49, lt_2_3, pm_oF_s, hg_5, pm_oO_s, List.set_cons_succ, List.set_cons_zero, List.length_cons, List.length_nil, pm_fit_i, Nat.reduceAdd, Nat.reduceLT, Nat.zero_add, Nat.lt_add_one, Bool.false_eq_true, false_implies, true_and, and_true, hs_5]
theorem pf_12_49_33 {x : Int32} : pm_WL fqP d 12 pc ((.putfield 49, n) :: r) L (.int x :: .ref 33 :: S) (mk h) Q = pm_WL fqP d 12 (pc + n) r L S (mk (up h 33 [gd (h 33) 0, x])) Q := by
  simp only [w_putf, lg_12, lf_2_49, lt_2_3, pm_oF_s, hg_33, pm_oO_s, List.set_cons_succ, List.set_cons_zero, List.length_cons, List.length_nil, pm_fit_i, Nat.reduceAdd, Nat.reduceLT, Nat.zero_add, Nat.lt_add_one, Bool.false_eq_true, false_implies, true_and, and_true, hs_33]
theorem gf_12_27_5 : pm_WL fqP d 12 pc ((.getfield 27, n) :: r) L (.ref 5 :: S) (mk h) Q = pm_WL fqP d 12 (pc + n) r L (.ref 21 :: S) (mk h) Q := by
  simp only [w_getf, lg_12, lf_2_27, pm_oF_s, hg_5, pm_oO_s, List.getElem?_cons_succ, List.getElem?_cons_zero, pm_oK_s, true_and]
theorem gf_12_27_33 : pm_WL fqP d 12 pc ((.getfield 27, n) :: r) L (.ref 33 :: S) (mk h) Q = pm_WL fqP d 12 (pc + n) r L (.ref 49 :: S) (mk h) Q := by
  simp only [w_getf, lg_12, lf_2_27, pm_oF_s, hg_33, pm_oO_s, List.getElem?_cons_succ, List.getElem?_cons_zero, pm_oK_s, true_and]
theorem iv_12_52_21 {x1 : Nat} : pm_WL fqP d 12 pc ((.invokevirtual 52, n) :: r) L (.ref x1 :: .ref 21 :: S) (mk h) Q = (pm_okW 8 S = true ∧ pm_WC fqP d 27 [.ref 21, .ref x1] (mk h) (pm_kk fqP d 12 (pc + n) r L S Q)) := by
  show _ = (pm_okW 8 S = true ∧ pm_WC fqP d 27 [.ref 21, .ref x1] (mk h) (fun v σ' => pm_WL fqP d 12 (pc + n) r L (pm_pu v S) σ' Q))
  simp only [w_invv, lg_12, lm_2_52, pm_oM_s, pm_oP_s, pm_pop_0, pm_pop_s, pm_rcv_is, hg_21, pm_oO_s, pm_ref1_is, Nat.reduceEqDiff, Nat.zero_ne_one, Nat.succ_ne_self, true_or, or_true, or_false, false_or, or_self, false_implies, true_implies, implies_true, true_and]
theorem iv_12_52_25 {x1 : Nat} : pm_WL fqP d 12 pc ((.invokevirtual 52, n) :: r) L (.ref x1 :: .ref 25 :: S) (mk h) Q = (pm_okW 8 S = true ∧ pm_WC fqP d 27 [.ref 25, .ref x1] (mk h) (pm_kk fqP d 12 (pc + n) r L S Q)) := by
  show _ = (pm_okW 8 S = true ∧ pm_WC fqP d 27 [.ref 25, .ref x1] (mk h) (fun v σ' => pm_WL fqP d 12 (pc + n) r L (pm_pu v S) σ' Q))
  simp only [w_invv, lg_12, lm_2_52, pm_oM_s, pm_oP_s, pm_pop_0, pm_pop_s, pm_rcv_is, hg_25, pm_oO_s, pm_ref1_is, Nat.reduceEqDiff, Nat.zero_ne_one, Nat.succ_ne_self, true_or, or_true, or_false, false_or, or_self, false_implies, true_implies, implies_true, true_and]
theorem iv_12_52_29 {x1 : Nat} : pm_WL fqP d 12 pc ((.invokevirtual 52, n) :: r) L (.ref x1 :: .ref 29 :: S) (mk h) Q = (pm_okW 8 S = true ∧ pm_WC fqP d 27 [.ref 29, .ref x1] (mk h) (pm_kk fqP d 12 (pc + n) r L S Q)) := by
  show _ = (pm_okW 8 S = true ∧ pm_WC fqP d 27 [.ref 29, .ref x1] (mk h) (fun v σ' => pm_WL fqP d 12 (pc + n) r L (pm_pu v S) σ' Q))
  simp only [w_invv, lg_12, lm_2_52, pm_oM_s, pm_oP_s, pm_pop_0, pm_pop_s, pm_rcv_is, hg_29, pm_oO_s, pm_ref1_is, Nat.reduceEqDiff, Nat.zero_ne_one, Nat.succ_ne_self, true_or, or_true, or_false, false_or, or_self, false_implies, true_implies, implies_true, true_and]
theorem iv_12_52_49 {x1 : Nat} : pm_WL fqP d 12 pc ((.invokevirtual 52, n) :: r) L (.ref x1 :: .ref 49 :: S) (mk h) Q = (pm_okW 8 S = true ∧ pm_WC fqP d 27 [.ref 49, .ref x1] (mk h) (pm_kk fqP d 12 (pc + n) r L S Q)) := by
  show _ = (pm_okW 8 S = true ∧ pm_WC fqP d 27 [.ref 49, .ref x1] (mk h) (fun v σ' => pm_WL fqP d 12 (pc + n) r L (pm_pu v S) σ' Q))
  simp only [w_invv, lg_12, lm_2_52, pm_oM_s, pm_oP_s, pm_pop_0, pm_pop_s, pm_rcv_is, hg_49, pm_oO_s, pm_ref1_is, Nat.reduceEqDiff, Nat.zero_ne_one, Nat.succ_ne_self, true_or, or_true, or_false, false_or, or_self, false_implies, true_implies, implies_true, true_and]
theorem iv_12_52_53 {x1 : Nat} : pm_WL fqP d 12 pc ((.invokevirtual 52, n) :: r) L (.ref x1 :: .ref 53 :: S) (mk h) Q = (pm_okW 8 S = true ∧ pm_WC fqP d 27 [.ref 53, .ref x1] (mk h) (pm_kk fqP d 12 (pc + n) r L S Q)) := by
  show _ = (pm_okW 8 S = true ∧ pm_WC fqP d 27 [.ref 53, .ref x1] (mk h) (fun v σ' => pm_WL fqP d 12 (pc + n) r L (pm_pu v S) σ' Q))
  simp only [w_invv, lg_12, lm_2_52, pm_oM_s, pm_oP_s, pm_pop_0, pm_pop_s, pm_rcv_is, hg_53, pm_oO_s, pm_ref1_is, Nat.reduceEqDiff, Nat.zero_ne_one, Nat.succ_ne_self, true_or, or_true, or_false, false_or, or_self, false_implies, true_implies, implies_true, true_and]
theorem iv_12_52_57 {x1 : Nat} : pm_WL fqP d 12 pc ((.invokevirtual 52, n) :: r) L (.ref x1 :: .ref 57 :: S) (mk h) Q = (pm_okW 8 S = true ∧ pm_WC fqP d 27 [.ref 57, .ref x1] (mk h) (pm_kk fqP d 12 (pc + n) r L S Q)) := by
  show _ = (pm_okW 8 S = true ∧ pm_WC fqP d 27 [.ref 57, .ref x1] (mk h) (fun v σ' => pm_WL fqP d 12 (pc + n) r L (pm_pu v S) σ' Q))
  simp only [w_invv, lg_12, lm_2_52, pm_oM_s, pm_oP_s, pm_pop_0, pm_pop_s, pm_rcv_is, hg_57, pm_oO_s, pm_ref1_is, Nat.reduceEqDiff, Nat.zero_ne_one, Nat.succ_ne_self, true_or, or_true, or_false, false_or, or_self, false_implies, true_implies, implies_true, true_and]
theorem gf_12_31_5 : pm_WL fqP d 12 pc ((.getfield 31, n) :: r) L (.ref 5 :: S) (mk h) Q = pm_WL fqP d 12 (pc + n) r L (.ref 25 :: S) (mk h) Q := by
  simp only [w_getf, lg_12, lf_2_31, pm_oF_s, hg_5, pm_oO_s, List.getElem?_cons_succ, List.getElem?_cons_zero, pm_oK_s, true_and]
theorem gf_12_31_33 : pm_WL fqP d 12 pc ((.getfield 31, n) :: r) L (.ref 33 :: S) (mk h) Q = pm_WL fqP d 12 (pc + n) r L (.ref 53 :: S) (mk h) Q := by
  simp only [w_getf, lg_12, lf_2_31, pm_oF_s, hg_33, pm_oO_s, List.getElem?_cons_succ, List.getElem?_cons_zero, pm_oK_s, true_and]
theorem gf_12_34_5 : pm_WL fqP d 12 pc ((.getfield 34, n) :: r) L (.ref 5 :: S) (mk h) Q = pm_WL fqP d 12 (pc + n) r L (.ref 29 :: S) (mk h) Q := by
  simp only [w_getf, lg_12, lf_2_34, pm_oF_s, hg_5, pm_oO_s, List.getElem?_cons_succ, List.getElem?_cons_zero, pm_oK_s, true_and]
theorem gf_12_34_33 : pm_WL fqP d 12 pc ((.getfield 34, n) :: r) L (.ref 33 :: S) (mk h) Q = pm_WL fqP d 12 (pc + n) r L (.ref 57 :: S) (mk h) Q := by
  simp only [w_getf, lg_12, lf_2_34, pm_oF_s, hg_33, pm_oO_s, List.getElem?_cons_succ, List.getElem?_cons_zero, pm_oK_s, true_and]
theorem gf_14_18_75 : pm_WL fqP d 14 pc ((.getfield 18, n) :: r) L (.ref 75 :: S) (mk h) Q = pm_WL fqP d 14 (pc + n) r L (.ref 80 :: S) (mk h) Q := by
  simp only [w_getf, lg_14, lf_3_18, pm_oF_s, hg_75, pm_oO_s, List.getElem?_cons_succ, List.getElem?_cons_zero, pm_oK_s, true_and]
theorem iv_14_22 {x0 : Nat} {x1 : Nat} : pm_WL fqP d 14 pc ((.invokestatic 22, n) :: r) L (.ref x1 :: .ref x0 :: S) σ Q = (pm_okW 8 S = true ∧ pm_WC fqP d 94 [.ref x0, .ref x1] σ (pm_kk fqP d 14 (pc + n) r L S Q)) := by
  show _ = (pm_okW 8 S = true ∧ pm_WC fqP d 94 [.ref x0, .ref x1] σ (fun v σ' => pm_WL fqP d 14 (pc + n) r L (pm_pu v S) σ' Q))
  simp only [w_invs, lg_14, lm_3_22, pm_oM_s, pm_oP_s, pm_pop_0, pm_pop_s, pm_ref1_is, Nat.reduceEqDiff, Nat.zero_ne_one, Nat.succ_ne_self, true_or, or_true, or_false, false_or, or_self, false_implies, true_implies, implies_true, true_and]
theorem pf_14_26_75 {x : Int32} : pm_WL fqP d 14 pc ((.putfield 26, n) :: r) L (.int x :: .ref 75 :: S) (mk h) Q = pm_WL fqP d 14 (pc + n) r L S (mk (up h 75 [gd (h 75) 0, x, gd (h 75) 2])) Q := by
  simp only [w_putf, lg_14, lf_3_26, lt_3_3, pm_oF_s, hg_75, pm_oO_s, List.set_cons_succ, List.set_cons_zero, List.length_cons, List.length_nil, pm_fit_i, Nat.reduceAdd, Nat.reduceLT, Nat.zero_add, Nat.lt_add_one, Bool.false_eq_true, false_implies, true_and, and_true, hs_75]
theorem pf_14_30_75 {x : Int32} : pm_WL fqP d 14 pc ((.putfield 30, n) :: r) L (.int x :: .ref 75 :: S) (mk h) Q = pm_WL fqP d 14 (pc + n) r L S (mk (up h 75 [x, gd (h 75) 1, gd (h 75) 2])) Q := by
  simp only [w_putf, lg_14, lf_3_30, lt_3_1, pm_oF_s, hg_75, pm_oO_s, List.set_cons_succ, List.set_cons_zero, List.length_cons, List.length_nil, pm_fit_i, Nat.reduceAdd, Nat.reduceLT, Nat.zero_add, Nat.lt_add_one, Bool.false_eq_true, false_implies, true_and, and_true, hs_75]
theorem gf_14_12_75 : pm_WL fqP d 14 pc ((.getfield 12, n) :: r) L (.ref 75 :: S) (mk h) Q = pm_WL fqP d 14 (pc + n) r L (.ref 76 :: S) (mk h) Q := by
  simp only [w_getf, lg_14, lf_3_12, pm_oF_s, hg_75, pm_oO_s, List.getElem?_cons_succ, List.getElem?_cons_zero, pm_oK_s, true_and]
theorem iv_14_33_7 : pm_WL fqP d 14 pc ((.invokevirtual 33, n) :: r) L (.ref 7 :: S) (mk h) Q = (pm_okW 8 S = true ∧ pm_WC fqP d 4 [.ref 7] (mk h) (pm_kk fqP d 14 (pc + n) r L S Q)) := by
  show _ = (pm_okW 8 S = true ∧ pm_WC fqP d 4 [.ref 7] (mk h) (fun v σ' => pm_WL fqP d 14 (pc + n) r L (pm_pu v S) σ' Q))
  simp only [w_invv, lg_14, lm_3_33, pm_oM_s, pm_oP_s, pm_pop_0, pm_pop_s, pm_rcv_is, hg_7, pm_oO_s, pm_ref1_is, Nat.reduceEqDiff, Nat.zero_ne_one, Nat.succ_ne_self, true_or, or_true, or_false, false_or, or_self, false_implies, true_implies, implies_true, true_and]
theorem iv_14_33_35 : pm_WL fqP d 14 pc ((.invokevirtual 33, n) :: r) L (.ref 35 :: S) (mk h) Q = (pm_okW 8 S = true ∧ pm_WC fqP d 4 [.ref 35] (mk h) (pm_kk fqP d 14 (pc + n) r L S Q)) := by
  show _ = (pm_okW 8 S = true ∧ pm_WC fqP d 4 [.ref 35] (mk h) (fun v σ' => pm_WL fqP d 14 (pc + n) r L (pm_pu v S) σ' Q))
  simp only [w_invv, lg_14, lm_3_33, pm_oM_s, pm_oP_s, pm_pop_0, pm_pop_s, pm_rcv_is, hg_35, pm_oO_s, pm_ref1_is, Nat.reduceEqDiff, Nat.zero_ne_one, Nat.succ_ne_self, true_or, or_true, or_false, false_or, or_self, false_implies, true_implies, implies_true, true_and]
theorem iv_14_33_62 : pm_WL fqP d 14 pc ((.invokevirtual 33, n) :: r) L (.ref 62 :: S) (mk h) Q = (pm_okW 8 S = true ∧ pm_WC fqP d 4 [.ref 62] (mk h) (pm_kk fqP d 14 (pc + n) r L S Q)) := by
  show _ = (pm_okW 8 S = true ∧ pm_WC fqP d 4 [.ref 62] (mk h) (fun v σ' => pm_WL fqP d 14 (pc + n) r L (pm_pu v S) σ' Q))
  simp only [w_invv, lg_14, lm_3_33, pm_oM_s, pm_oP_s, pm_pop_0, pm_pop_s, pm_rcv_is, hg_62, pm_oO_s, pm_ref1_is, Nat.reduceEqDiff, Nat.zero_ne_one, Nat.succ_ne_self, true_or, or_true, or_false, false_or, or_self, false_implies, true_implies, implies_true, true_and]
theorem iv_14_33_76 : pm_WL fqP d 14 pc ((.invokevirtual 33, n) :: r) L (.ref 76 :: S) (mk h) Q = (pm_okW 8 S = true ∧ pm_WC fqP d 4 [.ref 76] (mk h) (pm_kk fqP d 14 (pc + n) r L S Q)) := by
  show _ = (pm_okW 8 S = true ∧ pm_WC fqP d 4 [.ref 76] (mk h) (fun v σ' => pm_WL fqP d 14 (pc + n) r L (pm_pu v S) σ' Q))
  simp only [w_invv, lg_14, lm_3_33, pm_oM_s, pm_oP_s, pm_pop_0, pm_pop_s, pm_rcv_is, hg_76, pm_oO_s, pm_ref1_is, Nat.reduceEqDiff, Nat.zero_ne_one, Nat.succ_ne_self, true_or, or_true, or_false, false_or, or_self, false_implies, true_implies, implies_true, true_and]
theorem iv_14_36_75 : pm_WL fqP d 14 pc ((.invokevirtual 36, n) :: r) L (.ref 75 :: S) (mk h) Q = (pm_okW 8 S = true ∧ pm_WC fqP d 15 [.ref 75] (mk h) (pm_kk fqP d 14 (pc + n) r L S Q)) := by
  show _ = (pm_okW 8 S = true ∧ pm_WC fqP d 15 [.ref 75] (mk h) (fun v σ' => pm_WL fqP d 14 (pc + n) r L (pm_pu v S) σ' Q))
  simp only [w_invv, lg_14, lm_3_36, pm_oM_s, pm_oP_s, pm_pop_0, pm_pop_s, pm_rcv_is, hg_75, pm_oO_s, pm_ref1_is, Nat.reduceEqDiff, Nat.zero_ne_one, Nat.succ_ne_self, true_or, or_true, or_false, false_or, or_self, false_implies, true_implies, implies_true, true_and]
theorem gf_14_30_75 : pm_WL fqP d 14 pc ((.getfield 30, n) :: r) L (.ref 75 :: S) (mk h) Q = pm_WL fqP d 14 (pc + n) r L (.int (gd (h 75) 0) :: S) (mk h) Q := by
  simp only [w_getf, lg_14, lf_3_30, pm_oF_s, hg_75, pm_oO_s, List.getElem?_cons_succ, List.getElem?_cons_zero, pm_oK_s, true_and]
theorem gf_14_26_75 : pm_WL fqP d 14 pc ((.getfield 26, n) :: r) L (.ref 75 :: S) (mk h) Q = pm_WL fqP d 14 (pc + n) r L (.int (gd (h 75) 1) :: S) (mk h) Q := by
  simp only [w_getf, lg_14, lf_3_26, pm_oF_s, hg_75, pm_oO_s, List.getElem?_cons_succ, List.getElem?_cons_zero, pm_oK_s, true_and]
theorem iv_14_40_75 {x1 : Int32} : pm_WL fqP d 14 pc ((.invokevirtual 40, n) :: r) L (.int x1 :: .ref 75 :: S) (mk h) Q = (pm_okW 8 S = true ∧ pm_WC fqP d 22 [.ref 75, .int x1] (mk h) (pm_kk fqP d 14 (pc + n) r L S Q)) := by
  show _ = (pm_okW 8 S = true ∧ pm_WC fqP d 22 [.ref 75, .int x1] (mk h) (fun v σ' => pm_WL fqP d 14 (pc + n) r L (pm_pu v S) σ' Q))
  simp only [w_invv, lg_14, lm_3_40, pm_oM_s, pm_oP_s, pm_pop_0, pm_pop_s, pm_rcv_is, hg_75, pm_oO_s, pm_ref1_is, Nat.reduceEqDiff, Nat.zero_ne_one, Nat.succ_ne_self, true_or, or_true, or_false, false_or, or_self, false_implies, true_implies, implies_true, true_and]
theorem iv_15_44_75 : pm_WL fqP d 15 pc ((.invokevirtual 44, n) :: r) L (.ref 75 :: S) (mk h) Q = (pm_okW 8 S = true ∧ pm_WC fqP d 23 [.ref 75] (mk h) (pm_kk fqP d 15 (pc + n) r L S Q)) := by
  show _ = (pm_okW 8 S = true ∧ pm_WC fqP d 23 [.ref 75] (mk h) (fun v σ' => pm_WL fqP d 15 (pc + n) r L (pm_pu v S) σ' Q))
  simp only [w_invv, lg_15, lm_3_44, pm_oM_s, pm_oP_s, pm_pop_0, pm_pop_s, pm_rcv_is, hg_75, pm_oO_s, pm_ref1_is, Nat.reduceEqDiff, Nat.zero_ne_one, Nat.succ_ne_self, true_or, or_true, or_false, false_or, or_self, false_implies, true_implies, implies_true, true_and]
theorem iv_15_54_75 {x1 : Nat} : pm_WL fqP d 15 pc ((.invokevirtual 54, n) :: r) L (.ref x1 :: .ref 75 :: S) (mk h) Q = (pm_okW 8 S = true ∧ pm_WC fqP d 20 [.ref 75, .ref x1] (mk h) (pm_kk fqP d 15 (pc + n) r L S Q)) := by
  show _ = (pm_okW 8 S = true ∧ pm_WC fqP d 20 [.ref 75, .ref x1] (mk h) (fun v σ' => pm_WL fqP d 15 (pc + n) r L (pm_pu v S) σ' Q))
  simp only [w_invv, lg_15, lm_3_54, pm_oM_s, pm_oP_s, pm_pop_0, pm_pop_s, pm_rcv_is, hg_75, pm_oO_s, pm_ref1_is, Nat.reduceEqDiff, Nat.zero_ne_one, Nat.succ_ne_self, true_or, or_true, or_false, false_or, or_self, false_implies, true_implies, implies_true, true_and]
theorem iv_15_58_75 : pm_WL fqP d 15 pc ((.invokevirtual 58, n) :: r) L (.ref 75 :: S) (mk h) Q = (pm_okW 8 S = true ∧ pm_WC fqP d 21 [.ref 75] (mk h) (pm_kk fqP d 15 (pc + n) r L S Q)) := by
  show _ = (pm_okW 8 S = true ∧ pm_WC fqP d 21 [.ref 75] (mk h) (fun v σ' => pm_WL fqP d 15 (pc + n) r L (pm_pu v S) σ' Q))
  simp only [w_invv, lg_15, lm_3_58, pm_oM_s, pm_oP_s, pm_pop_0, pm_pop_s, pm_rcv_is, hg_75, pm_oO_s, pm_ref1_is, Nat.reduceEqDiff, Nat.zero_ne_one, Nat.succ_ne_self, true_or, or_true, or_false, false_or, or_self, false_implies, true_implies, implies_true, true_and]
theorem gf_15_12_75 : pm_WL fqP d 15 pc ((.getfield 12, n) :: r) L (.ref 75 :: S) (mk h) Q = pm_WL fqP d 15 (pc + n) r L (.ref 76 :: S) (mk h) Q := by
  simp only [w_getf, lg_15, lf_3_12, pm_oF_s, hg_75, pm_oO_s, List.getElem?_cons_succ, List.getElem?_cons_zero, pm_oK_s, true_and]
theorem gf_15_61_75 : pm_WL fqP d 15 pc ((.getfield 61, n) :: r) L (.ref 75 :: S) (mk h) Q = pm_WL fqP d 15 (pc + n) r L (.int (gd (h 75) 2) :: S) (mk h) Q := by
  simp only [w_getf, lg_15, lf_3_61, pm_oF_s, hg_75, pm_oO_s, List.getElem?_cons_succ, List.getElem?_cons_zero, pm_oK_s, true_and]
theorem pf_15_64_7 {x : Int32} : pm_WL fqP d 15 pc ((.putfield 64, n) :: r) L (.int x :: .ref 7 :: S) (mk h) Q = pm_WL fqP d 15 (pc + n) r L S (mk (up h 7 [gd (h 7) 0, gd (h 7) 1, x])) Q := by
  simp only [w_putf, lg_15, lf_3_64, lt_1_5, pm_oF_s, hg_7, pm_oO_s, List.set_cons_succ, List.set_cons_zero, List.length_cons, List.length_nil, pm_fit_i, Nat.reduceAdd, Nat.reduceLT, Nat.zero_add, Nat.lt_add_one, Bool.false_eq_true, false_implies, true_and, and_true, hs_7]
theorem pf_15_64_35 {x : Int32} : pm_WL fqP d 15 pc ((.putfield 64, n) :: r) L (.int x :: .ref 35 :: S) (mk h) Q = pm_WL fqP d 15 (pc + n) r L S (mk (up h 35 [gd (h 35) 0, gd (h 35) 1, x])) Q := by
  simp only [w_putf, lg_15, lf_3_64, lt_1_5, pm_oF_s, hg_35, pm_oO_s, List.set_cons_succ, List.set_cons_zero, List.length_cons, List.length_nil, pm_fit_i, Nat.reduceAdd, Nat.reduceLT, Nat.zero_add, Nat.lt_add_one, Bool.false_eq_true, false_implies, true_and, and_true, hs_35]
theorem pf_15_64_62 {x : Int32} : pm_WL fqP d 15 pc ((.putfield 64, n) :: r) L (.int x :: .ref 62 :: S) (mk h) Q = pm_WL fqP d 15 (pc + n) r L S (mk (up h 62 [gd (h 62) 0, gd (h 62) 1, x])) Q := by
  simp only [w_putf, lg_15, lf_3_64, lt_1_5, pm_oF_s, hg_62, pm_oO_s, List.set_cons_succ, List.set_cons_zero, List.length_cons, List.length_nil, pm_fit_i, Nat.reduceAdd, Nat.reduceLT, Nat.zero_add, Nat.lt_add_one, Bool.false_eq_true, false_implies, true_and, and_true, hs_62]
theorem pf_15_64_76 {x : Int32} : pm_WL fqP d 15 pc ((.putfield 64, n) :: r) L (.int x :: .ref 76 :: S) (mk h) Q = pm_WL fqP d 15 (pc + n) r L S (mk (up h 76 [gd (h 76) 0, gd (h 76) 1, x])) Q := by
  simp only [w_putf, lg_15, lf_3_64, lt_1_5, pm_oF_s, hg_76, pm_oO_s, List.set_cons_succ, List.set_cons_zero, List.length_cons, List.length_nil, pm_fit_i, Nat.reduceAdd, Nat.reduceLT, Nat.zero_add, Nat.lt_add_one, Bool.false_eq_true, false_implies, true_and, and_true, hs_76]
theorem iv_15_67_7 {x1 : Int32} : pm_WL fqP d 15 pc ((.invokevirtual 67, n) :: r) L (.int x1 :: .ref 7 :: S) (mk h) Q = (pm_okW 8 S = true ∧ pm_WC fqP d 5 [.ref 7, .int x1] (mk h) (pm_kk fqP d 15 (pc + n) r L S Q)) := by
  show _ = (pm_okW 8 S = true ∧ pm_WC fqP d 5 [.ref 7, .int x1] (mk h) (fun v σ' => pm_WL fqP d 15 (pc + n) r L (pm_pu v S) σ' Q))
  simp only [w_invv, lg_15, lm_3_67, pm_oM_s, pm_oP_s, pm_pop_0, pm_pop_s, pm_rcv_is, hg_7, pm_oO_s, pm_ref1_is, Nat.reduceEqDiff, Nat.zero_ne_one, Nat.succ_ne_self, true_or, or_true, or_false, false_or, or_self, false_implies, true_implies, implies_true, true_and]
theorem iv_15_67_35 {x1 : Int32} : pm_WL fqP d 15 pc ((.invokevirtual 67, n) :: r) L (.int x1 :: .ref 35 :: S) (mk h) Q = (pm_okW 8 S = true ∧ pm_WC fqP d 5 [.ref 35, .int x1] (mk h) (pm_kk fqP d 15 (pc + n) r L S Q)) := by
  show _ = (pm_okW 8 S = true ∧ pm_WC fqP d 5 [.ref 35, .int x1] (mk h) (fun v σ' => pm_WL fqP d 15 (pc + n) r L (pm_pu v S) σ' Q))
  simp only [w_invv, lg_15, lm_3_67, pm_oM_s, pm_oP_s, pm_pop_0, pm_pop_s, pm_rcv_is, hg_35, pm_oO_s, pm_ref1_is, Nat.reduceEqDiff, Nat.zero_ne_one, Nat.succ_ne_self, true_or, or_true, or_false, false_or, or_self, false_implies, true_implies, implies_true, true_and]
theorem iv_15_67_62 {x1 : Int32} : pm_WL fqP d 15 pc ((.invokevirtual 67, n) :: r) L (.int x1 :: .ref 62 :: S) (mk h) Q = (pm_okW 8 S = true ∧ pm_WC fqP d 5 [.ref 62, .int x1] (mk h) (pm_kk fqP d 15 (pc + n) r L S Q)) := by
  show _ = (pm_okW 8 S = true ∧ pm_WC fqP d 5 [.ref 62, .int x1] (mk h) (fun v σ' => pm_WL fqP d 15 (pc + n) r L (pm_pu v S) σ' Q))
  simp only [w_invv, lg_15, lm_3_67, pm_oM_s, pm_oP_s, pm_pop_0, pm_pop_s, pm_rcv_is, hg_62, pm_oO_s, pm_ref1_is, Nat.reduceEqDiff, Nat.zero_ne_one, Nat.succ_ne_self, true_or, or_true, or_false, false_or, or_self, false_implies, true_implies, implies_true, true_and]
theorem iv_15_67_76 {x1 : Int32} : pm_WL fqP d 15 pc ((.invokevirtual 67, n) :: r) L (.int x1 :: .ref 76 :: S) (mk h) Q = (pm_okW 8 S = true ∧ pm_WC fqP d 5 [.ref 76, .int x1] (mk h) (pm_kk fqP d 15 (pc + n) r L S Q)) := by
  show _ = (pm_okW 8 S = true ∧ pm_WC fqP d 5 [.ref 76, .int x1] (mk h) (fun v σ' => pm_WL fqP d 15 (pc + n) r L (pm_pu v S) σ' Q))
  simp only [w_invv, lg_15, lm_3_67, pm_oM_s, pm_oP_s, pm_pop_0, pm_pop_s, pm_rcv_is, hg_76, pm_oO_s, pm_ref1_is, Nat.reduceEqDiff, Nat.zero_ne_one, Nat.succ_ne_self, true_or, or_true, or_false, false_or, or_self, false_implies, true_implies, implies_true, true_and]
theorem iv_15_40_75 {x1 : Int32} : pm_WL fqP d 15 pc ((.invokevirtual 40, n) :: r) L (.int x1 :: .ref 75 :: S) (mk h) Q = (pm_okW 8 S = true ∧ pm_WC fqP d 22 [.ref 75, .int x1] (mk h) (pm_kk fqP d 15 (pc + n) r L S Q)) := by
  show _ = (pm_okW 8 S = true ∧ pm_WC fqP d 22 [.ref 75, .int x1] (mk h) (fun v σ' => pm_WL fqP d 15 (pc + n) r L (pm_pu v S) σ' Q))
  simp only [w_invv, lg_15, lm_3_40, pm_oM_s, pm_oP_s, pm_pop_0, pm_pop_s, pm_rcv_is, hg_75, pm_oO_s, pm_ref1_is, Nat.reduceEqDiff, Nat.zero_ne_one, Nat.succ_ne_self, true_or, or_true, or_false, false_or, or_self, false_implies, true_implies, implies_true, true_and]
theorem iv_15_71_75 {x1 : Int32} : pm_WL fqP d 15 pc ((.invokevirtual 71, n) :: r) L (.int x1 :: .ref 75 :: S) (mk h) Q = (pm_okW 8 S = true ∧ pm_WC fqP d 16 [.ref 75, .int x1] (mk h) (pm_kk fqP d 15 (pc + n) r L S Q)) := by
  show _ = (pm_okW 8 S = true ∧ pm_WC fqP d 16 [.ref 75, .int x1] (mk h) (fun v σ' => pm_WL fqP d 15 (pc + n) r L (pm_pu v S) σ' Q))
  simp only [w_invv, lg_15, lm_3_71, pm_oM_s, pm_oP_s, pm_pop_0, pm_pop_s, pm_rcv_is, hg_75, pm_oO_s, pm_ref1_is, Nat.reduceEqDiff, Nat.zero_ne_one, Nat.succ_ne_self, true_or, or_true, or_false, false_or, or_self, false_implies, true_implies, implies_true, true_and]
theorem iv_16_74_75 {x1 : Int32} : pm_WL fqP d 16 pc ((.invokevirtual 74, n) :: r) L (.int x1 :: .ref 75 :: S) (mk h) Q = (pm_okW 8 S = true ∧ pm_WC fqP d 17 [.ref 75, .int x1] (mk h) (pm_kk fqP d 16 (pc + n) r L S Q)) := by
  show _ = (pm_okW 8 S = true ∧ pm_WC fqP d 17 [.ref 75, .int x1] (mk h) (fun v σ' => pm_WL fqP d 16 (pc + n) r L (pm_pu v S) σ' Q))
  simp only [w_invv, lg_16, lm_3_74, pm_oM_s, pm_oP_s, pm_pop_0, pm_pop_s, pm_rcv_is, hg_75, pm_oO_s, pm_ref1_is, Nat.reduceEqDiff, Nat.zero_ne_one, Nat.succ_ne_self, true_or, or_true, or_false, false_or, or_self, false_implies, true_implies, implies_true, true_and]
theorem gf_16_12_75 : pm_WL fqP d 16 pc ((.getfield 12, n) :: r) L (.ref 75 :: S) (mk h) Q = pm_WL fqP d 16 (pc + n) r L (.ref 76 :: S) (mk h) Q := by
  simp only [w_getf, lg_16, lf_3_12, pm_oF_s, hg_75, pm_oO_s, List.getElem?_cons_succ, List.getElem?_cons_zero, pm_oK_s, true_and]
theorem iv_16_77_7 {x1 : Int32} : pm_WL fqP d 16 pc ((.invokevirtual 77, n) :: r) L (.int x1 :: .ref 7 :: S) (mk h) Q = (pm_okW 8 S = true ∧ pm_WC fqP d 7 [.ref 7, .int x1] (mk h) (pm_kk fqP d 16 (pc + n) r L S Q)) := by
  show _ = (pm_okW 8 S = true ∧ pm_WC fqP d 7 [.ref 7, .int x1] (mk h) (fun v σ' => pm_WL fqP d 16 (pc + n) r L (pm_pu v S) σ' Q))
  simp only [w_invv, lg_16, lm_3_77, pm_oM_s, pm_oP_s, pm_pop_0, pm_pop_s, pm_rcv_is, hg_7, pm_oO_s, pm_ref1_is, Nat.reduceEqDiff, Nat.zero_ne_one, Nat.succ_ne_self, true_or, or_true, or_false, false_or, or_self, false_implies, true_implies, implies_true, true_and]
theorem iv_16_77_35 {x1 : Int32} : pm_WL fqP d 16 pc ((.invokevirtual 77, n) :: r) L (.int x1 :: .ref 35 :: S) (mk h) Q = (pm_okW 8 S = true ∧ pm_WC fqP d 7 [.ref 35, .int x1] (mk h) (pm_kk fqP d 16 (pc + n) r L S Q)) := by
  show _ = (pm_okW 8 S = true ∧ pm_WC fqP d 7 [.ref 35, .int x1] (mk h) (fun v σ' => pm_WL fqP d 16 (pc + n) r L (pm_pu v S) σ' Q))
  simp only [w_invv, lg_16, lm_3_77, pm_oM_s, pm_oP_s, pm_pop_0, pm_pop_s, pm_rcv_is, hg_35, pm_oO_s, pm_ref1_is, Nat.reduceEqDiff, Nat.zero_ne_one, Nat.succ_ne_self, true_or, or_true, or_false, false_or, or_self, false_implies, true_implies, implies_true, true_and]
theorem iv_16_77_62 {x1 : Int32} : pm_WL fqP d 16 pc ((.invokevirtual 77, n) :: r) L (.int x1 :: .ref 62 :: S) (mk h) Q = (pm_okW 8 S = true ∧ pm_WC fqP d 7 [.ref 62, .int x1] (mk h) (pm_kk fqP d 16 (pc + n) r L S Q)) := by
  show _ = (pm_okW 8 S = true ∧ pm_WC fqP d 7 [.ref 62, .int x1] (mk h) (fun v σ' => pm_WL fqP d 16 (pc + n) r L (pm_pu v S) σ' Q))
  simp only [w_invv, lg_16, lm_3_77, pm_oM_s, pm_oP_s, pm_pop_0, pm_pop_s, pm_rcv_is, hg_62, pm_oO_s, pm_ref1_is, Nat.reduceEqDiff, Nat.zero_ne_one, Nat.succ_ne_self, true_or, or_true, or_false, false_or, or_self, false_implies, true_implies, implies_true, true_and]
theorem iv_16_77_76 {x1 : Int32} : pm_WL fqP d 16 pc ((.invokevirtual 77, n) :: r) L (.int x1 :: .ref 76 :: S) (mk h) Q = (pm_okW 8 S = true ∧ pm_WC fqP d 7 [.ref 76, .int x1] (mk h) (pm_kk fqP d 16 (pc + n) r L S Q)) := by
  show _ = (pm_okW 8 S = true ∧ pm_WC fqP d 7 [.ref 76, .int x1] (mk h) (fun v σ' => pm_WL fqP d 16 (pc + n) r L (pm_pu v S) σ' Q))
  simp only [w_invv, lg_16, lm_3_77, pm_oM_s, pm_oP_s, pm_pop_0, pm_pop_s, pm_rcv_is, hg_76, pm_oO_s, pm_ref1_is, Nat.reduceEqDiff, Nat.zero_ne_one, Nat.succ_ne_self, true_or, or_true, or_false, false_or, or_self, false_implies, true_implies, implies_true, true_and]
theorem iv_16_40_75 {x1 : Int32} : pm_WL fqP d 16 pc ((.invokevirtual 40, n) :: r) L (.int x1 :: .ref 75 :: S) (mk h) Q = (pm_okW 8 S = true ∧ pm_WC fqP d 22 [.ref 75, .int x1] (mk h) (pm_kk fqP d 16 (pc + n) r L S Q)) := by
  show _ = (pm_okW 8 S = true ∧ pm_WC fqP d 22 [.ref 75, .int x1] (mk h) (fun v σ' => pm_WL fqP d 16 (pc + n) r L (pm_pu v S) σ' Q))
  simp only [w_invv, lg_16, lm_3_40, pm_oM_s, pm_oP_s, pm_pop_0, pm_pop_s, pm_rcv_is, hg_75, pm_oO_s, pm_ref1_is, Nat.reduceEqDiff, Nat.zero_ne_one, Nat.succ_ne_self, true_or, or_true, or_false, false_or, or_self, false_implies, true_implies, implies_true, true_and]
theorem iv_16_80_7 {x1 : Int32} {x2 : Int32} {x3 : Int32} : pm_WL fqP d 16 pc ((.invokevirtual 80, n) :: r) L (.int x3 :: .int x2 :: .int x1 :: .ref 7 :: S) (mk h) Q = (pm_okW 8 S = true ∧ pm_WC fqP d 6 [.ref 7, .int x1, .int x2, .int x3] (mk h) (pm_kk fqP d 16 (pc + n) r L S Q)) := by
  show _ = (pm_okW 8 S = true ∧ pm_WC fqP d 6 [.ref 7, .int x1, .int x2, .int x3] (mk h) (fun v σ' => pm_WL fqP d 16 (pc + n) r L (pm_pu v S) σ' Q))
  simp only [w_invv, lg_16, lm_3_80, pm_oM_s, pm_oP_s, pm_pop_0, pm_pop_s, pm_rcv_is, hg_7, pm_oO_s, pm_ref1_is, Nat.reduceEqDiff, Nat.zero_ne_one, Nat.succ_ne_self, true_or, or_true, or_false, false_or, or_self, false_implies, true_implies, implies_true, true_and]
theorem iv_16_80_35 {x1 : Int32} {x2 : Int32} {x3 : Int32} : pm_WL fqP d 16 pc ((.invokevirtual 80, n) :: r) L (.int x3 :: .int x2 :: .int x1 :: .ref 35 :: S) (mk h) Q = (pm_okW 8 S = true ∧ pm_WC fqP d 6 [.ref 35, .int x1, .int x2, .int x3] (mk h) (pm_kk fqP d 16 (pc + n) r L S Q)) := by
  show _ = (pm_okW 8 S = true ∧ pm_WC fqP d 6 [.ref 35, .int x1, .int x2, .int x3] (mk h) (fun v σ' => pm_WL fqP d 16 (pc + n) r L (pm_pu v S) σ' Q))
  simp only [w_invv, lg_16, lm_3_80, pm_oM_s, pm_oP_s, pm_pop_0, pm_pop_s, pm_rcv_is, hg_35, pm_oO_s, pm_ref1_is, Nat.reduceEqDiff, Nat.zero_ne_one, Nat.succ_ne_self, true_or, or_true, or_false, false_or, or_self, false_implies, true_implies, implies_true, true_and]
theorem iv_16_80_62 {x1 : Int32} {x2 : Int32} {x3 : Int32} : pm_WL fqP d 16 pc ((.invokevirtual 80, n) :: r) L (.int x3 :: .int x2 :: .int x1 :: .ref 62 :: S) (mk h) Q = (pm_okW 8 S = true ∧ pm_WC fqP d 6 [.ref 62, .int x1, .int x2, .int x3] (mk h) (pm_kk fqP d 16 (pc + n) r L S Q)) := by
  show _ = (pm_okW 8 S = true ∧ pm_WC fqP d 6 [.ref 62, .int x1, .int x2, .int x3] (mk h) (fun v σ' => pm_WL fqP d 16 (pc + n) r L (pm_pu v S) σ' Q))
  simp only [w_invv, lg_16, lm_3_80, pm_oM_s, pm_oP_s, pm_pop_0, pm_pop_s, pm_rcv_is, hg_62, pm_oO_s, pm_ref1_is, Nat.reduceEqDiff, Nat.zero_ne_one, Nat.succ_ne_self, true_or, or_true, or_false, false_or, or_self, false_implies, true_implies, implies_true, true_and]
theorem iv_16_80_76 {x1 : Int32} {x2 : Int32} {x3 : Int32} : pm_WL fqP d 16 pc ((.invokevirtual 80, n) :: r) L (.int x3 :: .int x2 :: .int x1 :: .ref 76 :: S) (mk h) Q = (pm_okW 8 S = true ∧ pm_WC fqP d 6 [.ref 76, .int x1, .int x2, .int x3] (mk h) (pm_kk fqP d 16 (pc + n) r L S Q)) := by
  show _ = (pm_okW 8 S = true ∧ pm_WC fqP d 6 [.ref 76, .int x1, .int x2, .int x3] (mk h) (fun v σ' => pm_WL fqP d 16 (pc + n) r L (pm_pu v S) σ' Q))
  simp only [w_invv, lg_16, lm_3_80, pm_oM_s, pm_oP_s, pm_pop_0, pm_pop_s, pm_rcv_is, hg_76, pm_oO_s, pm_ref1_is, Nat.reduceEqDiff, Nat.zero_ne_one, Nat.succ_ne_self, true_or, or_true, or_false, false_or, or_self, false_implies, true_implies, implies_true, true_and]
theorem iv_17_84_75 {x1 : Int32} : pm_WL fqP d 17 pc ((.invokevirtual 84, n) :: r) L (.int x1 :: .ref 75 :: S) (mk h) Q = (pm_okW 8 S = true ∧ pm_WC fqP d 18 [.ref 75, .int x1] (mk h) (pm_kk fqP d 17 (pc + n) r L S Q)) := by
  show _ = (pm_okW 8 S = true ∧ pm_WC fqP d 18 [.ref 75, .int x1] (mk h) (fun v σ' => pm_WL fqP d 17 (pc + n) r L (pm_pu v S) σ' Q))
  simp only [w_invv, lg_17, lm_3_84, pm_oM_s, pm_oP_s, pm_pop_0, pm_pop_s, pm_rcv_is, hg_75, pm_oO_s, pm_ref1_is, Nat.reduceEqDiff, Nat.zero_ne_one, Nat.succ_ne_self, true_or, or_true, or_false, false_or, or_self, false_implies, true_implies, implies_true, true_and]
theorem gf_17_12_75 : pm_WL fqP d 17 pc ((.getfield 12, n) :: r) L (.ref 75 :: S) (mk h) Q = pm_WL fqP d 17 (pc + n) r L (.ref 76 :: S) (mk h) Q := by
  simp only [w_getf, lg_17, lf_3_12, pm_oF_s, hg_75, pm_oO_s, List.getElem?_cons_succ, List.getElem?_cons_zero, pm_oK_s, true_and]
theorem iv_17_77_7 {x1 : Int32} : pm_WL fqP d 17 pc ((.invokevirtual 77, n) :: r) L (.int x1 :: .ref 7 :: S) (mk h) Q = (pm_okW 8 S = true ∧ pm_WC fqP d 7 [.ref 7, .int x1] (mk h) (pm_kk fqP d 17 (pc + n) r L S Q)) := by
  show _ = (pm_okW 8 S = true ∧ pm_WC fqP d 7 [.ref 7, .int x1] (mk h) (fun v σ' => pm_WL fqP d 17 (pc + n) r L (pm_pu v S) σ' Q))
  simp only [w_invv, lg_17, lm_3_77, pm_oM_s, pm_oP_s, pm_pop_0, pm_pop_s, pm_rcv_is, hg_7, pm_oO_s, pm_ref1_is, Nat.reduceEqDiff, Nat.zero_ne_one, Nat.succ_ne_self, true_or, or_true, or_false, false_or, or_self, false_implies, true_implies, implies_true, true_and]
theorem iv_17_77_35 {x1 : Int32} : pm_WL fqP d 17 pc ((.invokevirtual 77, n) :: r) L (.int x1 :: .ref 35 :: S) (mk h) Q = (pm_okW 8 S = true ∧ pm_WC fqP d 7 [.ref 35, .int x1] (mk h) (pm_kk fqP d 17 (pc + n) r L S Q)) := by
  show _ = (pm_okW 8 S = true ∧ pm_WC fqP d 7 [.ref 35, .int x1] (mk h) (fun v σ' => pm_WL fqP d 17 (pc + n) r L (pm_pu v S) σ' Q))
  simp only [w_invv, lg_17, lm_3_77, pm_oM_s, pm_oP_s, pm_pop_0, pm_pop_s, pm_rcv_is, hg_35, pm_oO_s, pm_ref1_is, Nat.reduceEqDiff, Nat.zero_ne_one, Nat.succ_ne_self, true_or, or_true, or_false, false_or, or_self, false_implies, true_implies, implies_true, true_and]
theorem iv_17_77_62 {x1 : Int32} : pm_WL fqP d 17 pc ((.invokevirtual 77, n) :: r) L (.int x1 :: .ref 62 :: S) (mk h) Q = (pm_okW 8 S = true ∧ pm_WC fqP d 7 [.ref 62, .int x1] (mk h) (pm_kk fqP d 17 (pc + n) r L S Q)) := by
  show _ = (pm_okW 8 S = true ∧ pm_WC fqP d 7 [.ref 62, .int x1] (mk h) (fun v σ' => pm_WL fqP d 17 (pc + n) r L (pm_pu v S) σ' Q))
  simp only [w_invv, lg_17, lm_3_77, pm_oM_s, pm_oP_s, pm_pop_0, pm_pop_s, pm_rcv_is, hg_62, pm_oO_s, pm_ref1_is, Nat.reduceEqDiff, Nat.zero_ne_one, Nat.succ_ne_self, true_or, or_true, or_false, false_or, or_self, false_implies, true_implies, implies_true, true_and]
theorem iv_17_77_76 {x1 : Int32} : pm_WL fqP d 17 pc ((.invokevirtual 77, n) :: r) L (.int x1 :: .ref 76 :: S) (mk h) Q = (pm_okW 8 S = true ∧ pm_WC fqP d 7 [.ref 76, .int x1] (mk h) (pm_kk fqP d 17 (pc + n) r L S Q)) := by
  show _ = (pm_okW 8 S = true ∧ pm_WC fqP d 7 [.ref 76, .int x1] (mk h) (fun v σ' => pm_WL fqP d 17 (pc + n) r L (pm_pu v S) σ' Q))
  simp only [w_invv, lg_17, lm_3_77, pm_oM_s, pm_oP_s, pm_pop_0, pm_pop_s, pm_rcv_is, hg_76, pm_oO_s, pm_ref1_is, Nat.reduceEqDiff, Nat.zero_ne_one, Nat.succ_ne_self, true_or, or_true, or_false, false_or, or_self, false_implies, true_implies, implies_true, true_and]
theorem iv_17_40_75 {x1 : Int32} : pm_WL fqP d 17 pc ((.invokevirtual 40, n) :: r) L (.int x1 :: .ref 75 :: S) (mk h) Q = (pm_okW 8 S = true ∧ pm_WC fqP d 22 [.ref 75, .int x1] (mk h) (pm_kk fqP d 17 (pc + n) r L S Q)) := by
  show _ = (pm_okW 8 S = true ∧ pm_WC fqP d 22 [.ref 75, .int x1] (mk h) (fun v σ' => pm_WL fqP d 17 (pc + n) r L (pm_pu v S) σ' Q))
  simp only [w_invv, lg_17, lm_3_40, pm_oM_s, pm_oP_s, pm_pop_0, pm_pop_s, pm_rcv_is, hg_75, pm_oO_s, pm_ref1_is, Nat.reduceEqDiff, Nat.zero_ne_one, Nat.succ_ne_self, true_or, or_true, or_false, false_or, or_self, false_implies, true_implies, implies_true, true_and]
theorem iv_17_80_7 {x1 : Int32} {x2 : Int32} {x3 : Int32} : pm_WL fqP d 17 pc ((.invokevirtual 80, n) :: r) L (.int x3 :: .int x2 :: .int x1 :: .ref 7 :: S) (mk h) Q = (pm_okW 8 S = true ∧ pm_WC fqP d 6 [.ref 7, .int x1, .int x2, .int x3] (mk h) (pm_kk fqP d 17 (pc + n) r L S Q)) := by
  show _ = (pm_okW 8 S = true ∧ pm_WC fqP d 6 [.ref 7, .int x1, .int x2, .int x3] (mk h) (fun v σ' => pm_WL fqP d 17 (pc + n) r L (pm_pu v S) σ' Q))
  simp only [w_invv, lg_17, lm_3_80, pm_oM_s, pm_oP_s, pm_pop_0, pm_pop_s, pm_rcv_is, hg_7, pm_oO_s, pm_ref1_is, Nat.reduceEqDiff, Nat.zero_ne_one, Nat.succ_ne_self, true_or, or_true, or_false, false_or, or_self, false_implies, true_implies, implies_true, true_and]
theorem iv_17_80_35 {x1 : Int32} {x2 : Int32} {x3 : Int32} : pm_WL fqP d 17 pc ((.invokevirtual 80, n) :: r) L (.int x3 :: .int x2 :: .int x1 :: .ref 35 :: S) (mk h) Q = (pm_okW 8 S = true ∧ pm_WC fqP d 6 [.ref 35, .int x1, .int x2, .int x3] (mk h) (pm_kk fqP d 17 (pc + n) r L S Q)) := by
  show _ = (pm_okW 8 S = true ∧ pm_WC fqP d 6 [.ref 35, .int x1, .int x2, .int x3] (mk h) (fun v σ' => pm_WL fqP d 17 (pc + n) r L (pm_pu v S) σ' Q))
  simp only [w_invv, lg_17, lm_3_80, pm_oM_s, pm_oP_s, pm_pop_0, pm_pop_s, pm_rcv_is, hg_35, pm_oO_s, pm_ref1_is, Nat.reduceEqDiff, Nat.zero_ne_one, Nat.succ_ne_self, true_or, or_true, or_false, false_or, or_self, false_implies, true_implies, implies_true, true_and]
theorem iv_17_80_62 {x1 : Int32} {x2 : Int32} {x3 : Int32} : pm_WL fqP d 17 pc ((.invokevirtual 80, n) :: r) L (.int x3 :: .int x2 :: .int x1 :: .ref 62 :: S) (mk h) Q = (pm_okW 8 S = true ∧ pm_WC fqP d 6 [.ref 62, .int x1, .int x2, .int x3] (mk h) (pm_kk fqP d 17 (pc + n) r L S Q)) := by
  show _ = (pm_okW 8 S = true ∧ pm_WC fqP d 6 [.ref 62, .int x1, .int x2, .int x3] (mk h) (fun v σ' => pm_WL fqP d 17 (pc + n) r L (pm_pu v S) σ' Q))
  simp only [w_invv, lg_17, lm_3_80, pm_oM_s, pm_oP_s, pm_pop_0, pm_pop_s, pm_rcv_is, hg_62, pm_oO_s, pm_ref1_is, Nat.reduceEqDiff, Nat.zero_ne_one, Nat.succ_ne_self, true_or, or_true, or_false, false_or, or_self, false_implies, true_implies, implies_true, true_and]
theorem iv_17_80_76 {x1 : Int32} {x2 : Int32} {x3 : Int32} : pm_WL fqP d 17 pc ((.invokevirtual 80, n) :: r) L (.int x3 :: .int x2 :: .int x1 :: .ref 76 :: S) (mk h) Q = (pm_okW 8 S = true ∧ pm_WC fqP d 6 [.ref 76, .int x1, .int x2, .int x3] (mk h) (pm_kk fqP d 17 (pc + n) r L S Q)) := by
  show _ = (pm_okW 8 S = true ∧ pm_WC fqP d 6 [.ref 76, .int x1, .int x2, .int x3] (mk h) (fun v σ' => pm_WL fqP d 17 (pc + n) r L (pm_pu v S) σ' Q))
  simp only [w_invv, lg_17, lm_3_80, pm_oM_s, pm_oP_s, pm_pop_0, pm_pop_s, pm_rcv_is, hg_76, pm_oO_s, pm_ref1_is, Nat.reduceEqDiff, Nat.zero_ne_one, Nat.succ_ne_self, true_or, or_true, or_false, false_or, or_self, false_implies, true_implies, implies_true, true_and]
theorem iv_18_40_75 {x1 : Int32} : pm_WL fqP d 18 pc ((.invokevirtual 40, n) :: r) L (.int x1 :: .ref 75 :: S) (mk h) Q = (pm_okW 8 S = true ∧ pm_WC fqP d 22 [.ref 75, .int x1] (mk h) (pm_kk fqP d 18 (pc + n) r L S Q)) := by
  show _ = (pm_okW 8 S = true ∧ pm_WC fqP d 22 [.ref 75, .int x1] (mk h) (fun v σ' => pm_WL fqP d 18 (pc + n) r L (pm_pu v S) σ' Q))
  simp only [w_invv, lg_18, lm_3_40, pm_oM_s, pm_oP_s, pm_pop_0, pm_pop_s, pm_rcv_is, hg_75, pm_oO_s, pm_ref1_is, Nat.reduceEqDiff, Nat.zero_ne_one, Nat.succ_ne_self, true_or, or_true, or_false, false_or, or_self, false_implies, true_implies, implies_true, true_and]
theorem iv_18_71_75 {x1 : Int32} : pm_WL fqP d 18 pc ((.invokevirtual 71, n) :: r) L (.int x1 :: .ref 75 :: S) (mk h) Q = (pm_okW 8 S = true ∧ pm_WC fqP d 16 [.ref 75, .int x1] (mk h) (pm_kk fqP d 18 (pc + n) r L S Q)) := by
  show _ = (pm_okW 8 S = true ∧ pm_WC fqP d 16 [.ref 75, .int x1] (mk h) (fun v σ' => pm_WL fqP d 18 (pc + n) r L (pm_pu v S) σ' Q))
  simp only [w_invv, lg_18, lm_3_71, pm_oM_s, pm_oP_s, pm_pop_0, pm_pop_s, pm_rcv_is, hg_75, pm_oO_s, pm_ref1_is, Nat.reduceEqDiff, Nat.zero_ne_one, Nat.succ_ne_self, true_or, or_true, or_false, false_or, or_self, false_implies, true_implies, implies_true, true_and]
theorem iv_18_89_75 {x1 : Nat} : pm_WL fqP d 18 pc ((.invokevirtual 89, n) :: r) L (.ref x1 :: .ref 75 :: S) (mk h) Q = (pm_okW 8 S = true ∧ pm_WC fqP d 19 [.ref 75, .ref x1] (mk h) (pm_kk fqP d 18 (pc + n) r L S Q)) := by
  show _ = (pm_okW 8 S = true ∧ pm_WC fqP d 19 [.ref 75, .ref x1] (mk h) (fun v σ' => pm_WL fqP d 18 (pc + n) r L (pm_pu v S) σ' Q))
  simp only [w_invv, lg_18, lm_3_89, pm_oM_s, pm_oP_s, pm_pop_0, pm_pop_s, pm_rcv_is, hg_75, pm_oO_s, pm_ref1_is, Nat.reduceEqDiff, Nat.zero_ne_one, Nat.succ_ne_self, true_or, or_true, or_false, false_or, or_self, false_implies, true_implies, implies_true, true_and]
theorem iv_18_58_75 : pm_WL fqP d 18 pc ((.invokevirtual 58, n) :: r) L (.ref 75 :: S) (mk h) Q = (pm_okW 8 S = true ∧ pm_WC fqP d 21 [.ref 75] (mk h) (pm_kk fqP d 18 (pc + n) r L S Q)) := by
  show _ = (pm_okW 8 S = true ∧ pm_WC fqP d 21 [.ref 75] (mk h) (fun v σ' => pm_WL fqP d 18 (pc + n) r L (pm_pu v S) σ' Q))
  simp only [w_invv, lg_18, lm_3_58, pm_oM_s, pm_oP_s, pm_pop_0, pm_pop_s, pm_rcv_is, hg_75, pm_oO_s, pm_ref1_is, Nat.reduceEqDiff, Nat.zero_ne_one, Nat.succ_ne_self, true_or, or_true, or_false, false_or, or_self, false_implies, true_implies, implies_true, true_and]
theorem gf_18_12_75 : pm_WL fqP d 18 pc ((.getfield 12, n) :: r) L (.ref 75 :: S) (mk h) Q = pm_WL fqP d 18 (pc + n) r L (.ref 76 :: S) (mk h) Q := by
  simp only [w_getf, lg_18, lf_3_12, pm_oF_s, hg_75, pm_oO_s, List.getElem?_cons_succ, List.getElem?_cons_zero, pm_oK_s, true_and]
theorem gf_18_61_75 : pm_WL fqP d 18 pc ((.getfield 61, n) :: r) L (.ref 75 :: S) (mk h) Q = pm_WL fqP d 18 (pc + n) r L (.int (gd (h 75) 2) :: S) (mk h) Q := by
  simp only [w_getf, lg_18, lf_3_61, pm_oF_s, hg_75, pm_oO_s, List.getElem?_cons_succ, List.getElem?_cons_zero, pm_oK_s, true_and]
theorem iv_18_80_7 {x1 : Int32} {x2 : Int32} {x3 : Int32} : pm_WL fqP d 18 pc ((.invokevirtual 80, n) :: r) L (.int x3 :: .int x2 :: .int x1 :: .ref 7 :: S) (mk h) Q = (pm_okW 8 S = true ∧ pm_WC fqP d 6 [.ref 7, .int x1, .int x2, .int x3] (mk h) (pm_kk fqP d 18 (pc + n) r L S Q)) := by
  show _ = (pm_okW 8 S = true ∧ pm_WC fqP d 6 [.ref 7, .int x1, .int x2, .int x3] (mk h) (fun v σ' => pm_WL fqP d 18 (pc + n) r L (pm_pu v S) σ' Q))
  simp only [w_invv, lg_18, lm_3_80, pm_oM_s, pm_oP_s, pm_pop_0, pm_pop_s, pm_rcv_is, hg_7, pm_oO_s, pm_ref1_is, Nat.reduceEqDiff, Nat.zero_ne_one, Nat.succ_ne_self, true_or, or_true, or_false, false_or, or_self, false_implies, true_implies, implies_true, true_and]
theorem iv_18_80_35 {x1 : Int32} {x2 : Int32} {x3 : Int32} : pm_WL fqP d 18 pc ((.invokevirtual 80, n) :: r) L (.int x3 :: .int x2 :: .int x1 :: .ref 35 :: S) (mk h) Q = (pm_okW 8 S = true ∧ pm_WC fqP d 6 [.ref 35, .int x1, .int x2, .int x3] (mk h) (pm_kk fqP d 18 (pc + n) r L S Q)) := by
  show _ = (pm_okW 8 S = true ∧ pm_WC fqP d 6 [.ref 35, .int x1, .int x2, .int x3] (mk h) (fun v σ' => pm_WL fqP d 18 (pc + n) r L (pm_pu v S) σ' Q))
  simp only [w_invv, lg_18, lm_3_80, pm_oM_s, pm_oP_s, pm_pop_0, pm_pop_s, pm_rcv_is, hg_35, pm_oO_s, pm_ref1_is, Nat.reduceEqDiff, Nat.zero_ne_one, Nat.succ_ne_self, true_or, or_true, or_false, false_or, or_self, false_implies, true_implies, implies_true, true_and]
theorem iv_18_80_62 {x1 : Int32} {x2 : Int32} {x3 : Int32} : pm_WL fqP d 18 pc ((.invokevirtual 80, n) :: r) L (.int x3 :: .int x2 :: .int x1 :: .ref 62 :: S) (mk h) Q = (pm_okW 8 S = true ∧ pm_WC fqP d 6 [.ref 62, .int x1, .int x2, .int x3] (mk h) (pm_kk fqP d 18 (pc + n) r L S Q)) := by
  show _ = (pm_okW 8 S = true ∧ pm_WC fqP d 6 [.ref 62, .int x1, .int x2, .int x3] (mk h) (fun v σ' => pm_WL fqP d 18 (pc + n) r L (pm_pu v S) σ' Q))
  simp only [w_invv, lg_18, lm_3_80, pm_oM_s, pm_oP_s, pm_pop_0, pm_pop_s, pm_rcv_is, hg_62, pm_oO_s, pm_ref1_is, Nat.reduceEqDiff, Nat.zero_ne_one, Nat.succ_ne_self, true_or, or_true, or_false, false_or, or_self, false_implies, true_implies, implies_true, true_and]
theorem iv_18_80_76 {x1 : Int32} {x2 : Int32} {x3 : Int32} : pm_WL fqP d 18 pc ((.invokevirtual 80, n) :: r) L (.int x3 :: .int x2 :: .int x1 :: .ref 76 :: S) (mk h) Q = (pm_okW 8 S = true ∧ pm_WC fqP d 6 [.ref 76, .int x1, .int x2, .int x3] (mk h) (pm_kk fqP d 18 (pc + n) r L S Q)) := by
  show _ = (pm_okW 8 S = true ∧ pm_WC fqP d 6 [.ref 76, .int x1, .int x2, .int x3] (mk h) (fun v σ' => pm_WL fqP d 18 (pc + n) r L (pm_pu v S) σ' Q))
  simp only [w_invv, lg_18, lm_3_80, pm_oM_s, pm_oP_s, pm_pop_0, pm_pop_s, pm_rcv_is, hg_76, pm_oO_s, pm_ref1_is, Nat.reduceEqDiff, Nat.zero_ne_one, Nat.succ_ne_self, true_or, or_true, or_false, false_or, or_self, false_implies, true_implies, implies_true, true_and]
theorem iv_19_44_75 : pm_WL fqP d 19 pc ((.invokevirtual 44, n) :: r) L (.ref 75 :: S) (mk h) Q = (pm_okW 8 S = true ∧ pm_WC fqP d 23 [.ref 75] (mk h) (pm_kk fqP d 19 (pc + n) r L S Q)) := by
  show _ = (pm_okW 8 S = true ∧ pm_WC fqP d 23 [.ref 75] (mk h) (fun v σ' => pm_WL fqP d 19 (pc + n) r L (pm_pu v S) σ' Q))
  simp only [w_invv, lg_19, lm_3_44, pm_oM_s, pm_oP_s, pm_pop_0, pm_pop_s, pm_rcv_is, hg_75, pm_oO_s, pm_ref1_is, Nat.reduceEqDiff, Nat.zero_ne_one, Nat.succ_ne_self, true_or, or_true, or_false, false_or, or_self, false_implies, true_implies, implies_true, true_and]
theorem iv_19_95 {x0 : Nat} : pm_WL fqP d 19 pc ((.invokevirtual 95, n) :: r) L (.ref x0 :: S) σ Q = (pm_okW 8 S = true ∧ pm_WC fqP d 902 [.ref x0] σ (pm_kk fqP d 19 (pc + n) r L S Q)) := by
  show _ = (pm_okW 8 S = true ∧ pm_WC fqP d 902 [.ref x0] σ (fun v σ' => pm_WL fqP d 19 (pc + n) r L (pm_pu v S) σ' Q))
  simp only [w_invv, lg_19, lm_3_95, pm_oM_s, pm_oP_s, pm_pop_0, pm_pop_s, pm_ref1_is, Nat.reduceEqDiff, Nat.zero_ne_one, Nat.succ_ne_self, true_or, or_true, or_false, false_or, or_self, false_implies, true_implies, implies_true, true_and]
theorem iv_19_100 {x0 : Nat} {x1 : Int32} : pm_WL fqP d 19 pc ((.invokevirtual 100, n) :: r) L (.int x1 :: .ref x0 :: S) σ Q = (pm_okW 8 S = true ∧ pm_WC fqP d 903 [.ref x0, .int x1] σ (pm_kk fqP d 19 (pc + n) r L S Q)) := by
  show _ = (pm_okW 8 S = true ∧ pm_WC fqP d 903 [.ref x0, .int x1] σ (fun v σ' => pm_WL fqP d 19 (pc + n) r L (pm_pu v S) σ' Q))
  simp only [w_invv, lg_19, lm_3_100, pm_oM_s, pm_oP_s, pm_pop_0, pm_pop_s, pm_ref1_is, Nat.reduceEqDiff, Nat.zero_ne_one, Nat.succ_ne_self, true_or, or_true, or_false, false_or, or_self, false_implies, true_implies, implies_true, true_and]
theorem gf_19_30_75 : pm_WL fqP d 19 pc ((.getfield 30, n) :: r) L (.ref 75 :: S) (mk h) Q = pm_WL fqP d 19 (pc + n) r L (.int (gd (h 75) 0) :: S) (mk h) Q := by
  simp only [w_getf, lg_19, lf_3_30, pm_oF_s, hg_75, pm_oO_s, List.getElem?_cons_succ, List.getElem?_cons_zero, pm_oK_s, true_and]
theorem pf_19_30_75 {x : Int32} : pm_WL fqP d 19 pc ((.putfield 30, n) :: r) L (.int x :: .ref 75 :: S) (mk h) Q = pm_WL fqP d 19 (pc + n) r L S (mk (up h 75 [x, gd (h 75) 1, gd (h 75) 2])) Q := by
  simp only [w_putf, lg_19, lf_3_30, lt_3_1, pm_oF_s, hg_75, pm_oO_s, List.set_cons_succ, List.set_cons_zero, List.length_cons, List.length_nil, pm_fit_i, Nat.reduceAdd, Nat.reduceLT, Nat.zero_add, Nat.lt_add_one, Bool.false_eq_true, false_implies, true_and, and_true, hs_75]
theorem iv_20_95 {x0 : Nat} : pm_WL fqP d 20 pc ((.invokevirtual 95, n) :: r) L (.ref x0 :: S) σ Q = (pm_okW 8 S = true ∧ pm_WC fqP d 902 [.ref x0] σ (pm_kk fqP d 20 (pc + n) r L S Q)) := by
  show _ = (pm_okW 8 S = true ∧ pm_WC fqP d 902 [.ref x0] σ (fun v σ' => pm_WL fqP d 20 (pc + n) r L (pm_pu v S) σ' Q))
  simp only [w_invv, lg_20, lm_3_95, pm_oM_s, pm_oP_s, pm_pop_0, pm_pop_s, pm_ref1_is, Nat.reduceEqDiff, Nat.zero_ne_one, Nat.succ_ne_self, true_or, or_true, or_false, false_or, or_self, false_implies, true_implies, implies_true, true_and]
theorem iv_20_100 {x0 : Nat} {x1 : Int32} : pm_WL fqP d 20 pc ((.invokevirtual 100, n) :: r) L (.int x1 :: .ref x0 :: S) σ Q = (pm_okW 8 S = true ∧ pm_WC fqP d 903 [.ref x0, .int x1] σ (pm_kk fqP d 20 (pc + n) r L S Q)) := by
  show _ = (pm_okW 8 S = true ∧ pm_WC fqP d 903 [.ref x0, .int x1] σ (fun v σ' => pm_WL fqP d 20 (pc + n) r L (pm_pu v S) σ' Q))
  simp only [w_invv, lg_20, lm_3_100, pm_oM_s, pm_oP_s, pm_pop_0, pm_pop_s, pm_ref1_is, Nat.reduceEqDiff, Nat.zero_ne_one, Nat.succ_ne_self, true_or, or_true, or_false, false_or, or_self, false_implies, true_implies, implies_true, true_and]
theorem iv_20_40_75 {x1 : Int32} : pm_WL fqP d 20 pc ((.invokevirtual 40, n) :: r) L (.int x1 :: .ref 75 :: S) (mk h) Q = (pm_okW 8 S = true ∧ pm_WC fqP d 22 [.ref 75, .int x1] (mk h) (pm_kk fqP d 20 (pc + n) r L S Q)) := by
  show _ = (pm_okW 8 S = true ∧ pm_WC fqP d 22 [.ref 75, .int x1] (mk h) (fun v σ' => pm_WL fqP d 20 (pc + n) r L (pm_pu v S) σ' Q))
  simp only [w_invv, lg_20, lm_3_40, pm_oM_s, pm_oP_s, pm_pop_0, pm_pop_s, pm_rcv_is, hg_75, pm_oO_s, pm_ref1_is, Nat.reduceEqDiff, Nat.zero_ne_one, Nat.succ_ne_self, true_or, or_true, or_false, false_or, or_self, false_implies, true_implies, implies_true, true_and]
theorem iv_21_44_75 : pm_WL fqP d 21 pc ((.invokevirtual 44, n) :: r) L (.ref 75 :: S) (mk h) Q = (pm_okW 8 S = true ∧ pm_WC fqP d 23 [.ref 75] (mk h) (pm_kk fqP d 21 (pc + n) r L S Q)) := by
  show _ = (pm_okW 8 S = true ∧ pm_WC fqP d 23 [.ref 75] (mk h) (fun v σ' => pm_WL fqP d 21 (pc + n) r L (pm_pu v S) σ' Q))
  simp only [w_invv, lg_21, lm_3_44, pm_oM_s, pm_oP_s, pm_pop_0, pm_pop_s, pm_rcv_is, hg_75, pm_oO_s, pm_ref1_is, Nat.reduceEqDiff, Nat.zero_ne_one, Nat.succ_ne_self, true_or, or_true, or_false, false_or, or_self, false_implies, true_implies, implies_true, true_and]
theorem gf_21_30_75 : pm_WL fqP d 21 pc ((.getfield 30, n) :: r) L (.ref 75 :: S) (mk h) Q = pm_WL fqP d 21 (pc + n) r L (.int (gd (h 75) 0) :: S) (mk h) Q := by
  simp only [w_getf, lg_21, lf_3_30, pm_oF_s, hg_75, pm_oO_s, List.getElem?_cons_succ, List.getElem?_cons_zero, pm_oK_s, true_and]
theorem pf_21_30_75 {x : Int32} : pm_WL fqP d 21 pc ((.putfield 30, n) :: r) L (.int x :: .ref 75 :: S) (mk h) Q = pm_WL fqP d 21 (pc + n) r L S (mk (up h 75 [x, gd (h 75) 1, gd (h 75) 2])) Q := by
  simp only [w_putf, lg_21, lf_3_30, lt_3_1, pm_oF_s, hg_75, pm_oO_s, List.set_cons_succ, List.set_cons_zero, List.length_cons, List.length_nil, pm_fit_i, Nat.reduceAdd, Nat.reduceLT, Nat.zero_add, Nat.lt_add_one, Bool.false_eq_true, false_implies, true_and, and_true, hs_75]
theorem pf_21_61_75 {x : Int32} : pm_WL fqP d 21 pc ((.putfield 61, n) :: r) L (.int x :: .ref 75 :: S) (mk h) Q = pm_WL fqP d 21 (pc + n) r L S (mk (up h 75 [gd (h 75) 0, gd (h 75) 1, x])) Q := by
  simp only [w_putf, lg_21, lf_3_61, lt_3_4, pm_oF_s, hg_75, pm_oO_s, List.set_cons_succ, List.set_cons_zero, List.length_cons, List.length_nil, pm_fit_i, Nat.reduceAdd, Nat.reduceLT, Nat.zero_add, Nat.lt_add_one, Bool.false_eq_true, false_implies, true_and, and_true, hs_75]
theorem iv_22_44_75 : pm_WL fqP d 22 pc ((.invokevirtual 44, n) :: r) L (.ref 75 :: S) (mk h) Q = (pm_okW 8 S = true ∧ pm_WC fqP d 23 [.ref 75] (mk h) (pm_kk fqP d 22 (pc + n) r L S Q)) := by
  show _ = (pm_okW 8 S = true ∧ pm_WC fqP d 23 [.ref 75] (mk h) (fun v σ' => pm_WL fqP d 22 (pc + n) r L (pm_pu v S) σ' Q))
  simp only [w_invv, lg_22, lm_3_44, pm_oM_s, pm_oP_s, pm_pop_0, pm_pop_s, pm_rcv_is, hg_75, pm_oO_s, pm_ref1_is, Nat.reduceEqDiff, Nat.zero_ne_one, Nat.succ_ne_self, true_or, or_true, or_false, false_or, or_self, false_implies, true_implies, implies_true, true_and]
theorem gf_22_30_75 : pm_WL fqP d 22 pc ((.getfield 30, n) :: r) L (.ref 75 :: S) (mk h) Q = pm_WL fqP d 22 (pc + n) r L (.int (gd (h 75) 0) :: S) (mk h) Q := by
  simp only [w_getf, lg_22, lf_3_30, pm_oF_s, hg_75, pm_oO_s, List.getElem?_cons_succ, List.getElem?_cons_zero, pm_oK_s, true_and]
theorem pf_22_30_75 {x : Int32} : pm_WL fqP d 22 pc ((.putfield 30, n) :: r) L (.int x :: .ref 75 :: S) (mk h) Q = pm_WL fqP d 22 (pc + n) r L S (mk (up h 75 [x, gd (h 75) 1, gd (h 75) 2])) Q := by
  simp only [w_putf, lg_22, lf_3_30, lt_3_1, pm_oF_s, hg_75, pm_oO_s, List.set_cons_succ, List.set_cons_zero, List.length_cons, List.length_nil, pm_fit_i, Nat.reduceAdd, Nat.reduceLT, Nat.zero_add, Nat.lt_add_one, Bool.false_eq_true, false_implies, true_and, and_true, hs_75]
theorem gf_23_30_75 : pm_WL fqP d 23 pc ((.getfield 30, n) :: r) L (.ref 75 :: S) (mk h) Q = pm_WL fqP d 23 (pc + n) r L (.int (gd (h 75) 0) :: S) (mk h) Q := by
  simp only [w_getf, lg_23, lf_3_30, pm_oF_s, hg_75, pm_oO_s, List.getElem?_cons_succ, List.getElem?_cons_zero, pm_oK_s, true_and]
theorem gf_23_26_75 : pm_WL fqP d 23 pc ((.getfield 26, n) :: r) L (.ref 75 :: S) (mk h) Q = pm_WL fqP d 23 (pc + n) r L (.int (gd (h 75) 1) :: S) (mk h) Q := by
  simp only [w_getf, lg_23, lf_3_26, pm_oF_s, hg_75, pm_oO_s, List.getElem?_cons_succ, List.getElem?_cons_zero, pm_oK_s, true_and]
theorem gf_23_18_75 : pm_WL fqP d 23 pc ((.getfield 18, n) :: r) L (.ref 75 :: S) (mk h) Q = pm_WL fqP d 23 (pc + n) r L (.ref 80 :: S) (mk h) Q := by
  simp only [w_getf, lg_23, lf_3_18, pm_oF_s, hg_75, pm_oO_s, List.getElem?_cons_succ, List.getElem?_cons_zero, pm_oK_s, true_and]
theorem gf_25_27_21 : pm_WL fqP d 25 pc ((.getfield 27, n) :: r) L (.ref 21 :: S) (mk h) Q = pm_WL fqP d 25 (pc + n) r L (.int (gd (h 21) 0) :: S) (mk h) Q := by
  simp only [w_getf, lg_25, lf_4_27, pm_oF_s, hg_21, pm_oO_s, List.getElem?_cons_succ, List.getElem?_cons_zero, pm_oK_s, true_and]
theorem gf_25_27_25 : pm_WL fqP d 25 pc ((.getfield 27, n) :: r) L (.ref 25 :: S) (mk h) Q = pm_WL fqP d 25 (pc + n) r L (.int (gd (h 25) 0) :: S) (mk h) Q := by
  simp only [w_getf, lg_25, lf_4_27, pm_oF_s, hg_25, pm_oO_s, List.getElem?_cons_succ, List.getElem?_cons_zero, pm_oK_s, true_and]
theorem gf_25_27_29 : pm_WL fqP d 25 pc ((.getfield 27, n) :: r) L (.ref 29 :: S) (mk h) Q = pm_WL fqP d 25 (pc + n) r L (.int (gd (h 29) 0) :: S) (mk h) Q := by
  simp only [w_getf, lg_25, lf_4_27, pm_oF_s, hg_29, pm_oO_s, List.getElem?_cons_succ, List.getElem?_cons_zero, pm_oK_s, true_and]
theorem gf_25_27_49 : pm_WL fqP d 25 pc ((.getfield 27, n) :: r) L (.ref 49 :: S) (mk h) Q = pm_WL fqP d 25 (pc + n) r L (.int (gd (h 49) 0) :: S) (mk h) Q := by
  simp only [w_getf, lg_25, lf_4_27, pm_oF_s, hg_49, pm_oO_s, List.getElem?_cons_succ, List.getElem?_cons_zero, pm_oK_s, true_and]
theorem gf_25_27_53 : pm_WL fqP d 25 pc ((.getfield 27, n) :: r) L (.ref 53 :: S) (mk h) Q = pm_WL fqP d 25 (pc + n) r L (.int (gd (h 53) 0) :: S) (mk h) Q := by
  simp only [w_getf, lg_25, lf_4_27, pm_oF_s, hg_53, pm_oO_s, List.getElem?_cons_succ, List.getElem?_cons_zero, pm_oK_s, true_and]
theorem gf_25_27_57 : pm_WL fqP d 25 pc ((.getfield 27, n) :: r) L (.ref 57 :: S) (mk h) Q = pm_WL fqP d 25 (pc + n) r L (.int (gd (h 57) 0) :: S) (mk h) Q := by
  simp only [w_getf, lg_25, lf_4_27, pm_oF_s, hg_57, pm_oO_s, List.getElem?_cons_succ, List.getElem?_cons_zero, pm_oK_s, true_and]
theorem gf_25_15_21 : pm_WL fqP d 25 pc ((.getfield 15, n) :: r) L (.ref 21 :: S) (mk h) Q = pm_WL fqP d 25 (pc + n) r L (.ref 22 :: S) (mk h) Q := by
  simp only [w_getf, lg_25, lf_4_15, pm_oF_s, hg_21, pm_oO_s, List.getElem?_cons_succ, List.getElem?_cons_zero, pm_oK_s, true_and]
theorem gf_25_15_25 : pm_WL fqP d 25 pc ((.getfield 15, n) :: r) L (.ref 25 :: S) (mk h) Q = pm_WL fqP d 25 (pc + n) r L (.ref 26 :: S) (mk h) Q := by
  simp only [w_getf, lg_25, lf_4_15, pm_oF_s, hg_25, pm_oO_s, List.getElem?_cons_succ, List.getElem?_cons_zero, pm_oK_s, true_and]
theorem gf_25_15_29 : pm_WL fqP d 25 pc ((.getfield 15, n) :: r) L (.ref 29 :: S) (mk h) Q = pm_WL fqP d 25 (pc + n) r L (.ref 30 :: S) (mk h) Q := by
  simp only [w_getf, lg_25, lf_4_15, pm_oF_s, hg_29, pm_oO_s, List.getElem?_cons_succ, List.getElem?_cons_zero, pm_oK_s, true_and]
theorem gf_25_15_49 : pm_WL fqP d 25 pc ((.getfield 15, n) :: r) L (.ref 49 :: S) (mk h) Q = pm_WL fqP d 25 (pc + n) r L (.ref 50 :: S) (mk h) Q := by
  simp only [w_getf, lg_25, lf_4_15, pm_oF_s, hg_49, pm_oO_s, List.getElem?_cons_succ, List.getElem?_cons_zero, pm_oK_s, true_and]
theorem gf_25_15_53 : pm_WL fqP d 25 pc ((.getfield 15, n) :: r) L (.ref 53 :: S) (mk h) Q = pm_WL fqP d 25 (pc + n) r L (.ref 54 :: S) (mk h) Q := by
  simp only [w_getf, lg_25, lf_4_15, pm_oF_s, hg_53, pm_oO_s, List.getElem?_cons_succ, List.getElem?_cons_zero, pm_oK_s, true_and]
theorem gf_25_15_57 : pm_WL fqP d 25 pc ((.getfield 15, n) :: r) L (.ref 57 :: S) (mk h) Q = pm_WL fqP d 25 (pc + n) r L (.ref 58 :: S) (mk h) Q := by
  simp only [w_getf, lg_25, lf_4_15, pm_oF_s, hg_57, pm_oO_s, List.getElem?_cons_succ, List.getElem?_cons_zero, pm_oK_s, true_and]
theorem iv_25_31 {x0 : Nat} {x1 : Int32} {x2 : Int32} : pm_WL fqP d 25 pc ((.invokestatic 31, n) :: r) L (.int x2 :: .int x1 :: .ref x0 :: S) σ Q = (pm_okW 8 S = true ∧ pm_WC fqP d 92 [.ref x0, .int x1, .int x2] σ (pm_kk fqP d 25 (pc + n) r L S Q)) := by
  show _ = (pm_okW 8 S = true ∧ pm_WC fqP d 92 [.ref x0, .int x1, .int x2] σ (fun v σ' => pm_WL fqP d 25 (pc + n) r L (pm_pu v S) σ' Q))
  simp only [w_invs, lg_25, lm_4_31, pm_oM_s, pm_oP_s, pm_pop_0, pm_pop_s, pm_ref1_is, Nat.reduceEqDiff, Nat.zero_ne_one, Nat.succ_ne_self, true_or, or_true, or_false, false_or, or_self, false_implies, true_implies, implies_true, true_and]
theorem gf_25_21_21 : pm_WL fqP d 25 pc ((.getfield 21, n) :: r) L (.ref 21 :: S) (mk h) Q = pm_WL fqP d 25 (pc + n) r L (.ref 23 :: S) (mk h) Q := by
  simp only [w_getf, lg_25, lf_4_21, pm_oF_s, hg_21, pm_oO_s, List.getElem?_cons_succ, List.getElem?_cons_zero, pm_oK_s, true_and]
theorem gf_25_21_25 : pm_WL fqP d 25 pc ((.getfield 21, n) :: r) L (.ref 25 :: S) (mk h) Q = pm_WL fqP d 25 (pc + n) r L (.ref 27 :: S) (mk h) Q := by
  simp only [w_getf, lg_25, lf_4_21, pm_oF_s, hg_25, pm_oO_s, List.getElem?_cons_succ, List.getElem?_cons_zero, pm_oK_s, true_and]
theorem gf_25_21_29 : pm_WL fqP d 25 pc ((.getfield 21, n) :: r) L (.ref 29 :: S) (mk h) Q = pm_WL fqP d 25 (pc + n) r L (.ref 31 :: S) (mk h) Q := by
  simp only [w_getf, lg_25, lf_4_21, pm_oF_s, hg_29, pm_oO_s, List.getElem?_cons_succ, List.getElem?_cons_zero, pm_oK_s, true_and]
theorem gf_25_21_49 : pm_WL fqP d 25 pc ((.getfield 21, n) :: r) L (.ref 49 :: S) (mk h) Q = pm_WL fqP d 25 (pc + n) r L (.ref 51 :: S) (mk h) Q := by
  simp only [w_getf, lg_25, lf_4_21, pm_oF_s, hg_49, pm_oO_s, List.getElem?_cons_succ, List.getElem?_cons_zero, pm_oK_s, true_and]
theorem gf_25_21_53 : pm_WL fqP d 25 pc ((.getfield 21, n) :: r) L (.ref 53 :: S) (mk h) Q = pm_WL fqP d 25 (pc + n) r L (.ref 55 :: S) (mk h) Q := by
  simp only [w_getf, lg_25, lf_4_21, pm_oF_s, hg_53, pm_oO_s, List.getElem?_cons_succ, List.getElem?_cons_zero, pm_oK_s, true_and]
theorem gf_25_21_57 : pm_WL fqP d 25 pc ((.getfield 21, n) :: r) L (.ref 57 :: S) (mk h) Q = pm_WL fqP d 25 (pc + n) r L (.ref 59 :: S) (mk h) Q := by
  simp only [w_getf, lg_25, lf_4_21, pm_oF_s, hg_57, pm_oO_s, List.getElem?_cons_succ, List.getElem?_cons_zero, pm_oK_s, true_and]
theorem gf_25_24_21 : pm_WL fqP d 25 pc ((.getfield 24, n) :: r) L (.ref 21 :: S) (mk h) Q = pm_WL fqP d 25 (pc + n) r L (.ref 24 :: S) (mk h) Q := by
  simp only [w_getf, lg_25, lf_4_24, pm_oF_s, hg_21, pm_oO_s, List.getElem?_cons_succ, List.getElem?_cons_zero, pm_oK_s, true_and]
theorem gf_25_24_25 : pm_WL fqP d 25 pc ((.getfield 24, n) :: r) L (.ref 25 :: S) (mk h) Q = pm_WL fqP d 25 (pc + n) r L (.ref 28 :: S) (mk h) Q := by
  simp only [w_getf, lg_25, lf_4_24, pm_oF_s, hg_25, pm_oO_s, List.getElem?_cons_succ, List.getElem?_cons_zero, pm_oK_s, true_and]
theorem gf_25_24_29 : pm_WL fqP d 25 pc ((.getfield 24, n) :: r) L (.ref 29 :: S) (mk h) Q = pm_WL fqP d 25 (pc + n) r L (.ref 32 :: S) (mk h) Q := by
  simp only [w_getf, lg_25, lf_4_24, pm_oF_s, hg_29, pm_oO_s, List.getElem?_cons_succ, List.getElem?_cons_zero, pm_oK_s, true_and]
theorem gf_25_24_49 : pm_WL fqP d 25 pc ((.getfield 24, n) :: r) L (.ref 49 :: S) (mk h) Q = pm_WL fqP d 25 (pc + n) r L (.ref 52 :: S) (mk h) Q := by
  simp only [w_getf, lg_25, lf_4_24, pm_oF_s, hg_49, pm_oO_s, List.getElem?_cons_succ, List.getElem?_cons_zero, pm_oK_s, true_and]
theorem gf_25_24_53 : pm_WL fqP d 25 pc ((.getfield 24, n) :: r) L (.ref 53 :: S) (mk h) Q = pm_WL fqP d 25 (pc + n) r L (.ref 56 :: S) (mk h) Q := by
  simp only [w_getf, lg_25, lf_4_24, pm_oF_s, hg_53, pm_oO_s, List.getElem?_cons_succ, List.getElem?_cons_zero, pm_oK_s, true_and]
theorem gf_25_24_57 : pm_WL fqP d 25 pc ((.getfield 24, n) :: r) L (.ref 57 :: S) (mk h) Q = pm_WL fqP d 25 (pc + n) r L (.ref 60 :: S) (mk h) Q := by
  simp only [w_getf, lg_25, lf_4_24, pm_oF_s, hg_57, pm_oO_s, List.getElem?_cons_succ, List.getElem?_cons_zero, pm_oK_s, true_and]
theorem pf_25_27_21 {x : Int32} : pm_WL fqP d 25 pc ((.putfield 27, n) :: r) L (.int x :: .ref 21 :: S) (mk h) Q = pm_WL fqP d 25 (pc + n) r L S (mk (up h 21 [x])) Q := by
  simp only [w_putf, lg_25, lf_4_27, lt_4_3, pm_oF_s, hg_21, pm_oO_s, List.set_cons_succ, List.set_cons_zero, List.length_cons, List.length_nil, pm_fit_i, Nat.reduceAdd, Nat.reduceLT, Nat.zero_add, Nat.lt_add_one, Bool.false_eq_true, false_implies, true_and, and_true, hs_21]
theorem pf_25_27_25 {x : Int32} : pm_WL fqP d 25 pc ((.putfield 27, n) :: r) L (.int x :: .ref 25 :: S) (mk h) Q = pm_WL fqP d 25 (pc + n) r L S (mk (up h 25 [x])) Q := by
  simp only [w_putf, lg_25, lf_4_27, lt_4_3, pm_oF_s, hg_25, pm_oO_s, List.set_cons_succ, List.set_cons_zero, List.length_cons, List.length_nil, pm_fit_i, Nat.reduceAdd, Nat.reduceLT, Nat.zero_add, Nat.lt_add_one, Bool.false_eq_true, false_implies, true_and, and_true, hs_25]
theorem pf_25_27_29 {x : Int32} : pm_WL fqP d 25 pc ((.putfield 27, n) :: r) L (.int x :: .ref 29 :: S) (mk h) Q = pm_WL fqP d 25 (pc + n) r L S (mk (up h 29 [x])) Q := by
  simp only [w_putf, lg_25, lf_4_27, lt_4_3, pm_oF_s, hg_29, pm_oO_s, List.set_cons_succ, List.set_cons_zero, List.length_cons, List.length_nil, pm_fit_i, Nat.reduceAdd, Nat.reduceLT, Nat.zero_add, Nat.lt_add_one, Bool.false_eq_true, false_implies, true_and, and_true, hs_29]
theorem pf_25_27_49 {x : Int32} : pm_WL fqP d 25 pc ((.putfield 27, n) :: r) L (.int x :: .ref 49 :: S) (mk h) Q = pm_WL fqP d 25 (pc + n) r L S (mk (up h 49 [x])) Q := by
  simp only [w_putf, lg_25, lf_4_27, lt_4_3, pm_oF_s, hg_49, pm_oO_s, List.set_cons_succ, List.set_cons_zero, List.length_cons, List.length_nil, pm_fit_i, Nat.reduceAdd, Nat.reduceLT, Nat.zero_add, Nat.lt_add_one, Bool.false_eq_true, false_implies, true_and, and_true, hs_49]
theorem pf_25_27_53 {x : Int32} : pm_WL fqP d 25 pc ((.putfield 27, n) :: r) L (.int x :: .ref 53 :: S) (mk h) Q = pm_WL fqP d 25 (pc + n) r L S (mk (up h 53 [x])) Q := by
  simp only [w_putf, lg_25, lf_4_27, lt_4_3, pm_oF_s, hg_53, pm_oO_s, List.set_cons_succ, List.set_cons_zero, List.length_cons, List.length_nil, pm_fit_i, Nat.reduceAdd, Nat.reduceLT, Nat.zero_add, Nat.lt_add_one, Bool.false_eq_true, false_implies, true_and, and_true, hs_53]
theorem pf_25_27_57 {x : Int32} : pm_WL fqP d 25 pc ((.putfield 27, n) :: r) L (.int x :: .ref 57 :: S) (mk h) Q = pm_WL fqP d 25 (pc + n) r L S (mk (up h 57 [x])) Q := by
  simp only [w_putf, lg_25, lf_4_27, lt_4_3, pm_oF_s, hg_57, pm_oO_s, List.set_cons_succ, List.set_cons_zero, List.length_cons, List.length_nil, pm_fit_i, Nat.reduceAdd, Nat.reduceLT, Nat.zero_add, Nat.lt_add_one, Bool.false_eq_true, false_implies, true_and, and_true, hs_57]
theorem gf_26_27_21 : pm_WL fqP d 26 pc ((.getfield 27, n) :: r) L (.ref 21 :: S) (mk h) Q = pm_WL fqP d 26 (pc + n) r L (.int (gd (h 21) 0) :: S) (mk h) Q := by
  simp only [w_getf, lg_26, lf_4_27, pm_oF_s, hg_21, pm_oO_s, List.getElem?_cons_succ, List.getElem?_cons_zero, pm_oK_s, true_and]
theorem gf_26_27_25 : pm_WL fqP d 26 pc ((.getfield 27, n) :: r) L (.ref 25 :: S) (mk h) Q = pm_WL fqP d 26 (pc + n) r L (.int (gd (h 25) 0) :: S) (mk h) Q := by
  simp only [w_getf, lg_26, lf_4_27, pm_oF_s, hg_25, pm_oO_s, List.getElem?_cons_succ, List.getElem?_cons_zero, pm_oK_s, true_and]
theorem gf_26_27_29 : pm_WL fqP d 26 pc ((.getfield 27, n) :: r) L (.ref 29 :: S) (mk h) Q = pm_WL fqP d 26 (pc + n) r L (.int (gd (h 29) 0) :: S) (mk h) Q := by
  simp only [w_getf, lg_26, lf_4_27, pm_oF_s, hg_29, pm_oO_s, List.getElem?_cons_succ, List.getElem?_cons_zero, pm_oK_s, true_and]
theorem gf_26_27_49 : pm_WL fqP d 26 pc ((.getfield 27, n) :: r) L (.ref 49 :: S) (mk h) Q = pm_WL fqP d 26 (pc + n) r L (.int (gd (h 49) 0) :: S) (mk h) Q := by
  simp only [w_getf, lg_26, lf_4_27, pm_oF_s, hg_49, pm_oO_s, List.getElem?_cons_succ, List.getElem?_cons_zero, pm_oK_s, true_and]
theorem gf_26_27_53 : pm_WL fqP d 26 pc ((.getfield 27, n) :: r) L (.ref 53 :: S) (mk h) Q = pm_WL fqP d 26 (pc + n) r L (.int (gd (h 53) 0) :: S) (mk h) Q := by
  simp only [w_getf, lg_26, lf_4_27, pm_oF_s, hg_53, pm_oO_s, List.getElem?_cons_succ, List.getElem?_cons_zero, pm_oK_s, true_and]
theorem gf_26_27_57 : pm_WL fqP d 26 pc ((.getfield 27, n) :: r) L (.ref 57 :: S) (mk h) Q = pm_WL fqP d 26 (pc + n) r L (.int (gd (h 57) 0) :: S) (mk h) Q := by
  simp only [w_getf, lg_26, lf_4_27, pm_oF_s, hg_57, pm_oO_s, List.getElem?_cons_succ, List.getElem?_cons_zero, pm_oK_s, true_and]
theorem gf_26_21_21 : pm_WL fqP d 26 pc ((.getfield 21, n) :: r) L (.ref 21 :: S) (mk h) Q = pm_WL fqP d 26 (pc + n) r L (.ref 23 :: S) (mk h) Q := by
  simp only [w_getf, lg_26, lf_4_21, pm_oF_s, hg_21, pm_oO_s, List.getElem?_cons_succ, List.getElem?_cons_zero, pm_oK_s, true_and]
theorem gf_26_21_25 : pm_WL fqP d 26 pc ((.getfield 21, n) :: r) L (.ref 25 :: S) (mk h) Q = pm_WL fqP d 26 (pc + n) r L (.ref 27 :: S) (mk h) Q := by
  simp only [w_getf, lg_26, lf_4_21, pm_oF_s, hg_25, pm_oO_s, List.getElem?_cons_succ, List.getElem?_cons_zero, pm_oK_s, true_and]
theorem gf_26_21_29 : pm_WL fqP d 26 pc ((.getfield 21, n) :: r) L (.ref 29 :: S) (mk h) Q = pm_WL fqP d 26 (pc + n) r L (.ref 31 :: S) (mk h) Q := by
  simp only [w_getf, lg_26, lf_4_21, pm_oF_s, hg_29, pm_oO_s, List.getElem?_cons_succ, List.getElem?_cons_zero, pm_oK_s, true_and]
theorem gf_26_21_49 : pm_WL fqP d 26 pc ((.getfield 21, n) :: r) L (.ref 49 :: S) (mk h) Q = pm_WL fqP d 26 (pc + n) r L (.ref 51 :: S) (mk h) Q := by
  simp only [w_getf, lg_26, lf_4_21, pm_oF_s, hg_49, pm_oO_s, List.getElem?_cons_succ, List.getElem?_cons_zero, pm_oK_s, true_and]
theorem gf_26_21_53 : pm_WL fqP d 26 pc ((.getfield 21, n) :: r) L (.ref 53 :: S) (mk h) Q = pm_WL fqP d 26 (pc + n) r L (.ref 55 :: S) (mk h) Q := by
  simp only [w_getf, lg_26, lf_4_21, pm_oF_s, hg_53, pm_oO_s, List.getElem?_cons_succ, List.getElem?_cons_zero, pm_oK_s, true_and]
theorem gf_26_21_57 : pm_WL fqP d 26 pc ((.getfield 21, n) :: r) L (.ref 57 :: S) (mk h) Q = pm_WL fqP d 26 (pc + n) r L (.ref 59 :: S) (mk h) Q := by
  simp only [w_getf, lg_26, lf_4_21, pm_oF_s, hg_57, pm_oO_s, List.getElem?_cons_succ, List.getElem?_cons_zero, pm_oK_s, true_and]
theorem iv_26_35 {x0 : Nat} {x1 : Int32} : pm_WL fqP d 26 pc ((.invokestatic 35, n) :: r) L (.int x1 :: .ref x0 :: S) σ Q = (pm_okW 8 S = true ∧ pm_WC fqP d 91 [.ref x0, .int x1] σ (pm_kk fqP d 26 (pc + n) r L S Q)) := by
  show _ = (pm_okW 8 S = true ∧ pm_WC fqP d 91 [.ref x0, .int x1] σ (fun v σ' => pm_WL fqP d 26 (pc + n) r L (pm_pu v S) σ' Q))
  simp only [w_invs, lg_26, lm_4_35, pm_oM_s, pm_oP_s, pm_pop_0, pm_pop_s, pm_ref1_is, Nat.reduceEqDiff, Nat.zero_ne_one, Nat.succ_ne_self, true_or, or_true, or_false, false_or, or_self, false_implies, true_implies, implies_true, true_and]
theorem iv_26_9 {x0 : Int32} {x1 : Int32} : pm_WL fqP d 26 pc ((.invokestatic 9, n) :: r) L (.int x1 :: .int x0 :: S) σ Q = (pm_okW 8 S = true ∧ pm_WC fqP d 904 [.int x0, .int x1] σ (pm_kk fqP d 26 (pc + n) r L S Q)) := by
  show _ = (pm_okW 8 S = true ∧ pm_WC fqP d 904 [.int x0, .int x1] σ (fun v σ' => pm_WL fqP d 26 (pc + n) r L (pm_pu v S) σ' Q))
  simp only [w_invs, lg_26, lm_4_9, pm_oM_s, pm_oP_s, pm_pop_0, pm_pop_s, pm_ref1_is, Nat.reduceEqDiff, Nat.zero_ne_one, Nat.succ_ne_self, true_or, or_true, or_false, false_or, or_self, false_implies, true_implies, implies_true, true_and]
theorem gf_27_15_21 : pm_WL fqP d 27 pc ((.getfield 15, n) :: r) L (.ref 21 :: S) (mk h) Q = pm_WL fqP d 27 (pc + n) r L (.ref 22 :: S) (mk h) Q := by
  simp only [w_getf, lg_27, lf_4_15, pm_oF_s, hg_21, pm_oO_s, List.getElem?_cons_succ, List.getElem?_cons_zero, pm_oK_s, true_and]
theorem gf_27_15_25 : pm_WL fqP d 27 pc ((.getfield 15, n) :: r) L (.ref 25 :: S) (mk h) Q = pm_WL fqP d 27 (pc + n) r L (.ref 26 :: S) (mk h) Q := by
  simp only [w_getf, lg_27, lf_4_15, pm_oF_s, hg_25, pm_oO_s, List.getElem?_cons_succ, List.getElem?_cons_zero, pm_oK_s, true_and]
theorem gf_27_15_29 : pm_WL fqP d 27 pc ((.getfield 15, n) :: r) L (.ref 29 :: S) (mk h) Q = pm_WL fqP d 27 (pc + n) r L (.ref 30 :: S) (mk h) Q := by
  simp only [w_getf, lg_27, lf_4_15, pm_oF_s, hg_29, pm_oO_s, List.getElem?_cons_succ, List.getElem?_cons_zero, pm_oK_s, true_and]
theorem gf_27_15_49 : pm_WL fqP d 27 pc ((.getfield 15, n) :: r) L (.ref 49 :: S) (mk h) Q = pm_WL fqP d 27 (pc + n) r L (.ref 50 :: S) (mk h) Q := by
  simp only [w_getf, lg_27, lf_4_15, pm_oF_s, hg_49, pm_oO_s, List.getElem?_cons_succ, List.getElem?_cons_zero, pm_oK_s, true_and]
theorem gf_27_15_53 : pm_WL fqP d 27 pc ((.getfield 15, n) :: r) L (.ref 53 :: S) (mk h) Q = pm_WL fqP d 27 (pc + n) r L (.ref 54 :: S) (mk h) Q := by
  simp only [w_getf, lg_27, lf_4_15, pm_oF_s, hg_53, pm_oO_s, List.getElem?_cons_succ, List.getElem?_cons_zero, pm_oK_s, true_and]
theorem gf_27_15_57 : pm_WL fqP d 27 pc ((.getfield 15, n) :: r) L (.ref 57 :: S) (mk h) Q = pm_WL fqP d 27 (pc + n) r L (.ref 58 :: S) (mk h) Q := by
  simp only [w_getf, lg_27, lf_4_15, pm_oF_s, hg_57, pm_oO_s, List.getElem?_cons_succ, List.getElem?_cons_zero, pm_oK_s, true_and]
theorem iv_27_39 {x0 : Nat} {x1 : Nat} : pm_WL fqP d 27 pc ((.invokestatic 39, n) :: r) L (.ref x1 :: .ref x0 :: S) σ Q = (pm_okW 8 S = true ∧ pm_WC fqP d 94 [.ref x0, .ref x1] σ (pm_kk fqP d 27 (pc + n) r L S Q)) := by
  show _ = (pm_okW 8 S = true ∧ pm_WC fqP d 94 [.ref x0, .ref x1] σ (fun v σ' => pm_WL fqP d 27 (pc + n) r L (pm_pu v S) σ' Q))
  simp only [w_invs, lg_27, lm_4_39, pm_oM_s, pm_oP_s, pm_pop_0, pm_pop_s, pm_ref1_is, Nat.reduceEqDiff, Nat.zero_ne_one, Nat.succ_ne_self, true_or, or_true, or_false, false_or, or_self, false_implies, true_implies, implies_true, true_and]
theorem gf_27_21_21 : pm_WL fqP d 27 pc ((.getfield 21, n) :: r) L (.ref 21 :: S) (mk h) Q = pm_WL fqP d 27 (pc + n) r L (.ref 23 :: S) (mk h) Q := by
  simp only [w_getf, lg_27, lf_4_21, pm_oF_s, hg_21, pm_oO_s, List.getElem?_cons_succ, List.getElem?_cons_zero, pm_oK_s, true_and]
theorem gf_27_21_25 : pm_WL fqP d 27 pc ((.getfield 21, n) :: r) L (.ref 25 :: S) (mk h) Q = pm_WL fqP d 27 (pc + n) r L (.ref 27 :: S) (mk h) Q := by
  simp only [w_getf, lg_27, lf_4_21, pm_oF_s, hg_25, pm_oO_s, List.getElem?_cons_succ, List.getElem?_cons_zero, pm_oK_s, true_and]
theorem gf_27_21_29 : pm_WL fqP d 27 pc ((.getfield 21, n) :: r) L (.ref 29 :: S) (mk h) Q = pm_WL fqP d 27 (pc + n) r L (.ref 31 :: S) (mk h) Q := by
  simp only [w_getf, lg_27, lf_4_21, pm_oF_s, hg_29, pm_oO_s, List.getElem?_cons_succ, List.getElem?_cons_zero, pm_oK_s, true_and]
theorem gf_27_21_49 : pm_WL fqP d 27 pc ((.getfield 21, n) :: r) L (.ref 49 :: S) (mk h) Q = pm_WL fqP d 27 (pc + n) r L (.ref 51 :: S) (mk h) Q := by
  simp only [w_getf, lg_27, lf_4_21, pm_oF_s, hg_49, pm_oO_s, List.getElem?_cons_succ, List.getElem?_cons_zero, pm_oK_s, true_and]
theorem gf_27_21_53 : pm_WL fqP d 27 pc ((.getfield 21, n) :: r) L (.ref 53 :: S) (mk h) Q = pm_WL fqP d 27 (pc + n) r L (.ref 55 :: S) (mk h) Q := by
  simp only [w_getf, lg_27, lf_4_21, pm_oF_s, hg_53, pm_oO_s, List.getElem?_cons_succ, List.getElem?_cons_zero, pm_oK_s, true_and]
theorem gf_27_21_57 : pm_WL fqP d 27 pc ((.getfield 21, n) :: r) L (.ref 57 :: S) (mk h) Q = pm_WL fqP d 27 (pc + n) r L (.ref 59 :: S) (mk h) Q := by
  simp only [w_getf, lg_27, lf_4_21, pm_oF_s, hg_57, pm_oO_s, List.getElem?_cons_succ, List.getElem?_cons_zero, pm_oK_s, true_and]
theorem gf_27_24_21 : pm_WL fqP d 27 pc ((.getfield 24, n) :: r) L (.ref 21 :: S) (mk h) Q = pm_WL fqP d 27 (pc + n) r L (.ref 24 :: S) (mk h) Q := by
  simp only [w_getf, lg_27, lf_4_24, pm_oF_s, hg_21, pm_oO_s, List.getElem?_cons_succ, List.getElem?_cons_zero, pm_oK_s, true_and]
theorem gf_27_24_25 : pm_WL fqP d 27 pc ((.getfield 24, n) :: r) L (.ref 25 :: S) (mk h) Q = pm_WL fqP d 27 (pc + n) r L (.ref 28 :: S) (mk h) Q := by
  simp only [w_getf, lg_27, lf_4_24, pm_oF_s, hg_25, pm_oO_s, List.getElem?_cons_succ, List.getElem?_cons_zero, pm_oK_s, true_and]
theorem gf_27_24_29 : pm_WL fqP d 27 pc ((.getfield 24, n) :: r) L (.ref 29 :: S) (mk h) Q = pm_WL fqP d 27 (pc + n) r L (.ref 32 :: S) (mk h) Q := by
  simp only [w_getf, lg_27, lf_4_24, pm_oF_s, hg_29, pm_oO_s, List.getElem?_cons_succ, List.getElem?_cons_zero, pm_oK_s, true_and]
theorem gf_27_24_49 : pm_WL fqP d 27 pc ((.getfield 24, n) :: r) L (.ref 49 :: S) (mk h) Q = pm_WL fqP d 27 (pc + n) r L (.ref 52 :: S) (mk h) Q := by
  simp only [w_getf, lg_27, lf_4_24, pm_oF_s, hg_49, pm_oO_s, List.getElem?_cons_succ, List.getElem?_cons_zero, pm_oK_s, true_and]
theorem gf_27_24_53 : pm_WL fqP d 27 pc ((.getfield 24, n) :: r) L (.ref 53 :: S) (mk h) Q = pm_WL fqP d 27 (pc + n) r L (.ref 56 :: S) (mk h) Q := by
  simp only [w_getf, lg_27, lf_4_24, pm_oF_s, hg_53, pm_oO_s, List.getElem?_cons_succ, List.getElem?_cons_zero, pm_oK_s, true_and]
theorem gf_27_24_57 : pm_WL fqP d 27 pc ((.getfield 24, n) :: r) L (.ref 57 :: S) (mk h) Q = pm_WL fqP d 27 (pc + n) r L (.ref 60 :: S) (mk h) Q := by
  simp only [w_getf, lg_27, lf_4_24, pm_oF_s, hg_57, pm_oO_s, List.getElem?_cons_succ, List.getElem?_cons_zero, pm_oK_s, true_and]
theorem gf_27_27_21 : pm_WL fqP d 27 pc ((.getfield 27, n) :: r) L (.ref 21 :: S) (mk h) Q = pm_WL fqP d 27 (pc + n) r L (.int (gd (h 21) 0) :: S) (mk h) Q := by
  simp only [w_getf, lg_27, lf_4_27, pm_oF_s, hg_21, pm_oO_s, List.getElem?_cons_succ, List.getElem?_cons_zero, pm_oK_s, true_and]
theorem gf_27_27_25 : pm_WL fqP d 27 pc ((.getfield 27, n) :: r) L (.ref 25 :: S) (mk h) Q = pm_WL fqP d 27 (pc + n) r L (.int (gd (h 25) 0) :: S) (mk h) Q := by
  simp only [w_getf, lg_27, lf_4_27, pm_oF_s, hg_25, pm_oO_s, List.getElem?_cons_succ, List.getElem?_cons_zero, pm_oK_s, true_and]
theorem gf_27_27_29 : pm_WL fqP d 27 pc ((.getfield 27, n) :: r) L (.ref 29 :: S) (mk h) Q = pm_WL fqP d 27 (pc + n) r L (.int (gd (h 29) 0) :: S) (mk h) Q := by
  simp only [w_getf, lg_27, lf_4_27, pm_oF_s, hg_29, pm_oO_s, List.getElem?_cons_succ, List.getElem?_cons_zero, pm_oK_s, true_and]
theorem gf_27_27_49 : pm_WL fqP d 27 pc ((.getfield 27, n) :: r) L (.ref 49 :: S) (mk h) Q = pm_WL fqP d 27 (pc + n) r L (.int (gd (h 49) 0) :: S) (mk h) Q := by
  simp only [w_getf, lg_27, lf_4_27, pm_oF_s, hg_49, pm_oO_s, List.getElem?_cons_succ, List.getElem?_cons_zero, pm_oK_s, true_and]
theorem gf_27_27_53 : pm_WL fqP d 27 pc ((.getfield 27, n) :: r) L (.ref 53 :: S) (mk h) Q = pm_WL fqP d 27 (pc + n) r L (.int (gd (h 53) 0) :: S) (mk h) Q := by
  simp only [w_getf, lg_27, lf_4_27, pm_oF_s, hg_53, pm_oO_s, List.getElem?_cons_succ, List.getElem?_cons_zero, pm_oK_s, true_and]
theorem gf_27_27_57 : pm_WL fqP d 27 pc ((.getfield 27, n) :: r) L (.ref 57 :: S) (mk h) Q = pm_WL fqP d 27 (pc + n) r L (.int (gd (h 57) 0) :: S) (mk h) Q := by
  simp only [w_getf, lg_27, lf_4_27, pm_oF_s, hg_57, pm_oO_s, List.getElem?_cons_succ, List.getElem?_cons_zero, pm_oK_s, true_and]
theorem pf_27_27_21 {x : Int32} : pm_WL fqP d 27 pc ((.putfield 27, n) :: r) L (.int x :: .ref 21 :: S) (mk h) Q = pm_WL fqP d 27 (pc + n) r L S (mk (up h 21 [x])) Q := by
  simp only [w_putf, lg_27, lf_4_27, lt_4_3, pm_oF_s, hg_21, pm_oO_s, List.set_cons_succ, List.set_cons_zero, List.length_cons, List.length_nil, pm_fit_i, Nat.reduceAdd, Nat.reduceLT, Nat.zero_add, Nat.lt_add_one, Bool.false_eq_true, false_implies, true_and, and_true, hs_21]
theorem pf_27_27_25 {x : Int32} : pm_WL fqP d 27 pc ((.putfield 27, n) :: r) L (.int x :: .ref 25 :: S) (mk h) Q = pm_WL fqP d 27 (pc + n) r L S (mk (up h 25 [x])) Q := by
  simp only [w_putf, lg_27, lf_4_27, lt_4_3, pm_oF_s, hg_25, pm_oO_s, List.set_cons_succ, List.set_cons_zero, List.length_cons, List.length_nil, pm_fit_i, Nat.reduceAdd, Nat.reduceLT, Nat.zero_add, Nat.lt_add_one, Bool.false_eq_true, false_implies, true_and, and_true, hs_25]
theorem pf_27_27_29 {x : Int32} : pm_WL fqP d 27 pc ((.putfield 27, n) :: r) L (.int x :: .ref 29 :: S) (mk h) Q = pm_WL fqP d 27 (pc + n) r L S (mk (up h 29 [x])) Q := by
  simp only [w_putf, lg_27, lf_4_27, lt_4_3, pm_oF_s, hg_29, pm_oO_s, List.set_cons_succ, List.set_cons_zero, List.length_cons, List.length_nil, pm_fit_i, Nat.reduceAdd, Nat.reduceLT, Nat.zero_add, Nat.lt_add_one, Bool.false_eq_true, false_implies, true_and, and_true, hs_29]
theorem pf_27_27_49 {x : Int32} : pm_WL fqP d 27 pc ((.putfield 27, n) :: r) L (.int x :: .ref 49 :: S) (mk h) Q = pm_WL fqP d 27 (pc + n) r L S (mk (up h 49 [x])) Q := by
  simp only [w_putf, lg_27, lf_4_27, lt_4_3, pm_oF_s, hg_49, pm_oO_s, List.set_cons_succ, List.set_cons_zero, List.length_cons, List.length_nil, pm_fit_i, Nat.reduceAdd, Nat.reduceLT, Nat.zero_add, Nat.lt_add_one, Bool.false_eq_true, false_implies, true_and, and_true, hs_49]
theorem pf_27_27_53 {x : Int32} : pm_WL fqP d 27 pc ((.putfield 27, n) :: r) L (.int x :: .ref 53 :: S) (mk h) Q = pm_WL fqP d 27 (pc + n) r L S (mk (up h 53 [x])) Q := by
  simp only [w_putf, lg_27, lf_4_27, lt_4_3, pm_oF_s, hg_53, pm_oO_s, List.set_cons_succ, List.set_cons_zero, List.length_cons, List.length_nil, pm_fit_i, Nat.reduceAdd, Nat.reduceLT, Nat.zero_add, Nat.lt_add_one, Bool.false_eq_true, false_implies, true_and, and_true, hs_53]
theorem pf_27_27_57 {x : Int32} : pm_WL fqP d 27 pc ((.putfield 27, n) :: r) L (.int x :: .ref 57 :: S) (mk h) Q = pm_WL fqP d 27 (pc + n) r L S (mk (up h 57 [x])) Q := by
  simp only [w_putf, lg_27, lf_4_27, lt_4_3, pm_oF_s, hg_57, pm_oO_s, List.set_cons_succ, List.set_cons_zero, List.length_cons, List.length_nil, pm_fit_i, Nat.reduceAdd, Nat.reduceLT, Nat.zero_add, Nat.lt_add_one, Bool.false_eq_true, false_implies, true_and, and_true, hs_57]
theorem gf_29_35_6 : pm_WL fqP d 29 pc ((.getfield 35, n) :: r) L (.ref 6 :: S) (mk h) Q = pm_WL fqP d 29 (pc + n) r L (.int (gd (h 6) 0) :: S) (mk h) Q := by
  simp only [w_getf, lg_29, lf_5_35, pm_oF_s, hg_6, pm_oO_s, List.getElem?_cons_succ, List.getElem?_cons_zero, pm_oK_s, true_and]
theorem gf_29_35_34 : pm_WL fqP d 29 pc ((.getfield 35, n) :: r) L (.ref 34 :: S) (mk h) Q = pm_WL fqP d 29 (pc + n) r L (.int (gd (h 34) 0) :: S) (mk h) Q := by
  simp only [w_getf, lg_29, lf_5_35, pm_oF_s, hg_34, pm_oO_s, List.getElem?_cons_succ, List.getElem?_cons_zero, pm_oK_s, true_and]
theorem gf_29_35_61 : pm_WL fqP d 29 pc ((.getfield 35, n) :: r) L (.ref 61 :: S) (mk h) Q = pm_WL fqP d 29 (pc + n) r L (.int (gd (h 61) 0) :: S) (mk h) Q := by
  simp only [w_getf, lg_29, lf_5_35, pm_oF_s, hg_61, pm_oO_s, List.getElem?_cons_succ, List.getElem?_cons_zero, pm_oK_s, true_and]
theorem gf_29_29_6 : pm_WL fqP d 29 pc ((.getfield 29, n) :: r) L (.ref 6 :: S) (mk h) Q = pm_WL fqP d 29 (pc + n) r L (.ref 18 :: S) (mk h) Q := by
  simp only [w_getf, lg_29, lf_5_29, pm_oF_s, hg_6, pm_oO_s, List.getElem?_cons_succ, List.getElem?_cons_zero, pm_oK_s, true_and]
theorem gf_29_29_34 : pm_WL fqP d 29 pc ((.getfield 29, n) :: r) L (.ref 34 :: S) (mk h) Q = pm_WL fqP d 29 (pc + n) r L (.ref 46 :: S) (mk h) Q := by
  simp only [w_getf, lg_29, lf_5_29, pm_oF_s, hg_34, pm_oO_s, List.getElem?_cons_succ, List.getElem?_cons_zero, pm_oK_s, true_and]
theorem gf_29_29_61 : pm_WL fqP d 29 pc ((.getfield 29, n) :: r) L (.ref 61 :: S) (mk h) Q = pm_WL fqP d 29 (pc + n) r L (.ref 73 :: S) (mk h) Q := by
  simp only [w_getf, lg_29, lf_5_29, pm_oF_s, hg_61, pm_oO_s, List.getElem?_cons_succ, List.getElem?_cons_zero, pm_oK_s, true_and]
theorem iv_29_39 {x0 : Nat} {x1 : Int32} : pm_WL fqP d 29 pc ((.invokestatic 39, n) :: r) L (.int x1 :: .ref x0 :: S) σ Q = (pm_okW 8 S = true ∧ pm_WC fqP d 91 [.ref x0, .int x1] σ (pm_kk fqP d 29 (pc + n) r L S Q)) := by
  show _ = (pm_okW 8 S = true ∧ pm_WC fqP d 91 [.ref x0, .int x1] σ (fun v σ' => pm_WL fqP d 29 (pc + n) r L (pm_pu v S) σ' Q))
  simp only [w_invs, lg_29, lm_5_39, pm_oM_s, pm_oP_s, pm_pop_0, pm_pop_s, pm_ref1_is, Nat.reduceEqDiff, Nat.zero_ne_one, Nat.succ_ne_self, true_or, or_true, or_false, false_or, or_self, false_implies, true_implies, implies_true, true_and]
theorem gf_30_25_6 : pm_WL fqP d 30 pc ((.getfield 25, n) :: r) L (.ref 6 :: S) (mk h) Q = pm_WL fqP d 30 (pc + n) r L (.ref 17 :: S) (mk h) Q := by
  simp only [w_getf, lg_30, lf_5_25, pm_oF_s, hg_6, pm_oO_s, List.getElem?_cons_succ, List.getElem?_cons_zero, pm_oK_s, true_and]
theorem gf_30_25_34 : pm_WL fqP d 30 pc ((.getfield 25, n) :: r) L (.ref 34 :: S) (mk h) Q = pm_WL fqP d 30 (pc + n) r L (.ref 45 :: S) (mk h) Q := by
  simp only [w_getf, lg_30, lf_5_25, pm_oF_s, hg_34, pm_oO_s, List.getElem?_cons_succ, List.getElem?_cons_zero, pm_oK_s, true_and]
theorem gf_30_25_61 : pm_WL fqP d 30 pc ((.getfield 25, n) :: r) L (.ref 61 :: S) (mk h) Q = pm_WL fqP d 30 (pc + n) r L (.ref 72 :: S) (mk h) Q := by
  simp only [w_getf, lg_30, lf_5_25, pm_oF_s, hg_61, pm_oO_s, List.getElem?_cons_succ, List.getElem?_cons_zero, pm_oK_s, true_and]
theorem gf_30_43_6 : pm_WL fqP d 30 pc ((.getfield 43, n) :: r) L (.ref 6 :: S) (mk h) Q = pm_WL fqP d 30 (pc + n) r L (.int (gd (h 6) 2) :: S) (mk h) Q := by
  simp only [w_getf, lg_30, lf_5_43, pm_oF_s, hg_6, pm_oO_s, List.getElem?_cons_succ, List.getElem?_cons_zero, pm_oK_s, true_and]
theorem gf_30_43_34 : pm_WL fqP d 30 pc ((.getfield 43, n) :: r) L (.ref 34 :: S) (mk h) Q = pm_WL fqP d 30 (pc + n) r L (.int (gd (h 34) 2) :: S) (mk h) Q := by
  simp only [w_getf, lg_30, lf_5_43, pm_oF_s, hg_34, pm_oO_s, List.getElem?_cons_succ, List.getElem?_cons_zero, pm_oK_s, true_and]
theorem gf_30_43_61 : pm_WL fqP d 30 pc ((.getfield 43, n) :: r) L (.ref 61 :: S) (mk h) Q = pm_WL fqP d 30 (pc + n) r L (.int (gd (h 61) 2) :: S) (mk h) Q := by
  simp only [w_getf, lg_30, lf_5_43, pm_oF_s, hg_61, pm_oO_s, List.getElem?_cons_succ, List.getElem?_cons_zero, pm_oK_s, true_and]
theorem iv_30_39 {x0 : Nat} {x1 : Int32} : pm_WL fqP d 30 pc ((.invokestatic 39, n) :: r) L (.int x1 :: .ref x0 :: S) σ Q = (pm_okW 8 S = true ∧ pm_WC fqP d 91 [.ref x0, .int x1] σ (pm_kk fqP d 30 (pc + n) r L S Q)) := by
  show _ = (pm_okW 8 S = true ∧ pm_WC fqP d 91 [.ref x0, .int x1] σ (fun v σ' => pm_WL fqP d 30 (pc + n) r L (pm_pu v S) σ' Q))
  simp only [w_invs, lg_30, lm_5_39, pm_oM_s, pm_oP_s, pm_pop_0, pm_pop_s, pm_ref1_is, Nat.reduceEqDiff, Nat.zero_ne_one, Nat.succ_ne_self, true_or, or_true, or_false, false_or, or_self, false_implies, true_implies, implies_true, true_and]
theorem gf_30_46_6 : pm_WL fqP d 30 pc ((.getfield 46, n) :: r) L (.ref 6 :: S) (mk h) Q = pm_WL fqP d 30 (pc + n) r L (.int (gd (h 6) 1) :: S) (mk h) Q := by
  simp only [w_getf, lg_30, lf_5_46, pm_oF_s, hg_6, pm_oO_s, List.getElem?_cons_succ, List.getElem?_cons_zero, pm_oK_s, true_and]
theorem gf_30_46_34 : pm_WL fqP d 30 pc ((.getfield 46, n) :: r) L (.ref 34 :: S) (mk h) Q = pm_WL fqP d 30 (pc + n) r L (.int (gd (h 34) 1) :: S) (mk h) Q := by
  simp only [w_getf, lg_30, lf_5_46, pm_oF_s, hg_34, pm_oO_s, List.getElem?_cons_succ, List.getElem?_cons_zero, pm_oK_s, true_and]
theorem gf_30_46_61 : pm_WL fqP d 30 pc ((.getfield 46, n) :: r) L (.ref 61 :: S) (mk h) Q = pm_WL fqP d 30 (pc + n) r L (.int (gd (h 61) 1) :: S) (mk h) Q := by
  simp only [w_getf, lg_30, lf_5_46, pm_oF_s, hg_61, pm_oO_s, List.getElem?_cons_succ, List.getElem?_cons_zero, pm_oK_s, true_and]
theorem iv_30_49 {x0 : Int32} {x1 : Int32} : pm_WL fqP d 30 pc ((.invokestatic 49, n) :: r) L (.int x1 :: .int x0 :: S) σ Q = (pm_okW 8 S = true ∧ pm_WC fqP d 95 [.int x0, .int x1] σ (pm_kk fqP d 30 (pc + n) r L S Q)) := by
  show _ = (pm_okW 8 S = true ∧ pm_WC fqP d 95 [.int x0, .int x1] σ (fun v σ' => pm_WL fqP d 30 (pc + n) r L (pm_pu v S) σ' Q))
  simp only [w_invs, lg_30, lm_5_49, pm_oM_s, pm_oP_s, pm_pop_0, pm_pop_s, pm_ref1_is, Nat.reduceEqDiff, Nat.zero_ne_one, Nat.succ_ne_self, true_or, or_true, or_false, false_or, or_self, false_implies, true_implies, implies_true, true_and]
theorem gf_30_21_6 : pm_WL fqP d 30 pc ((.getfield 21, n) :: r) L (.ref 6 :: S) (mk h) Q = pm_WL fqP d 30 (pc + n) r L (.ref 11 :: S) (mk h) Q := by
  simp only [w_getf, lg_30, lf_5_21, pm_oF_s, hg_6, pm_oO_s, List.getElem?_cons_succ, List.getElem?_cons_zero, pm_oK_s, true_and]
theorem gf_30_21_34 : pm_WL fqP d 30 pc ((.getfield 21, n) :: r) L (.ref 34 :: S) (mk h) Q = pm_WL fqP d 30 (pc + n) r L (.ref 39 :: S) (mk h) Q := by
  simp only [w_getf, lg_30, lf_5_21, pm_oF_s, hg_34, pm_oO_s, List.getElem?_cons_succ, List.getElem?_cons_zero, pm_oK_s, true_and]
theorem gf_30_21_61 : pm_WL fqP d 30 pc ((.getfield 21, n) :: r) L (.ref 61 :: S) (mk h) Q = pm_WL fqP d 30 (pc + n) r L (.ref 66 :: S) (mk h) Q := by
  simp only [w_getf, lg_30, lf_5_21, pm_oF_s, hg_61, pm_oO_s, List.getElem?_cons_succ, List.getElem?_cons_zero, pm_oK_s, true_and]
theorem gf_30_53_11 : pm_WL fqP d 30 pc ((.getfield 53, n) :: r) L (.ref 11 :: S) (mk h) Q = pm_WL fqP d 30 (pc + n) r L (.int (gd (h 11) 1) :: S) (mk h) Q := by
  simp only [w_getf, lg_30, lf_5_53, pm_oF_s, hg_11, pm_oO_s, List.getElem?_cons_succ, List.getElem?_cons_zero, pm_oK_s, true_and]
theorem gf_30_53_39 : pm_WL fqP d 30 pc ((.getfield 53, n) :: r) L (.ref 39 :: S) (mk h) Q = pm_WL fqP d 30 (pc + n) r L (.int (gd (h 39) 1) :: S) (mk h) Q := by
  simp only [w_getf, lg_30, lf_5_53, pm_oF_s, hg_39, pm_oO_s, List.getElem?_cons_succ, List.getElem?_cons_zero, pm_oK_s, true_and]
theorem gf_30_53_66 : pm_WL fqP d 30 pc ((.getfield 53, n) :: r) L (.ref 66 :: S) (mk h) Q = pm_WL fqP d 30 (pc + n) r L (.int (gd (h 66) 1) :: S) (mk h) Q := by
  simp only [w_getf, lg_30, lf_5_53, pm_oF_s, hg_66, pm_oO_s, List.getElem?_cons_succ, List.getElem?_cons_zero, pm_oK_s, true_and]
theorem gf_30_56_11 : pm_WL fqP d 30 pc ((.getfield 56, n) :: r) L (.ref 11 :: S) (mk h) Q = pm_WL fqP d 30 (pc + n) r L (.int (gd (h 11) 0) :: S) (mk h) Q := by
  simp only [w_getf, lg_30, lf_5_56, pm_oF_s, hg_11, pm_oO_s, List.getElem?_cons_succ, List.getElem?_cons_zero, pm_oK_s, true_and]
theorem gf_30_56_39 : pm_WL fqP d 30 pc ((.getfield 56, n) :: r) L (.ref 39 :: S) (mk h) Q = pm_WL fqP d 30 (pc + n) r L (.int (gd (h 39) 0) :: S) (mk h) Q := by
  simp only [w_getf, lg_30, lf_5_56, pm_oF_s, hg_39, pm_oO_s, List.getElem?_cons_succ, List.getElem?_cons_zero, pm_oK_s, true_and]
theorem gf_30_56_66 : pm_WL fqP d 30 pc ((.getfield 56, n) :: r) L (.ref 66 :: S) (mk h) Q = pm_WL fqP d 30 (pc + n) r L (.int (gd (h 66) 0) :: S) (mk h) Q := by
  simp only [w_getf, lg_30, lf_5_56, pm_oF_s, hg_66, pm_oO_s, List.getElem?_cons_succ, List.getElem?_cons_zero, pm_oK_s, true_and]
theorem gf_30_59_11 : pm_WL fqP d 30 pc ((.getfield 59, n) :: r) L (.ref 11 :: S) (mk h) Q = pm_WL fqP d 30 (pc + n) r L (.ref 15 :: S) (mk h) Q := by
  simp only [w_getf, lg_30, lf_5_59, pm_oF_s, hg_11, pm_oO_s, List.getElem?_cons_succ, List.getElem?_cons_zero, pm_oK_s, true_and]
theorem gf_30_59_39 : pm_WL fqP d 30 pc ((.getfield 59, n) :: r) L (.ref 39 :: S) (mk h) Q = pm_WL fqP d 30 (pc + n) r L (.ref 43 :: S) (mk h) Q := by
  simp only [w_getf, lg_30, lf_5_59, pm_oF_s, hg_39, pm_oO_s, List.getElem?_cons_succ, List.getElem?_cons_zero, pm_oK_s, true_and]
theorem gf_30_59_66 : pm_WL fqP d 30 pc ((.getfield 59, n) :: r) L (.ref 66 :: S) (mk h) Q = pm_WL fqP d 30 (pc + n) r L (.ref 70 :: S) (mk h) Q := by
  simp only [w_getf, lg_30, lf_5_59, pm_oF_s, hg_66, pm_oO_s, List.getElem?_cons_succ, List.getElem?_cons_zero, pm_oK_s, true_and]
theorem iv_30_62 {x0 : Int32} {x1 : Int32} {x2 : Int32} : pm_WL fqP d 30 pc ((.invokestatic 62, n) :: r) L (.int x2 :: .int x1 :: .int x0 :: S) σ Q = (pm_okW 8 S = true ∧ pm_WC fqP d 96 [.int x0, .int x1, .int x2] σ (pm_kk fqP d 30 (pc + n) r L S Q)) := by
  show _ = (pm_okW 8 S = true ∧ pm_WC fqP d 96 [.int x0, .int x1, .int x2] σ (fun v σ' => pm_WL fqP d 30 (pc + n) r L (pm_pu v S) σ' Q))
  simp only [w_invs, lg_30, lm_5_62, pm_oM_s, pm_oP_s, pm_pop_0, pm_pop_s, pm_ref1_is, Nat.reduceEqDiff, Nat.zero_ne_one, Nat.succ_ne_self, true_or, or_true, or_false, false_or, or_self, false_implies, true_implies, implies_true, true_and]
theorem iv_31_66_6 : pm_WL fqP d 31 pc ((.invokevirtual 66, n) :: r) L (.ref 6 :: S) (mk h) Q = (pm_okW 8 S = true ∧ pm_WC fqP d 32 [.ref 6] (mk h) (pm_kk fqP d 31 (pc + n) r L S Q)) := by
  show _ = (pm_okW 8 S = true ∧ pm_WC fqP d 32 [.ref 6] (mk h) (fun v σ' => pm_WL fqP d 31 (pc + n) r L (pm_pu v S) σ' Q))
  simp only [w_invv, lg_31, lm_5_66, pm_oM_s, pm_oP_s, pm_pop_0, pm_pop_s, pm_rcv_is, hg_6, pm_oO_s, pm_ref1_is, Nat.reduceEqDiff, Nat.zero_ne_one, Nat.succ_ne_self, true_or, or_true, or_false, false_or, or_self, false_implies, true_implies, implies_true, true_and]
theorem iv_31_66_34 : pm_WL fqP d 31 pc ((.invokevirtual 66, n) :: r) L (.ref 34 :: S) (mk h) Q = (pm_okW 8 S = true ∧ pm_WC fqP d 32 [.ref 34] (mk h) (pm_kk fqP d 31 (pc + n) r L S Q)) := by
  show _ = (pm_okW 8 S = true ∧ pm_WC fqP d 32 [.ref 34] (mk h) (fun v σ' => pm_WL fqP d 31 (pc + n) r L (pm_pu v S) σ' Q))
  simp only [w_invv, lg_31, lm_5_66, pm_oM_s, pm_oP_s, pm_pop_0, pm_pop_s, pm_rcv_is, hg_34, pm_oO_s, pm_ref1_is, Nat.reduceEqDiff, Nat.zero_ne_one, Nat.succ_ne_self, true_or, or_true, or_false, false_or, or_self, false_implies, true_implies, implies_true, true_and]
theorem iv_31_66_61 : pm_WL fqP d 31 pc ((.invokevirtual 66, n) :: r) L (.ref 61 :: S) (mk h) Q = (pm_okW 8 S = true ∧ pm_WC fqP d 32 [.ref 61] (mk h) (pm_kk fqP d 31 (pc + n) r L S Q)) := by
  show _ = (pm_okW 8 S = true ∧ pm_WC fqP d 32 [.ref 61] (mk h) (fun v σ' => pm_WL fqP d 31 (pc + n) r L (pm_pu v S) σ' Q))
  simp only [w_invv, lg_31, lm_5_66, pm_oM_s, pm_oP_s, pm_pop_0, pm_pop_s, pm_rcv_is, hg_61, pm_oO_s, pm_ref1_is, Nat.reduceEqDiff, Nat.zero_ne_one, Nat.succ_ne_self, true_or, or_true, or_false, false_or, or_self, false_implies, true_implies, implies_true, true_and]
theorem iv_32_69_6 : pm_WL fqP d 32 pc ((.invokevirtual 69, n) :: r) L (.ref 6 :: S) (mk h) Q = (pm_okW 8 S = true ∧ pm_WC fqP d 30 [.ref 6] (mk h) (pm_kk fqP d 32 (pc + n) r L S Q)) := by
  show _ = (pm_okW 8 S = true ∧ pm_WC fqP d 30 [.ref 6] (mk h) (fun v σ' => pm_WL fqP d 32 (pc + n) r L (pm_pu v S) σ' Q))
  simp only [w_invv, lg_32, lm_5_69, pm_oM_s, pm_oP_s, pm_pop_0, pm_pop_s, pm_rcv_is, hg_6, pm_oO_s, pm_ref1_is, Nat.reduceEqDiff, Nat.zero_ne_one, Nat.succ_ne_self, true_or, or_true, or_false, false_or, or_self, false_implies, true_implies, implies_true, true_and]
theorem iv_32_69_34 : pm_WL fqP d 32 pc ((.invokevirtual 69, n) :: r) L (.ref 34 :: S) (mk h) Q = (pm_okW 8 S = true ∧ pm_WC fqP d 30 [.ref 34] (mk h) (pm_kk fqP d 32 (pc + n) r L S Q)) := by
  show _ = (pm_okW 8 S = true ∧ pm_WC fqP d 30 [.ref 34] (mk h) (fun v σ' => pm_WL fqP d 32 (pc + n) r L (pm_pu v S) σ' Q))
  simp only [w_invv, lg_32, lm_5_69, pm_oM_s, pm_oP_s, pm_pop_0, pm_pop_s, pm_rcv_is, hg_34, pm_oO_s, pm_ref1_is, Nat.reduceEqDiff, Nat.zero_ne_one, Nat.succ_ne_self, true_or, or_true, or_false, false_or, or_self, false_implies, true_implies, implies_true, true_and]
theorem iv_32_69_61 : pm_WL fqP d 32 pc ((.invokevirtual 69, n) :: r) L (.ref 61 :: S) (mk h) Q = (pm_okW 8 S = true ∧ pm_WC fqP d 30 [.ref 61] (mk h) (pm_kk fqP d 32 (pc + n) r L S Q)) := by
  show _ = (pm_okW 8 S = true ∧ pm_WC fqP d 30 [.ref 61] (mk h) (fun v σ' => pm_WL fqP d 32 (pc + n) r L (pm_pu v S) σ' Q))
  simp only [w_invv, lg_32, lm_5_69, pm_oM_s, pm_oP_s, pm_pop_0, pm_pop_s, pm_rcv_is, hg_61, pm_oO_s, pm_ref1_is, Nat.reduceEqDiff, Nat.zero_ne_one, Nat.succ_ne_self, true_or, or_true, or_false, false_or, or_self, false_implies, true_implies, implies_true, true_and]
theorem iv_32_73 {x0 : Int32} : pm_WL fqP d 32 pc ((.invokestatic 73, n) :: r) L (.int x0 :: S) σ Q = (pm_okW 8 S = true ∧ pm_WC fqP d 185 [.int x0] σ (pm_kk fqP d 32 (pc + n) r L S Q)) := by
  show _ = (pm_okW 8 S = true ∧ pm_WC fqP d 185 [.int x0] σ (fun v σ' => pm_WL fqP d 32 (pc + n) r L (pm_pu v S) σ' Q))
  simp only [w_invs, lg_32, lm_5_73, pm_oM_s, pm_oP_s, pm_pop_0, pm_pop_s, pm_ref1_is, Nat.reduceEqDiff, Nat.zero_ne_one, Nat.succ_ne_self, true_or, or_true, or_false, false_or, or_self, false_implies, true_implies, implies_true, true_and]
theorem gf_32_12_6 : pm_WL fqP d 32 pc ((.getfield 12, n) :: r) L (.ref 6 :: S) (mk h) Q = pm_WL fqP d 32 (pc + n) r L (.ref 7 :: S) (mk h) Q := by
  simp only [w_getf, lg_32, lf_5_12, pm_oF_s, hg_6, pm_oO_s, List.getElem?_cons_succ, List.getElem?_cons_zero, pm_oK_s, true_and]
theorem gf_32_12_34 : pm_WL fqP d 32 pc ((.getfield 12, n) :: r) L (.ref 34 :: S) (mk h) Q = pm_WL fqP d 32 (pc + n) r L (.ref 35 :: S) (mk h) Q := by
  simp only [w_getf, lg_32, lf_5_12, pm_oF_s, hg_34, pm_oO_s, List.getElem?_cons_succ, List.getElem?_cons_zero, pm_oK_s, true_and]
theorem gf_32_12_61 : pm_WL fqP d 32 pc ((.getfield 12, n) :: r) L (.ref 61 :: S) (mk h) Q = pm_WL fqP d 32 (pc + n) r L (.ref 62 :: S) (mk h) Q := by
  simp only [w_getf, lg_32, lf_5_12, pm_oF_s, hg_61, pm_oO_s, List.getElem?_cons_succ, List.getElem?_cons_zero, pm_oK_s, true_and]
theorem gf_32_79_7 : pm_WL fqP d 32 pc ((.getfield 79, n) :: r) L (.ref 7 :: S) (mk h) Q = pm_WL fqP d 32 (pc + n) r L (.int (gd (h 7) 2) :: S) (mk h) Q := by
  simp only [w_getf, lg_32, lf_5_79, pm_oF_s, hg_7, pm_oO_s, List.getElem?_cons_succ, List.getElem?_cons_zero, pm_oK_s, true_and]
theorem gf_32_79_35 : pm_WL fqP d 32 pc ((.getfield 79, n) :: r) L (.ref 35 :: S) (mk h) Q = pm_WL fqP d 32 (pc + n) r L (.int (gd (h 35) 2) :: S) (mk h) Q := by
  simp only [w_getf, lg_32, lf_5_79, pm_oF_s, hg_35, pm_oO_s, List.getElem?_cons_succ, List.getElem?_cons_zero, pm_oK_s, true_and]
theorem gf_32_79_62 : pm_WL fqP d 32 pc ((.getfield 79, n) :: r) L (.ref 62 :: S) (mk h) Q = pm_WL fqP d 32 (pc + n) r L (.int (gd (h 62) 2) :: S) (mk h) Q := by
  simp only [w_getf, lg_32, lf_5_79, pm_oF_s, hg_62, pm_oO_s, List.getElem?_cons_succ, List.getElem?_cons_zero, pm_oK_s, true_and]
theorem gf_32_79_76 : pm_WL fqP d 32 pc ((.getfield 79, n) :: r) L (.ref 76 :: S) (mk h) Q = pm_WL fqP d 32 (pc + n) r L (.int (gd (h 76) 2) :: S) (mk h) Q := by
  simp only [w_getf, lg_32, lf_5_79, pm_oF_s, hg_76, pm_oO_s, List.getElem?_cons_succ, List.getElem?_cons_zero, pm_oK_s, true_and]
theorem gf_32_35_6 : pm_WL fqP d 32 pc ((.getfield 35, n) :: r) L (.ref 6 :: S) (mk h) Q = pm_WL fqP d 32 (pc + n) r L (.int (gd (h 6) 0) :: S) (mk h) Q := by
  simp only [w_getf, lg_32, lf_5_35, pm_oF_s, hg_6, pm_oO_s, List.getElem?_cons_succ, List.getElem?_cons_zero, pm_oK_s, true_and]
theorem gf_32_35_34 : pm_WL fqP d 32 pc ((.getfield 35, n) :: r) L (.ref 34 :: S) (mk h) Q = pm_WL fqP d 32 (pc + n) r L (.int (gd (h 34) 0) :: S) (mk h) Q := by
  simp only [w_getf, lg_32, lf_5_35, pm_oF_s, hg_34, pm_oO_s, List.getElem?_cons_succ, List.getElem?_cons_zero, pm_oK_s, true_and]
theorem gf_32_35_61 : pm_WL fqP d 32 pc ((.getfield 35, n) :: r) L (.ref 61 :: S) (mk h) Q = pm_WL fqP d 32 (pc + n) r L (.int (gd (h 61) 0) :: S) (mk h) Q := by
  simp only [w_getf, lg_32, lf_5_35, pm_oF_s, hg_61, pm_oO_s, List.getElem?_cons_succ, List.getElem?_cons_zero, pm_oK_s, true_and]
theorem gf_32_29_6 : pm_WL fqP d 32 pc ((.getfield 29, n) :: r) L (.ref 6 :: S) (mk h) Q = pm_WL fqP d 32 (pc + n) r L (.ref 18 :: S) (mk h) Q := by
  simp only [w_getf, lg_32, lf_5_29, pm_oF_s, hg_6, pm_oO_s, List.getElem?_cons_succ, List.getElem?_cons_zero, pm_oK_s, true_and]
theorem gf_32_29_34 : pm_WL fqP d 32 pc ((.getfield 29, n) :: r) L (.ref 34 :: S) (mk h) Q = pm_WL fqP d 32 (pc + n) r L (.ref 46 :: S) (mk h) Q := by
  simp only [w_getf, lg_32, lf_5_29, pm_oF_s, hg_34, pm_oO_s, List.getElem?_cons_succ, List.getElem?_cons_zero, pm_oK_s, true_and]
theorem gf_32_29_61 : pm_WL fqP d 32 pc ((.getfield 29, n) :: r) L (.ref 61 :: S) (mk h) Q = pm_WL fqP d 32 (pc + n) r L (.ref 73 :: S) (mk h) Q := by
  simp only [w_getf, lg_32, lf_5_29, pm_oF_s, hg_61, pm_oO_s, List.getElem?_cons_succ, List.getElem?_cons_zero, pm_oK_s, true_and]
theorem gf_32_46_6 : pm_WL fqP d 32 pc ((.getfield 46, n) :: r) L (.ref 6 :: S) (mk h) Q = pm_WL fqP d 32 (pc + n) r L (.int (gd (h 6) 1) :: S) (mk h) Q := by
  simp only [w_getf, lg_32, lf_5_46, pm_oF_s, hg_6, pm_oO_s, List.getElem?_cons_succ, List.getElem?_cons_zero, pm_oK_s, true_and]
theorem gf_32_46_34 : pm_WL fqP d 32 pc ((.getfield 46, n) :: r) L (.ref 34 :: S) (mk h) Q = pm_WL fqP d 32 (pc + n) r L (.int (gd (h 34) 1) :: S) (mk h) Q := by
  simp only [w_getf, lg_32, lf_5_46, pm_oF_s, hg_34, pm_oO_s, List.getElem?_cons_succ, List.getElem?_cons_zero, pm_oK_s, true_and]
theorem gf_32_46_61 : pm_WL fqP d 32 pc ((.getfield 46, n) :: r) L (.ref 61 :: S) (mk h) Q = pm_WL fqP d 32 (pc + n) r L (.int (gd (h 61) 1) :: S) (mk h) Q := by
  simp only [w_getf, lg_32, lf_5_46, pm_oF_s, hg_61, pm_oO_s, List.getElem?_cons_succ, List.getElem?_cons_zero, pm_oK_s, true_and]
theorem iv_32_82_6 {x1 : Int32} {x2 : Int32} : pm_WL fqP d 32 pc ((.invokevirtual 82, n) :: r) L (.int x2 :: .int x1 :: .ref 6 :: S) (mk h) Q = (pm_okW 8 S = true ∧ pm_WC fqP d 33 [.ref 6, .int x1, .int x2] (mk h) (pm_kk fqP d 32 (pc + n) r L S Q)) := by
  show _ = (pm_okW 8 S = true ∧ pm_WC fqP d 33 [.ref 6, .int x1, .int x2] (mk h) (fun v σ' => pm_WL fqP d 32 (pc + n) r L (pm_pu v S) σ' Q))
  simp only [w_invv, lg_32, lm_5_82, pm_oM_s, pm_oP_s, pm_pop_0, pm_pop_s, pm_rcv_is, hg_6, pm_oO_s, pm_ref1_is, Nat.reduceEqDiff, Nat.zero_ne_one, Nat.succ_ne_self, true_or, or_true, or_false, false_or, or_self, false_implies, true_implies, implies_true, true_and]
theorem iv_32_82_34 {x1 : Int32} {x2 : Int32} : pm_WL fqP d 32 pc ((.invokevirtual 82, n) :: r) L (.int x2 :: .int x1 :: .ref 34 :: S) (mk h) Q = (pm_okW 8 S = true ∧ pm_WC fqP d 33 [.ref 34, .int x1, .int x2] (mk h) (pm_kk fqP d 32 (pc + n) r L S Q)) := by
  show _ = (pm_okW 8 S = true ∧ pm_WC fqP d 33 [.ref 34, .int x1, .int x2] (mk h) (fun v σ' => pm_WL fqP d 32 (pc + n) r L (pm_pu v S) σ' Q))
  simp only [w_invv, lg_32, lm_5_82, pm_oM_s, pm_oP_s, pm_pop_0, pm_pop_s, pm_rcv_is, hg_34, pm_oO_s, pm_ref1_is, Nat.reduceEqDiff, Nat.zero_ne_one, Nat.succ_ne_self, true_or, or_true, or_false, false_or, or_self, false_implies, true_implies, implies_true, true_and]
theorem iv_32_82_61 {x1 : Int32} {x2 : Int32} : pm_WL fqP d 32 pc ((.invokevirtual 82, n) :: r) L (.int x2 :: .int x1 :: .ref 61 :: S) (mk h) Q = (pm_okW 8 S = true ∧ pm_WC fqP d 33 [.ref 61, .int x1, .int x2] (mk h) (pm_kk fqP d 32 (pc + n) r L S Q)) := by
  show _ = (pm_okW 8 S = true ∧ pm_WC fqP d 33 [.ref 61, .int x1, .int x2] (mk h) (fun v σ' => pm_WL fqP d 32 (pc + n) r L (pm_pu v S) σ' Q))
  simp only [w_invv, lg_32, lm_5_82, pm_oM_s, pm_oP_s, pm_pop_0, pm_pop_s, pm_rcv_is, hg_61, pm_oO_s, pm_ref1_is, Nat.reduceEqDiff, Nat.zero_ne_one, Nat.succ_ne_self, true_or, or_true, or_false, false_or, or_self, false_implies, true_implies, implies_true, true_and]
theorem iv_32_62 {x0 : Int32} {x1 : Int32} {x2 : Int32} : pm_WL fqP d 32 pc ((.invokestatic 62, n) :: r) L (.int x2 :: .int x1 :: .int x0 :: S) σ Q = (pm_okW 8 S = true ∧ pm_WC fqP d 96 [.int x0, .int x1, .int x2] σ (pm_kk fqP d 32 (pc + n) r L S Q)) := by
  show _ = (pm_okW 8 S = true ∧ pm_WC fqP d 96 [.int x0, .int x1, .int x2] σ (fun v σ' => pm_WL fqP d 32 (pc + n) r L (pm_pu v S) σ' Q))
  simp only [w_invs, lg_32, lm_5_62, pm_oM_s, pm_oP_s, pm_pop_0, pm_pop_s, pm_ref1_is, Nat.reduceEqDiff, Nat.zero_ne_one, Nat.succ_ne_self, true_or, or_true, or_false, false_or, or_self, false_implies, true_implies, implies_true, true_and]
theorem pf_32_46_6 {x : Int32} : pm_WL fqP d 32 pc ((.putfield 46, n) :: r) L (.int x :: .ref 6 :: S) (mk h) Q = pm_WL fqP d 32 (pc + n) r L S (mk (up h 6 [gd (h 6) 0, x, gd (h 6) 2])) Q := by
  simp only [w_putf, lg_32, lf_5_46, lt_5_5, pm_oF_s, hg_6, pm_oO_s, List.set_cons_succ, List.set_cons_zero, List.length_cons, List.length_nil, pm_fit_i, Nat.reduceAdd, Nat.reduceLT, Nat.zero_add, Nat.lt_add_one, Bool.false_eq_true, false_implies, true_and, and_true, hs_6]
theorem pf_32_46_34 {x : Int32} : pm_WL fqP d 32 pc ((.putfield 46, n) :: r) L (.int x :: .ref 34 :: S) (mk h) Q = pm_WL fqP d 32 (pc + n) r L S (mk (up h 34 [gd (h 34) 0, x, gd (h 34) 2])) Q := by
  simp only [w_putf, lg_32, lf_5_46, lt_5_5, pm_oF_s, hg_34, pm_oO_s, List.set_cons_succ, List.set_cons_zero, List.length_cons, List.length_nil, pm_fit_i, Nat.reduceAdd, Nat.reduceLT, Nat.zero_add, Nat.lt_add_one, Bool.false_eq_true, false_implies, true_and, and_true, hs_34]
theorem pf_32_46_61 {x : Int32} : pm_WL fqP d 32 pc ((.putfield 46, n) :: r) L (.int x :: .ref 61 :: S) (mk h) Q = pm_WL fqP d 32 (pc + n) r L S (mk (up h 61 [gd (h 61) 0, x, gd (h 61) 2])) Q := by
  simp only [w_putf, lg_32, lf_5_46, lt_5_5, pm_oF_s, hg_61, pm_oO_s, List.set_cons_succ, List.set_cons_zero, List.length_cons, List.length_nil, pm_fit_i, Nat.reduceAdd, Nat.reduceLT, Nat.zero_add, Nat.lt_add_one, Bool.false_eq_true, false_implies, true_and, and_true, hs_61]
theorem gf_32_43_6 : pm_WL fqP d 32 pc ((.getfield 43, n) :: r) L (.ref 6 :: S) (mk h) Q = pm_WL fqP d 32 (pc + n) r L (.int (gd (h 6) 2) :: S) (mk h) Q := by
  simp only [w_getf, lg_32, lf_5_43, pm_oF_s, hg_6, pm_oO_s, List.getElem?_cons_succ, List.getElem?_cons_zero, pm_oK_s, true_and]
theorem gf_32_43_34 : pm_WL fqP d 32 pc ((.getfield 43, n) :: r) L (.ref 34 :: S) (mk h) Q = pm_WL fqP d 32 (pc + n) r L (.int (gd (h 34) 2) :: S) (mk h) Q := by
  simp only [w_getf, lg_32, lf_5_43, pm_oF_s, hg_34, pm_oO_s, List.getElem?_cons_succ, List.getElem?_cons_zero, pm_oK_s, true_and]
theorem gf_32_43_61 : pm_WL fqP d 32 pc ((.getfield 43, n) :: r) L (.ref 61 :: S) (mk h) Q = pm_WL fqP d 32 (pc + n) r L (.int (gd (h 61) 2) :: S) (mk h) Q := by
  simp only [w_getf, lg_32, lf_5_43, pm_oF_s, hg_61, pm_oO_s, List.getElem?_cons_succ, List.getElem?_cons_zero, pm_oK_s, true_and]
theorem pf_32_43_6 {x : Int32} : pm_WL fqP d 32 pc ((.putfield 43, n) :: r) L (.int x :: .ref 6 :: S) (mk h) Q = pm_WL fqP d 32 (pc + n) r L S (mk (up h 6 [gd (h 6) 0, gd (h 6) 1, x])) Q := by
  simp only [w_putf, lg_32, lf_5_43, lt_5_6, pm_oF_s, hg_6, pm_oO_s, List.set_cons_succ, List.set_cons_zero, List.length_cons, List.length_nil, pm_fit_i, Nat.reduceAdd, Nat.reduceLT, Nat.zero_add, Nat.lt_add_one, Bool.false_eq_true, false_implies, true_and, and_true, hs_6]
theorem pf_32_43_34 {x : Int32} : pm_WL fqP d 32 pc ((.putfield 43, n) :: r) L (.int x :: .ref 34 :: S) (mk h) Q = pm_WL fqP d 32 (pc + n) r L S (mk (up h 34 [gd (h 34) 0, gd (h 34) 1, x])) Q := by
  simp only [w_putf, lg_32, lf_5_43, lt_5_6, pm_oF_s, hg_34, pm_oO_s, List.set_cons_succ, List.set_cons_zero, List.length_cons, List.length_nil, pm_fit_i, Nat.reduceAdd, Nat.reduceLT, Nat.zero_add, Nat.lt_add_one, Bool.false_eq_true, false_implies, true_and, and_true, hs_34]
theorem pf_32_43_61 {x : Int32} : pm_WL fqP d 32 pc ((.putfield 43, n) :: r) L (.int x :: .ref 61 :: S) (mk h) Q = pm_WL fqP d 32 (pc + n) r L S (mk (up h 61 [gd (h 61) 0, gd (h 61) 1, x])) Q := by
  simp only [w_putf, lg_32, lf_5_43, lt_5_6, pm_oF_s, hg_61, pm_oO_s, List.set_cons_succ, List.set_cons_zero, List.length_cons, List.length_nil, pm_fit_i, Nat.reduceAdd, Nat.reduceLT, Nat.zero_add, Nat.lt_add_one, Bool.false_eq_true, false_implies, true_and, and_true, hs_61]
theorem gf_33_21_6 : pm_WL fqP d 33 pc ((.getfield 21, n) :: r) L (.ref 6 :: S) (mk h) Q = pm_WL fqP d 33 (pc + n) r L (.ref 11 :: S) (mk h) Q := by
  simp only [w_getf, lg_33, lf_5_21, pm_oF_s, hg_6, pm_oO_s, List.getElem?_cons_succ, List.getElem?_cons_zero, pm_oK_s, true_and]
theorem gf_33_21_34 : pm_WL fqP d 33 pc ((.getfield 21, n) :: r) L (.ref 34 :: S) (mk h) Q = pm_WL fqP d 33 (pc + n) r L (.ref 39 :: S) (mk h) Q := by
  simp only [w_getf, lg_33, lf_5_21, pm_oF_s, hg_34, pm_oO_s, List.getElem?_cons_succ, List.getElem?_cons_zero, pm_oK_s, true_and]
theorem gf_33_21_61 : pm_WL fqP d 33 pc ((.getfield 21, n) :: r) L (.ref 61 :: S) (mk h) Q = pm_WL fqP d 33 (pc + n) r L (.ref 66 :: S) (mk h) Q := by
  simp only [w_getf, lg_33, lf_5_21, pm_oF_s, hg_61, pm_oO_s, List.getElem?_cons_succ, List.getElem?_cons_zero, pm_oK_s, true_and]
theorem gf_33_53_11 : pm_WL fqP d 33 pc ((.getfield 53, n) :: r) L (.ref 11 :: S) (mk h) Q = pm_WL fqP d 33 (pc + n) r L (.int (gd (h 11) 1) :: S) (mk h) Q := by
  simp only [w_getf, lg_33, lf_5_53, pm_oF_s, hg_11, pm_oO_s, List.getElem?_cons_succ, List.getElem?_cons_zero, pm_oK_s, true_and]
theorem gf_33_53_39 : pm_WL fqP d 33 pc ((.getfield 53, n) :: r) L (.ref 39 :: S) (mk h) Q = pm_WL fqP d 33 (pc + n) r L (.int (gd (h 39) 1) :: S) (mk h) Q := by
  simp only [w_getf, lg_33, lf_5_53, pm_oF_s, hg_39, pm_oO_s, List.getElem?_cons_succ, List.getElem?_cons_zero, pm_oK_s, true_and]
theorem gf_33_53_66 : pm_WL fqP d 33 pc ((.getfield 53, n) :: r) L (.ref 66 :: S) (mk h) Q = pm_WL fqP d 33 (pc + n) r L (.int (gd (h 66) 1) :: S) (mk h) Q := by
  simp only [w_getf, lg_33, lf_5_53, pm_oF_s, hg_66, pm_oO_s, List.getElem?_cons_succ, List.getElem?_cons_zero, pm_oK_s, true_and]
theorem iv_33_49 {x0 : Int32} {x1 : Int32} : pm_WL fqP d 33 pc ((.invokestatic 49, n) :: r) L (.int x1 :: .int x0 :: S) σ Q = (pm_okW 8 S = true ∧ pm_WC fqP d 95 [.int x0, .int x1] σ (pm_kk fqP d 33 (pc + n) r L S Q)) := by
  show _ = (pm_okW 8 S = true ∧ pm_WC fqP d 95 [.int x0, .int x1] σ (fun v σ' => pm_WL fqP d 33 (pc + n) r L (pm_pu v S) σ' Q))
  simp only [w_invs, lg_33, lm_5_49, pm_oM_s, pm_oP_s, pm_pop_0, pm_pop_s, pm_ref1_is, Nat.reduceEqDiff, Nat.zero_ne_one, Nat.succ_ne_self, true_or, or_true, or_false, false_or, or_self, false_implies, true_implies, implies_true, true_and]
theorem iv_33_86_6 {x1 : Int32} {x2 : Int32} : pm_WL fqP d 33 pc ((.invokevirtual 86, n) :: r) L (.int x2 :: .int x1 :: .ref 6 :: S) (mk h) Q = (pm_okW 8 S = true ∧ pm_WC fqP d 34 [.ref 6, .int x1, .int x2] (mk h) (pm_kk fqP d 33 (pc + n) r L S Q)) := by
  show _ = (pm_okW 8 S = true ∧ pm_WC fqP d 34 [.ref 6, .int x1, .int x2] (mk h) (fun v σ' => pm_WL fqP d 33 (pc + n) r L (pm_pu v S) σ' Q))
  simp only [w_invv, lg_33, lm_5_86, pm_oM_s, pm_oP_s, pm_pop_0, pm_pop_s, pm_rcv_is, hg_6, pm_oO_s, pm_ref1_is, Nat.reduceEqDiff, Nat.zero_ne_one, Nat.succ_ne_self, true_or, or_true, or_false, false_or, or_self, false_implies, true_implies, implies_true, true_and]
theorem iv_33_86_34 {x1 : Int32} {x2 : Int32} : pm_WL fqP d 33 pc ((.invokevirtual 86, n) :: r) L (.int x2 :: .int x1 :: .ref 34 :: S) (mk h) Q = (pm_okW 8 S = true ∧ pm_WC fqP d 34 [.ref 34, .int x1, .int x2] (mk h) (pm_kk fqP d 33 (pc + n) r L S Q)) := by
  show _ = (pm_okW 8 S = true ∧ pm_WC fqP d 34 [.ref 34, .int x1, .int x2] (mk h) (fun v σ' => pm_WL fqP d 33 (pc + n) r L (pm_pu v S) σ' Q))
  simp only [w_invv, lg_33, lm_5_86, pm_oM_s, pm_oP_s, pm_pop_0, pm_pop_s, pm_rcv_is, hg_34, pm_oO_s, pm_ref1_is, Nat.reduceEqDiff, Nat.zero_ne_one, Nat.succ_ne_self, true_or, or_true, or_false, false_or, or_self, false_implies, true_implies, implies_true, true_and]
theorem iv_33_86_61 {x1 : Int32} {x2 : Int32} : pm_WL fqP d 33 pc ((.invokevirtual 86, n) :: r) L (.int x2 :: .int x1 :: .ref 61 :: S) (mk h) Q = (pm_okW 8 S = true ∧ pm_WC fqP d 34 [.ref 61, .int x1, .int x2] (mk h) (pm_kk fqP d 33 (pc + n) r L S Q)) := by
  show _ = (pm_okW 8 S = true ∧ pm_WC fqP d 34 [.ref 61, .int x1, .int x2] (mk h) (fun v σ' => pm_WL fqP d 33 (pc + n) r L (pm_pu v S) σ' Q))
  simp only [w_invv, lg_33, lm_5_86, pm_oM_s, pm_oP_s, pm_pop_0, pm_pop_s, pm_rcv_is, hg_61, pm_oO_s, pm_ref1_is, Nat.reduceEqDiff, Nat.zero_ne_one, Nat.succ_ne_self, true_or, or_true, or_false, false_or, or_self, false_implies, true_implies, implies_true, true_and]
theorem gf_33_89_11 : pm_WL fqP d 33 pc ((.getfield 89, n) :: r) L (.ref 11 :: S) (mk h) Q = pm_WL fqP d 33 (pc + n) r L (.ref 14 :: S) (mk h) Q := by
  simp only [w_getf, lg_33, lf_5_89, pm_oF_s, hg_11, pm_oO_s, List.getElem?_cons_succ, List.getElem?_cons_zero, pm_oK_s, true_and]
theorem gf_33_89_39 : pm_WL fqP d 33 pc ((.getfield 89, n) :: r) L (.ref 39 :: S) (mk h) Q = pm_WL fqP d 33 (pc + n) r L (.ref 42 :: S) (mk h) Q := by
  simp only [w_getf, lg_33, lf_5_89, pm_oF_s, hg_39, pm_oO_s, List.getElem?_cons_succ, List.getElem?_cons_zero, pm_oK_s, true_and]
theorem gf_33_89_66 : pm_WL fqP d 33 pc ((.getfield 89, n) :: r) L (.ref 66 :: S) (mk h) Q = pm_WL fqP d 33 (pc + n) r L (.ref 69 :: S) (mk h) Q := by
  simp only [w_getf, lg_33, lf_5_89, pm_oF_s, hg_66, pm_oO_s, List.getElem?_cons_succ, List.getElem?_cons_zero, pm_oK_s, true_and]
theorem iv_33_39 {x0 : Nat} {x1 : Int32} : pm_WL fqP d 33 pc ((.invokestatic 39, n) :: r) L (.int x1 :: .ref x0 :: S) σ Q = (pm_okW 8 S = true ∧ pm_WC fqP d 91 [.ref x0, .int x1] σ (pm_kk fqP d 33 (pc + n) r L S Q)) := by
  show _ = (pm_okW 8 S = true ∧ pm_WC fqP d 91 [.ref x0, .int x1] σ (fun v σ' => pm_WL fqP d 33 (pc + n) r L (pm_pu v S) σ' Q))
  simp only [w_invs, lg_33, lm_5_39, pm_oM_s, pm_oP_s, pm_pop_0, pm_pop_s, pm_ref1_is, Nat.reduceEqDiff, Nat.zero_ne_one, Nat.succ_ne_self, true_or, or_true, or_false, false_or, or_self, false_implies, true_implies, implies_true, true_and]
theorem gf_34_21_6 : pm_WL fqP d 34 pc ((.getfield 21, n) :: r) L (.ref 6 :: S) (mk h) Q = pm_WL fqP d 34 (pc + n) r L (.ref 11 :: S) (mk h) Q := by
  simp only [w_getf, lg_34, lf_5_21, pm_oF_s, hg_6, pm_oO_s, List.getElem?_cons_succ, List.getElem?_cons_zero, pm_oK_s, true_and]
theorem gf_34_21_34 : pm_WL fqP d 34 pc ((.getfield 21, n) :: r) L (.ref 34 :: S) (mk h) Q = pm_WL fqP d 34 (pc + n) r L (.ref 39 :: S) (mk h) Q := by
  simp only [w_getf, lg_34, lf_5_21, pm_oF_s, hg_34, pm_oO_s, List.getElem?_cons_succ, List.getElem?_cons_zero, pm_oK_s, true_and]
theorem gf_34_21_61 : pm_WL fqP d 34 pc ((.getfield 21, n) :: r) L (.ref 61 :: S) (mk h) Q = pm_WL fqP d 34 (pc + n) r L (.ref 66 :: S) (mk h) Q := by
  simp only [w_getf, lg_34, lf_5_21, pm_oF_s, hg_61, pm_oO_s, List.getElem?_cons_succ, List.getElem?_cons_zero, pm_oK_s, true_and]
theorem gf_34_92_11 : pm_WL fqP d 34 pc ((.getfield 92, n) :: r) L (.ref 11 :: S) (mk h) Q = pm_WL fqP d 34 (pc + n) r L (.ref 12 :: S) (mk h) Q := by
  simp only [w_getf, lg_34, lf_5_92, pm_oF_s, hg_11, pm_oO_s, List.getElem?_cons_succ, List.getElem?_cons_zero, pm_oK_s, true_and]
theorem gf_34_92_39 : pm_WL fqP d 34 pc ((.getfield 92, n) :: r) L (.ref 39 :: S) (mk h) Q = pm_WL fqP d 34 (pc + n) r L (.ref 40 :: S) (mk h) Q := by
  simp only [w_getf, lg_34, lf_5_92, pm_oF_s, hg_39, pm_oO_s, List.getElem?_cons_succ, List.getElem?_cons_zero, pm_oK_s, true_and]
theorem gf_34_92_66 : pm_WL fqP d 34 pc ((.getfield 92, n) :: r) L (.ref 66 :: S) (mk h) Q = pm_WL fqP d 34 (pc + n) r L (.ref 67 :: S) (mk h) Q := by
  simp only [w_getf, lg_34, lf_5_92, pm_oF_s, hg_66, pm_oO_s, List.getElem?_cons_succ, List.getElem?_cons_zero, pm_oK_s, true_and]
theorem iv_34_39 {x0 : Nat} {x1 : Int32} : pm_WL fqP d 34 pc ((.invokestatic 39, n) :: r) L (.int x1 :: .ref x0 :: S) σ Q = (pm_okW 8 S = true ∧ pm_WC fqP d 91 [.ref x0, .int x1] σ (pm_kk fqP d 34 (pc + n) r L S Q)) := by
  show _ = (pm_okW 8 S = true ∧ pm_WC fqP d 91 [.ref x0, .int x1] σ (fun v σ' => pm_WL fqP d 34 (pc + n) r L (pm_pu v S) σ' Q))
  simp only [w_invs, lg_34, lm_5_39, pm_oM_s, pm_oP_s, pm_pop_0, pm_pop_s, pm_ref1_is, Nat.reduceEqDiff, Nat.zero_ne_one, Nat.succ_ne_self, true_or, or_true, or_false, false_or, or_self, false_implies, true_implies, implies_true, true_and]
theorem gf_34_95_11 : pm_WL fqP d 34 pc ((.getfield 95, n) :: r) L (.ref 11 :: S) (mk h) Q = pm_WL fqP d 34 (pc + n) r L (.ref 13 :: S) (mk h) Q := by
  simp only [w_getf, lg_34, lf_5_95, pm_oF_s, hg_11, pm_oO_s, List.getElem?_cons_succ, List.getElem?_cons_zero, pm_oK_s, true_and]
theorem gf_34_95_39 : pm_WL fqP d 34 pc ((.getfield 95, n) :: r) L (.ref 39 :: S) (mk h) Q = pm_WL fqP d 34 (pc + n) r L (.ref 41 :: S) (mk h) Q := by
  simp only [w_getf, lg_34, lf_5_95, pm_oF_s, hg_39, pm_oO_s, List.getElem?_cons_succ, List.getElem?_cons_zero, pm_oK_s, true_and]
theorem gf_34_95_66 : pm_WL fqP d 34 pc ((.getfield 95, n) :: r) L (.ref 66 :: S) (mk h) Q = pm_WL fqP d 34 (pc + n) r L (.ref 68 :: S) (mk h) Q := by
  simp only [w_getf, lg_34, lf_5_95, pm_oF_s, hg_66, pm_oO_s, List.getElem?_cons_succ, List.getElem?_cons_zero, pm_oK_s, true_and]
theorem gf_34_46_6 : pm_WL fqP d 34 pc ((.getfield 46, n) :: r) L (.ref 6 :: S) (mk h) Q = pm_WL fqP d 34 (pc + n) r L (.int (gd (h 6) 1) :: S) (mk h) Q := by
  simp only [w_getf, lg_34, lf_5_46, pm_oF_s, hg_6, pm_oO_s, List.getElem?_cons_succ, List.getElem?_cons_zero, pm_oK_s, true_and]
theorem gf_34_46_34 : pm_WL fqP d 34 pc ((.getfield 46, n) :: r) L (.ref 34 :: S) (mk h) Q = pm_WL fqP d 34 (pc + n) r L (.int (gd (h 34) 1) :: S) (mk h) Q := by
  simp only [w_getf, lg_34, lf_5_46, pm_oF_s, hg_34, pm_oO_s, List.getElem?_cons_succ, List.getElem?_cons_zero, pm_oK_s, true_and]
theorem gf_34_46_61 : pm_WL fqP d 34 pc ((.getfield 46, n) :: r) L (.ref 61 :: S) (mk h) Q = pm_WL fqP d 34 (pc + n) r L (.int (gd (h 61) 1) :: S) (mk h) Q := by
  simp only [w_getf, lg_34, lf_5_46, pm_oF_s, hg_61, pm_oO_s, List.getElem?_cons_succ, List.getElem?_cons_zero, pm_oK_s, true_and]
theorem iv_34_73 {x0 : Int32} : pm_WL fqP d 34 pc ((.invokestatic 73, n) :: r) L (.int x0 :: S) σ Q = (pm_okW 8 S = true ∧ pm_WC fqP d 185 [.int x0] σ (pm_kk fqP d 34 (pc + n) r L S Q)) := by
  show _ = (pm_okW 8 S = true ∧ pm_WC fqP d 185 [.int x0] σ (fun v σ' => pm_WL fqP d 34 (pc + n) r L (pm_pu v S) σ' Q))
  simp only [w_invs, lg_34, lm_5_73, pm_oM_s, pm_oP_s, pm_pop_0, pm_pop_s, pm_ref1_is, Nat.reduceEqDiff, Nat.zero_ne_one, Nat.succ_ne_self, true_or, or_true, or_false, false_or, or_self, false_implies, true_implies, implies_true, true_and]
theorem gf_34_32_6 : pm_WL fqP d 34 pc ((.getfield 32, n) :: r) L (.ref 6 :: S) (mk h) Q = pm_WL fqP d 34 (pc + n) r L (.ref 19 :: S) (mk h) Q := by
  simp only [w_getf, lg_34, lf_5_32, pm_oF_s, hg_6, pm_oO_s, List.getElem?_cons_succ, List.getElem?_cons_zero, pm_oK_s, true_and]
theorem gf_34_32_34 : pm_WL fqP d 34 pc ((.getfield 32, n) :: r) L (.ref 34 :: S) (mk h) Q = pm_WL fqP d 34 (pc + n) r L (.ref 47 :: S) (mk h) Q := by
  simp only [w_getf, lg_34, lf_5_32, pm_oF_s, hg_34, pm_oO_s, List.getElem?_cons_succ, List.getElem?_cons_zero, pm_oK_s, true_and]
theorem gf_34_32_61 : pm_WL fqP d 34 pc ((.getfield 32, n) :: r) L (.ref 61 :: S) (mk h) Q = pm_WL fqP d 34 (pc + n) r L (.ref 74 :: S) (mk h) Q := by
  simp only [w_getf, lg_34, lf_5_32, pm_oF_s, hg_61, pm_oO_s, List.getElem?_cons_succ, List.getElem?_cons_zero, pm_oK_s, true_and]
theorem iv_34_98 {x0 : Nat} {x1 : Int32} {x2 : Int32} : pm_WL fqP d 34 pc ((.invokestatic 98, n) :: r) L (.int x2 :: .int x1 :: .ref x0 :: S) σ Q = (pm_okW 8 S = true ∧ pm_WC fqP d 92 [.ref x0, .int x1, .int x2] σ (pm_kk fqP d 34 (pc + n) r L S Q)) := by
  show _ = (pm_okW 8 S = true ∧ pm_WC fqP d 92 [.ref x0, .int x1, .int x2] σ (fun v σ' => pm_WL fqP d 34 (pc + n) r L (pm_pu v S) σ' Q))
  simp only [w_invs, lg_34, lm_5_98, pm_oM_s, pm_oP_s, pm_pop_0, pm_pop_s, pm_ref1_is, Nat.reduceEqDiff, Nat.zero_ne_one, Nat.succ_ne_self, true_or, or_true, or_false, false_or, or_self, false_implies, true_implies, implies_true, true_and]
theorem gf_34_43_6 : pm_WL fqP d 34 pc ((.getfield 43, n) :: r) L (.ref 6 :: S) (mk h) Q = pm_WL fqP d 34 (pc + n) r L (.int (gd (h 6) 2) :: S) (mk h) Q := by
  simp only [w_getf, lg_34, lf_5_43, pm_oF_s, hg_6, pm_oO_s, List.getElem?_cons_succ, List.getElem?_cons_zero, pm_oK_s, true_and]
theorem gf_34_43_34 : pm_WL fqP d 34 pc ((.getfield 43, n) :: r) L (.ref 34 :: S) (mk h) Q = pm_WL fqP d 34 (pc + n) r L (.int (gd (h 34) 2) :: S) (mk h) Q := by
  simp only [w_getf, lg_34, lf_5_43, pm_oF_s, hg_34, pm_oO_s, List.getElem?_cons_succ, List.getElem?_cons_zero, pm_oK_s, true_and]
theorem gf_34_43_61 : pm_WL fqP d 34 pc ((.getfield 43, n) :: r) L (.ref 61 :: S) (mk h) Q = pm_WL fqP d 34 (pc + n) r L (.int (gd (h 61) 2) :: S) (mk h) Q := by
  simp only [w_getf, lg_34, lf_5_43, pm_oF_s, hg_61, pm_oO_s, List.getElem?_cons_succ, List.getElem?_cons_zero, pm_oK_s, true_and]
theorem gf_34_12_6 : pm_WL fqP d 34 pc ((.getfield 12, n) :: r) L (.ref 6 :: S) (mk h) Q = pm_WL fqP d 34 (pc + n) r L (.ref 7 :: S) (mk h) Q := by
  simp only [w_getf, lg_34, lf_5_12, pm_oF_s, hg_6, pm_oO_s, List.getElem?_cons_succ, List.getElem?_cons_zero, pm_oK_s, true_and]
theorem gf_34_12_34 : pm_WL fqP d 34 pc ((.getfield 12, n) :: r) L (.ref 34 :: S) (mk h) Q = pm_WL fqP d 34 (pc + n) r L (.ref 35 :: S) (mk h) Q := by
  simp only [w_getf, lg_34, lf_5_12, pm_oF_s, hg_34, pm_oO_s, List.getElem?_cons_succ, List.getElem?_cons_zero, pm_oK_s, true_and]
theorem gf_34_12_61 : pm_WL fqP d 34 pc ((.getfield 12, n) :: r) L (.ref 61 :: S) (mk h) Q = pm_WL fqP d 34 (pc + n) r L (.ref 62 :: S) (mk h) Q := by
  simp only [w_getf, lg_34, lf_5_12, pm_oF_s, hg_61, pm_oO_s, List.getElem?_cons_succ, List.getElem?_cons_zero, pm_oK_s, true_and]
theorem iv_34_102_7 {x1 : Nat} : pm_WL fqP d 34 pc ((.invokevirtual 102, n) :: r) L (.ref x1 :: .ref 7 :: S) (mk h) Q = (pm_okW 8 S = true ∧ pm_WC fqP d 8 [.ref 7, .ref x1] (mk h) (pm_kk fqP d 34 (pc + n) r L S Q)) := by
  show _ = (pm_okW 8 S = true ∧ pm_WC fqP d 8 [.ref 7, .ref x1] (mk h) (fun v σ' => pm_WL fqP d 34 (pc + n) r L (pm_pu v S) σ' Q))
  simp only [w_invv, lg_34, lm_5_102, pm_oM_s, pm_oP_s, pm_pop_0, pm_pop_s, pm_rcv_is, hg_7, pm_oO_s, pm_ref1_is, Nat.reduceEqDiff, Nat.zero_ne_one, Nat.succ_ne_self, true_or, or_true, or_false, false_or, or_self, false_implies, true_implies, implies_true, true_and]
theorem iv_34_102_35 {x1 : Nat} : pm_WL fqP d 34 pc ((.invokevirtual 102, n) :: r) L (.ref x1 :: .ref 35 :: S) (mk h) Q = (pm_okW 8 S = true ∧ pm_WC fqP d 8 [.ref 35, .ref x1] (mk h) (pm_kk fqP d 34 (pc + n) r L S Q)) := by
  show _ = (pm_okW 8 S = true ∧ pm_WC fqP d 8 [.ref 35, .ref x1] (mk h) (fun v σ' => pm_WL fqP d 34 (pc + n) r L (pm_pu v S) σ' Q))
  simp only [w_invv, lg_34, lm_5_102, pm_oM_s, pm_oP_s, pm_pop_0, pm_pop_s, pm_rcv_is, hg_35, pm_oO_s, pm_ref1_is, Nat.reduceEqDiff, Nat.zero_ne_one, Nat.succ_ne_self, true_or, or_true, or_false, false_or, or_self, false_implies, true_implies, implies_true, true_and]
theorem iv_34_102_62 {x1 : Nat} : pm_WL fqP d 34 pc ((.invokevirtual 102, n) :: r) L (.ref x1 :: .ref 62 :: S) (mk h) Q = (pm_okW 8 S = true ∧ pm_WC fqP d 8 [.ref 62, .ref x1] (mk h) (pm_kk fqP d 34 (pc + n) r L S Q)) := by
  show _ = (pm_okW 8 S = true ∧ pm_WC fqP d 8 [.ref 62, .ref x1] (mk h) (fun v σ' => pm_WL fqP d 34 (pc + n) r L (pm_pu v S) σ' Q))
  simp only [w_invv, lg_34, lm_5_102, pm_oM_s, pm_oP_s, pm_pop_0, pm_pop_s, pm_rcv_is, hg_62, pm_oO_s, pm_ref1_is, Nat.reduceEqDiff, Nat.zero_ne_one, Nat.succ_ne_self, true_or, or_true, or_false, false_or, or_self, false_implies, true_implies, implies_true, true_and]
theorem iv_34_102_76 {x1 : Nat} : pm_WL fqP d 34 pc ((.invokevirtual 102, n) :: r) L (.ref x1 :: .ref 76 :: S) (mk h) Q = (pm_okW 8 S = true ∧ pm_WC fqP d 8 [.ref 76, .ref x1] (mk h) (pm_kk fqP d 34 (pc + n) r L S Q)) := by
  show _ = (pm_okW 8 S = true ∧ pm_WC fqP d 8 [.ref 76, .ref x1] (mk h) (fun v σ' => pm_WL fqP d 34 (pc + n) r L (pm_pu v S) σ' Q))
  simp only [w_invv, lg_34, lm_5_102, pm_oM_s, pm_oP_s, pm_pop_0, pm_pop_s, pm_rcv_is, hg_76, pm_oO_s, pm_ref1_is, Nat.reduceEqDiff, Nat.zero_ne_one, Nat.succ_ne_self, true_or, or_true, or_false, false_or, or_self, false_implies, true_implies, implies_true, true_and]
theorem iv_34_106_6 {x1 : Int32} {x2 : Int32} {x3 : Int32} : pm_WL fqP d 34 pc ((.invokevirtual 106, n) :: r) L (.int x3 :: .int x2 :: .int x1 :: .ref 6 :: S) (mk h) Q = (pm_okW 8 S = true ∧ pm_WC fqP d 35 [.ref 6, .int x1, .int x2, .int x3] (mk h) (pm_kk fqP d 34 (pc + n) r L S Q)) := by
  show _ = (pm_okW 8 S = true ∧ pm_WC fqP d 35 [.ref 6, .int x1, .int x2, .int x3] (mk h) (fun v σ' => pm_WL fqP d 34 (pc + n) r L (pm_pu v S) σ' Q))
  simp only [w_invv, lg_34, lm_5_106, pm_oM_s, pm_oP_s, pm_pop_0, pm_pop_s, pm_rcv_is, hg_6, pm_oO_s, pm_ref1_is, Nat.reduceEqDiff, Nat.zero_ne_one, Nat.succ_ne_self, true_or, or_true, or_false, false_or, or_self, false_implies, true_implies, implies_true, true_and]
theorem iv_34_106_34 {x1 : Int32} {x2 : Int32} {x3 : Int32} : pm_WL fqP d 34 pc ((.invokevirtual 106, n) :: r) L (.int x3 :: .int x2 :: .int x1 :: .ref 34 :: S) (mk h) Q = (pm_okW 8 S = true ∧ pm_WC fqP d 35 [.ref 34, .int x1, .int x2, .int x3] (mk h) (pm_kk fqP d 34 (pc + n) r L S Q)) := by
  show _ = (pm_okW 8 S = true ∧ pm_WC fqP d 35 [.ref 34, .int x1, .int x2, .int x3] (mk h) (fun v σ' => pm_WL fqP d 34 (pc + n) r L (pm_pu v S) σ' Q))
  simp only [w_invv, lg_34, lm_5_106, pm_oM_s, pm_oP_s, pm_pop_0, pm_pop_s, pm_rcv_is, hg_34, pm_oO_s, pm_ref1_is, Nat.reduceEqDiff, Nat.zero_ne_one, Nat.succ_ne_self, true_or, or_true, or_false, false_or, or_self, false_implies, true_implies, implies_true, true_and]
theorem iv_34_106_61 {x1 : Int32} {x2 : Int32} {x3 : Int32} : pm_WL fqP d 34 pc ((.invokevirtual 106, n) :: r) L (.int x3 :: .int x2 :: .int x1 :: .ref 61 :: S) (mk h) Q = (pm_okW 8 S = true ∧ pm_WC fqP d 35 [.ref 61, .int x1, .int x2, .int x3] (mk h) (pm_kk fqP d 34 (pc + n) r L S Q)) := by
  show _ = (pm_okW 8 S = true ∧ pm_WC fqP d 35 [.ref 61, .int x1, .int x2, .int x3] (mk h) (fun v σ' => pm_WL fqP d 34 (pc + n) r L (pm_pu v S) σ' Q))
  simp only [w_invv, lg_34, lm_5_106, pm_oM_s, pm_oP_s, pm_pop_0, pm_pop_s, pm_rcv_is, hg_61, pm_oO_s, pm_ref1_is, Nat.reduceEqDiff, Nat.zero_ne_one, Nat.succ_ne_self, true_or, or_true, or_false, false_or, or_self, false_implies, true_implies, implies_true, true_and]
theorem iv_34_110_6 {x1 : Int32} : pm_WL fqP d 34 pc ((.invokevirtual 110, n) :: r) L (.int x1 :: .ref 6 :: S) (mk h) Q = (pm_okW 8 S = true ∧ pm_WC fqP d 36 [.ref 6, .int x1] (mk h) (pm_kk fqP d 34 (pc + n) r L S Q)) := by
  show _ = (pm_okW 8 S = true ∧ pm_WC fqP d 36 [.ref 6, .int x1] (mk h) (fun v σ' => pm_WL fqP d 34 (pc + n) r L (pm_pu v S) σ' Q))
  simp only [w_invv, lg_34, lm_5_110, pm_oM_s, pm_oP_s, pm_pop_0, pm_pop_s, pm_rcv_is, hg_6, pm_oO_s, pm_ref1_is, Nat.reduceEqDiff, Nat.zero_ne_one, Nat.succ_ne_self, true_or, or_true, or_false, false_or, or_self, false_implies, true_implies, implies_true, true_and]
theorem iv_34_110_34 {x1 : Int32} : pm_WL fqP d 34 pc ((.invokevirtual 110, n) :: r) L (.int x1 :: .ref 34 :: S) (mk h) Q = (pm_okW 8 S = true ∧ pm_WC fqP d 36 [.ref 34, .int x1] (mk h) (pm_kk fqP d 34 (pc + n) r L S Q)) := by
  show _ = (pm_okW 8 S = true ∧ pm_WC fqP d 36 [.ref 34, .int x1] (mk h) (fun v σ' => pm_WL fqP d 34 (pc + n) r L (pm_pu v S) σ' Q))
  simp only [w_invv, lg_34, lm_5_110, pm_oM_s, pm_oP_s, pm_pop_0, pm_pop_s, pm_rcv_is, hg_34, pm_oO_s, pm_ref1_is, Nat.reduceEqDiff, Nat.zero_ne_one, Nat.succ_ne_self, true_or, or_true, or_false, false_or, or_self, false_implies, true_implies, implies_true, true_and]
theorem iv_34_110_61 {x1 : Int32} : pm_WL fqP d 34 pc ((.invokevirtual 110, n) :: r) L (.int x1 :: .ref 61 :: S) (mk h) Q = (pm_okW 8 S = true ∧ pm_WC fqP d 36 [.ref 61, .int x1] (mk h) (pm_kk fqP d 34 (pc + n) r L S Q)) := by
  show _ = (pm_okW 8 S = true ∧ pm_WC fqP d 36 [.ref 61, .int x1] (mk h) (fun v σ' => pm_WL fqP d 34 (pc + n) r L (pm_pu v S) σ' Q))
  simp only [w_invv, lg_34, lm_5_110, pm_oM_s, pm_oP_s, pm_pop_0, pm_pop_s, pm_rcv_is, hg_61, pm_oO_s, pm_ref1_is, Nat.reduceEqDiff, Nat.zero_ne_one, Nat.succ_ne_self, true_or, or_true, or_false, false_or, or_self, false_implies, true_implies, implies_true, true_and]
theorem gf_34_113_11 : pm_WL fqP d 34 pc ((.getfield 113, n) :: r) L (.ref 11 :: S) (mk h) Q = pm_WL fqP d 34 (pc + n) r L (.ref 16 :: S) (mk h) Q := by
  simp only [w_getf, lg_34, lf_5_113, pm_oF_s, hg_11, pm_oO_s, List.getElem?_cons_succ, List.getElem?_cons_zero, pm_oK_s, true_and]
theorem gf_34_113_39 : pm_WL fqP d 34 pc ((.getfield 113, n) :: r) L (.ref 39 :: S) (mk h) Q = pm_WL fqP d 34 (pc + n) r L (.ref 44 :: S) (mk h) Q := by
  simp only [w_getf, lg_34, lf_5_113, pm_oF_s, hg_39, pm_oO_s, List.getElem?_cons_succ, List.getElem?_cons_zero, pm_oK_s, true_and]
theorem gf_34_113_66 : pm_WL fqP d 34 pc ((.getfield 113, n) :: r) L (.ref 66 :: S) (mk h) Q = pm_WL fqP d 34 (pc + n) r L (.ref 71 :: S) (mk h) Q := by
  simp only [w_getf, lg_34, lf_5_113, pm_oF_s, hg_66, pm_oO_s, List.getElem?_cons_succ, List.getElem?_cons_zero, pm_oK_s, true_and]
theorem gf_36_43_6 : pm_WL fqP d 36 pc ((.getfield 43, n) :: r) L (.ref 6 :: S) (mk h) Q = pm_WL fqP d 36 (pc + n) r L (.int (gd (h 6) 2) :: S) (mk h) Q := by
  simp only [w_getf, lg_36, lf_5_43, pm_oF_s, hg_6, pm_oO_s, List.getElem?_cons_succ, List.getElem?_cons_zero, pm_oK_s, true_and]
theorem gf_36_43_34 : pm_WL fqP d 36 pc ((.getfield 43, n) :: r) L (.ref 34 :: S) (mk h) Q = pm_WL fqP d 36 (pc + n) r L (.int (gd (h 34) 2) :: S) (mk h) Q := by
  simp only [w_getf, lg_36, lf_5_43, pm_oF_s, hg_34, pm_oO_s, List.getElem?_cons_succ, List.getElem?_cons_zero, pm_oK_s, true_and]
theorem gf_36_43_61 : pm_WL fqP d 36 pc ((.getfield 43, n) :: r) L (.ref 61 :: S) (mk h) Q = pm_WL fqP d 36 (pc + n) r L (.int (gd (h 61) 2) :: S) (mk h) Q := by
  simp only [w_getf, lg_36, lf_5_43, pm_oF_s, hg_61, pm_oO_s, List.getElem?_cons_succ, List.getElem?_cons_zero, pm_oK_s, true_and]
theorem gf_37_46_6 : pm_WL fqP d 37 pc ((.getfield 46, n) :: r) L (.ref 6 :: S) (mk h) Q = pm_WL fqP d 37 (pc + n) r L (.int (gd (h 6) 1) :: S) (mk h) Q := by
  simp only [w_getf, lg_37, lf_5_46, pm_oF_s, hg_6, pm_oO_s, List.getElem?_cons_succ, List.getElem?_cons_zero, pm_oK_s, true_and]
theorem gf_37_46_34 : pm_WL fqP d 37 pc ((.getfield 46, n) :: r) L (.ref 34 :: S) (mk h) Q = pm_WL fqP d 37 (pc + n) r L (.int (gd (h 34) 1) :: S) (mk h) Q := by
  simp only [w_getf, lg_37, lf_5_46, pm_oF_s, hg_34, pm_oO_s, List.getElem?_cons_succ, List.getElem?_cons_zero, pm_oK_s, true_and]
theorem gf_37_46_61 : pm_WL fqP d 37 pc ((.getfield 46, n) :: r) L (.ref 61 :: S) (mk h) Q = pm_WL fqP d 37 (pc + n) r L (.int (gd (h 61) 1) :: S) (mk h) Q := by
  simp only [w_getf, lg_37, lf_5_46, pm_oF_s, hg_61, pm_oO_s, List.getElem?_cons_succ, List.getElem?_cons_zero, pm_oK_s, true_and]
theorem pf_37_46_6 {x : Int32} : pm_WL fqP d 37 pc ((.putfield 46, n) :: r) L (.int x :: .ref 6 :: S) (mk h) Q = pm_WL fqP d 37 (pc + n) r L S (mk (up h 6 [gd (h 6) 0, x, gd (h 6) 2])) Q := by
  simp only [w_putf, lg_37, lf_5_46, lt_5_5, pm_oF_s, hg_6, pm_oO_s, List.set_cons_succ, List.set_cons_zero, List.length_cons, List.length_nil, pm_fit_i, Nat.reduceAdd, Nat.reduceLT, Nat.zero_add, Nat.lt_add_one, Bool.false_eq_true, false_implies, true_and, and_true, hs_6]
theorem pf_37_46_34 {x : Int32} : pm_WL fqP d 37 pc ((.putfield 46, n) :: r) L (.int x :: .ref 34 :: S) (mk h) Q = pm_WL fqP d 37 (pc + n) r L S (mk (up h 34 [gd (h 34) 0, x, gd (h 34) 2])) Q := by
  simp only [w_putf, lg_37, lf_5_46, lt_5_5, pm_oF_s, hg_34, pm_oO_s, List.set_cons_succ, List.set_cons_zero, List.length_cons, List.length_nil, pm_fit_i, Nat.reduceAdd, Nat.reduceLT, Nat.zero_add, Nat.lt_add_one, Bool.false_eq_true, false_implies, true_and, and_true, hs_34]
theorem pf_37_46_61 {x : Int32} : pm_WL fqP d 37 pc ((.putfield 46, n) :: r) L (.int x :: .ref 61 :: S) (mk h) Q = pm_WL fqP d 37 (pc + n) r L S (mk (up h 61 [gd (h 61) 0, x, gd (h 61) 2])) Q := by
  simp only [w_putf, lg_37, lf_5_46, lt_5_5, pm_oF_s, hg_61, pm_oO_s, List.set_cons_succ, List.set_cons_zero, List.length_cons, List.length_nil, pm_fit_i, Nat.reduceAdd, Nat.reduceLT, Nat.zero_add, Nat.lt_add_one, Bool.false_eq_true, false_implies, true_and, and_true, hs_61]
theorem gf_37_43_6 : pm_WL fqP d 37 pc ((.getfield 43, n) :: r) L (.ref 6 :: S) (mk h) Q = pm_WL fqP d 37 (pc + n) r L (.int (gd (h 6) 2) :: S) (mk h) Q := by
  simp only [w_getf, lg_37, lf_5_43, pm_oF_s, hg_6, pm_oO_s, List.getElem?_cons_succ, List.getElem?_cons_zero, pm_oK_s, true_and]
theorem gf_37_43_34 : pm_WL fqP d 37 pc ((.getfield 43, n) :: r) L (.ref 34 :: S) (mk h) Q = pm_WL fqP d 37 (pc + n) r L (.int (gd (h 34) 2) :: S) (mk h) Q := by
  simp only [w_getf, lg_37, lf_5_43, pm_oF_s, hg_34, pm_oO_s, List.getElem?_cons_succ, List.getElem?_cons_zero, pm_oK_s, true_and]
theorem gf_37_43_61 : pm_WL fqP d 37 pc ((.getfield 43, n) :: r) L (.ref 61 :: S) (mk h) Q = pm_WL fqP d 37 (pc + n) r L (.int (gd (h 61) 2) :: S) (mk h) Q := by
  simp only [w_getf, lg_37, lf_5_43, pm_oF_s, hg_61, pm_oO_s, List.getElem?_cons_succ, List.getElem?_cons_zero, pm_oK_s, true_and]
theorem pf_37_43_6 {x : Int32} : pm_WL fqP d 37 pc ((.putfield 43, n) :: r) L (.int x :: .ref 6 :: S) (mk h) Q = pm_WL fqP d 37 (pc + n) r L S (mk (up h 6 [gd (h 6) 0, gd (h 6) 1, x])) Q := by
  simp only [w_putf, lg_37, lf_5_43, lt_5_6, pm_oF_s, hg_6, pm_oO_s, List.set_cons_succ, List.set_cons_zero, List.length_cons, List.length_nil, pm_fit_i, Nat.reduceAdd, Nat.reduceLT, Nat.zero_add, Nat.lt_add_one, Bool.false_eq_true, false_implies, true_and, and_true, hs_6]
theorem pf_37_43_34 {x : Int32} : pm_WL fqP d 37 pc ((.putfield 43, n) :: r) L (.int x :: .ref 34 :: S) (mk h) Q = pm_WL fqP d 37 (pc + n) r L S (mk (up h 34 [gd (h 34) 0, gd (h 34) 1, x])) Q := by
  simp only [w_putf, lg_37, lf_5_43, lt_5_6, pm_oF_s, hg_34, pm_oO_s, List.set_cons_succ, List.set_cons_zero, List.length_cons, List.length_nil, pm_fit_i, Nat.reduceAdd, Nat.reduceLT, Nat.zero_add, Nat.lt_add_one, Bool.false_eq_true, false_implies, true_and, and_true, hs_34]
theorem pf_37_43_61 {x : Int32} : pm_WL fqP d 37 pc ((.putfield 43, n) :: r) L (.int x :: .ref 61 :: S) (mk h) Q = pm_WL fqP d 37 (pc + n) r L S (mk (up h 61 [gd (h 61) 0, gd (h 61) 1, x])) Q := by
  simp only [w_putf, lg_37, lf_5_43, lt_5_6, pm_oF_s, hg_61, pm_oO_s, List.set_cons_succ, List.set_cons_zero, List.length_cons, List.length_nil, pm_fit_i, Nat.reduceAdd, Nat.reduceLT, Nat.zero_add, Nat.lt_add_one, Bool.false_eq_true, false_implies, true_and, and_true, hs_61]
theorem gf_38_12_6 : pm_WL fqP d 38 pc ((.getfield 12, n) :: r) L (.ref 6 :: S) (mk h) Q = pm_WL fqP d 38 (pc + n) r L (.ref 7 :: S) (mk h) Q := by
  simp only [w_getf, lg_38, lf_5_12, pm_oF_s, hg_6, pm_oO_s, List.getElem?_cons_succ, List.getElem?_cons_zero, pm_oK_s, true_and]
theorem gf_38_12_34 : pm_WL fqP d 38 pc ((.getfield 12, n) :: r) L (.ref 34 :: S) (mk h) Q = pm_WL fqP d 38 (pc + n) r L (.ref 35 :: S) (mk h) Q := by
  simp only [w_getf, lg_38, lf_5_12, pm_oF_s, hg_34, pm_oO_s, List.getElem?_cons_succ, List.getElem?_cons_zero, pm_oK_s, true_and]
theorem gf_38_12_61 : pm_WL fqP d 38 pc ((.getfield 12, n) :: r) L (.ref 61 :: S) (mk h) Q = pm_WL fqP d 38 (pc + n) r L (.ref 62 :: S) (mk h) Q := by
  simp only [w_getf, lg_38, lf_5_12, pm_oF_s, hg_61, pm_oO_s, List.getElem?_cons_succ, List.getElem?_cons_zero, pm_oK_s, true_and]
theorem iv_38_116_7 {x1 : Nat} : pm_WL fqP d 38 pc ((.invokevirtual 116, n) :: r) L (.ref x1 :: .ref 7 :: S) (mk h) Q = (pm_okW 8 S = true ∧ pm_WC fqP d 10 [.ref 7, .ref x1] (mk h) (pm_kk fqP d 38 (pc + n) r L S Q)) := by
  show _ = (pm_okW 8 S = true ∧ pm_WC fqP d 10 [.ref 7, .ref x1] (mk h) (fun v σ' => pm_WL fqP d 38 (pc + n) r L (pm_pu v S) σ' Q))
  simp only [w_invv, lg_38, lm_5_116, pm_oM_s, pm_oP_s, pm_pop_0, pm_pop_s, pm_rcv_is, hg_7, pm_oO_s, pm_ref1_is, Nat.reduceEqDiff, Nat.zero_ne_one, Nat.succ_ne_self, true_or, or_true, or_false, false_or, or_self, false_implies, true_implies, implies_true, true_and]
theorem iv_38_116_35 {x1 : Nat} : pm_WL fqP d 38 pc ((.invokevirtual 116, n) :: r) L (.ref x1 :: .ref 35 :: S) (mk h) Q = (pm_okW 8 S = true ∧ pm_WC fqP d 10 [.ref 35, .ref x1] (mk h) (pm_kk fqP d 38 (pc + n) r L S Q)) := by
  show _ = (pm_okW 8 S = true ∧ pm_WC fqP d 10 [.ref 35, .ref x1] (mk h) (fun v σ' => pm_WL fqP d 38 (pc + n) r L (pm_pu v S) σ' Q))
  simp only [w_invv, lg_38, lm_5_116, pm_oM_s, pm_oP_s, pm_pop_0, pm_pop_s, pm_rcv_is, hg_35, pm_oO_s, pm_ref1_is, Nat.reduceEqDiff, Nat.zero_ne_one, Nat.succ_ne_self, true_or, or_true, or_false, false_or, or_self, false_implies, true_implies, implies_true, true_and]
theorem iv_38_116_62 {x1 : Nat} : pm_WL fqP d 38 pc ((.invokevirtual 116, n) :: r) L (.ref x1 :: .ref 62 :: S) (mk h) Q = (pm_okW 8 S = true ∧ pm_WC fqP d 10 [.ref 62, .ref x1] (mk h) (pm_kk fqP d 38 (pc + n) r L S Q)) := by
  show _ = (pm_okW 8 S = true ∧ pm_WC fqP d 10 [.ref 62, .ref x1] (mk h) (fun v σ' => pm_WL fqP d 38 (pc + n) r L (pm_pu v S) σ' Q))
  simp only [w_invv, lg_38, lm_5_116, pm_oM_s, pm_oP_s, pm_pop_0, pm_pop_s, pm_rcv_is, hg_62, pm_oO_s, pm_ref1_is, Nat.reduceEqDiff, Nat.zero_ne_one, Nat.succ_ne_self, true_or, or_true, or_false, false_or, or_self, false_implies, true_implies, implies_true, true_and]
theorem iv_38_116_76 {x1 : Nat} : pm_WL fqP d 38 pc ((.invokevirtual 116, n) :: r) L (.ref x1 :: .ref 76 :: S) (mk h) Q = (pm_okW 8 S = true ∧ pm_WC fqP d 10 [.ref 76, .ref x1] (mk h) (pm_kk fqP d 38 (pc + n) r L S Q)) := by
  show _ = (pm_okW 8 S = true ∧ pm_WC fqP d 10 [.ref 76, .ref x1] (mk h) (fun v σ' => pm_WL fqP d 38 (pc + n) r L (pm_pu v S) σ' Q))
  simp only [w_invv, lg_38, lm_5_116, pm_oM_s, pm_oP_s, pm_pop_0, pm_pop_s, pm_rcv_is, hg_76, pm_oO_s, pm_ref1_is, Nat.reduceEqDiff, Nat.zero_ne_one, Nat.succ_ne_self, true_or, or_true, or_false, false_or, or_self, false_implies, true_implies, implies_true, true_and]
theorem gf_38_21_6 : pm_WL fqP d 38 pc ((.getfield 21, n) :: r) L (.ref 6 :: S) (mk h) Q = pm_WL fqP d 38 (pc + n) r L (.ref 11 :: S) (mk h) Q := by
  simp only [w_getf, lg_38, lf_5_21, pm_oF_s, hg_6, pm_oO_s, List.getElem?_cons_succ, List.getElem?_cons_zero, pm_oK_s, true_and]
theorem gf_38_21_34 : pm_WL fqP d 38 pc ((.getfield 21, n) :: r) L (.ref 34 :: S) (mk h) Q = pm_WL fqP d 38 (pc + n) r L (.ref 39 :: S) (mk h) Q := by
  simp only [w_getf, lg_38, lf_5_21, pm_oF_s, hg_34, pm_oO_s, List.getElem?_cons_succ, List.getElem?_cons_zero, pm_oK_s, true_and]
theorem gf_38_21_61 : pm_WL fqP d 38 pc ((.getfield 21, n) :: r) L (.ref 61 :: S) (mk h) Q = pm_WL fqP d 38 (pc + n) r L (.ref 66 :: S) (mk h) Q := by
  simp only [w_getf, lg_38, lf_5_21, pm_oF_s, hg_61, pm_oO_s, List.getElem?_cons_succ, List.getElem?_cons_zero, pm_oK_s, true_and]
theorem iv_38_120_11 {x1 : Nat} : pm_WL fqP d 38 pc ((.invokevirtual 120, n) :: r) L (.ref x1 :: .ref 11 :: S) (mk h) Q = (pm_okW 8 S = true ∧ pm_WC fqP d 43 [.ref 11, .ref x1] (mk h) (pm_kk fqP d 38 (pc + n) r L S Q)) := by
  show _ = (pm_okW 8 S = true ∧ pm_WC fqP d 43 [.ref 11, .ref x1] (mk h) (fun v σ' => pm_WL fqP d 38 (pc + n) r L (pm_pu v S) σ' Q))
  simp only [w_invv, lg_38, lm_5_120, pm_oM_s, pm_oP_s, pm_pop_0, pm_pop_s, pm_rcv_is, hg_11, pm_oO_s, pm_ref1_is, Nat.reduceEqDiff, Nat.zero_ne_one, Nat.succ_ne_self, true_or, or_true, or_false, false_or, or_self, false_implies, true_implies, implies_true, true_and]
theorem iv_38_120_39 {x1 : Nat} : pm_WL fqP d 38 pc ((.invokevirtual 120, n) :: r) L (.ref x1 :: .ref 39 :: S) (mk h) Q = (pm_okW 8 S = true ∧ pm_WC fqP d 43 [.ref 39, .ref x1] (mk h) (pm_kk fqP d 38 (pc + n) r L S Q)) := by
  show _ = (pm_okW 8 S = true ∧ pm_WC fqP d 43 [.ref 39, .ref x1] (mk h) (fun v σ' => pm_WL fqP d 38 (pc + n) r L (pm_pu v S) σ' Q))
  simp only [w_invv, lg_38, lm_5_120, pm_oM_s, pm_oP_s, pm_pop_0, pm_pop_s, pm_rcv_is, hg_39, pm_oO_s, pm_ref1_is, Nat.reduceEqDiff, Nat.zero_ne_one, Nat.succ_ne_self, true_or, or_true, or_false, false_or, or_self, false_implies, true_implies, implies_true, true_and]
theorem iv_38_120_66 {x1 : Nat} : pm_WL fqP d 38 pc ((.invokevirtual 120, n) :: r) L (.ref x1 :: .ref 66 :: S) (mk h) Q = (pm_okW 8 S = true ∧ pm_WC fqP d 43 [.ref 66, .ref x1] (mk h) (pm_kk fqP d 38 (pc + n) r L S Q)) := by
  show _ = (pm_okW 8 S = true ∧ pm_WC fqP d 43 [.ref 66, .ref x1] (mk h) (fun v σ' => pm_WL fqP d 38 (pc + n) r L (pm_pu v S) σ' Q))
  simp only [w_invv, lg_38, lm_5_120, pm_oM_s, pm_oP_s, pm_pop_0, pm_pop_s, pm_rcv_is, hg_66, pm_oO_s, pm_ref1_is, Nat.reduceEqDiff, Nat.zero_ne_one, Nat.succ_ne_self, true_or, or_true, or_false, false_or, or_self, false_implies, true_implies, implies_true, true_and]
theorem gf_38_25_6 : pm_WL fqP d 38 pc ((.getfield 25, n) :: r) L (.ref 6 :: S) (mk h) Q = pm_WL fqP d 38 (pc + n) r L (.ref 17 :: S) (mk h) Q := by
  simp only [w_getf, lg_38, lf_5_25, pm_oF_s, hg_6, pm_oO_s, List.getElem?_cons_succ, List.getElem?_cons_zero, pm_oK_s, true_and]
theorem gf_38_25_34 : pm_WL fqP d 38 pc ((.getfield 25, n) :: r) L (.ref 34 :: S) (mk h) Q = pm_WL fqP d 38 (pc + n) r L (.ref 45 :: S) (mk h) Q := by
  simp only [w_getf, lg_38, lf_5_25, pm_oF_s, hg_34, pm_oO_s, List.getElem?_cons_succ, List.getElem?_cons_zero, pm_oK_s, true_and]
theorem gf_38_25_61 : pm_WL fqP d 38 pc ((.getfield 25, n) :: r) L (.ref 61 :: S) (mk h) Q = pm_WL fqP d 38 (pc + n) r L (.ref 72 :: S) (mk h) Q := by
  simp only [w_getf, lg_38, lf_5_25, pm_oF_s, hg_61, pm_oO_s, List.getElem?_cons_succ, List.getElem?_cons_zero, pm_oK_s, true_and]
theorem iv_38_123 {x0 : Nat} {x1 : Nat} : pm_WL fqP d 38 pc ((.invokestatic 123, n) :: r) L (.ref x1 :: .ref x0 :: S) σ Q = (pm_okW 8 S = true ∧ pm_WC fqP d 94 [.ref x0, .ref x1] σ (pm_kk fqP d 38 (pc + n) r L S Q)) := by
  show _ = (pm_okW 8 S = true ∧ pm_WC fqP d 94 [.ref x0, .ref x1] σ (fun v σ' => pm_WL fqP d 38 (pc + n) r L (pm_pu v S) σ' Q))
  simp only [w_invs, lg_38, lm_5_123, pm_oM_s, pm_oP_s, pm_pop_0, pm_pop_s, pm_ref1_is, Nat.reduceEqDiff, Nat.zero_ne_one, Nat.succ_ne_self, true_or, or_true, or_false, false_or, or_self, false_implies, true_implies, implies_true, true_and]
theorem gf_38_29_6 : pm_WL fqP d 38 pc ((.getfield 29, n) :: r) L (.ref 6 :: S) (mk h) Q = pm_WL fqP d 38 (pc + n) r L (.ref 18 :: S) (mk h) Q := by
  simp only [w_getf, lg_38, lf_5_29, pm_oF_s, hg_6, pm_oO_s, List.getElem?_cons_succ, List.getElem?_cons_zero, pm_oK_s, true_and]
theorem gf_38_29_34 : pm_WL fqP d 38 pc ((.getfield 29, n) :: r) L (.ref 34 :: S) (mk h) Q = pm_WL fqP d 38 (pc + n) r L (.ref 46 :: S) (mk h) Q := by
  simp only [w_getf, lg_38, lf_5_29, pm_oF_s, hg_34, pm_oO_s, List.getElem?_cons_succ, List.getElem?_cons_zero, pm_oK_s, true_and]
theorem gf_38_29_61 : pm_WL fqP d 38 pc ((.getfield 29, n) :: r) L (.ref 61 :: S) (mk h) Q = pm_WL fqP d 38 (pc + n) r L (.ref 73 :: S) (mk h) Q := by
  simp only [w_getf, lg_38, lf_5_29, pm_oF_s, hg_61, pm_oO_s, List.getElem?_cons_succ, List.getElem?_cons_zero, pm_oK_s, true_and]
theorem gf_38_35_6 : pm_WL fqP d 38 pc ((.getfield 35, n) :: r) L (.ref 6 :: S) (mk h) Q = pm_WL fqP d 38 (pc + n) r L (.int (gd (h 6) 0) :: S) (mk h) Q := by
  simp only [w_getf, lg_38, lf_5_35, pm_oF_s, hg_6, pm_oO_s, List.getElem?_cons_succ, List.getElem?_cons_zero, pm_oK_s, true_and]
theorem gf_38_35_34 : pm_WL fqP d 38 pc ((.getfield 35, n) :: r) L (.ref 34 :: S) (mk h) Q = pm_WL fqP d 38 (pc + n) r L (.int (gd (h 34) 0) :: S) (mk h) Q := by
  simp only [w_getf, lg_38, lf_5_35, pm_oF_s, hg_34, pm_oO_s, List.getElem?_cons_succ, List.getElem?_cons_zero, pm_oK_s, true_and]
theorem gf_38_35_61 : pm_WL fqP d 38 pc ((.getfield 35, n) :: r) L (.ref 61 :: S) (mk h) Q = pm_WL fqP d 38 (pc + n) r L (.int (gd (h 61) 0) :: S) (mk h) Q := by
  simp only [w_getf, lg_38, lf_5_35, pm_oF_s, hg_61, pm_oO_s, List.getElem?_cons_succ, List.getElem?_cons_zero, pm_oK_s, true_and]
theorem pf_38_35_6 {x : Int32} : pm_WL fqP d 38 pc ((.putfield 35, n) :: r) L (.int x :: .ref 6 :: S) (mk h) Q = pm_WL fqP d 38 (pc + n) r L S (mk (up h 6 [x, gd (h 6) 1, gd (h 6) 2])) Q := by
  simp only [w_putf, lg_38, lf_5_35, lt_5_4, pm_oF_s, hg_6, pm_oO_s, List.set_cons_succ, List.set_cons_zero, List.length_cons, List.length_nil, pm_fit_i, Nat.reduceAdd, Nat.reduceLT, Nat.zero_add, Nat.lt_add_one, Bool.false_eq_true, false_implies, true_and, and_true, hs_6]
theorem pf_38_35_34 {x : Int32} : pm_WL fqP d 38 pc ((.putfield 35, n) :: r) L (.int x :: .ref 34 :: S) (mk h) Q = pm_WL fqP d 38 (pc + n) r L S (mk (up h 34 [x, gd (h 34) 1, gd (h 34) 2])) Q := by
  simp only [w_putf, lg_38, lf_5_35, lt_5_4, pm_oF_s, hg_34, pm_oO_s, List.set_cons_succ, List.set_cons_zero, List.length_cons, List.length_nil, pm_fit_i, Nat.reduceAdd, Nat.reduceLT, Nat.zero_add, Nat.lt_add_one, Bool.false_eq_true, false_implies, true_and, and_true, hs_34]
theorem pf_38_35_61 {x : Int32} : pm_WL fqP d 38 pc ((.putfield 35, n) :: r) L (.int x :: .ref 61 :: S) (mk h) Q = pm_WL fqP d 38 (pc + n) r L S (mk (up h 61 [x, gd (h 61) 1, gd (h 61) 2])) Q := by
  simp only [w_putf, lg_38, lf_5_35, lt_5_4, pm_oF_s, hg_61, pm_oO_s, List.set_cons_succ, List.set_cons_zero, List.length_cons, List.length_nil, pm_fit_i, Nat.reduceAdd, Nat.reduceLT, Nat.zero_add, Nat.lt_add_one, Bool.false_eq_true, false_implies, true_and, and_true, hs_61]
theorem iv_38_127_6 {x1 : Nat} : pm_WL fqP d 38 pc ((.invokevirtual 127, n) :: r) L (.ref x1 :: .ref 6 :: S) (mk h) Q = (pm_okW 8 S = true ∧ pm_WC fqP d 37 [.ref 6, .ref x1] (mk h) (pm_kk fqP d 38 (pc + n) r L S Q)) := by
  show _ = (pm_okW 8 S = true ∧ pm_WC fqP d 37 [.ref 6, .ref x1] (mk h) (fun v σ' => pm_WL fqP d 38 (pc + n) r L (pm_pu v S) σ' Q))
  simp only [w_invv, lg_38, lm_5_127, pm_oM_s, pm_oP_s, pm_pop_0, pm_pop_s, pm_rcv_is, hg_6, pm_oO_s, pm_ref1_is, Nat.reduceEqDiff, Nat.zero_ne_one, Nat.succ_ne_self, true_or, or_true, or_false, false_or, or_self, false_implies, true_implies, implies_true, true_and]
theorem iv_38_127_34 {x1 : Nat} : pm_WL fqP d 38 pc ((.invokevirtual 127, n) :: r) L (.ref x1 :: .ref 34 :: S) (mk h) Q = (pm_okW 8 S = true ∧ pm_WC fqP d 37 [.ref 34, .ref x1] (mk h) (pm_kk fqP d 38 (pc + n) r L S Q)) := by
  show _ = (pm_okW 8 S = true ∧ pm_WC fqP d 37 [.ref 34, .ref x1] (mk h) (fun v σ' => pm_WL fqP d 38 (pc + n) r L (pm_pu v S) σ' Q))
  simp only [w_invv, lg_38, lm_5_127, pm_oM_s, pm_oP_s, pm_pop_0, pm_pop_s, pm_rcv_is, hg_34, pm_oO_s, pm_ref1_is, Nat.reduceEqDiff, Nat.zero_ne_one, Nat.succ_ne_self, true_or, or_true, or_false, false_or, or_self, false_implies, true_implies, implies_true, true_and]
theorem iv_38_127_61 {x1 : Nat} : pm_WL fqP d 38 pc ((.invokevirtual 127, n) :: r) L (.ref x1 :: .ref 61 :: S) (mk h) Q = (pm_okW 8 S = true ∧ pm_WC fqP d 37 [.ref 61, .ref x1] (mk h) (pm_kk fqP d 38 (pc + n) r L S Q)) := by
  show _ = (pm_okW 8 S = true ∧ pm_WC fqP d 37 [.ref 61, .ref x1] (mk h) (fun v σ' => pm_WL fqP d 38 (pc + n) r L (pm_pu v S) σ' Q))
  simp only [w_invv, lg_38, lm_5_127, pm_oM_s, pm_oP_s, pm_pop_0, pm_pop_s, pm_rcv_is, hg_61, pm_oO_s, pm_ref1_is, Nat.reduceEqDiff, Nat.zero_ne_one, Nat.succ_ne_self, true_or, or_true, or_false, false_or, or_self, false_implies, true_implies, implies_true, true_and]
theorem gf_40_27_11 : pm_WL fqP d 40 pc ((.getfield 27, n) :: r) L (.ref 11 :: S) (mk h) Q = pm_WL fqP d 40 (pc + n) r L (.int (gd (h 11) 1) :: S) (mk h) Q := by
  simp only [w_getf, lg_40, lf_6_27, pm_oF_s, hg_11, pm_oO_s, List.getElem?_cons_succ, List.getElem?_cons_zero, pm_oK_s, true_and]
theorem gf_40_27_39 : pm_WL fqP d 40 pc ((.getfield 27, n) :: r) L (.ref 39 :: S) (mk h) Q = pm_WL fqP d 40 (pc + n) r L (.int (gd (h 39) 1) :: S) (mk h) Q := by
  simp only [w_getf, lg_40, lf_6_27, pm_oF_s, hg_39, pm_oO_s, List.getElem?_cons_succ, List.getElem?_cons_zero, pm_oK_s, true_and]
theorem gf_40_27_66 : pm_WL fqP d 40 pc ((.getfield 27, n) :: r) L (.ref 66 :: S) (mk h) Q = pm_WL fqP d 40 (pc + n) r L (.int (gd (h 66) 1) :: S) (mk h) Q := by
  simp only [w_getf, lg_40, lf_6_27, pm_oF_s, hg_66, pm_oO_s, List.getElem?_cons_succ, List.getElem?_cons_zero, pm_oK_s, true_and]
theorem gf_41_9_11 : pm_WL fqP d 41 pc ((.getfield 9, n) :: r) L (.ref 11 :: S) (mk h) Q = pm_WL fqP d 41 (pc + n) r L (.ref 12 :: S) (mk h) Q := by
  simp only [w_getf, lg_41, lf_6_9, pm_oF_s, hg_11, pm_oO_s, List.getElem?_cons_succ, List.getElem?_cons_zero, pm_oK_s, true_and]
theorem gf_41_9_39 : pm_WL fqP d 41 pc ((.getfield 9, n) :: r) L (.ref 39 :: S) (mk h) Q = pm_WL fqP d 41 (pc + n) r L (.ref 40 :: S) (mk h) Q := by
  simp only [w_getf, lg_41, lf_6_9, pm_oF_s, hg_39, pm_oO_s, List.getElem?_cons_succ, List.getElem?_cons_zero, pm_oK_s, true_and]
theorem gf_41_9_66 : pm_WL fqP d 41 pc ((.getfield 9, n) :: r) L (.ref 66 :: S) (mk h) Q = pm_WL fqP d 41 (pc + n) r L (.ref 67 :: S) (mk h) Q := by
  simp only [w_getf, lg_41, lf_6_9, pm_oF_s, hg_66, pm_oO_s, List.getElem?_cons_succ, List.getElem?_cons_zero, pm_oK_s, true_and]
theorem gf_41_27_11 : pm_WL fqP d 41 pc ((.getfield 27, n) :: r) L (.ref 11 :: S) (mk h) Q = pm_WL fqP d 41 (pc + n) r L (.int (gd (h 11) 1) :: S) (mk h) Q := by
  simp only [w_getf, lg_41, lf_6_27, pm_oF_s, hg_11, pm_oO_s, List.getElem?_cons_succ, List.getElem?_cons_zero, pm_oK_s, true_and]
theorem gf_41_27_39 : pm_WL fqP d 41 pc ((.getfield 27, n) :: r) L (.ref 39 :: S) (mk h) Q = pm_WL fqP d 41 (pc + n) r L (.int (gd (h 39) 1) :: S) (mk h) Q := by
  simp only [w_getf, lg_41, lf_6_27, pm_oF_s, hg_39, pm_oO_s, List.getElem?_cons_succ, List.getElem?_cons_zero, pm_oK_s, true_and]
theorem gf_41_27_66 : pm_WL fqP d 41 pc ((.getfield 27, n) :: r) L (.ref 66 :: S) (mk h) Q = pm_WL fqP d 41 (pc + n) r L (.int (gd (h 66) 1) :: S) (mk h) Q := by
  simp only [w_getf, lg_41, lf_6_27, pm_oF_s, hg_66, pm_oO_s, List.getElem?_cons_succ, List.getElem?_cons_zero, pm_oK_s, true_and]
theorem iv_41_31 {x0 : Nat} {x1 : Int32} {x2 : Int32} : pm_WL fqP d 41 pc ((.invokestatic 31, n) :: r) L (.int x2 :: .int x1 :: .ref x0 :: S) σ Q = (pm_okW 8 S = true ∧ pm_WC fqP d 92 [.ref x0, .int x1, .int x2] σ (pm_kk fqP d 41 (pc + n) r L S Q)) := by
  show _ = (pm_okW 8 S = true ∧ pm_WC fqP d 92 [.ref x0, .int x1, .int x2] σ (fun v σ' => pm_WL fqP d 41 (pc + n) r L (pm_pu v S) σ' Q))
  simp only [w_invs, lg_41, lm_6_31, pm_oM_s, pm_oP_s, pm_pop_0, pm_pop_s, pm_ref1_is, Nat.reduceEqDiff, Nat.zero_ne_one, Nat.succ_ne_self, true_or, or_true, or_false, false_or, or_self, false_implies, true_implies, implies_true, true_and]
theorem gf_41_15_11 : pm_WL fqP d 41 pc ((.getfield 15, n) :: r) L (.ref 11 :: S) (mk h) Q = pm_WL fqP d 41 (pc + n) r L (.ref 13 :: S) (mk h) Q := by
  simp only [w_getf, lg_41, lf_6_15, pm_oF_s, hg_11, pm_oO_s, List.getElem?_cons_succ, List.getElem?_cons_zero, pm_oK_s, true_and]
theorem gf_41_15_39 : pm_WL fqP d 41 pc ((.getfield 15, n) :: r) L (.ref 39 :: S) (mk h) Q = pm_WL fqP d 41 (pc + n) r L (.ref 41 :: S) (mk h) Q := by
  simp only [w_getf, lg_41, lf_6_15, pm_oF_s, hg_39, pm_oO_s, List.getElem?_cons_succ, List.getElem?_cons_zero, pm_oK_s, true_and]
theorem gf_41_15_66 : pm_WL fqP d 41 pc ((.getfield 15, n) :: r) L (.ref 66 :: S) (mk h) Q = pm_WL fqP d 41 (pc + n) r L (.ref 68 :: S) (mk h) Q := by
  simp only [w_getf, lg_41, lf_6_15, pm_oF_s, hg_66, pm_oO_s, List.getElem?_cons_succ, List.getElem?_cons_zero, pm_oK_s, true_and]
theorem gf_41_18_11 : pm_WL fqP d 41 pc ((.getfield 18, n) :: r) L (.ref 11 :: S) (mk h) Q = pm_WL fqP d 41 (pc + n) r L (.ref 14 :: S) (mk h) Q := by
  simp only [w_getf, lg_41, lf_6_18, pm_oF_s, hg_11, pm_oO_s, List.getElem?_cons_succ, List.getElem?_cons_zero, pm_oK_s, true_and]
theorem gf_41_18_39 : pm_WL fqP d 41 pc ((.getfield 18, n) :: r) L (.ref 39 :: S) (mk h) Q = pm_WL fqP d 41 (pc + n) r L (.ref 42 :: S) (mk h) Q := by
  simp only [w_getf, lg_41, lf_6_18, pm_oF_s, hg_39, pm_oO_s, List.getElem?_cons_succ, List.getElem?_cons_zero, pm_oK_s, true_and]
theorem gf_41_18_66 : pm_WL fqP d 41 pc ((.getfield 18, n) :: r) L (.ref 66 :: S) (mk h) Q = pm_WL fqP d 41 (pc + n) r L (.ref 69 :: S) (mk h) Q := by
  simp only [w_getf, lg_41, lf_6_18, pm_oF_s, hg_66, pm_oO_s, List.getElem?_cons_succ, List.getElem?_cons_zero, pm_oK_s, true_and]
theorem gf_41_21_11 : pm_WL fqP d 41 pc ((.getfield 21, n) :: r) L (.ref 11 :: S) (mk h) Q = pm_WL fqP d 41 (pc + n) r L (.ref 15 :: S) (mk h) Q := by
  simp only [w_getf, lg_41, lf_6_21, pm_oF_s, hg_11, pm_oO_s, List.getElem?_cons_succ, List.getElem?_cons_zero, pm_oK_s, true_and]
theorem gf_41_21_39 : pm_WL fqP d 41 pc ((.getfield 21, n) :: r) L (.ref 39 :: S) (mk h) Q = pm_WL fqP d 41 (pc + n) r L (.ref 43 :: S) (mk h) Q := by
  simp only [w_getf, lg_41, lf_6_21, pm_oF_s, hg_39, pm_oO_s, List.getElem?_cons_succ, List.getElem?_cons_zero, pm_oK_s, true_and]
theorem gf_41_21_66 : pm_WL fqP d 41 pc ((.getfield 21, n) :: r) L (.ref 66 :: S) (mk h) Q = pm_WL fqP d 41 (pc + n) r L (.ref 70 :: S) (mk h) Q := by
  simp only [w_getf, lg_41, lf_6_21, pm_oF_s, hg_66, pm_oO_s, List.getElem?_cons_succ, List.getElem?_cons_zero, pm_oK_s, true_and]
theorem gf_41_24_11 : pm_WL fqP d 41 pc ((.getfield 24, n) :: r) L (.ref 11 :: S) (mk h) Q = pm_WL fqP d 41 (pc + n) r L (.ref 16 :: S) (mk h) Q := by
  simp only [w_getf, lg_41, lf_6_24, pm_oF_s, hg_11, pm_oO_s, List.getElem?_cons_succ, List.getElem?_cons_zero, pm_oK_s, true_and]
theorem gf_41_24_39 : pm_WL fqP d 41 pc ((.getfield 24, n) :: r) L (.ref 39 :: S) (mk h) Q = pm_WL fqP d 41 (pc + n) r L (.ref 44 :: S) (mk h) Q := by
  simp only [w_getf, lg_41, lf_6_24, pm_oF_s, hg_39, pm_oO_s, List.getElem?_cons_succ, List.getElem?_cons_zero, pm_oK_s, true_and]
theorem gf_41_24_66 : pm_WL fqP d 41 pc ((.getfield 24, n) :: r) L (.ref 66 :: S) (mk h) Q = pm_WL fqP d 41 (pc + n) r L (.ref 71 :: S) (mk h) Q := by
  simp only [w_getf, lg_41, lf_6_24, pm_oF_s, hg_66, pm_oO_s, List.getElem?_cons_succ, List.getElem?_cons_zero, pm_oK_s, true_and]
theorem gf_41_35_11 : pm_WL fqP d 41 pc ((.getfield 35, n) :: r) L (.ref 11 :: S) (mk h) Q = pm_WL fqP d 41 (pc + n) r L (.int (gd (h 11) 0) :: S) (mk h) Q := by
  simp only [w_getf, lg_41, lf_6_35, pm_oF_s, hg_11, pm_oO_s, List.getElem?_cons_succ, List.getElem?_cons_zero, pm_oK_s, true_and]
theorem gf_41_35_39 : pm_WL fqP d 41 pc ((.getfield 35, n) :: r) L (.ref 39 :: S) (mk h) Q = pm_WL fqP d 41 (pc + n) r L (.int (gd (h 39) 0) :: S) (mk h) Q := by
  simp only [w_getf, lg_41, lf_6_35, pm_oF_s, hg_39, pm_oO_s, List.getElem?_cons_succ, List.getElem?_cons_zero, pm_oK_s, true_and]
theorem gf_41_35_66 : pm_WL fqP d 41 pc ((.getfield 35, n) :: r) L (.ref 66 :: S) (mk h) Q = pm_WL fqP d 41 (pc + n) r L (.int (gd (h 66) 0) :: S) (mk h) Q := by
  simp only [w_getf, lg_41, lf_6_35, pm_oF_s, hg_66, pm_oO_s, List.getElem?_cons_succ, List.getElem?_cons_zero, pm_oK_s, true_and]
theorem iv_41_38 {x0 : Int32} {x1 : Int32} {x2 : Int32} : pm_WL fqP d 41 pc ((.invokestatic 38, n) :: r) L (.int x2 :: .int x1 :: .int x0 :: S) σ Q = (pm_okW 8 S = true ∧ pm_WC fqP d 96 [.int x0, .int x1, .int x2] σ (pm_kk fqP d 41 (pc + n) r L S Q)) := by
  show _ = (pm_okW 8 S = true ∧ pm_WC fqP d 96 [.int x0, .int x1, .int x2] σ (fun v σ' => pm_WL fqP d 41 (pc + n) r L (pm_pu v S) σ' Q))
  simp only [w_invs, lg_41, lm_6_38, pm_oM_s, pm_oP_s, pm_pop_0, pm_pop_s, pm_ref1_is, Nat.reduceEqDiff, Nat.zero_ne_one, Nat.succ_ne_self, true_or, or_true, or_false, false_or, or_self, false_implies, true_implies, implies_true, true_and]
theorem pf_41_35_11 {x : Int32} : pm_WL fqP d 41 pc ((.putfield 35, n) :: r) L (.int x :: .ref 11 :: S) (mk h) Q = pm_WL fqP d 41 (pc + n) r L S (mk (up h 11 [x, gd (h 11) 1])) Q := by
  simp only [w_putf, lg_41, lf_6_35, lt_6_5, pm_oF_s, hg_11, pm_oO_s, List.set_cons_succ, List.set_cons_zero, List.length_cons, List.length_nil, pm_fit_i, Nat.reduceAdd, Nat.reduceLT, Nat.zero_add, Nat.lt_add_one, Bool.false_eq_true, false_implies, true_and, and_true, hs_11]
theorem pf_41_35_39 {x : Int32} : pm_WL fqP d 41 pc ((.putfield 35, n) :: r) L (.int x :: .ref 39 :: S) (mk h) Q = pm_WL fqP d 41 (pc + n) r L S (mk (up h 39 [x, gd (h 39) 1])) Q := by
  simp only [w_putf, lg_41, lf_6_35, lt_6_5, pm_oF_s, hg_39, pm_oO_s, List.set_cons_succ, List.set_cons_zero, List.length_cons, List.length_nil, pm_fit_i, Nat.reduceAdd, Nat.reduceLT, Nat.zero_add, Nat.lt_add_one, Bool.false_eq_true, false_implies, true_and, and_true, hs_39]
theorem pf_41_35_66 {x : Int32} : pm_WL fqP d 41 pc ((.putfield 35, n) :: r) L (.int x :: .ref 66 :: S) (mk h) Q = pm_WL fqP d 41 (pc + n) r L S (mk (up h 66 [x, gd (h 66) 1])) Q := by
  simp only [w_putf, lg_41, lf_6_35, lt_6_5, pm_oF_s, hg_66, pm_oO_s, List.set_cons_succ, List.set_cons_zero, List.length_cons, List.length_nil, pm_fit_i, Nat.reduceAdd, Nat.reduceLT, Nat.zero_add, Nat.lt_add_one, Bool.false_eq_true, false_implies, true_and, and_true, hs_66]
theorem pf_41_27_11 {x : Int32} : pm_WL fqP d 41 pc ((.putfield 27, n) :: r) L (.int x :: .ref 11 :: S) (mk h) Q = pm_WL fqP d 41 (pc + n) r L S (mk (up h 11 [gd (h 11) 0, x])) Q := by
  simp only [w_putf, lg_41, lf_6_27, lt_6_6, pm_oF_s, hg_11, pm_oO_s, List.set_cons_succ, List.set_cons_zero, List.length_cons, List.length_nil, pm_fit_i, Nat.reduceAdd, Nat.reduceLT, Nat.zero_add, Nat.lt_add_one, Bool.false_eq_true, false_implies, true_and, and_true, hs_11]
theorem pf_41_27_39 {x : Int32} : pm_WL fqP d 41 pc ((.putfield 27, n) :: r) L (.int x :: .ref 39 :: S) (mk h) Q = pm_WL fqP d 41 (pc + n) r L S (mk (up h 39 [gd (h 39) 0, x])) Q := by
  simp only [w_putf, lg_41, lf_6_27, lt_6_6, pm_oF_s, hg_39, pm_oO_s, List.set_cons_succ, List.set_cons_zero, List.length_cons, List.length_nil, pm_fit_i, Nat.reduceAdd, Nat.reduceLT, Nat.zero_add, Nat.lt_add_one, Bool.false_eq_true, false_implies, true_and, and_true, hs_39]
theorem pf_41_27_66 {x : Int32} : pm_WL fqP d 41 pc ((.putfield 27, n) :: r) L (.int x :: .ref 66 :: S) (mk h) Q = pm_WL fqP d 41 (pc + n) r L S (mk (up h 66 [gd (h 66) 0, x])) Q := by
  simp only [w_putf, lg_41, lf_6_27, lt_6_6, pm_oF_s, hg_66, pm_oO_s, List.set_cons_succ, List.set_cons_zero, List.length_cons, List.length_nil, pm_fit_i, Nat.reduceAdd, Nat.reduceLT, Nat.zero_add, Nat.lt_add_one, Bool.false_eq_true, false_implies, true_and, and_true, hs_66]
theorem gf_42_27_11 : pm_WL fqP d 42 pc ((.getfield 27, n) :: r) L (.ref 11 :: S) (mk h) Q = pm_WL fqP d 42 (pc + n) r L (.int (gd (h 11) 1) :: S) (mk h) Q := by
  simp only [w_getf, lg_42, lf_6_27, pm_oF_s, hg_11, pm_oO_s, List.getElem?_cons_succ, List.getElem?_cons_zero, pm_oK_s, true_and]
theorem gf_42_27_39 : pm_WL fqP d 42 pc ((.getfield 27, n) :: r) L (.ref 39 :: S) (mk h) Q = pm_WL fqP d 42 (pc + n) r L (.int (gd (h 39) 1) :: S) (mk h) Q := by
  simp only [w_getf, lg_42, lf_6_27, pm_oF_s, hg_39, pm_oO_s, List.getElem?_cons_succ, List.getElem?_cons_zero, pm_oK_s, true_and]
theorem gf_42_27_66 : pm_WL fqP d 42 pc ((.getfield 27, n) :: r) L (.ref 66 :: S) (mk h) Q = pm_WL fqP d 42 (pc + n) r L (.int (gd (h 66) 1) :: S) (mk h) Q := by
  simp only [w_getf, lg_42, lf_6_27, pm_oF_s, hg_66, pm_oO_s, List.getElem?_cons_succ, List.getElem?_cons_zero, pm_oK_s, true_and]
theorem iv_42_42 {x0 : Int32} {x1 : Int32} : pm_WL fqP d 42 pc ((.invokestatic 42, n) :: r) L (.int x1 :: .int x0 :: S) σ Q = (pm_okW 8 S = true ∧ pm_WC fqP d 95 [.int x0, .int x1] σ (pm_kk fqP d 42 (pc + n) r L S Q)) := by
  show _ = (pm_okW 8 S = true ∧ pm_WC fqP d 95 [.int x0, .int x1] σ (fun v σ' => pm_WL fqP d 42 (pc + n) r L (pm_pu v S) σ' Q))
  simp only [w_invs, lg_42, lm_6_42, pm_oM_s, pm_oP_s, pm_pop_0, pm_pop_s, pm_ref1_is, Nat.reduceEqDiff, Nat.zero_ne_one, Nat.succ_ne_self, true_or, or_true, or_false, false_or, or_self, false_implies, true_implies, implies_true, true_and]
theorem gf_42_18_11 : pm_WL fqP d 42 pc ((.getfield 18, n) :: r) L (.ref 11 :: S) (mk h) Q = pm_WL fqP d 42 (pc + n) r L (.ref 14 :: S) (mk h) Q := by
  simp only [w_getf, lg_42, lf_6_18, pm_oF_s, hg_11, pm_oO_s, List.getElem?_cons_succ, List.getElem?_cons_zero, pm_oK_s, true_and]
theorem gf_42_18_39 : pm_WL fqP d 42 pc ((.getfield 18, n) :: r) L (.ref 39 :: S) (mk h) Q = pm_WL fqP d 42 (pc + n) r L (.ref 42 :: S) (mk h) Q := by
  simp only [w_getf, lg_42, lf_6_18, pm_oF_s, hg_39, pm_oO_s, List.getElem?_cons_succ, List.getElem?_cons_zero, pm_oK_s, true_and]
theorem gf_42_18_66 : pm_WL fqP d 42 pc ((.getfield 18, n) :: r) L (.ref 66 :: S) (mk h) Q = pm_WL fqP d 42 (pc + n) r L (.ref 69 :: S) (mk h) Q := by
  simp only [w_getf, lg_42, lf_6_18, pm_oF_s, hg_66, pm_oO_s, List.getElem?_cons_succ, List.getElem?_cons_zero, pm_oK_s, true_and]
theorem iv_42_46 {x0 : Nat} {x1 : Int32} : pm_WL fqP d 42 pc ((.invokestatic 46, n) :: r) L (.int x1 :: .ref x0 :: S) σ Q = (pm_okW 8 S = true ∧ pm_WC fqP d 91 [.ref x0, .int x1] σ (pm_kk fqP d 42 (pc + n) r L S Q)) := by
  show _ = (pm_okW 8 S = true ∧ pm_WC fqP d 91 [.ref x0, .int x1] σ (fun v σ' => pm_WL fqP d 42 (pc + n) r L (pm_pu v S) σ' Q))
  simp only [w_invs, lg_42, lm_6_46, pm_oM_s, pm_oP_s, pm_pop_0, pm_pop_s, pm_ref1_is, Nat.reduceEqDiff, Nat.zero_ne_one, Nat.succ_ne_self, true_or, or_true, or_false, false_or, or_self, false_implies, true_implies, implies_true, true_and]
theorem gf_43_9_11 : pm_WL fqP d 43 pc ((.getfield 9, n) :: r) L (.ref 11 :: S) (mk h) Q = pm_WL fqP d 43 (pc + n) r L (.ref 12 :: S) (mk h) Q := by
  simp only [w_getf, lg_43, lf_6_9, pm_oF_s, hg_11, pm_oO_s, List.getElem?_cons_succ, List.getElem?_cons_zero, pm_oK_s, true_and]
theorem gf_43_9_39 : pm_WL fqP d 43 pc ((.getfield 9, n) :: r) L (.ref 39 :: S) (mk h) Q = pm_WL fqP d 43 (pc + n) r L (.ref 40 :: S) (mk h) Q := by
  simp only [w_getf, lg_43, lf_6_9, pm_oF_s, hg_39, pm_oO_s, List.getElem?_cons_succ, List.getElem?_cons_zero, pm_oK_s, true_and]
theorem gf_43_9_66 : pm_WL fqP d 43 pc ((.getfield 9, n) :: r) L (.ref 66 :: S) (mk h) Q = pm_WL fqP d 43 (pc + n) r L (.ref 67 :: S) (mk h) Q := by
  simp only [w_getf, lg_43, lf_6_9, pm_oF_s, hg_66, pm_oO_s, List.getElem?_cons_succ, List.getElem?_cons_zero, pm_oK_s, true_and]
theorem iv_43_50 {x0 : Nat} {x1 : Nat} : pm_WL fqP d 43 pc ((.invokestatic 50, n) :: r) L (.ref x1 :: .ref x0 :: S) σ Q = (pm_okW 8 S = true ∧ pm_WC fqP d 94 [.ref x0, .ref x1] σ (pm_kk fqP d 43 (pc + n) r L S Q)) := by
  show _ = (pm_okW 8 S = true ∧ pm_WC fqP d 94 [.ref x0, .ref x1] σ (fun v σ' => pm_WL fqP d 43 (pc + n) r L (pm_pu v S) σ' Q))
  simp only [w_invs, lg_43, lm_6_50, pm_oM_s, pm_oP_s, pm_pop_0, pm_pop_s, pm_ref1_is, Nat.reduceEqDiff, Nat.zero_ne_one, Nat.succ_ne_self, true_or, or_true, or_false, false_or, or_self, false_implies, true_implies, implies_true, true_and]
theorem gf_43_15_11 : pm_WL fqP d 43 pc ((.getfield 15, n) :: r) L (.ref 11 :: S) (mk h) Q = pm_WL fqP d 43 (pc + n) r L (.ref 13 :: S) (mk h) Q := by
  simp only [w_getf, lg_43, lf_6_15, pm_oF_s, hg_11, pm_oO_s, List.getElem?_cons_succ, List.getElem?_cons_zero, pm_oK_s, true_and]
theorem gf_43_15_39 : pm_WL fqP d 43 pc ((.getfield 15, n) :: r) L (.ref 39 :: S) (mk h) Q = pm_WL fqP d 43 (pc + n) r L (.ref 41 :: S) (mk h) Q := by
  simp only [w_getf, lg_43, lf_6_15, pm_oF_s, hg_39, pm_oO_s, List.getElem?_cons_succ, List.getElem?_cons_zero, pm_oK_s, true_and]
theorem gf_43_15_66 : pm_WL fqP d 43 pc ((.getfield 15, n) :: r) L (.ref 66 :: S) (mk h) Q = pm_WL fqP d 43 (pc + n) r L (.ref 68 :: S) (mk h) Q := by
  simp only [w_getf, lg_43, lf_6_15, pm_oF_s, hg_66, pm_oO_s, List.getElem?_cons_succ, List.getElem?_cons_zero, pm_oK_s, true_and]
theorem gf_43_18_11 : pm_WL fqP d 43 pc ((.getfield 18, n) :: r) L (.ref 11 :: S) (mk h) Q = pm_WL fqP d 43 (pc + n) r L (.ref 14 :: S) (mk h) Q := by
  simp only [w_getf, lg_43, lf_6_18, pm_oF_s, hg_11, pm_oO_s, List.getElem?_cons_succ, List.getElem?_cons_zero, pm_oK_s, true_and]
theorem gf_43_18_39 : pm_WL fqP d 43 pc ((.getfield 18, n) :: r) L (.ref 39 :: S) (mk h) Q = pm_WL fqP d 43 (pc + n) r L (.ref 42 :: S) (mk h) Q := by
  simp only [w_getf, lg_43, lf_6_18, pm_oF_s, hg_39, pm_oO_s, List.getElem?_cons_succ, List.getElem?_cons_zero, pm_oK_s, true_and]
theorem gf_43_18_66 : pm_WL fqP d 43 pc ((.getfield 18, n) :: r) L (.ref 66 :: S) (mk h) Q = pm_WL fqP d 43 (pc + n) r L (.ref 69 :: S) (mk h) Q := by
  simp only [w_getf, lg_43, lf_6_18, pm_oF_s, hg_66, pm_oO_s, List.getElem?_cons_succ, List.getElem?_cons_zero, pm_oK_s, true_and]
theorem gf_43_21_11 : pm_WL fqP d 43 pc ((.getfield 21, n) :: r) L (.ref 11 :: S) (mk h) Q = pm_WL fqP d 43 (pc + n) r L (.ref 15 :: S) (mk h) Q := by
  simp only [w_getf, lg_43, lf_6_21, pm_oF_s, hg_11, pm_oO_s, List.getElem?_cons_succ, List.getElem?_cons_zero, pm_oK_s, true_and]
theorem gf_43_21_39 : pm_WL fqP d 43 pc ((.getfield 21, n) :: r) L (.ref 39 :: S) (mk h) Q = pm_WL fqP d 43 (pc + n) r L (.ref 43 :: S) (mk h) Q := by
  simp only [w_getf, lg_43, lf_6_21, pm_oF_s, hg_39, pm_oO_s, List.getElem?_cons_succ, List.getElem?_cons_zero, pm_oK_s, true_and]
theorem gf_43_21_66 : pm_WL fqP d 43 pc ((.getfield 21, n) :: r) L (.ref 66 :: S) (mk h) Q = pm_WL fqP d 43 (pc + n) r L (.ref 70 :: S) (mk h) Q := by
  simp only [w_getf, lg_43, lf_6_21, pm_oF_s, hg_66, pm_oO_s, List.getElem?_cons_succ, List.getElem?_cons_zero, pm_oK_s, true_and]
theorem gf_43_24_11 : pm_WL fqP d 43 pc ((.getfield 24, n) :: r) L (.ref 11 :: S) (mk h) Q = pm_WL fqP d 43 (pc + n) r L (.ref 16 :: S) (mk h) Q := by
  simp only [w_getf, lg_43, lf_6_24, pm_oF_s, hg_11, pm_oO_s, List.getElem?_cons_succ, List.getElem?_cons_zero, pm_oK_s, true_and]
theorem gf_43_24_39 : pm_WL fqP d 43 pc ((.getfield 24, n) :: r) L (.ref 39 :: S) (mk h) Q = pm_WL fqP d 43 (pc + n) r L (.ref 44 :: S) (mk h) Q := by
  simp only [w_getf, lg_43, lf_6_24, pm_oF_s, hg_39, pm_oO_s, List.getElem?_cons_succ, List.getElem?_cons_zero, pm_oK_s, true_and]
theorem gf_43_24_66 : pm_WL fqP d 43 pc ((.getfield 24, n) :: r) L (.ref 66 :: S) (mk h) Q = pm_WL fqP d 43 (pc + n) r L (.ref 71 :: S) (mk h) Q := by
  simp only [w_getf, lg_43, lf_6_24, pm_oF_s, hg_66, pm_oO_s, List.getElem?_cons_succ, List.getElem?_cons_zero, pm_oK_s, true_and]
theorem gf_43_35_11 : pm_WL fqP d 43 pc ((.getfield 35, n) :: r) L (.ref 11 :: S) (mk h) Q = pm_WL fqP d 43 (pc + n) r L (.int (gd (h 11) 0) :: S) (mk h) Q := by
  simp only [w_getf, lg_43, lf_6_35, pm_oF_s, hg_11, pm_oO_s, List.getElem?_cons_succ, List.getElem?_cons_zero, pm_oK_s, true_and]
theorem gf_43_35_39 : pm_WL fqP d 43 pc ((.getfield 35, n) :: r) L (.ref 39 :: S) (mk h) Q = pm_WL fqP d 43 (pc + n) r L (.int (gd (h 39) 0) :: S) (mk h) Q := by
  simp only [w_getf, lg_43, lf_6_35, pm_oF_s, hg_39, pm_oO_s, List.getElem?_cons_succ, List.getElem?_cons_zero, pm_oK_s, true_and]
theorem gf_43_35_66 : pm_WL fqP d 43 pc ((.getfield 35, n) :: r) L (.ref 66 :: S) (mk h) Q = pm_WL fqP d 43 (pc + n) r L (.int (gd (h 66) 0) :: S) (mk h) Q := by
  simp only [w_getf, lg_43, lf_6_35, pm_oF_s, hg_66, pm_oO_s, List.getElem?_cons_succ, List.getElem?_cons_zero, pm_oK_s, true_and]
theorem pf_43_35_11 {x : Int32} : pm_WL fqP d 43 pc ((.putfield 35, n) :: r) L (.int x :: .ref 11 :: S) (mk h) Q = pm_WL fqP d 43 (pc + n) r L S (mk (up h 11 [x, gd (h 11) 1])) Q := by
  simp only [w_putf, lg_43, lf_6_35, lt_6_5, pm_oF_s, hg_11, pm_oO_s, List.set_cons_succ, List.set_cons_zero, List.length_cons, List.length_nil, pm_fit_i, Nat.reduceAdd, Nat.reduceLT, Nat.zero_add, Nat.lt_add_one, Bool.false_eq_true, false_implies, true_and, and_true, hs_11]
theorem pf_43_35_39 {x : Int32} : pm_WL fqP d 43 pc ((.putfield 35, n) :: r) L (.int x :: .ref 39 :: S) (mk h) Q = pm_WL fqP d 43 (pc + n) r L S (mk (up h 39 [x, gd (h 39) 1])) Q := by
  simp only [w_putf, lg_43, lf_6_35, lt_6_5, pm_oF_s, hg_39, pm_oO_s, List.set_cons_succ, List.set_cons_zero, List.length_cons, List.length_nil, pm_fit_i, Nat.reduceAdd, Nat.reduceLT, Nat.zero_add, Nat.lt_add_one, Bool.false_eq_true, false_implies, true_and, and_true, hs_39]
theorem pf_43_35_66 {x : Int32} : pm_WL fqP d 43 pc ((.putfield 35, n) :: r) L (.int x :: .ref 66 :: S) (mk h) Q = pm_WL fqP d 43 (pc + n) r L S (mk (up h 66 [x, gd (h 66) 1])) Q := by
  simp only [w_putf, lg_43, lf_6_35, lt_6_5, pm_oF_s, hg_66, pm_oO_s, List.set_cons_succ, List.set_cons_zero, List.length_cons, List.length_nil, pm_fit_i, Nat.reduceAdd, Nat.reduceLT, Nat.zero_add, Nat.lt_add_one, Bool.false_eq_true, false_implies, true_and, and_true, hs_66]
theorem gf_43_27_11 : pm_WL fqP d 43 pc ((.getfield 27, n) :: r) L (.ref 11 :: S) (mk h) Q = pm_WL fqP d 43 (pc + n) r L (.int (gd (h 11) 1) :: S) (mk h) Q := by
  simp only [w_getf, lg_43, lf_6_27, pm_oF_s, hg_11, pm_oO_s, List.getElem?_cons_succ, List.getElem?_cons_zero, pm_oK_s, true_and]
theorem gf_43_27_39 : pm_WL fqP d 43 pc ((.getfield 27, n) :: r) L (.ref 39 :: S) (mk h) Q = pm_WL fqP d 43 (pc + n) r L (.int (gd (h 39) 1) :: S) (mk h) Q := by
  simp only [w_getf, lg_43, lf_6_27, pm_oF_s, hg_39, pm_oO_s, List.getElem?_cons_succ, List.getElem?_cons_zero, pm_oK_s, true_and]
theorem gf_43_27_66 : pm_WL fqP d 43 pc ((.getfield 27, n) :: r) L (.ref 66 :: S) (mk h) Q = pm_WL fqP d 43 (pc + n) r L (.int (gd (h 66) 1) :: S) (mk h) Q := by
  simp only [w_getf, lg_43, lf_6_27, pm_oF_s, hg_66, pm_oO_s, List.getElem?_cons_succ, List.getElem?_cons_zero, pm_oK_s, true_and]
theorem pf_43_27_11 {x : Int32} : pm_WL fqP d 43 pc ((.putfield 27, n) :: r) L (.int x :: .ref 11 :: S) (mk h) Q = pm_WL fqP d 43 (pc + n) r L S (mk (up h 11 [gd (h 11) 0, x])) Q := by
  simp only [w_putf, lg_43, lf_6_27, lt_6_6, pm_oF_s, hg_11, pm_oO_s, List.set_cons_succ, List.set_cons_zero, List.length_cons, List.length_nil, pm_fit_i, Nat.reduceAdd, Nat.reduceLT, Nat.zero_add, Nat.lt_add_one, Bool.false_eq_true, false_implies, true_and, and_true, hs_11]
theorem pf_43_27_39 {x : Int32} : pm_WL fqP d 43 pc ((.putfield 27, n) :: r) L (.int x :: .ref 39 :: S) (mk h) Q = pm_WL fqP d 43 (pc + n) r L S (mk (up h 39 [gd (h 39) 0, x])) Q := by
  simp only [w_putf, lg_43, lf_6_27, lt_6_6, pm_oF_s, hg_39, pm_oO_s, List.set_cons_succ, List.set_cons_zero, List.length_cons, List.length_nil, pm_fit_i, Nat.reduceAdd, Nat.reduceLT, Nat.zero_add, Nat.lt_add_one, Bool.false_eq_true, false_implies, true_and, and_true, hs_39]
theorem pf_43_27_66 {x : Int32} : pm_WL fqP d 43 pc ((.putfield 27, n) :: r) L (.int x :: .ref 66 :: S) (mk h) Q = pm_WL fqP d 43 (pc + n) r L S (mk (up h 66 [gd (h 66) 0, x])) Q := by
  simp only [w_putf, lg_43, lf_6_27, lt_6_6, pm_oF_s, hg_66, pm_oO_s, List.set_cons_succ, List.set_cons_zero, List.length_cons, List.length_nil, pm_fit_i, Nat.reduceAdd, Nat.reduceLT, Nat.zero_add, Nat.lt_add_one, Bool.false_eq_true, false_implies, true_and, and_true, hs_66]
theorem gf_45_12_4 : pm_WL fqP d 45 pc ((.getfield 12, n) :: r) L (.ref 4 :: S) (mk h) Q = pm_WL fqP d 45 (pc + n) r L (.ref 5 :: S) (mk h) Q := by
  simp only [w_getf, lg_45, lf_7_12, pm_oF_s, hg_4, pm_oO_s, List.getElem?_cons_succ, List.getElem?_cons_zero, pm_oK_s, true_and]
theorem gf_45_49_5 : pm_WL fqP d 45 pc ((.getfield 49, n) :: r) L (.ref 5 :: S) (mk h) Q = pm_WL fqP d 45 (pc + n) r L (.int (gd (h 5) 0) :: S) (mk h) Q := by
  simp only [w_getf, lg_45, lf_7_49, pm_oF_s, hg_5, pm_oO_s, List.getElem?_cons_succ, List.getElem?_cons_zero, pm_oK_s, true_and]
theorem gf_45_49_33 : pm_WL fqP d 45 pc ((.getfield 49, n) :: r) L (.ref 33 :: S) (mk h) Q = pm_WL fqP d 45 (pc + n) r L (.int (gd (h 33) 0) :: S) (mk h) Q := by
  simp only [w_getf, lg_45, lf_7_49, pm_oF_s, hg_33, pm_oO_s, List.getElem?_cons_succ, List.getElem?_cons_zero, pm_oK_s, true_and]
theorem gf_45_53_5 : pm_WL fqP d 45 pc ((.getfield 53, n) :: r) L (.ref 5 :: S) (mk h) Q = pm_WL fqP d 45 (pc + n) r L (.ref 20 :: S) (mk h) Q := by
  simp only [w_getf, lg_45, lf_7_53, pm_oF_s, hg_5, pm_oO_s, List.getElem?_cons_succ, List.getElem?_cons_zero, pm_oK_s, true_and]
theorem gf_45_53_33 : pm_WL fqP d 45 pc ((.getfield 53, n) :: r) L (.ref 33 :: S) (mk h) Q = pm_WL fqP d 45 (pc + n) r L (.ref 48 :: S) (mk h) Q := by
  simp only [w_getf, lg_45, lf_7_53, pm_oF_s, hg_33, pm_oO_s, List.getElem?_cons_succ, List.getElem?_cons_zero, pm_oK_s, true_and]
theorem iv_45_56 {x0 : Nat} {x1 : Int32} {x2 : Int32} : pm_WL fqP d 45 pc ((.invokestatic 56, n) :: r) L (.int x2 :: .int x1 :: .ref x0 :: S) σ Q = (pm_okW 8 S = true ∧ pm_WC fqP d 92 [.ref x0, .int x1, .int x2] σ (pm_kk fqP d 45 (pc + n) r L S Q)) := by
  show _ = (pm_okW 8 S = true ∧ pm_WC fqP d 92 [.ref x0, .int x1, .int x2] σ (fun v σ' => pm_WL fqP d 45 (pc + n) r L (pm_pu v S) σ' Q))
  simp only [w_invs, lg_45, lm_7_56, pm_oM_s, pm_oP_s, pm_pop_0, pm_pop_s, pm_ref1_is, Nat.reduceEqDiff, Nat.zero_ne_one, Nat.succ_ne_self, true_or, or_true, or_false, false_or, or_self, false_implies, true_implies, implies_true, true_and]
theorem pf_45_49_5 {x : Int32} : pm_WL fqP d 45 pc ((.putfield 49, n) :: r) L (.int x :: .ref 5 :: S) (mk h) Q = pm_WL fqP d 45 (pc + n) r L S (mk (up h 5 [x, gd (h 5) 1])) Q := by
  simp only [w_putf, lg_45, lf_7_49, lt_2_2, pm_oF_s, hg_5, pm_oO_s, List.set_cons_succ, List.set_cons_zero, List.length_cons, List.length_nil, pm_fit_i, Nat.reduceAdd, Nat.reduceLT, Nat.zero_add, Nat.lt_add_one, Bool.false_eq_true, false_implies, true_and, and_true, hs_5]
theorem pf_45_49_33 {x : Int32} : pm_WL fqP d 45 pc ((.putfield 49, n) :: r) L (.int x :: .ref 33 :: S) (mk h) Q = pm_WL fqP d 45 (pc + n) r L S (mk (up h 33 [x, gd (h 33) 1])) Q := by
  simp only [w_putf, lg_45, lf_7_49, lt_2_2, pm_oF_s, hg_33, pm_oO_s, List.set_cons_succ, List.set_cons_zero, List.length_cons, List.length_nil, pm_fit_i, Nat.reduceAdd, Nat.reduceLT, Nat.zero_add, Nat.lt_add_one, Bool.false_eq_true, false_implies, true_and, and_true, hs_33]
theorem gf_46_12_4 : pm_WL fqP d 46 pc ((.getfield 12, n) :: r) L (.ref 4 :: S) (mk h) Q = pm_WL fqP d 46 (pc + n) r L (.ref 5 :: S) (mk h) Q := by
  simp only [w_getf, lg_46, lf_7_12, pm_oF_s, hg_4, pm_oO_s, List.getElem?_cons_succ, List.getElem?_cons_zero, pm_oK_s, true_and]
theorem gf_46_60_5 : pm_WL fqP d 46 pc ((.getfield 60, n) :: r) L (.ref 5 :: S) (mk h) Q = pm_WL fqP d 46 (pc + n) r L (.int (gd (h 5) 1) :: S) (mk h) Q := by
  simp only [w_getf, lg_46, lf_7_60, pm_oF_s, hg_5, pm_oO_s, List.getElem?_cons_succ, List.getElem?_cons_zero, pm_oK_s, true_and]
theorem gf_46_60_33 : pm_WL fqP d 46 pc ((.getfield 60, n) :: r) L (.ref 33 :: S) (mk h) Q = pm_WL fqP d 46 (pc + n) r L (.int (gd (h 33) 1) :: S) (mk h) Q := by
  simp only [w_getf, lg_46, lf_7_60, pm_oF_s, hg_33, pm_oO_s, List.getElem?_cons_succ, List.getElem?_cons_zero, pm_oK_s, true_and]
theorem gf_46_31_4 : pm_WL fqP d 46 pc ((.getfield 31, n) :: r) L (.ref 4 :: S) (mk h) Q = pm_WL fqP d 46 (pc + n) r L (.ref 75 :: S) (mk h) Q := by
  simp only [w_getf, lg_46, lf_7_31, pm_oF_s, hg_4, pm_oO_s, List.getElem?_cons_succ, List.getElem?_cons_zero, pm_oK_s, true_and]
theorem gf_46_53_5 : pm_WL fqP d 46 pc ((.getfield 53, n) :: r) L (.ref 5 :: S) (mk h) Q = pm_WL fqP d 46 (pc + n) r L (.ref 20 :: S) (mk h) Q := by
  simp only [w_getf, lg_46, lf_7_53, pm_oF_s, hg_5, pm_oO_s, List.getElem?_cons_succ, List.getElem?_cons_zero, pm_oK_s, true_and]
theorem gf_46_53_33 : pm_WL fqP d 46 pc ((.getfield 53, n) :: r) L (.ref 33 :: S) (mk h) Q = pm_WL fqP d 46 (pc + n) r L (.ref 48 :: S) (mk h) Q := by
  simp only [w_getf, lg_46, lf_7_53, pm_oF_s, hg_33, pm_oO_s, List.getElem?_cons_succ, List.getElem?_cons_zero, pm_oK_s, true_and]
theorem gf_46_49_5 : pm_WL fqP d 46 pc ((.getfield 49, n) :: r) L (.ref 5 :: S) (mk h) Q = pm_WL fqP d 46 (pc + n) r L (.int (gd (h 5) 0) :: S) (mk h) Q := by
  simp only [w_getf, lg_46, lf_7_49, pm_oF_s, hg_5, pm_oO_s, List.getElem?_cons_succ, List.getElem?_cons_zero, pm_oK_s, true_and]
theorem gf_46_49_33 : pm_WL fqP d 46 pc ((.getfield 49, n) :: r) L (.ref 33 :: S) (mk h) Q = pm_WL fqP d 46 (pc + n) r L (.int (gd (h 33) 0) :: S) (mk h) Q := by
  simp only [w_getf, lg_46, lf_7_49, pm_oF_s, hg_33, pm_oO_s, List.getElem?_cons_succ, List.getElem?_cons_zero, pm_oK_s, true_and]
theorem iv_46_63_75 {x1 : Nat} {x2 : Int32} : pm_WL fqP d 46 pc ((.invokevirtual 63, n) :: r) L (.int x2 :: .ref x1 :: .ref 75 :: S) (mk h) Q = (pm_okW 8 S = true ∧ pm_WC fqP d 14 [.ref 75, .ref x1, .int x2] (mk h) (pm_kk fqP d 46 (pc + n) r L S Q)) := by
  show _ = (pm_okW 8 S = true ∧ pm_WC fqP d 14 [.ref 75, .ref x1, .int x2] (mk h) (fun v σ' => pm_WL fqP d 46 (pc + n) r L (pm_pu v S) σ' Q))
  simp only [w_invv, lg_46, lm_7_63, pm_oM_s, pm_oP_s, pm_pop_0, pm_pop_s, pm_rcv_is, hg_75, pm_oO_s, pm_ref1_is, Nat.reduceEqDiff, Nat.zero_ne_one, Nat.succ_ne_self, true_or, or_true, or_false, false_or, or_self, false_implies, true_implies, implies_true, true_and]
theorem pf_46_49_5 {x : Int32} : pm_WL fqP d 46 pc ((.putfield 49, n) :: r) L (.int x :: .ref 5 :: S) (mk h) Q = pm_WL fqP d 46 (pc + n) r L S (mk (up h 5 [x, gd (h 5) 1])) Q := by
  simp only [w_putf, lg_46, lf_7_49, lt_2_2, pm_oF_s, hg_5, pm_oO_s, List.set_cons_succ, List.set_cons_zero, List.length_cons, List.length_nil, pm_fit_i, Nat.reduceAdd, Nat.reduceLT, Nat.zero_add, Nat.lt_add_one, Bool.false_eq_true, false_implies, true_and, and_true, hs_5]
theorem pf_46_49_33 {x : Int32} : pm_WL fqP d 46 pc ((.putfield 49, n) :: r) L (.int x :: .ref 33 :: S) (mk h) Q = pm_WL fqP d 46 (pc + n) r L S (mk (up h 33 [x, gd (h 33) 1])) Q := by
  simp only [w_putf, lg_46, lf_7_49, lt_2_2, pm_oF_s, hg_33, pm_oO_s, List.set_cons_succ, List.set_cons_zero, List.length_cons, List.length_nil, pm_fit_i, Nat.reduceAdd, Nat.reduceLT, Nat.zero_add, Nat.lt_add_one, Bool.false_eq_true, false_implies, true_and, and_true, hs_33]
theorem gf_46_67_75 : pm_WL fqP d 46 pc ((.getfield 67, n) :: r) L (.ref 75 :: S) (mk h) Q = pm_WL fqP d 46 (pc + n) r L (.int (gd (h 75) 0) :: S) (mk h) Q := by
  simp only [w_getf, lg_46, lf_7_67, pm_oF_s, hg_75, pm_oO_s, List.getElem?_cons_succ, List.getElem?_cons_zero, pm_oK_s, true_and]
theorem gf_46_70_5 : pm_WL fqP d 46 pc ((.getfield 70, n) :: r) L (.ref 5 :: S) (mk h) Q = pm_WL fqP d 46 (pc + n) r L (.ref 6 :: S) (mk h) Q := by
  simp only [w_getf, lg_46, lf_7_70, pm_oF_s, hg_5, pm_oO_s, List.getElem?_cons_succ, List.getElem?_cons_zero, pm_oK_s, true_and]
theorem gf_46_70_33 : pm_WL fqP d 46 pc ((.getfield 70, n) :: r) L (.ref 33 :: S) (mk h) Q = pm_WL fqP d 46 (pc + n) r L (.ref 34 :: S) (mk h) Q := by
  simp only [w_getf, lg_46, lf_7_70, pm_oF_s, hg_33, pm_oO_s, List.getElem?_cons_succ, List.getElem?_cons_zero, pm_oK_s, true_and]
theorem gf_46_73_6 : pm_WL fqP d 46 pc ((.getfield 73, n) :: r) L (.ref 6 :: S) (mk h) Q = pm_WL fqP d 46 (pc + n) r L (.ref 7 :: S) (mk h) Q := by
  simp only [w_getf, lg_46, lf_7_73, pm_oF_s, hg_6, pm_oO_s, List.getElem?_cons_succ, List.getElem?_cons_zero, pm_oK_s, true_and]
theorem gf_46_73_34 : pm_WL fqP d 46 pc ((.getfield 73, n) :: r) L (.ref 34 :: S) (mk h) Q = pm_WL fqP d 46 (pc + n) r L (.ref 35 :: S) (mk h) Q := by
  simp only [w_getf, lg_46, lf_7_73, pm_oF_s, hg_34, pm_oO_s, List.getElem?_cons_succ, List.getElem?_cons_zero, pm_oK_s, true_and]
theorem gf_46_73_61 : pm_WL fqP d 46 pc ((.getfield 73, n) :: r) L (.ref 61 :: S) (mk h) Q = pm_WL fqP d 46 (pc + n) r L (.ref 62 :: S) (mk h) Q := by
  simp only [w_getf, lg_46, lf_7_73, pm_oF_s, hg_61, pm_oO_s, List.getElem?_cons_succ, List.getElem?_cons_zero, pm_oK_s, true_and]
theorem gf_46_77_75 : pm_WL fqP d 46 pc ((.getfield 77, n) :: r) L (.ref 75 :: S) (mk h) Q = pm_WL fqP d 46 (pc + n) r L (.ref 76 :: S) (mk h) Q := by
  simp only [w_getf, lg_46, lf_7_77, pm_oF_s, hg_75, pm_oO_s, List.getElem?_cons_succ, List.getElem?_cons_zero, pm_oK_s, true_and]
theorem iv_46_80_7 {x1 : Nat} : pm_WL fqP d 46 pc ((.invokevirtual 80, n) :: r) L (.ref x1 :: .ref 7 :: S) (mk h) Q = (pm_okW 8 S = true ∧ pm_WC fqP d 10 [.ref 7, .ref x1] (mk h) (pm_kk fqP d 46 (pc + n) r L S Q)) := by
  show _ = (pm_okW 8 S = true ∧ pm_WC fqP d 10 [.ref 7, .ref x1] (mk h) (fun v σ' => pm_WL fqP d 46 (pc + n) r L (pm_pu v S) σ' Q))
  simp only [w_invv, lg_46, lm_7_80, pm_oM_s, pm_oP_s, pm_pop_0, pm_pop_s, pm_rcv_is, hg_7, pm_oO_s, pm_ref1_is, Nat.reduceEqDiff, Nat.zero_ne_one, Nat.succ_ne_self, true_or, or_true, or_false, false_or, or_self, false_implies, true_implies, implies_true, true_and]
theorem iv_46_80_35 {x1 : Nat} : pm_WL fqP d 46 pc ((.invokevirtual 80, n) :: r) L (.ref x1 :: .ref 35 :: S) (mk h) Q = (pm_okW 8 S = true ∧ pm_WC fqP d 10 [.ref 35, .ref x1] (mk h) (pm_kk fqP d 46 (pc + n) r L S Q)) := by
  show _ = (pm_okW 8 S = true ∧ pm_WC fqP d 10 [.ref 35, .ref x1] (mk h) (fun v σ' => pm_WL fqP d 46 (pc + n) r L (pm_pu v S) σ' Q))
  simp only [w_invv, lg_46, lm_7_80, pm_oM_s, pm_oP_s, pm_pop_0, pm_pop_s, pm_rcv_is, hg_35, pm_oO_s, pm_ref1_is, Nat.reduceEqDiff, Nat.zero_ne_one, Nat.succ_ne_self, true_or, or_true, or_false, false_or, or_self, false_implies, true_implies, implies_true, true_and]
theorem iv_46_80_62 {x1 : Nat} : pm_WL fqP d 46 pc ((.invokevirtual 80, n) :: r) L (.ref x1 :: .ref 62 :: S) (mk h) Q = (pm_okW 8 S = true ∧ pm_WC fqP d 10 [.ref 62, .ref x1] (mk h) (pm_kk fqP d 46 (pc + n) r L S Q)) := by
  show _ = (pm_okW 8 S = true ∧ pm_WC fqP d 10 [.ref 62, .ref x1] (mk h) (fun v σ' => pm_WL fqP d 46 (pc + n) r L (pm_pu v S) σ' Q))
  simp only [w_invv, lg_46, lm_7_80, pm_oM_s, pm_oP_s, pm_pop_0, pm_pop_s, pm_rcv_is, hg_62, pm_oO_s, pm_ref1_is, Nat.reduceEqDiff, Nat.zero_ne_one, Nat.succ_ne_self, true_or, or_true, or_false, false_or, or_self, false_implies, true_implies, implies_true, true_and]
theorem iv_46_80_76 {x1 : Nat} : pm_WL fqP d 46 pc ((.invokevirtual 80, n) :: r) L (.ref x1 :: .ref 76 :: S) (mk h) Q = (pm_okW 8 S = true ∧ pm_WC fqP d 10 [.ref 76, .ref x1] (mk h) (pm_kk fqP d 46 (pc + n) r L S Q)) := by
  show _ = (pm_okW 8 S = true ∧ pm_WC fqP d 10 [.ref 76, .ref x1] (mk h) (fun v σ' => pm_WL fqP d 46 (pc + n) r L (pm_pu v S) σ' Q))
  simp only [w_invv, lg_46, lm_7_80, pm_oM_s, pm_oP_s, pm_pop_0, pm_pop_s, pm_rcv_is, hg_76, pm_oO_s, pm_ref1_is, Nat.reduceEqDiff, Nat.zero_ne_one, Nat.succ_ne_self, true_or, or_true, or_false, false_or, or_self, false_implies, true_implies, implies_true, true_and]
theorem pf_46_60_5 {x : Int32} : pm_WL fqP d 46 pc ((.putfield 60, n) :: r) L (.int x :: .ref 5 :: S) (mk h) Q = pm_WL fqP d 46 (pc + n) r L S (mk (up h 5 [gd (h 5) 0, x])) Q := by
  simp only [w_putf, lg_46, lf_7_60, lt_2_3, pm_oF_s, hg_5, pm_oO_s, List.set_cons_succ, List.set_cons_zero, List.length_cons, List.length_nil, pm_fit_i, Nat.reduceAdd, Nat.reduceLT, Nat.zero_add, Nat.lt_add_one, Bool.false_eq_true, false_implies, true_and, and_true, hs_5]
theorem pf_46_60_33 {x : Int32} : pm_WL fqP d 46 pc ((.putfield 60, n) :: r) L (.int x :: .ref 33 :: S) (mk h) Q = pm_WL fqP d 46 (pc + n) r L S (mk (up h 33 [gd (h 33) 0, x])) Q := by
  simp only [w_putf, lg_46, lf_7_60, lt_2_3, pm_oF_s, hg_33, pm_oO_s, List.set_cons_succ, List.set_cons_zero, List.length_cons, List.length_nil, pm_fit_i, Nat.reduceAdd, Nat.reduceLT, Nat.zero_add, Nat.lt_add_one, Bool.false_eq_true, false_implies, true_and, and_true, hs_33]
theorem iv_47_86 {x0 : Int32} : pm_WL fqP d 47 pc ((.invokestatic 86, n) :: r) L (.int x0 :: S) σ Q = (pm_okW 8 S = true ∧ pm_WC fqP d 88 [.int x0] σ (pm_kk fqP d 47 (pc + n) r L S Q)) := by
  show _ = (pm_okW 8 S = true ∧ pm_WC fqP d 88 [.int x0] σ (fun v σ' => pm_WL fqP d 47 (pc + n) r L (pm_pu v S) σ' Q))
  simp only [w_invs, lg_47, lm_7_86, pm_oM_s, pm_oP_s, pm_pop_0, pm_pop_s, pm_ref1_is, Nat.reduceEqDiff, Nat.zero_ne_one, Nat.succ_ne_self, true_or, or_true, or_false, false_or, or_self, false_implies, true_implies, implies_true, true_and]
theorem iv_47_90 {x0 : Int32} : pm_WL fqP d 47 pc ((.invokestatic 90, n) :: r) L (.int x0 :: S) σ Q = (pm_okW 8 S = true ∧ pm_WC fqP d 86 [.int x0] σ (pm_kk fqP d 47 (pc + n) r L S Q)) := by
  show _ = (pm_okW 8 S = true ∧ pm_WC fqP d 86 [.int x0] σ (fun v σ' => pm_WL fqP d 47 (pc + n) r L (pm_pu v S) σ' Q))
  simp only [w_invs, lg_47, lm_7_90, pm_oM_s, pm_oP_s, pm_pop_0, pm_pop_s, pm_ref1_is, Nat.reduceEqDiff, Nat.zero_ne_one, Nat.succ_ne_self, true_or, or_true, or_false, false_or, or_self, false_implies, true_implies, implies_true, true_and]
theorem gf_47_12_4 : pm_WL fqP d 47 pc ((.getfield 12, n) :: r) L (.ref 4 :: S) (mk h) Q = pm_WL fqP d 47 (pc + n) r L (.ref 5 :: S) (mk h) Q := by
  simp only [w_getf, lg_47, lf_7_12, pm_oF_s, hg_4, pm_oO_s, List.getElem?_cons_succ, List.getElem?_cons_zero, pm_oK_s, true_and]
theorem gf_47_70_5 : pm_WL fqP d 47 pc ((.getfield 70, n) :: r) L (.ref 5 :: S) (mk h) Q = pm_WL fqP d 47 (pc + n) r L (.ref 6 :: S) (mk h) Q := by
  simp only [w_getf, lg_47, lf_7_70, pm_oF_s, hg_5, pm_oO_s, List.getElem?_cons_succ, List.getElem?_cons_zero, pm_oK_s, true_and]
theorem gf_47_70_33 : pm_WL fqP d 47 pc ((.getfield 70, n) :: r) L (.ref 33 :: S) (mk h) Q = pm_WL fqP d 47 (pc + n) r L (.ref 34 :: S) (mk h) Q := by
  simp only [w_getf, lg_47, lf_7_70, pm_oF_s, hg_33, pm_oO_s, List.getElem?_cons_succ, List.getElem?_cons_zero, pm_oK_s, true_and]
theorem gf_47_93_6 : pm_WL fqP d 47 pc ((.getfield 93, n) :: r) L (.ref 6 :: S) (mk h) Q = pm_WL fqP d 47 (pc + n) r L (.ref 11 :: S) (mk h) Q := by
  simp only [w_getf, lg_47, lf_7_93, pm_oF_s, hg_6, pm_oO_s, List.getElem?_cons_succ, List.getElem?_cons_zero, pm_oK_s, true_and]
theorem gf_47_93_34 : pm_WL fqP d 47 pc ((.getfield 93, n) :: r) L (.ref 34 :: S) (mk h) Q = pm_WL fqP d 47 (pc + n) r L (.ref 39 :: S) (mk h) Q := by
  simp only [w_getf, lg_47, lf_7_93, pm_oF_s, hg_34, pm_oO_s, List.getElem?_cons_succ, List.getElem?_cons_zero, pm_oK_s, true_and]
theorem gf_47_93_61 : pm_WL fqP d 47 pc ((.getfield 93, n) :: r) L (.ref 61 :: S) (mk h) Q = pm_WL fqP d 47 (pc + n) r L (.ref 66 :: S) (mk h) Q := by
  simp only [w_getf, lg_47, lf_7_93, pm_oF_s, hg_61, pm_oO_s, List.getElem?_cons_succ, List.getElem?_cons_zero, pm_oK_s, true_and]
theorem gf_47_97_11 : pm_WL fqP d 47 pc ((.getfield 97, n) :: r) L (.ref 11 :: S) (mk h) Q = pm_WL fqP d 47 (pc + n) r L (.int (gd (h 11) 1) :: S) (mk h) Q := by
  simp only [w_getf, lg_47, lf_7_97, pm_oF_s, hg_11, pm_oO_s, List.getElem?_cons_succ, List.getElem?_cons_zero, pm_oK_s, true_and]
theorem gf_47_97_39 : pm_WL fqP d 47 pc ((.getfield 97, n) :: r) L (.ref 39 :: S) (mk h) Q = pm_WL fqP d 47 (pc + n) r L (.int (gd (h 39) 1) :: S) (mk h) Q := by
  simp only [w_getf, lg_47, lf_7_97, pm_oF_s, hg_39, pm_oO_s, List.getElem?_cons_succ, List.getElem?_cons_zero, pm_oK_s, true_and]
theorem gf_47_97_66 : pm_WL fqP d 47 pc ((.getfield 97, n) :: r) L (.ref 66 :: S) (mk h) Q = pm_WL fqP d 47 (pc + n) r L (.int (gd (h 66) 1) :: S) (mk h) Q := by
  simp only [w_getf, lg_47, lf_7_97, pm_oF_s, hg_66, pm_oO_s, List.getElem?_cons_succ, List.getElem?_cons_zero, pm_oK_s, true_and]
theorem iv_47_102_11 {x1 : Int32} {x2 : Int32} {x3 : Int32} : pm_WL fqP d 47 pc ((.invokevirtual 102, n) :: r) L (.int x3 :: .int x2 :: .int x1 :: .ref 11 :: S) (mk h) Q = (pm_okW 8 S = true ∧ pm_WC fqP d 41 [.ref 11, .int x1, .int x2, .int x3] (mk h) (pm_kk fqP d 47 (pc + n) r L S Q)) := by
  show _ = (pm_okW 8 S = true ∧ pm_WC fqP d 41 [.ref 11, .int x1, .int x2, .int x3] (mk h) (fun v σ' => pm_WL fqP d 47 (pc + n) r L (pm_pu v S) σ' Q))
  simp only [w_invv, lg_47, lm_7_102, pm_oM_s, pm_oP_s, pm_pop_0, pm_pop_s, pm_rcv_is, hg_11, pm_oO_s, pm_ref1_is, Nat.reduceEqDiff, Nat.zero_ne_one, Nat.succ_ne_self, true_or, or_true, or_false, false_or, or_self, false_implies, true_implies, implies_true, true_and]
theorem iv_47_102_39 {x1 : Int32} {x2 : Int32} {x3 : Int32} : pm_WL fqP d 47 pc ((.invokevirtual 102, n) :: r) L (.int x3 :: .int x2 :: .int x1 :: .ref 39 :: S) (mk h) Q = (pm_okW 8 S = true ∧ pm_WC fqP d 41 [.ref 39, .int x1, .int x2, .int x3] (mk h) (pm_kk fqP d 47 (pc + n) r L S Q)) := by
  show _ = (pm_okW 8 S = true ∧ pm_WC fqP d 41 [.ref 39, .int x1, .int x2, .int x3] (mk h) (fun v σ' => pm_WL fqP d 47 (pc + n) r L (pm_pu v S) σ' Q))
  simp only [w_invv, lg_47, lm_7_102, pm_oM_s, pm_oP_s, pm_pop_0, pm_pop_s, pm_rcv_is, hg_39, pm_oO_s, pm_ref1_is, Nat.reduceEqDiff, Nat.zero_ne_one, Nat.succ_ne_self, true_or, or_true, or_false, false_or, or_self, false_implies, true_implies, implies_true, true_and]
theorem iv_47_102_66 {x1 : Int32} {x2 : Int32} {x3 : Int32} : pm_WL fqP d 47 pc ((.invokevirtual 102, n) :: r) L (.int x3 :: .int x2 :: .int x1 :: .ref 66 :: S) (mk h) Q = (pm_okW 8 S = true ∧ pm_WC fqP d 41 [.ref 66, .int x1, .int x2, .int x3] (mk h) (pm_kk fqP d 47 (pc + n) r L S Q)) := by
  show _ = (pm_okW 8 S = true ∧ pm_WC fqP d 41 [.ref 66, .int x1, .int x2, .int x3] (mk h) (fun v σ' => pm_WL fqP d 47 (pc + n) r L (pm_pu v S) σ' Q))
  simp only [w_invv, lg_47, lm_7_102, pm_oM_s, pm_oP_s, pm_pop_0, pm_pop_s, pm_rcv_is, hg_66, pm_oO_s, pm_ref1_is, Nat.reduceEqDiff, Nat.zero_ne_one, Nat.succ_ne_self, true_or, or_true, or_false, false_or, or_self, false_implies, true_implies, implies_true, true_and]
theorem gf_48_12_4 : pm_WL fqP d 48 pc ((.getfield 12, n) :: r) L (.ref 4 :: S) (mk h) Q = pm_WL fqP d 48 (pc + n) r L (.ref 5 :: S) (mk h) Q := by
  simp only [w_getf, lg_48, lf_7_12, pm_oF_s, hg_4, pm_oO_s, List.getElem?_cons_succ, List.getElem?_cons_zero, pm_oK_s, true_and]
theorem gf_48_70_5 : pm_WL fqP d 48 pc ((.getfield 70, n) :: r) L (.ref 5 :: S) (mk h) Q = pm_WL fqP d 48 (pc + n) r L (.ref 6 :: S) (mk h) Q := by
  simp only [w_getf, lg_48, lf_7_70, pm_oF_s, hg_5, pm_oO_s, List.getElem?_cons_succ, List.getElem?_cons_zero, pm_oK_s, true_and]
theorem gf_48_70_33 : pm_WL fqP d 48 pc ((.getfield 70, n) :: r) L (.ref 33 :: S) (mk h) Q = pm_WL fqP d 48 (pc + n) r L (.ref 34 :: S) (mk h) Q := by
  simp only [w_getf, lg_48, lf_7_70, pm_oF_s, hg_33, pm_oO_s, List.getElem?_cons_succ, List.getElem?_cons_zero, pm_oK_s, true_and]
theorem gf_48_93_6 : pm_WL fqP d 48 pc ((.getfield 93, n) :: r) L (.ref 6 :: S) (mk h) Q = pm_WL fqP d 48 (pc + n) r L (.ref 11 :: S) (mk h) Q := by
  simp only [w_getf, lg_48, lf_7_93, pm_oF_s, hg_6, pm_oO_s, List.getElem?_cons_succ, List.getElem?_cons_zero, pm_oK_s, true_and]
theorem gf_48_93_34 : pm_WL fqP d 48 pc ((.getfield 93, n) :: r) L (.ref 34 :: S) (mk h) Q = pm_WL fqP d 48 (pc + n) r L (.ref 39 :: S) (mk h) Q := by
  simp only [w_getf, lg_48, lf_7_93, pm_oF_s, hg_34, pm_oO_s, List.getElem?_cons_succ, List.getElem?_cons_zero, pm_oK_s, true_and]
theorem gf_48_93_61 : pm_WL fqP d 48 pc ((.getfield 93, n) :: r) L (.ref 61 :: S) (mk h) Q = pm_WL fqP d 48 (pc + n) r L (.ref 66 :: S) (mk h) Q := by
  simp only [w_getf, lg_48, lf_7_93, pm_oF_s, hg_61, pm_oO_s, List.getElem?_cons_succ, List.getElem?_cons_zero, pm_oK_s, true_and]
theorem iv_48_106_11 {x1 : Int32} : pm_WL fqP d 48 pc ((.invokevirtual 106, n) :: r) L (.int x1 :: .ref 11 :: S) (mk h) Q = (pm_okW 8 S = true ∧ pm_WC fqP d 40 [.ref 11, .int x1] (mk h) (pm_kk fqP d 48 (pc + n) r L S Q)) := by
  show _ = (pm_okW 8 S = true ∧ pm_WC fqP d 40 [.ref 11, .int x1] (mk h) (fun v σ' => pm_WL fqP d 48 (pc + n) r L (pm_pu v S) σ' Q))
  simp only [w_invv, lg_48, lm_7_106, pm_oM_s, pm_oP_s, pm_pop_0, pm_pop_s, pm_rcv_is, hg_11, pm_oO_s, pm_ref1_is, Nat.reduceEqDiff, Nat.zero_ne_one, Nat.succ_ne_self, true_or, or_true, or_false, false_or, or_self, false_implies, true_implies, implies_true, true_and]
theorem iv_48_106_39 {x1 : Int32} : pm_WL fqP d 48 pc ((.invokevirtual 106, n) :: r) L (.int x1 :: .ref 39 :: S) (mk h) Q = (pm_okW 8 S = true ∧ pm_WC fqP d 40 [.ref 39, .int x1] (mk h) (pm_kk fqP d 48 (pc + n) r L S Q)) := by
  show _ = (pm_okW 8 S = true ∧ pm_WC fqP d 40 [.ref 39, .int x1] (mk h) (fun v σ' => pm_WL fqP d 48 (pc + n) r L (pm_pu v S) σ' Q))
  simp only [w_invv, lg_48, lm_7_106, pm_oM_s, pm_oP_s, pm_pop_0, pm_pop_s, pm_rcv_is, hg_39, pm_oO_s, pm_ref1_is, Nat.reduceEqDiff, Nat.zero_ne_one, Nat.succ_ne_self, true_or, or_true, or_false, false_or, or_self, false_implies, true_implies, implies_true, true_and]
theorem iv_48_106_66 {x1 : Int32} : pm_WL fqP d 48 pc ((.invokevirtual 106, n) :: r) L (.int x1 :: .ref 66 :: S) (mk h) Q = (pm_okW 8 S = true ∧ pm_WC fqP d 40 [.ref 66, .int x1] (mk h) (pm_kk fqP d 48 (pc + n) r L S Q)) := by
  show _ = (pm_okW 8 S = true ∧ pm_WC fqP d 40 [.ref 66, .int x1] (mk h) (fun v σ' => pm_WL fqP d 48 (pc + n) r L (pm_pu v S) σ' Q))
  simp only [w_invv, lg_48, lm_7_106, pm_oM_s, pm_oP_s, pm_pop_0, pm_pop_s, pm_rcv_is, hg_66, pm_oO_s, pm_ref1_is, Nat.reduceEqDiff, Nat.zero_ne_one, Nat.succ_ne_self, true_or, or_true, or_false, false_or, or_self, false_implies, true_implies, implies_true, true_and]
theorem gf_48_110_11 : pm_WL fqP d 48 pc ((.getfield 110, n) :: r) L (.ref 11 :: S) (mk h) Q = pm_WL fqP d 48 (pc + n) r L (.ref 12 :: S) (mk h) Q := by
  simp only [w_getf, lg_48, lf_7_110, pm_oF_s, hg_11, pm_oO_s, List.getElem?_cons_succ, List.getElem?_cons_zero, pm_oK_s, true_and]
theorem gf_48_110_39 : pm_WL fqP d 48 pc ((.getfield 110, n) :: r) L (.ref 39 :: S) (mk h) Q = pm_WL fqP d 48 (pc + n) r L (.ref 40 :: S) (mk h) Q := by
  simp only [w_getf, lg_48, lf_7_110, pm_oF_s, hg_39, pm_oO_s, List.getElem?_cons_succ, List.getElem?_cons_zero, pm_oK_s, true_and]
theorem gf_48_110_66 : pm_WL fqP d 48 pc ((.getfield 110, n) :: r) L (.ref 66 :: S) (mk h) Q = pm_WL fqP d 48 (pc + n) r L (.ref 67 :: S) (mk h) Q := by
  simp only [w_getf, lg_48, lf_7_110, pm_oF_s, hg_66, pm_oO_s, List.getElem?_cons_succ, List.getElem?_cons_zero, pm_oK_s, true_and]
theorem iv_48_113 {x0 : Nat} {x1 : Int32} : pm_WL fqP d 48 pc ((.invokestatic 113, n) :: r) L (.int x1 :: .ref x0 :: S) σ Q = (pm_okW 8 S = true ∧ pm_WC fqP d 91 [.ref x0, .int x1] σ (pm_kk fqP d 48 (pc + n) r L S Q)) := by
  show _ = (pm_okW 8 S = true ∧ pm_WC fqP d 91 [.ref x0, .int x1] σ (fun v σ' => pm_WL fqP d 48 (pc + n) r L (pm_pu v S) σ' Q))
  simp only [w_invs, lg_48, lm_7_113, pm_oM_s, pm_oP_s, pm_pop_0, pm_pop_s, pm_ref1_is, Nat.reduceEqDiff, Nat.zero_ne_one, Nat.succ_ne_self, true_or, or_true, or_false, false_or, or_self, false_implies, true_implies, implies_true, true_and]
theorem gf_48_117_11 : pm_WL fqP d 48 pc ((.getfield 117, n) :: r) L (.ref 11 :: S) (mk h) Q = pm_WL fqP d 48 (pc + n) r L (.ref 13 :: S) (mk h) Q := by
  simp only [w_getf, lg_48, lf_7_117, pm_oF_s, hg_11, pm_oO_s, List.getElem?_cons_succ, List.getElem?_cons_zero, pm_oK_s, true_and]
theorem gf_48_117_39 : pm_WL fqP d 48 pc ((.getfield 117, n) :: r) L (.ref 39 :: S) (mk h) Q = pm_WL fqP d 48 (pc + n) r L (.ref 41 :: S) (mk h) Q := by
  simp only [w_getf, lg_48, lf_7_117, pm_oF_s, hg_39, pm_oO_s, List.getElem?_cons_succ, List.getElem?_cons_zero, pm_oK_s, true_and]
theorem gf_48_117_66 : pm_WL fqP d 48 pc ((.getfield 117, n) :: r) L (.ref 66 :: S) (mk h) Q = pm_WL fqP d 48 (pc + n) r L (.ref 68 :: S) (mk h) Q := by
  simp only [w_getf, lg_48, lf_7_117, pm_oF_s, hg_66, pm_oO_s, List.getElem?_cons_succ, List.getElem?_cons_zero, pm_oK_s, true_and]
theorem gf_48_120_11 : pm_WL fqP d 48 pc ((.getfield 120, n) :: r) L (.ref 11 :: S) (mk h) Q = pm_WL fqP d 48 (pc + n) r L (.ref 14 :: S) (mk h) Q := by
  simp only [w_getf, lg_48, lf_7_120, pm_oF_s, hg_11, pm_oO_s, List.getElem?_cons_succ, List.getElem?_cons_zero, pm_oK_s, true_and]
theorem gf_48_120_39 : pm_WL fqP d 48 pc ((.getfield 120, n) :: r) L (.ref 39 :: S) (mk h) Q = pm_WL fqP d 48 (pc + n) r L (.ref 42 :: S) (mk h) Q := by
  simp only [w_getf, lg_48, lf_7_120, pm_oF_s, hg_39, pm_oO_s, List.getElem?_cons_succ, List.getElem?_cons_zero, pm_oK_s, true_and]
theorem gf_48_120_66 : pm_WL fqP d 48 pc ((.getfield 120, n) :: r) L (.ref 66 :: S) (mk h) Q = pm_WL fqP d 48 (pc + n) r L (.ref 69 :: S) (mk h) Q := by
  simp only [w_getf, lg_48, lf_7_120, pm_oF_s, hg_66, pm_oO_s, List.getElem?_cons_succ, List.getElem?_cons_zero, pm_oK_s, true_and]
theorem gf_48_123_11 : pm_WL fqP d 48 pc ((.getfield 123, n) :: r) L (.ref 11 :: S) (mk h) Q = pm_WL fqP d 48 (pc + n) r L (.ref 15 :: S) (mk h) Q := by
  simp only [w_getf, lg_48, lf_7_123, pm_oF_s, hg_11, pm_oO_s, List.getElem?_cons_succ, List.getElem?_cons_zero, pm_oK_s, true_and]
theorem gf_48_123_39 : pm_WL fqP d 48 pc ((.getfield 123, n) :: r) L (.ref 39 :: S) (mk h) Q = pm_WL fqP d 48 (pc + n) r L (.ref 43 :: S) (mk h) Q := by
  simp only [w_getf, lg_48, lf_7_123, pm_oF_s, hg_39, pm_oO_s, List.getElem?_cons_succ, List.getElem?_cons_zero, pm_oK_s, true_and]
theorem gf_48_123_66 : pm_WL fqP d 48 pc ((.getfield 123, n) :: r) L (.ref 66 :: S) (mk h) Q = pm_WL fqP d 48 (pc + n) r L (.ref 70 :: S) (mk h) Q := by
  simp only [w_getf, lg_48, lf_7_123, pm_oF_s, hg_66, pm_oO_s, List.getElem?_cons_succ, List.getElem?_cons_zero, pm_oK_s, true_and]
theorem gf_48_126_11 : pm_WL fqP d 48 pc ((.getfield 126, n) :: r) L (.ref 11 :: S) (mk h) Q = pm_WL fqP d 48 (pc + n) r L (.int (gd (h 11) 0) :: S) (mk h) Q := by
  simp only [w_getf, lg_48, lf_7_126, pm_oF_s, hg_11, pm_oO_s, List.getElem?_cons_succ, List.getElem?_cons_zero, pm_oK_s, true_and]
theorem gf_48_126_39 : pm_WL fqP d 48 pc ((.getfield 126, n) :: r) L (.ref 39 :: S) (mk h) Q = pm_WL fqP d 48 (pc + n) r L (.int (gd (h 39) 0) :: S) (mk h) Q := by
  simp only [w_getf, lg_48, lf_7_126, pm_oF_s, hg_39, pm_oO_s, List.getElem?_cons_succ, List.getElem?_cons_zero, pm_oK_s, true_and]
theorem gf_48_126_66 : pm_WL fqP d 48 pc ((.getfield 126, n) :: r) L (.ref 66 :: S) (mk h) Q = pm_WL fqP d 48 (pc + n) r L (.int (gd (h 66) 0) :: S) (mk h) Q := by
  simp only [w_getf, lg_48, lf_7_126, pm_oF_s, hg_66, pm_oO_s, List.getElem?_cons_succ, List.getElem?_cons_zero, pm_oK_s, true_and]
theorem iv_48_129 {x0 : Int32} {x1 : Int32} : pm_WL fqP d 48 pc ((.invokestatic 129, n) :: r) L (.int x1 :: .int x0 :: S) σ Q = (pm_okW 8 S = true ∧ pm_WC fqP d 95 [.int x0, .int x1] σ (pm_kk fqP d 48 (pc + n) r L S Q)) := by
  show _ = (pm_okW 8 S = true ∧ pm_WC fqP d 95 [.int x0, .int x1] σ (fun v σ' => pm_WL fqP d 48 (pc + n) r L (pm_pu v S) σ' Q))
  simp only [w_invs, lg_48, lm_7_129, pm_oM_s, pm_oP_s, pm_pop_0, pm_pop_s, pm_ref1_is, Nat.reduceEqDiff, Nat.zero_ne_one, Nat.succ_ne_self, true_or, or_true, or_false, false_or, or_self, false_implies, true_implies, implies_true, true_and]
theorem iv_48_133_6 : pm_WL fqP d 48 pc ((.invokevirtual 133, n) :: r) L (.ref 6 :: S) (mk h) Q = (pm_okW 8 S = true ∧ pm_WC fqP d 30 [.ref 6] (mk h) (pm_kk fqP d 48 (pc + n) r L S Q)) := by
  show _ = (pm_okW 8 S = true ∧ pm_WC fqP d 30 [.ref 6] (mk h) (fun v σ' => pm_WL fqP d 48 (pc + n) r L (pm_pu v S) σ' Q))
  simp only [w_invv, lg_48, lm_7_133, pm_oM_s, pm_oP_s, pm_pop_0, pm_pop_s, pm_rcv_is, hg_6, pm_oO_s, pm_ref1_is, Nat.reduceEqDiff, Nat.zero_ne_one, Nat.succ_ne_self, true_or, or_true, or_false, false_or, or_self, false_implies, true_implies, implies_true, true_and]
theorem iv_48_133_34 : pm_WL fqP d 48 pc ((.invokevirtual 133, n) :: r) L (.ref 34 :: S) (mk h) Q = (pm_okW 8 S = true ∧ pm_WC fqP d 30 [.ref 34] (mk h) (pm_kk fqP d 48 (pc + n) r L S Q)) := by
  show _ = (pm_okW 8 S = true ∧ pm_WC fqP d 30 [.ref 34] (mk h) (fun v σ' => pm_WL fqP d 48 (pc + n) r L (pm_pu v S) σ' Q))
  simp only [w_invv, lg_48, lm_7_133, pm_oM_s, pm_oP_s, pm_pop_0, pm_pop_s, pm_rcv_is, hg_34, pm_oO_s, pm_ref1_is, Nat.reduceEqDiff, Nat.zero_ne_one, Nat.succ_ne_self, true_or, or_true, or_false, false_or, or_self, false_implies, true_implies, implies_true, true_and]
theorem iv_48_133_61 : pm_WL fqP d 48 pc ((.invokevirtual 133, n) :: r) L (.ref 61 :: S) (mk h) Q = (pm_okW 8 S = true ∧ pm_WC fqP d 30 [.ref 61] (mk h) (pm_kk fqP d 48 (pc + n) r L S Q)) := by
  show _ = (pm_okW 8 S = true ∧ pm_WC fqP d 30 [.ref 61] (mk h) (fun v σ' => pm_WL fqP d 48 (pc + n) r L (pm_pu v S) σ' Q))
  simp only [w_invv, lg_48, lm_7_133, pm_oM_s, pm_oP_s, pm_pop_0, pm_pop_s, pm_rcv_is, hg_61, pm_oO_s, pm_ref1_is, Nat.reduceEqDiff, Nat.zero_ne_one, Nat.succ_ne_self, true_or, or_true, or_false, false_or, or_self, false_implies, true_implies, implies_true, true_and]
theorem iv_48_137_6 {x1 : Int32} {x2 : Int32} : pm_WL fqP d 48 pc ((.invokevirtual 137, n) :: r) L (.int x2 :: .int x1 :: .ref 6 :: S) (mk h) Q = (pm_okW 8 S = true ∧ pm_WC fqP d 34 [.ref 6, .int x1, .int x2] (mk h) (pm_kk fqP d 48 (pc + n) r L S Q)) := by
  show _ = (pm_okW 8 S = true ∧ pm_WC fqP d 34 [.ref 6, .int x1, .int x2] (mk h) (fun v σ' => pm_WL fqP d 48 (pc + n) r L (pm_pu v S) σ' Q))
  simp only [w_invv, lg_48, lm_7_137, pm_oM_s, pm_oP_s, pm_pop_0, pm_pop_s, pm_rcv_is, hg_6, pm_oO_s, pm_ref1_is, Nat.reduceEqDiff, Nat.zero_ne_one, Nat.succ_ne_self, true_or, or_true, or_false, false_or, or_self, false_implies, true_implies, implies_true, true_and]
theorem iv_48_137_34 {x1 : Int32} {x2 : Int32} : pm_WL fqP d 48 pc ((.invokevirtual 137, n) :: r) L (.int x2 :: .int x1 :: .ref 34 :: S) (mk h) Q = (pm_okW 8 S = true ∧ pm_WC fqP d 34 [.ref 34, .int x1, .int x2] (mk h) (pm_kk fqP d 48 (pc + n) r L S Q)) := by
  show _ = (pm_okW 8 S = true ∧ pm_WC fqP d 34 [.ref 34, .int x1, .int x2] (mk h) (fun v σ' => pm_WL fqP d 48 (pc + n) r L (pm_pu v S) σ' Q))
  simp only [w_invv, lg_48, lm_7_137, pm_oM_s, pm_oP_s, pm_pop_0, pm_pop_s, pm_rcv_is, hg_34, pm_oO_s, pm_ref1_is, Nat.reduceEqDiff, Nat.zero_ne_one, Nat.succ_ne_self, true_or, or_true, or_false, false_or, or_self, false_implies, true_implies, implies_true, true_and]
theorem iv_48_137_61 {x1 : Int32} {x2 : Int32} : pm_WL fqP d 48 pc ((.invokevirtual 137, n) :: r) L (.int x2 :: .int x1 :: .ref 61 :: S) (mk h) Q = (pm_okW 8 S = true ∧ pm_WC fqP d 34 [.ref 61, .int x1, .int x2] (mk h) (pm_kk fqP d 48 (pc + n) r L S Q)) := by
  show _ = (pm_okW 8 S = true ∧ pm_WC fqP d 34 [.ref 61, .int x1, .int x2] (mk h) (fun v σ' => pm_WL fqP d 48 (pc + n) r L (pm_pu v S) σ' Q))
  simp only [w_invv, lg_48, lm_7_137, pm_oM_s, pm_oP_s, pm_pop_0, pm_pop_s, pm_rcv_is, hg_61, pm_oO_s, pm_ref1_is, Nat.reduceEqDiff, Nat.zero_ne_one, Nat.succ_ne_self, true_or, or_true, or_false, false_or, or_self, false_implies, true_implies, implies_true, true_and]
theorem gf_49_12_4 : pm_WL fqP d 49 pc ((.getfield 12, n) :: r) L (.ref 4 :: S) (mk h) Q = pm_WL fqP d 49 (pc + n) r L (.ref 5 :: S) (mk h) Q := by
  simp only [w_getf, lg_49, lf_7_12, pm_oF_s, hg_4, pm_oO_s, List.getElem?_cons_succ, List.getElem?_cons_zero, pm_oK_s, true_and]
theorem gf_49_70_5 : pm_WL fqP d 49 pc ((.getfield 70, n) :: r) L (.ref 5 :: S) (mk h) Q = pm_WL fqP d 49 (pc + n) r L (.ref 6 :: S) (mk h) Q := by
  simp only [w_getf, lg_49, lf_7_70, pm_oF_s, hg_5, pm_oO_s, List.getElem?_cons_succ, List.getElem?_cons_zero, pm_oK_s, true_and]
theorem gf_49_70_33 : pm_WL fqP d 49 pc ((.getfield 70, n) :: r) L (.ref 33 :: S) (mk h) Q = pm_WL fqP d 49 (pc + n) r L (.ref 34 :: S) (mk h) Q := by
  simp only [w_getf, lg_49, lf_7_70, pm_oF_s, hg_33, pm_oO_s, List.getElem?_cons_succ, List.getElem?_cons_zero, pm_oK_s, true_and]
theorem gf_49_93_6 : pm_WL fqP d 49 pc ((.getfield 93, n) :: r) L (.ref 6 :: S) (mk h) Q = pm_WL fqP d 49 (pc + n) r L (.ref 11 :: S) (mk h) Q := by
  simp only [w_getf, lg_49, lf_7_93, pm_oF_s, hg_6, pm_oO_s, List.getElem?_cons_succ, List.getElem?_cons_zero, pm_oK_s, true_and]
theorem gf_49_93_34 : pm_WL fqP d 49 pc ((.getfield 93, n) :: r) L (.ref 34 :: S) (mk h) Q = pm_WL fqP d 49 (pc + n) r L (.ref 39 :: S) (mk h) Q := by
  simp only [w_getf, lg_49, lf_7_93, pm_oF_s, hg_34, pm_oO_s, List.getElem?_cons_succ, List.getElem?_cons_zero, pm_oK_s, true_and]
theorem gf_49_93_61 : pm_WL fqP d 49 pc ((.getfield 93, n) :: r) L (.ref 61 :: S) (mk h) Q = pm_WL fqP d 49 (pc + n) r L (.ref 66 :: S) (mk h) Q := by
  simp only [w_getf, lg_49, lf_7_93, pm_oF_s, hg_61, pm_oO_s, List.getElem?_cons_succ, List.getElem?_cons_zero, pm_oK_s, true_and]
theorem iv_49_106_11 {x1 : Int32} : pm_WL fqP d 49 pc ((.invokevirtual 106, n) :: r) L (.int x1 :: .ref 11 :: S) (mk h) Q = (pm_okW 8 S = true ∧ pm_WC fqP d 40 [.ref 11, .int x1] (mk h) (pm_kk fqP d 49 (pc + n) r L S Q)) := by
  show _ = (pm_okW 8 S = true ∧ pm_WC fqP d 40 [.ref 11, .int x1] (mk h) (fun v σ' => pm_WL fqP d 49 (pc + n) r L (pm_pu v S) σ' Q))
  simp only [w_invv, lg_49, lm_7_106, pm_oM_s, pm_oP_s, pm_pop_0, pm_pop_s, pm_rcv_is, hg_11, pm_oO_s, pm_ref1_is, Nat.reduceEqDiff, Nat.zero_ne_one, Nat.succ_ne_self, true_or, or_true, or_false, false_or, or_self, false_implies, true_implies, implies_true, true_and]
theorem iv_49_106_39 {x1 : Int32} : pm_WL fqP d 49 pc ((.invokevirtual 106, n) :: r) L (.int x1 :: .ref 39 :: S) (mk h) Q = (pm_okW 8 S = true ∧ pm_WC fqP d 40 [.ref 39, .int x1] (mk h) (pm_kk fqP d 49 (pc + n) r L S Q)) := by
  show _ = (pm_okW 8 S = true ∧ pm_WC fqP d 40 [.ref 39, .int x1] (mk h) (fun v σ' => pm_WL fqP d 49 (pc + n) r L (pm_pu v S) σ' Q))
  simp only [w_invv, lg_49, lm_7_106, pm_oM_s, pm_oP_s, pm_pop_0, pm_pop_s, pm_rcv_is, hg_39, pm_oO_s, pm_ref1_is, Nat.reduceEqDiff, Nat.zero_ne_one, Nat.succ_ne_self, true_or, or_true, or_false, false_or, or_self, false_implies, true_implies, implies_true, true_and]
theorem iv_49_106_66 {x1 : Int32} : pm_WL fqP d 49 pc ((.invokevirtual 106, n) :: r) L (.int x1 :: .ref 66 :: S) (mk h) Q = (pm_okW 8 S = true ∧ pm_WC fqP d 40 [.ref 66, .int x1] (mk h) (pm_kk fqP d 49 (pc + n) r L S Q)) := by
  show _ = (pm_okW 8 S = true ∧ pm_WC fqP d 40 [.ref 66, .int x1] (mk h) (fun v σ' => pm_WL fqP d 49 (pc + n) r L (pm_pu v S) σ' Q))
  simp only [w_invv, lg_49, lm_7_106, pm_oM_s, pm_oP_s, pm_pop_0, pm_pop_s, pm_rcv_is, hg_66, pm_oO_s, pm_ref1_is, Nat.reduceEqDiff, Nat.zero_ne_one, Nat.succ_ne_self, true_or, or_true, or_false, false_or, or_self, false_implies, true_implies, implies_true, true_and]
theorem iv_49_90 {x0 : Int32} : pm_WL fqP d 49 pc ((.invokestatic 90, n) :: r) L (.int x0 :: S) σ Q = (pm_okW 8 S = true ∧ pm_WC fqP d 86 [.int x0] σ (pm_kk fqP d 49 (pc + n) r L S Q)) := by
  show _ = (pm_okW 8 S = true ∧ pm_WC fqP d 86 [.int x0] σ (fun v σ' => pm_WL fqP d 49 (pc + n) r L (pm_pu v S) σ' Q))
  simp only [w_invs, lg_49, lm_7_90, pm_oM_s, pm_oP_s, pm_pop_0, pm_pop_s, pm_ref1_is, Nat.reduceEqDiff, Nat.zero_ne_one, Nat.succ_ne_self, true_or, or_true, or_false, false_or, or_self, false_implies, true_implies, implies_true, true_and]
theorem gf_49_110_11 : pm_WL fqP d 49 pc ((.getfield 110, n) :: r) L (.ref 11 :: S) (mk h) Q = pm_WL fqP d 49 (pc + n) r L (.ref 12 :: S) (mk h) Q := by
  simp only [w_getf, lg_49, lf_7_110, pm_oF_s, hg_11, pm_oO_s, List.getElem?_cons_succ, List.getElem?_cons_zero, pm_oK_s, true_and]
theorem gf_49_110_39 : pm_WL fqP d 49 pc ((.getfield 110, n) :: r) L (.ref 39 :: S) (mk h) Q = pm_WL fqP d 49 (pc + n) r L (.ref 40 :: S) (mk h) Q := by
  simp only [w_getf, lg_49, lf_7_110, pm_oF_s, hg_39, pm_oO_s, List.getElem?_cons_succ, List.getElem?_cons_zero, pm_oK_s, true_and]
theorem gf_49_110_66 : pm_WL fqP d 49 pc ((.getfield 110, n) :: r) L (.ref 66 :: S) (mk h) Q = pm_WL fqP d 49 (pc + n) r L (.ref 67 :: S) (mk h) Q := by
  simp only [w_getf, lg_49, lf_7_110, pm_oF_s, hg_66, pm_oO_s, List.getElem?_cons_succ, List.getElem?_cons_zero, pm_oK_s, true_and]
theorem iv_49_113 {x0 : Nat} {x1 : Int32} : pm_WL fqP d 49 pc ((.invokestatic 113, n) :: r) L (.int x1 :: .ref x0 :: S) σ Q = (pm_okW 8 S = true ∧ pm_WC fqP d 91 [.ref x0, .int x1] σ (pm_kk fqP d 49 (pc + n) r L S Q)) := by
  show _ = (pm_okW 8 S = true ∧ pm_WC fqP d 91 [.ref x0, .int x1] σ (fun v σ' => pm_WL fqP d 49 (pc + n) r L (pm_pu v S) σ' Q))
  simp only [w_invs, lg_49, lm_7_113, pm_oM_s, pm_oP_s, pm_pop_0, pm_pop_s, pm_ref1_is, Nat.reduceEqDiff, Nat.zero_ne_one, Nat.succ_ne_self, true_or, or_true, or_false, false_or, or_self, false_implies, true_implies, implies_true, true_and]
theorem gf_49_140_11 : pm_WL fqP d 49 pc ((.getfield 140, n) :: r) L (.ref 11 :: S) (mk h) Q = pm_WL fqP d 49 (pc + n) r L (.ref 16 :: S) (mk h) Q := by
  simp only [w_getf, lg_49, lf_7_140, pm_oF_s, hg_11, pm_oO_s, List.getElem?_cons_succ, List.getElem?_cons_zero, pm_oK_s, true_and]
theorem gf_49_140_39 : pm_WL fqP d 49 pc ((.getfield 140, n) :: r) L (.ref 39 :: S) (mk h) Q = pm_WL fqP d 49 (pc + n) r L (.ref 44 :: S) (mk h) Q := by
  simp only [w_getf, lg_49, lf_7_140, pm_oF_s, hg_39, pm_oO_s, List.getElem?_cons_succ, List.getElem?_cons_zero, pm_oK_s, true_and]
theorem gf_49_140_66 : pm_WL fqP d 49 pc ((.getfield 140, n) :: r) L (.ref 66 :: S) (mk h) Q = pm_WL fqP d 49 (pc + n) r L (.ref 71 :: S) (mk h) Q := by
  simp only [w_getf, lg_49, lf_7_140, pm_oF_s, hg_66, pm_oO_s, List.getElem?_cons_succ, List.getElem?_cons_zero, pm_oK_s, true_and]
theorem iv_49_143 {x0 : Nat} {x1 : Int32} {x2 : Int32} : pm_WL fqP d 49 pc ((.invokestatic 143, n) :: r) L (.int x2 :: .int x1 :: .ref x0 :: S) σ Q = (pm_okW 8 S = true ∧ pm_WC fqP d 93 [.ref x0, .int x1, .int x2] σ (pm_kk fqP d 49 (pc + n) r L S Q)) := by
  show _ = (pm_okW 8 S = true ∧ pm_WC fqP d 93 [.ref x0, .int x1, .int x2] σ (fun v σ' => pm_WL fqP d 49 (pc + n) r L (pm_pu v S) σ' Q))
  simp only [w_invs, lg_49, lm_7_143, pm_oM_s, pm_oP_s, pm_pop_0, pm_pop_s, pm_ref1_is, Nat.reduceEqDiff, Nat.zero_ne_one, Nat.succ_ne_self, true_or, or_true, or_false, false_or, or_self, false_implies, true_implies, implies_true, true_and]
theorem gf_50_12_4 : pm_WL fqP d 50 pc ((.getfield 12, n) :: r) L (.ref 4 :: S) (mk h) Q = pm_WL fqP d 50 (pc + n) r L (.ref 5 :: S) (mk h) Q := by
  simp only [w_getf, lg_50, lf_7_12, pm_oF_s, hg_4, pm_oO_s, List.getElem?_cons_succ, List.getElem?_cons_zero, pm_oK_s, true_and]
theorem gf_50_70_5 : pm_WL fqP d 50 pc ((.getfield 70, n) :: r) L (.ref 5 :: S) (mk h) Q = pm_WL fqP d 50 (pc + n) r L (.ref 6 :: S) (mk h) Q := by
  simp only [w_getf, lg_50, lf_7_70, pm_oF_s, hg_5, pm_oO_s, List.getElem?_cons_succ, List.getElem?_cons_zero, pm_oK_s, true_and]
theorem gf_50_70_33 : pm_WL fqP d 50 pc ((.getfield 70, n) :: r) L (.ref 33 :: S) (mk h) Q = pm_WL fqP d 50 (pc + n) r L (.ref 34 :: S) (mk h) Q := by
  simp only [w_getf, lg_50, lf_7_70, pm_oF_s, hg_33, pm_oO_s, List.getElem?_cons_succ, List.getElem?_cons_zero, pm_oK_s, true_and]
theorem gf_50_93_6 : pm_WL fqP d 50 pc ((.getfield 93, n) :: r) L (.ref 6 :: S) (mk h) Q = pm_WL fqP d 50 (pc + n) r L (.ref 11 :: S) (mk h) Q := by
  simp only [w_getf, lg_50, lf_7_93, pm_oF_s, hg_6, pm_oO_s, List.getElem?_cons_succ, List.getElem?_cons_zero, pm_oK_s, true_and]
theorem gf_50_93_34 : pm_WL fqP d 50 pc ((.getfield 93, n) :: r) L (.ref 34 :: S) (mk h) Q = pm_WL fqP d 50 (pc + n) r L (.ref 39 :: S) (mk h) Q := by
  simp only [w_getf, lg_50, lf_7_93, pm_oF_s, hg_34, pm_oO_s, List.getElem?_cons_succ, List.getElem?_cons_zero, pm_oK_s, true_and]
theorem gf_50_93_61 : pm_WL fqP d 50 pc ((.getfield 93, n) :: r) L (.ref 61 :: S) (mk h) Q = pm_WL fqP d 50 (pc + n) r L (.ref 66 :: S) (mk h) Q := by
  simp only [w_getf, lg_50, lf_7_93, pm_oF_s, hg_61, pm_oO_s, List.getElem?_cons_succ, List.getElem?_cons_zero, pm_oK_s, true_and]
theorem iv_50_106_11 {x1 : Int32} : pm_WL fqP d 50 pc ((.invokevirtual 106, n) :: r) L (.int x1 :: .ref 11 :: S) (mk h) Q = (pm_okW 8 S = true ∧ pm_WC fqP d 40 [.ref 11, .int x1] (mk h) (pm_kk fqP d 50 (pc + n) r L S Q)) := by
  show _ = (pm_okW 8 S = true ∧ pm_WC fqP d 40 [.ref 11, .int x1] (mk h) (fun v σ' => pm_WL fqP d 50 (pc + n) r L (pm_pu v S) σ' Q))
  simp only [w_invv, lg_50, lm_7_106, pm_oM_s, pm_oP_s, pm_pop_0, pm_pop_s, pm_rcv_is, hg_11, pm_oO_s, pm_ref1_is, Nat.reduceEqDiff, Nat.zero_ne_one, Nat.succ_ne_self, true_or, or_true, or_false, false_or, or_self, false_implies, true_implies, implies_true, true_and]
theorem iv_50_106_39 {x1 : Int32} : pm_WL fqP d 50 pc ((.invokevirtual 106, n) :: r) L (.int x1 :: .ref 39 :: S) (mk h) Q = (pm_okW 8 S = true ∧ pm_WC fqP d 40 [.ref 39, .int x1] (mk h) (pm_kk fqP d 50 (pc + n) r L S Q)) := by
  show _ = (pm_okW 8 S = true ∧ pm_WC fqP d 40 [.ref 39, .int x1] (mk h) (fun v σ' => pm_WL fqP d 50 (pc + n) r L (pm_pu v S) σ' Q))
  simp only [w_invv, lg_50, lm_7_106, pm_oM_s, pm_oP_s, pm_pop_0, pm_pop_s, pm_rcv_is, hg_39, pm_oO_s, pm_ref1_is, Nat.reduceEqDiff, Nat.zero_ne_one, Nat.succ_ne_self, true_or, or_true, or_false, false_or, or_self, false_implies, true_implies, implies_true, true_and]
theorem iv_50_106_66 {x1 : Int32} : pm_WL fqP d 50 pc ((.invokevirtual 106, n) :: r) L (.int x1 :: .ref 66 :: S) (mk h) Q = (pm_okW 8 S = true ∧ pm_WC fqP d 40 [.ref 66, .int x1] (mk h) (pm_kk fqP d 50 (pc + n) r L S Q)) := by
  show _ = (pm_okW 8 S = true ∧ pm_WC fqP d 40 [.ref 66, .int x1] (mk h) (fun v σ' => pm_WL fqP d 50 (pc + n) r L (pm_pu v S) σ' Q))
  simp only [w_invv, lg_50, lm_7_106, pm_oM_s, pm_oP_s, pm_pop_0, pm_pop_s, pm_rcv_is, hg_66, pm_oO_s, pm_ref1_is, Nat.reduceEqDiff, Nat.zero_ne_one, Nat.succ_ne_self, true_or, or_true, or_false, false_or, or_self, false_implies, true_implies, implies_true, true_and]
theorem iv_50_90 {x0 : Int32} : pm_WL fqP d 50 pc ((.invokestatic 90, n) :: r) L (.int x0 :: S) σ Q = (pm_okW 8 S = true ∧ pm_WC fqP d 86 [.int x0] σ (pm_kk fqP d 50 (pc + n) r L S Q)) := by
  show _ = (pm_okW 8 S = true ∧ pm_WC fqP d 86 [.int x0] σ (fun v σ' => pm_WL fqP d 50 (pc + n) r L (pm_pu v S) σ' Q))
  simp only [w_invs, lg_50, lm_7_90, pm_oM_s, pm_oP_s, pm_pop_0, pm_pop_s, pm_ref1_is, Nat.reduceEqDiff, Nat.zero_ne_one, Nat.succ_ne_self, true_or, or_true, or_false, false_or, or_self, false_implies, true_implies, implies_true, true_and]
theorem gf_50_120_11 : pm_WL fqP d 50 pc ((.getfield 120, n) :: r) L (.ref 11 :: S) (mk h) Q = pm_WL fqP d 50 (pc + n) r L (.ref 14 :: S) (mk h) Q := by
  simp only [w_getf, lg_50, lf_7_120, pm_oF_s, hg_11, pm_oO_s, List.getElem?_cons_succ, List.getElem?_cons_zero, pm_oK_s, true_and]
theorem gf_50_120_39 : pm_WL fqP d 50 pc ((.getfield 120, n) :: r) L (.ref 39 :: S) (mk h) Q = pm_WL fqP d 50 (pc + n) r L (.ref 42 :: S) (mk h) Q := by
  simp only [w_getf, lg_50, lf_7_120, pm_oF_s, hg_39, pm_oO_s, List.getElem?_cons_succ, List.getElem?_cons_zero, pm_oK_s, true_and]
theorem gf_50_120_66 : pm_WL fqP d 50 pc ((.getfield 120, n) :: r) L (.ref 66 :: S) (mk h) Q = pm_WL fqP d 50 (pc + n) r L (.ref 69 :: S) (mk h) Q := by
  simp only [w_getf, lg_50, lf_7_120, pm_oF_s, hg_66, pm_oO_s, List.getElem?_cons_succ, List.getElem?_cons_zero, pm_oK_s, true_and]
theorem gf_50_123_11 : pm_WL fqP d 50 pc ((.getfield 123, n) :: r) L (.ref 11 :: S) (mk h) Q = pm_WL fqP d 50 (pc + n) r L (.ref 15 :: S) (mk h) Q := by
  simp only [w_getf, lg_50, lf_7_123, pm_oF_s, hg_11, pm_oO_s, List.getElem?_cons_succ, List.getElem?_cons_zero, pm_oK_s, true_and]
theorem gf_50_123_39 : pm_WL fqP d 50 pc ((.getfield 123, n) :: r) L (.ref 39 :: S) (mk h) Q = pm_WL fqP d 50 (pc + n) r L (.ref 43 :: S) (mk h) Q := by
  simp only [w_getf, lg_50, lf_7_123, pm_oF_s, hg_39, pm_oO_s, List.getElem?_cons_succ, List.getElem?_cons_zero, pm_oK_s, true_and]
theorem gf_50_123_66 : pm_WL fqP d 50 pc ((.getfield 123, n) :: r) L (.ref 66 :: S) (mk h) Q = pm_WL fqP d 50 (pc + n) r L (.ref 70 :: S) (mk h) Q := by
  simp only [w_getf, lg_50, lf_7_123, pm_oF_s, hg_66, pm_oO_s, List.getElem?_cons_succ, List.getElem?_cons_zero, pm_oK_s, true_and]
theorem iv_50_143 {x0 : Nat} {x1 : Int32} {x2 : Int32} : pm_WL fqP d 50 pc ((.invokestatic 143, n) :: r) L (.int x2 :: .int x1 :: .ref x0 :: S) σ Q = (pm_okW 8 S = true ∧ pm_WC fqP d 93 [.ref x0, .int x1, .int x2] σ (pm_kk fqP d 50 (pc + n) r L S Q)) := by
  show _ = (pm_okW 8 S = true ∧ pm_WC fqP d 93 [.ref x0, .int x1, .int x2] σ (fun v σ' => pm_WL fqP d 50 (pc + n) r L (pm_pu v S) σ' Q))
  simp only [w_invs, lg_50, lm_7_143, pm_oM_s, pm_oP_s, pm_pop_0, pm_pop_s, pm_ref1_is, Nat.reduceEqDiff, Nat.zero_ne_one, Nat.succ_ne_self, true_or, or_true, or_false, false_or, or_self, false_implies, true_implies, implies_true, true_and]
theorem gf_51_12_4 : pm_WL fqP d 51 pc ((.getfield 12, n) :: r) L (.ref 4 :: S) (mk h) Q = pm_WL fqP d 51 (pc + n) r L (.ref 5 :: S) (mk h) Q := by
  simp only [w_getf, lg_51, lf_7_12, pm_oF_s, hg_4, pm_oO_s, List.getElem?_cons_succ, List.getElem?_cons_zero, pm_oK_s, true_and]
theorem gf_51_70_5 : pm_WL fqP d 51 pc ((.getfield 70, n) :: r) L (.ref 5 :: S) (mk h) Q = pm_WL fqP d 51 (pc + n) r L (.ref 6 :: S) (mk h) Q := by
  simp only [w_getf, lg_51, lf_7_70, pm_oF_s, hg_5, pm_oO_s, List.getElem?_cons_succ, List.getElem?_cons_zero, pm_oK_s, true_and]
theorem gf_51_70_33 : pm_WL fqP d 51 pc ((.getfield 70, n) :: r) L (.ref 33 :: S) (mk h) Q = pm_WL fqP d 51 (pc + n) r L (.ref 34 :: S) (mk h) Q := by
  simp only [w_getf, lg_51, lf_7_70, pm_oF_s, hg_33, pm_oO_s, List.getElem?_cons_succ, List.getElem?_cons_zero, pm_oK_s, true_and]
theorem gf_51_93_6 : pm_WL fqP d 51 pc ((.getfield 93, n) :: r) L (.ref 6 :: S) (mk h) Q = pm_WL fqP d 51 (pc + n) r L (.ref 11 :: S) (mk h) Q := by
  simp only [w_getf, lg_51, lf_7_93, pm_oF_s, hg_6, pm_oO_s, List.getElem?_cons_succ, List.getElem?_cons_zero, pm_oK_s, true_and]
theorem gf_51_93_34 : pm_WL fqP d 51 pc ((.getfield 93, n) :: r) L (.ref 34 :: S) (mk h) Q = pm_WL fqP d 51 (pc + n) r L (.ref 39 :: S) (mk h) Q := by
  simp only [w_getf, lg_51, lf_7_93, pm_oF_s, hg_34, pm_oO_s, List.getElem?_cons_succ, List.getElem?_cons_zero, pm_oK_s, true_and]
theorem gf_51_93_61 : pm_WL fqP d 51 pc ((.getfield 93, n) :: r) L (.ref 61 :: S) (mk h) Q = pm_WL fqP d 51 (pc + n) r L (.ref 66 :: S) (mk h) Q := by
  simp only [w_getf, lg_51, lf_7_93, pm_oF_s, hg_61, pm_oO_s, List.getElem?_cons_succ, List.getElem?_cons_zero, pm_oK_s, true_and]
theorem iv_51_106_11 {x1 : Int32} : pm_WL fqP d 51 pc ((.invokevirtual 106, n) :: r) L (.int x1 :: .ref 11 :: S) (mk h) Q = (pm_okW 8 S = true ∧ pm_WC fqP d 40 [.ref 11, .int x1] (mk h) (pm_kk fqP d 51 (pc + n) r L S Q)) := by
  show _ = (pm_okW 8 S = true ∧ pm_WC fqP d 40 [.ref 11, .int x1] (mk h) (fun v σ' => pm_WL fqP d 51 (pc + n) r L (pm_pu v S) σ' Q))
  simp only [w_invv, lg_51, lm_7_106, pm_oM_s, pm_oP_s, pm_pop_0, pm_pop_s, pm_rcv_is, hg_11, pm_oO_s, pm_ref1_is, Nat.reduceEqDiff, Nat.zero_ne_one, Nat.succ_ne_self, true_or, or_true, or_false, false_or, or_self, false_implies, true_implies, implies_true, true_and]
theorem iv_51_106_39 {x1 : Int32} : pm_WL fqP d 51 pc ((.invokevirtual 106, n) :: r) L (.int x1 :: .ref 39 :: S) (mk h) Q = (pm_okW 8 S = true ∧ pm_WC fqP d 40 [.ref 39, .int x1] (mk h) (pm_kk fqP d 51 (pc + n) r L S Q)) := by
  show _ = (pm_okW 8 S = true ∧ pm_WC fqP d 40 [.ref 39, .int x1] (mk h) (fun v σ' => pm_WL fqP d 51 (pc + n) r L (pm_pu v S) σ' Q))
  simp only [w_invv, lg_51, lm_7_106, pm_oM_s, pm_oP_s, pm_pop_0, pm_pop_s, pm_rcv_is, hg_39, pm_oO_s, pm_ref1_is, Nat.reduceEqDiff, Nat.zero_ne_one, Nat.succ_ne_self, true_or, or_true, or_false, false_or, or_self, false_implies, true_implies, implies_true, true_and]
theorem iv_51_106_66 {x1 : Int32} : pm_WL fqP d 51 pc ((.invokevirtual 106, n) :: r) L (.int x1 :: .ref 66 :: S) (mk h) Q = (pm_okW 8 S = true ∧ pm_WC fqP d 40 [.ref 66, .int x1] (mk h) (pm_kk fqP d 51 (pc + n) r L S Q)) := by
  show _ = (pm_okW 8 S = true ∧ pm_WC fqP d 40 [.ref 66, .int x1] (mk h) (fun v σ' => pm_WL fqP d 51 (pc + n) r L (pm_pu v S) σ' Q))
  simp only [w_invv, lg_51, lm_7_106, pm_oM_s, pm_oP_s, pm_pop_0, pm_pop_s, pm_rcv_is, hg_66, pm_oO_s, pm_ref1_is, Nat.reduceEqDiff, Nat.zero_ne_one, Nat.succ_ne_self, true_or, or_true, or_false, false_or, or_self, false_implies, true_implies, implies_true, true_and]
theorem gf_51_126_11 : pm_WL fqP d 51 pc ((.getfield 126, n) :: r) L (.ref 11 :: S) (mk h) Q = pm_WL fqP d 51 (pc + n) r L (.int (gd (h 11) 0) :: S) (mk h) Q := by
  simp only [w_getf, lg_51, lf_7_126, pm_oF_s, hg_11, pm_oO_s, List.getElem?_cons_succ, List.getElem?_cons_zero, pm_oK_s, true_and]
theorem gf_51_126_39 : pm_WL fqP d 51 pc ((.getfield 126, n) :: r) L (.ref 39 :: S) (mk h) Q = pm_WL fqP d 51 (pc + n) r L (.int (gd (h 39) 0) :: S) (mk h) Q := by
  simp only [w_getf, lg_51, lf_7_126, pm_oF_s, hg_39, pm_oO_s, List.getElem?_cons_succ, List.getElem?_cons_zero, pm_oK_s, true_and]
theorem gf_51_126_66 : pm_WL fqP d 51 pc ((.getfield 126, n) :: r) L (.ref 66 :: S) (mk h) Q = pm_WL fqP d 51 (pc + n) r L (.int (gd (h 66) 0) :: S) (mk h) Q := by
  simp only [w_getf, lg_51, lf_7_126, pm_oF_s, hg_66, pm_oO_s, List.getElem?_cons_succ, List.getElem?_cons_zero, pm_oK_s, true_and]
theorem iv_51_129 {x0 : Int32} {x1 : Int32} : pm_WL fqP d 51 pc ((.invokestatic 129, n) :: r) L (.int x1 :: .int x0 :: S) σ Q = (pm_okW 8 S = true ∧ pm_WC fqP d 95 [.int x0, .int x1] σ (pm_kk fqP d 51 (pc + n) r L S Q)) := by
  show _ = (pm_okW 8 S = true ∧ pm_WC fqP d 95 [.int x0, .int x1] σ (fun v σ' => pm_WL fqP d 51 (pc + n) r L (pm_pu v S) σ' Q))
  simp only [w_invs, lg_51, lm_7_129, pm_oM_s, pm_oP_s, pm_pop_0, pm_pop_s, pm_ref1_is, Nat.reduceEqDiff, Nat.zero_ne_one, Nat.succ_ne_self, true_or, or_true, or_false, false_or, or_self, false_implies, true_implies, implies_true, true_and]
theorem iv_51_147 {x0 : Int32} {x1 : Int32} {x2 : Int32} : pm_WL fqP d 51 pc ((.invokestatic 147, n) :: r) L (.int x2 :: .int x1 :: .int x0 :: S) σ Q = (pm_okW 8 S = true ∧ pm_WC fqP d 96 [.int x0, .int x1, .int x2] σ (pm_kk fqP d 51 (pc + n) r L S Q)) := by
  show _ = (pm_okW 8 S = true ∧ pm_WC fqP d 96 [.int x0, .int x1, .int x2] σ (fun v σ' => pm_WL fqP d 51 (pc + n) r L (pm_pu v S) σ' Q))
  simp only [w_invs, lg_51, lm_7_147, pm_oM_s, pm_oP_s, pm_pop_0, pm_pop_s, pm_ref1_is, Nat.reduceEqDiff, Nat.zero_ne_one, Nat.succ_ne_self, true_or, or_true, or_false, false_or, or_self, false_implies, true_implies, implies_true, true_and]
theorem pf_51_126_11 {x : Int32} : pm_WL fqP d 51 pc ((.putfield 126, n) :: r) L (.int x :: .ref 11 :: S) (mk h) Q = pm_WL fqP d 51 (pc + n) r L S (mk (up h 11 [x, gd (h 11) 1])) Q := by
  simp only [w_putf, lg_51, lf_7_126, lt_6_5, pm_oF_s, hg_11, pm_oO_s, List.set_cons_succ, List.set_cons_zero, List.length_cons, List.length_nil, pm_fit_i, Nat.reduceAdd, Nat.reduceLT, Nat.zero_add, Nat.lt_add_one, Bool.false_eq_true, false_implies, true_and, and_true, hs_11]
theorem pf_51_126_39 {x : Int32} : pm_WL fqP d 51 pc ((.putfield 126, n) :: r) L (.int x :: .ref 39 :: S) (mk h) Q = pm_WL fqP d 51 (pc + n) r L S (mk (up h 39 [x, gd (h 39) 1])) Q := by
  simp only [w_putf, lg_51, lf_7_126, lt_6_5, pm_oF_s, hg_39, pm_oO_s, List.set_cons_succ, List.set_cons_zero, List.length_cons, List.length_nil, pm_fit_i, Nat.reduceAdd, Nat.reduceLT, Nat.zero_add, Nat.lt_add_one, Bool.false_eq_true, false_implies, true_and, and_true, hs_39]
theorem pf_51_126_66 {x : Int32} : pm_WL fqP d 51 pc ((.putfield 126, n) :: r) L (.int x :: .ref 66 :: S) (mk h) Q = pm_WL fqP d 51 (pc + n) r L S (mk (up h 66 [x, gd (h 66) 1])) Q := by
  simp only [w_putf, lg_51, lf_7_126, lt_6_5, pm_oF_s, hg_66, pm_oO_s, List.set_cons_succ, List.set_cons_zero, List.length_cons, List.length_nil, pm_fit_i, Nat.reduceAdd, Nat.reduceLT, Nat.zero_add, Nat.lt_add_one, Bool.false_eq_true, false_implies, true_and, and_true, hs_66]
theorem iv_52_90 {x0 : Int32} : pm_WL fqP d 52 pc ((.invokestatic 90, n) :: r) L (.int x0 :: S) σ Q = (pm_okW 8 S = true ∧ pm_WC fqP d 86 [.int x0] σ (pm_kk fqP d 52 (pc + n) r L S Q)) := by
  show _ = (pm_okW 8 S = true ∧ pm_WC fqP d 86 [.int x0] σ (fun v σ' => pm_WL fqP d 52 (pc + n) r L (pm_pu v S) σ' Q))
  simp only [w_invs, lg_52, lm_7_90, pm_oM_s, pm_oP_s, pm_pop_0, pm_pop_s, pm_ref1_is, Nat.reduceEqDiff, Nat.zero_ne_one, Nat.succ_ne_self, true_or, or_true, or_false, false_or, or_self, false_implies, true_implies, implies_true, true_and]
theorem gf_52_12_4 : pm_WL fqP d 52 pc ((.getfield 12, n) :: r) L (.ref 4 :: S) (mk h) Q = pm_WL fqP d 52 (pc + n) r L (.ref 5 :: S) (mk h) Q := by
  simp only [w_getf, lg_52, lf_7_12, pm_oF_s, hg_4, pm_oO_s, List.getElem?_cons_succ, List.getElem?_cons_zero, pm_oK_s, true_and]
theorem gf_52_70_5 : pm_WL fqP d 52 pc ((.getfield 70, n) :: r) L (.ref 5 :: S) (mk h) Q = pm_WL fqP d 52 (pc + n) r L (.ref 6 :: S) (mk h) Q := by
  simp only [w_getf, lg_52, lf_7_70, pm_oF_s, hg_5, pm_oO_s, List.getElem?_cons_succ, List.getElem?_cons_zero, pm_oK_s, true_and]
theorem gf_52_70_33 : pm_WL fqP d 52 pc ((.getfield 70, n) :: r) L (.ref 33 :: S) (mk h) Q = pm_WL fqP d 52 (pc + n) r L (.ref 34 :: S) (mk h) Q := by
  simp only [w_getf, lg_52, lf_7_70, pm_oF_s, hg_33, pm_oO_s, List.getElem?_cons_succ, List.getElem?_cons_zero, pm_oK_s, true_and]
theorem gf_52_151_6 : pm_WL fqP d 52 pc ((.getfield 151, n) :: r) L (.ref 6 :: S) (mk h) Q = pm_WL fqP d 52 (pc + n) r L (.ref 17 :: S) (mk h) Q := by
  simp only [w_getf, lg_52, lf_7_151, pm_oF_s, hg_6, pm_oO_s, List.getElem?_cons_succ, List.getElem?_cons_zero, pm_oK_s, true_and]
theorem gf_52_151_34 : pm_WL fqP d 52 pc ((.getfield 151, n) :: r) L (.ref 34 :: S) (mk h) Q = pm_WL fqP d 52 (pc + n) r L (.ref 45 :: S) (mk h) Q := by
  simp only [w_getf, lg_52, lf_7_151, pm_oF_s, hg_34, pm_oO_s, List.getElem?_cons_succ, List.getElem?_cons_zero, pm_oK_s, true_and]
theorem gf_52_151_61 : pm_WL fqP d 52 pc ((.getfield 151, n) :: r) L (.ref 61 :: S) (mk h) Q = pm_WL fqP d 52 (pc + n) r L (.ref 72 :: S) (mk h) Q := by
  simp only [w_getf, lg_52, lf_7_151, pm_oF_s, hg_61, pm_oO_s, List.getElem?_cons_succ, List.getElem?_cons_zero, pm_oK_s, true_and]
theorem iv_52_143 {x0 : Nat} {x1 : Int32} {x2 : Int32} : pm_WL fqP d 52 pc ((.invokestatic 143, n) :: r) L (.int x2 :: .int x1 :: .ref x0 :: S) σ Q = (pm_okW 8 S = true ∧ pm_WC fqP d 93 [.ref x0, .int x1, .int x2] σ (pm_kk fqP d 52 (pc + n) r L S Q)) := by
  show _ = (pm_okW 8 S = true ∧ pm_WC fqP d 93 [.ref x0, .int x1, .int x2] σ (fun v σ' => pm_WL fqP d 52 (pc + n) r L (pm_pu v S) σ' Q))
  simp only [w_invs, lg_52, lm_7_143, pm_oM_s, pm_oP_s, pm_pop_0, pm_pop_s, pm_ref1_is, Nat.reduceEqDiff, Nat.zero_ne_one, Nat.succ_ne_self, true_or, or_true, or_false, false_or, or_self, false_implies, true_implies, implies_true, true_and]
theorem gf_53_12_4 : pm_WL fqP d 53 pc ((.getfield 12, n) :: r) L (.ref 4 :: S) (mk h) Q = pm_WL fqP d 53 (pc + n) r L (.ref 5 :: S) (mk h) Q := by
  simp only [w_getf, lg_53, lf_7_12, pm_oF_s, hg_4, pm_oO_s, List.getElem?_cons_succ, List.getElem?_cons_zero, pm_oK_s, true_and]
theorem gf_53_70_5 : pm_WL fqP d 53 pc ((.getfield 70, n) :: r) L (.ref 5 :: S) (mk h) Q = pm_WL fqP d 53 (pc + n) r L (.ref 6 :: S) (mk h) Q := by
  simp only [w_getf, lg_53, lf_7_70, pm_oF_s, hg_5, pm_oO_s, List.getElem?_cons_succ, List.getElem?_cons_zero, pm_oK_s, true_and]
theorem gf_53_70_33 : pm_WL fqP d 53 pc ((.getfield 70, n) :: r) L (.ref 33 :: S) (mk h) Q = pm_WL fqP d 53 (pc + n) r L (.ref 34 :: S) (mk h) Q := by
  simp only [w_getf, lg_53, lf_7_70, pm_oF_s, hg_33, pm_oO_s, List.getElem?_cons_succ, List.getElem?_cons_zero, pm_oK_s, true_and]
theorem pf_53_154_6 {x : Int32} : pm_WL fqP d 53 pc ((.putfield 154, n) :: r) L (.int x :: .ref 6 :: S) (mk h) Q = pm_WL fqP d 53 (pc + n) r L S (mk (up h 6 [x, gd (h 6) 1, gd (h 6) 2])) Q := by
  simp only [w_putf, lg_53, lf_7_154, lt_5_4, pm_oF_s, hg_6, pm_oO_s, List.set_cons_succ, List.set_cons_zero, List.length_cons, List.length_nil, pm_fit_i, Nat.reduceAdd, Nat.reduceLT, Nat.zero_add, Nat.lt_add_one, Bool.false_eq_true, false_implies, true_and, and_true, hs_6]
theorem pf_53_154_34 {x : Int32} : pm_WL fqP d 53 pc ((.putfield 154, n) :: r) L (.int x :: .ref 34 :: S) (mk h) Q = pm_WL fqP d 53 (pc + n) r L S (mk (up h 34 [x, gd (h 34) 1, gd (h 34) 2])) Q := by
  simp only [w_putf, lg_53, lf_7_154, lt_5_4, pm_oF_s, hg_34, pm_oO_s, List.set_cons_succ, List.set_cons_zero, List.length_cons, List.length_nil, pm_fit_i, Nat.reduceAdd, Nat.reduceLT, Nat.zero_add, Nat.lt_add_one, Bool.false_eq_true, false_implies, true_and, and_true, hs_34]
theorem pf_53_154_61 {x : Int32} : pm_WL fqP d 53 pc ((.putfield 154, n) :: r) L (.int x :: .ref 61 :: S) (mk h) Q = pm_WL fqP d 53 (pc + n) r L S (mk (up h 61 [x, gd (h 61) 1, gd (h 61) 2])) Q := by
  simp only [w_putf, lg_53, lf_7_154, lt_5_4, pm_oF_s, hg_61, pm_oO_s, List.set_cons_succ, List.set_cons_zero, List.length_cons, List.length_nil, pm_fit_i, Nat.reduceAdd, Nat.reduceLT, Nat.zero_add, Nat.lt_add_one, Bool.false_eq_true, false_implies, true_and, and_true, hs_61]
theorem iv_53_157 {x0 : Int32} : pm_WL fqP d 53 pc ((.invokestatic 157, n) :: r) L (.int x0 :: S) σ Q = (pm_okW 8 S = true ∧ pm_WC fqP d 87 [.int x0] σ (pm_kk fqP d 53 (pc + n) r L S Q)) := by
  show _ = (pm_okW 8 S = true ∧ pm_WC fqP d 87 [.int x0] σ (fun v σ' => pm_WL fqP d 53 (pc + n) r L (pm_pu v S) σ' Q))
  simp only [w_invs, lg_53, lm_7_157, pm_oM_s, pm_oP_s, pm_pop_0, pm_pop_s, pm_ref1_is, Nat.reduceEqDiff, Nat.zero_ne_one, Nat.succ_ne_self, true_or, or_true, or_false, false_or, or_self, false_implies, true_implies, implies_true, true_and]
theorem iv_53_160_6 {x1 : Int32} : pm_WL fqP d 53 pc ((.invokevirtual 160, n) :: r) L (.int x1 :: .ref 6 :: S) (mk h) Q = (pm_okW 8 S = true ∧ pm_WC fqP d 29 [.ref 6, .int x1] (mk h) (pm_kk fqP d 53 (pc + n) r L S Q)) := by
  show _ = (pm_okW 8 S = true ∧ pm_WC fqP d 29 [.ref 6, .int x1] (mk h) (fun v σ' => pm_WL fqP d 53 (pc + n) r L (pm_pu v S) σ' Q))
  simp only [w_invv, lg_53, lm_7_160, pm_oM_s, pm_oP_s, pm_pop_0, pm_pop_s, pm_rcv_is, hg_6, pm_oO_s, pm_ref1_is, Nat.reduceEqDiff, Nat.zero_ne_one, Nat.succ_ne_self, true_or, or_true, or_false, false_or, or_self, false_implies, true_implies, implies_true, true_and]
theorem iv_53_160_34 {x1 : Int32} : pm_WL fqP d 53 pc ((.invokevirtual 160, n) :: r) L (.int x1 :: .ref 34 :: S) (mk h) Q = (pm_okW 8 S = true ∧ pm_WC fqP d 29 [.ref 34, .int x1] (mk h) (pm_kk fqP d 53 (pc + n) r L S Q)) := by
  show _ = (pm_okW 8 S = true ∧ pm_WC fqP d 29 [.ref 34, .int x1] (mk h) (fun v σ' => pm_WL fqP d 53 (pc + n) r L (pm_pu v S) σ' Q))
  simp only [w_invv, lg_53, lm_7_160, pm_oM_s, pm_oP_s, pm_pop_0, pm_pop_s, pm_rcv_is, hg_34, pm_oO_s, pm_ref1_is, Nat.reduceEqDiff, Nat.zero_ne_one, Nat.succ_ne_self, true_or, or_true, or_false, false_or, or_self, false_implies, true_implies, implies_true, true_and]
theorem iv_53_160_61 {x1 : Int32} : pm_WL fqP d 53 pc ((.invokevirtual 160, n) :: r) L (.int x1 :: .ref 61 :: S) (mk h) Q = (pm_okW 8 S = true ∧ pm_WC fqP d 29 [.ref 61, .int x1] (mk h) (pm_kk fqP d 53 (pc + n) r L S Q)) := by
  show _ = (pm_okW 8 S = true ∧ pm_WC fqP d 29 [.ref 61, .int x1] (mk h) (fun v σ' => pm_WL fqP d 53 (pc + n) r L (pm_pu v S) σ' Q))
  simp only [w_invv, lg_53, lm_7_160, pm_oM_s, pm_oP_s, pm_pop_0, pm_pop_s, pm_rcv_is, hg_61, pm_oO_s, pm_ref1_is, Nat.reduceEqDiff, Nat.zero_ne_one, Nat.succ_ne_self, true_or, or_true, or_false, false_or, or_self, false_implies, true_implies, implies_true, true_and]
theorem gf_53_163_6 : pm_WL fqP d 53 pc ((.getfield 163, n) :: r) L (.ref 6 :: S) (mk h) Q = pm_WL fqP d 53 (pc + n) r L (.ref 18 :: S) (mk h) Q := by
  simp only [w_getf, lg_53, lf_7_163, pm_oF_s, hg_6, pm_oO_s, List.getElem?_cons_succ, List.getElem?_cons_zero, pm_oK_s, true_and]
theorem gf_53_163_34 : pm_WL fqP d 53 pc ((.getfield 163, n) :: r) L (.ref 34 :: S) (mk h) Q = pm_WL fqP d 53 (pc + n) r L (.ref 46 :: S) (mk h) Q := by
  simp only [w_getf, lg_53, lf_7_163, pm_oF_s, hg_34, pm_oO_s, List.getElem?_cons_succ, List.getElem?_cons_zero, pm_oK_s, true_and]
theorem gf_53_163_61 : pm_WL fqP d 53 pc ((.getfield 163, n) :: r) L (.ref 61 :: S) (mk h) Q = pm_WL fqP d 53 (pc + n) r L (.ref 73 :: S) (mk h) Q := by
  simp only [w_getf, lg_53, lf_7_163, pm_oF_s, hg_61, pm_oO_s, List.getElem?_cons_succ, List.getElem?_cons_zero, pm_oK_s, true_and]
theorem gf_53_154_6 : pm_WL fqP d 53 pc ((.getfield 154, n) :: r) L (.ref 6 :: S) (mk h) Q = pm_WL fqP d 53 (pc + n) r L (.int (gd (h 6) 0) :: S) (mk h) Q := by
  simp only [w_getf, lg_53, lf_7_154, pm_oF_s, hg_6, pm_oO_s, List.getElem?_cons_succ, List.getElem?_cons_zero, pm_oK_s, true_and]
theorem gf_53_154_34 : pm_WL fqP d 53 pc ((.getfield 154, n) :: r) L (.ref 34 :: S) (mk h) Q = pm_WL fqP d 53 (pc + n) r L (.int (gd (h 34) 0) :: S) (mk h) Q := by
  simp only [w_getf, lg_53, lf_7_154, pm_oF_s, hg_34, pm_oO_s, List.getElem?_cons_succ, List.getElem?_cons_zero, pm_oK_s, true_and]
theorem gf_53_154_61 : pm_WL fqP d 53 pc ((.getfield 154, n) :: r) L (.ref 61 :: S) (mk h) Q = pm_WL fqP d 53 (pc + n) r L (.int (gd (h 61) 0) :: S) (mk h) Q := by
  simp only [w_getf, lg_53, lf_7_154, pm_oF_s, hg_61, pm_oO_s, List.getElem?_cons_succ, List.getElem?_cons_zero, pm_oK_s, true_and]
theorem iv_53_56 {x0 : Nat} {x1 : Int32} {x2 : Int32} : pm_WL fqP d 53 pc ((.invokestatic 56, n) :: r) L (.int x2 :: .int x1 :: .ref x0 :: S) σ Q = (pm_okW 8 S = true ∧ pm_WC fqP d 92 [.ref x0, .int x1, .int x2] σ (pm_kk fqP d 53 (pc + n) r L S Q)) := by
  show _ = (pm_okW 8 S = true ∧ pm_WC fqP d 92 [.ref x0, .int x1, .int x2] σ (fun v σ' => pm_WL fqP d 53 (pc + n) r L (pm_pu v S) σ' Q))
  simp only [w_invs, lg_53, lm_7_56, pm_oM_s, pm_oP_s, pm_pop_0, pm_pop_s, pm_ref1_is, Nat.reduceEqDiff, Nat.zero_ne_one, Nat.succ_ne_self, true_or, or_true, or_false, false_or, or_self, false_implies, true_implies, implies_true, true_and]
theorem iv_54_157 {x0 : Int32} : pm_WL fqP d 54 pc ((.invokestatic 157, n) :: r) L (.int x0 :: S) σ Q = (pm_okW 8 S = true ∧ pm_WC fqP d 87 [.int x0] σ (pm_kk fqP d 54 (pc + n) r L S Q)) := by
  show _ = (pm_okW 8 S = true ∧ pm_WC fqP d 87 [.int x0] σ (fun v σ' => pm_WL fqP d 54 (pc + n) r L (pm_pu v S) σ' Q))
  simp only [w_invs, lg_54, lm_7_157, pm_oM_s, pm_oP_s, pm_pop_0, pm_pop_s, pm_ref1_is, Nat.reduceEqDiff, Nat.zero_ne_one, Nat.succ_ne_self, true_or, or_true, or_false, false_or, or_self, false_implies, true_implies, implies_true, true_and]
theorem gf_54_12_4 : pm_WL fqP d 54 pc ((.getfield 12, n) :: r) L (.ref 4 :: S) (mk h) Q = pm_WL fqP d 54 (pc + n) r L (.ref 5 :: S) (mk h) Q := by
  simp only [w_getf, lg_54, lf_7_12, pm_oF_s, hg_4, pm_oO_s, List.getElem?_cons_succ, List.getElem?_cons_zero, pm_oK_s, true_and]
theorem gf_54_70_5 : pm_WL fqP d 54 pc ((.getfield 70, n) :: r) L (.ref 5 :: S) (mk h) Q = pm_WL fqP d 54 (pc + n) r L (.ref 6 :: S) (mk h) Q := by
  simp only [w_getf, lg_54, lf_7_70, pm_oF_s, hg_5, pm_oO_s, List.getElem?_cons_succ, List.getElem?_cons_zero, pm_oK_s, true_and]
theorem gf_54_70_33 : pm_WL fqP d 54 pc ((.getfield 70, n) :: r) L (.ref 33 :: S) (mk h) Q = pm_WL fqP d 54 (pc + n) r L (.ref 34 :: S) (mk h) Q := by
  simp only [w_getf, lg_54, lf_7_70, pm_oF_s, hg_33, pm_oO_s, List.getElem?_cons_succ, List.getElem?_cons_zero, pm_oK_s, true_and]
theorem gf_54_166_6 : pm_WL fqP d 54 pc ((.getfield 166, n) :: r) L (.ref 6 :: S) (mk h) Q = pm_WL fqP d 54 (pc + n) r L (.int (gd (h 6) 1) :: S) (mk h) Q := by
  simp only [w_getf, lg_54, lf_7_166, pm_oF_s, hg_6, pm_oO_s, List.getElem?_cons_succ, List.getElem?_cons_zero, pm_oK_s, true_and]
theorem gf_54_166_34 : pm_WL fqP d 54 pc ((.getfield 166, n) :: r) L (.ref 34 :: S) (mk h) Q = pm_WL fqP d 54 (pc + n) r L (.int (gd (h 34) 1) :: S) (mk h) Q := by
  simp only [w_getf, lg_54, lf_7_166, pm_oF_s, hg_34, pm_oO_s, List.getElem?_cons_succ, List.getElem?_cons_zero, pm_oK_s, true_and]
theorem gf_54_166_61 : pm_WL fqP d 54 pc ((.getfield 166, n) :: r) L (.ref 61 :: S) (mk h) Q = pm_WL fqP d 54 (pc + n) r L (.int (gd (h 61) 1) :: S) (mk h) Q := by
  simp only [w_getf, lg_54, lf_7_166, pm_oF_s, hg_61, pm_oO_s, List.getElem?_cons_succ, List.getElem?_cons_zero, pm_oK_s, true_and]
theorem iv_54_129 {x0 : Int32} {x1 : Int32} : pm_WL fqP d 54 pc ((.invokestatic 129, n) :: r) L (.int x1 :: .int x0 :: S) σ Q = (pm_okW 8 S = true ∧ pm_WC fqP d 95 [.int x0, .int x1] σ (pm_kk fqP d 54 (pc + n) r L S Q)) := by
  show _ = (pm_okW 8 S = true ∧ pm_WC fqP d 95 [.int x0, .int x1] σ (fun v σ' => pm_WL fqP d 54 (pc + n) r L (pm_pu v S) σ' Q))
  simp only [w_invs, lg_54, lm_7_129, pm_oM_s, pm_oP_s, pm_pop_0, pm_pop_s, pm_ref1_is, Nat.reduceEqDiff, Nat.zero_ne_one, Nat.succ_ne_self, true_or, or_true, or_false, false_or, or_self, false_implies, true_implies, implies_true, true_and]
theorem iv_54_147 {x0 : Int32} {x1 : Int32} {x2 : Int32} : pm_WL fqP d 54 pc ((.invokestatic 147, n) :: r) L (.int x2 :: .int x1 :: .int x0 :: S) σ Q = (pm_okW 8 S = true ∧ pm_WC fqP d 96 [.int x0, .int x1, .int x2] σ (pm_kk fqP d 54 (pc + n) r L S Q)) := by
  show _ = (pm_okW 8 S = true ∧ pm_WC fqP d 96 [.int x0, .int x1, .int x2] σ (fun v σ' => pm_WL fqP d 54 (pc + n) r L (pm_pu v S) σ' Q))
  simp only [w_invs, lg_54, lm_7_147, pm_oM_s, pm_oP_s, pm_pop_0, pm_pop_s, pm_ref1_is, Nat.reduceEqDiff, Nat.zero_ne_one, Nat.succ_ne_self, true_or, or_true, or_false, false_or, or_self, false_implies, true_implies, implies_true, true_and]
theorem pf_54_166_6 {x : Int32} : pm_WL fqP d 54 pc ((.putfield 166, n) :: r) L (.int x :: .ref 6 :: S) (mk h) Q = pm_WL fqP d 54 (pc + n) r L S (mk (up h 6 [gd (h 6) 0, x, gd (h 6) 2])) Q := by
  simp only [w_putf, lg_54, lf_7_166, lt_5_5, pm_oF_s, hg_6, pm_oO_s, List.set_cons_succ, List.set_cons_zero, List.length_cons, List.length_nil, pm_fit_i, Nat.reduceAdd, Nat.reduceLT, Nat.zero_add, Nat.lt_add_one, Bool.false_eq_true, false_implies, true_and, and_true, hs_6]
theorem pf_54_166_34 {x : Int32} : pm_WL fqP d 54 pc ((.putfield 166, n) :: r) L (.int x :: .ref 34 :: S) (mk h) Q = pm_WL fqP d 54 (pc + n) r L S (mk (up h 34 [gd (h 34) 0, x, gd (h 34) 2])) Q := by
  simp only [w_putf, lg_54, lf_7_166, lt_5_5, pm_oF_s, hg_34, pm_oO_s, List.set_cons_succ, List.set_cons_zero, List.length_cons, List.length_nil, pm_fit_i, Nat.reduceAdd, Nat.reduceLT, Nat.zero_add, Nat.lt_add_one, Bool.false_eq_true, false_implies, true_and, and_true, hs_34]
theorem pf_54_166_61 {x : Int32} : pm_WL fqP d 54 pc ((.putfield 166, n) :: r) L (.int x :: .ref 61 :: S) (mk h) Q = pm_WL fqP d 54 (pc + n) r L S (mk (up h 61 [gd (h 61) 0, x, gd (h 61) 2])) Q := by
  simp only [w_putf, lg_54, lf_7_166, lt_5_5, pm_oF_s, hg_61, pm_oO_s, List.set_cons_succ, List.set_cons_zero, List.length_cons, List.length_nil, pm_fit_i, Nat.reduceAdd, Nat.reduceLT, Nat.zero_add, Nat.lt_add_one, Bool.false_eq_true, false_implies, true_and, and_true, hs_61]
theorem gf_55_12_4 : pm_WL fqP d 55 pc ((.getfield 12, n) :: r) L (.ref 4 :: S) (mk h) Q = pm_WL fqP d 55 (pc + n) r L (.ref 5 :: S) (mk h) Q := by
  simp only [w_getf, lg_55, lf_7_12, pm_oF_s, hg_4, pm_oO_s, List.getElem?_cons_succ, List.getElem?_cons_zero, pm_oK_s, true_and]
theorem gf_55_70_5 : pm_WL fqP d 55 pc ((.getfield 70, n) :: r) L (.ref 5 :: S) (mk h) Q = pm_WL fqP d 55 (pc + n) r L (.ref 6 :: S) (mk h) Q := by
  simp only [w_getf, lg_55, lf_7_70, pm_oF_s, hg_5, pm_oO_s, List.getElem?_cons_succ, List.getElem?_cons_zero, pm_oK_s, true_and]
theorem gf_55_70_33 : pm_WL fqP d 55 pc ((.getfield 70, n) :: r) L (.ref 33 :: S) (mk h) Q = pm_WL fqP d 55 (pc + n) r L (.ref 34 :: S) (mk h) Q := by
  simp only [w_getf, lg_55, lf_7_70, pm_oF_s, hg_33, pm_oO_s, List.getElem?_cons_succ, List.getElem?_cons_zero, pm_oK_s, true_and]
theorem gf_55_169_6 : pm_WL fqP d 55 pc ((.getfield 169, n) :: r) L (.ref 6 :: S) (mk h) Q = pm_WL fqP d 55 (pc + n) r L (.int (gd (h 6) 2) :: S) (mk h) Q := by
  simp only [w_getf, lg_55, lf_7_169, pm_oF_s, hg_6, pm_oO_s, List.getElem?_cons_succ, List.getElem?_cons_zero, pm_oK_s, true_and]
theorem gf_55_169_34 : pm_WL fqP d 55 pc ((.getfield 169, n) :: r) L (.ref 34 :: S) (mk h) Q = pm_WL fqP d 55 (pc + n) r L (.int (gd (h 34) 2) :: S) (mk h) Q := by
  simp only [w_getf, lg_55, lf_7_169, pm_oF_s, hg_34, pm_oO_s, List.getElem?_cons_succ, List.getElem?_cons_zero, pm_oK_s, true_and]
theorem gf_55_169_61 : pm_WL fqP d 55 pc ((.getfield 169, n) :: r) L (.ref 61 :: S) (mk h) Q = pm_WL fqP d 55 (pc + n) r L (.int (gd (h 61) 2) :: S) (mk h) Q := by
  simp only [w_getf, lg_55, lf_7_169, pm_oF_s, hg_61, pm_oO_s, List.getElem?_cons_succ, List.getElem?_cons_zero, pm_oK_s, true_and]
theorem gf_55_73_6 : pm_WL fqP d 55 pc ((.getfield 73, n) :: r) L (.ref 6 :: S) (mk h) Q = pm_WL fqP d 55 (pc + n) r L (.ref 7 :: S) (mk h) Q := by
  simp only [w_getf, lg_55, lf_7_73, pm_oF_s, hg_6, pm_oO_s, List.getElem?_cons_succ, List.getElem?_cons_zero, pm_oK_s, true_and]
theorem gf_55_73_34 : pm_WL fqP d 55 pc ((.getfield 73, n) :: r) L (.ref 34 :: S) (mk h) Q = pm_WL fqP d 55 (pc + n) r L (.ref 35 :: S) (mk h) Q := by
  simp only [w_getf, lg_55, lf_7_73, pm_oF_s, hg_34, pm_oO_s, List.getElem?_cons_succ, List.getElem?_cons_zero, pm_oK_s, true_and]
theorem gf_55_73_61 : pm_WL fqP d 55 pc ((.getfield 73, n) :: r) L (.ref 61 :: S) (mk h) Q = pm_WL fqP d 55 (pc + n) r L (.ref 62 :: S) (mk h) Q := by
  simp only [w_getf, lg_55, lf_7_73, pm_oF_s, hg_61, pm_oO_s, List.getElem?_cons_succ, List.getElem?_cons_zero, pm_oK_s, true_and]
theorem gf_55_172_7 : pm_WL fqP d 55 pc ((.getfield 172, n) :: r) L (.ref 7 :: S) (mk h) Q = pm_WL fqP d 55 (pc + n) r L (.int (gd (h 7) 2) :: S) (mk h) Q := by
  simp only [w_getf, lg_55, lf_7_172, pm_oF_s, hg_7, pm_oO_s, List.getElem?_cons_succ, List.getElem?_cons_zero, pm_oK_s, true_and]
theorem gf_55_172_35 : pm_WL fqP d 55 pc ((.getfield 172, n) :: r) L (.ref 35 :: S) (mk h) Q = pm_WL fqP d 55 (pc + n) r L (.int (gd (h 35) 2) :: S) (mk h) Q := by
  simp only [w_getf, lg_55, lf_7_172, pm_oF_s, hg_35, pm_oO_s, List.getElem?_cons_succ, List.getElem?_cons_zero, pm_oK_s, true_and]
theorem gf_55_172_62 : pm_WL fqP d 55 pc ((.getfield 172, n) :: r) L (.ref 62 :: S) (mk h) Q = pm_WL fqP d 55 (pc + n) r L (.int (gd (h 62) 2) :: S) (mk h) Q := by
  simp only [w_getf, lg_55, lf_7_172, pm_oF_s, hg_62, pm_oO_s, List.getElem?_cons_succ, List.getElem?_cons_zero, pm_oK_s, true_and]
theorem gf_55_172_76 : pm_WL fqP d 55 pc ((.getfield 172, n) :: r) L (.ref 76 :: S) (mk h) Q = pm_WL fqP d 55 (pc + n) r L (.int (gd (h 76) 2) :: S) (mk h) Q := by
  simp only [w_getf, lg_55, lf_7_172, pm_oF_s, hg_76, pm_oO_s, List.getElem?_cons_succ, List.getElem?_cons_zero, pm_oK_s, true_and]
theorem gf_55_166_6 : pm_WL fqP d 55 pc ((.getfield 166, n) :: r) L (.ref 6 :: S) (mk h) Q = pm_WL fqP d 55 (pc + n) r L (.int (gd (h 6) 1) :: S) (mk h) Q := by
  simp only [w_getf, lg_55, lf_7_166, pm_oF_s, hg_6, pm_oO_s, List.getElem?_cons_succ, List.getElem?_cons_zero, pm_oK_s, true_and]
theorem gf_55_166_34 : pm_WL fqP d 55 pc ((.getfield 166, n) :: r) L (.ref 34 :: S) (mk h) Q = pm_WL fqP d 55 (pc + n) r L (.int (gd (h 34) 1) :: S) (mk h) Q := by
  simp only [w_getf, lg_55, lf_7_166, pm_oF_s, hg_34, pm_oO_s, List.getElem?_cons_succ, List.getElem?_cons_zero, pm_oK_s, true_and]
theorem gf_55_166_61 : pm_WL fqP d 55 pc ((.getfield 166, n) :: r) L (.ref 61 :: S) (mk h) Q = pm_WL fqP d 55 (pc + n) r L (.int (gd (h 61) 1) :: S) (mk h) Q := by
  simp only [w_getf, lg_55, lf_7_166, pm_oF_s, hg_61, pm_oO_s, List.getElem?_cons_succ, List.getElem?_cons_zero, pm_oK_s, true_and]
theorem iv_55_133_6 : pm_WL fqP d 55 pc ((.invokevirtual 133, n) :: r) L (.ref 6 :: S) (mk h) Q = (pm_okW 8 S = true ∧ pm_WC fqP d 30 [.ref 6] (mk h) (pm_kk fqP d 55 (pc + n) r L S Q)) := by
  show _ = (pm_okW 8 S = true ∧ pm_WC fqP d 30 [.ref 6] (mk h) (fun v σ' => pm_WL fqP d 55 (pc + n) r L (pm_pu v S) σ' Q))
  simp only [w_invv, lg_55, lm_7_133, pm_oM_s, pm_oP_s, pm_pop_0, pm_pop_s, pm_rcv_is, hg_6, pm_oO_s, pm_ref1_is, Nat.reduceEqDiff, Nat.zero_ne_one, Nat.succ_ne_self, true_or, or_true, or_false, false_or, or_self, false_implies, true_implies, implies_true, true_and]
theorem iv_55_133_34 : pm_WL fqP d 55 pc ((.invokevirtual 133, n) :: r) L (.ref 34 :: S) (mk h) Q = (pm_okW 8 S = true ∧ pm_WC fqP d 30 [.ref 34] (mk h) (pm_kk fqP d 55 (pc + n) r L S Q)) := by
  show _ = (pm_okW 8 S = true ∧ pm_WC fqP d 30 [.ref 34] (mk h) (fun v σ' => pm_WL fqP d 55 (pc + n) r L (pm_pu v S) σ' Q))
  simp only [w_invv, lg_55, lm_7_133, pm_oM_s, pm_oP_s, pm_pop_0, pm_pop_s, pm_rcv_is, hg_34, pm_oO_s, pm_ref1_is, Nat.reduceEqDiff, Nat.zero_ne_one, Nat.succ_ne_self, true_or, or_true, or_false, false_or, or_self, false_implies, true_implies, implies_true, true_and]
theorem iv_55_133_61 : pm_WL fqP d 55 pc ((.invokevirtual 133, n) :: r) L (.ref 61 :: S) (mk h) Q = (pm_okW 8 S = true ∧ pm_WC fqP d 30 [.ref 61] (mk h) (pm_kk fqP d 55 (pc + n) r L S Q)) := by
  show _ = (pm_okW 8 S = true ∧ pm_WC fqP d 30 [.ref 61] (mk h) (fun v σ' => pm_WL fqP d 55 (pc + n) r L (pm_pu v S) σ' Q))
  simp only [w_invv, lg_55, lm_7_133, pm_oM_s, pm_oP_s, pm_pop_0, pm_pop_s, pm_rcv_is, hg_61, pm_oO_s, pm_ref1_is, Nat.reduceEqDiff, Nat.zero_ne_one, Nat.succ_ne_self, true_or, or_true, or_false, false_or, or_self, false_implies, true_implies, implies_true, true_and]
theorem iv_55_175_4 : pm_WL fqP d 55 pc ((.invokevirtual 175, n) :: r) L (.ref 4 :: S) (mk h) Q = (pm_okW 8 S = true ∧ pm_WC fqP d 78 [.ref 4] (mk h) (pm_kk fqP d 55 (pc + n) r L S Q)) := by
  show _ = (pm_okW 8 S = true ∧ pm_WC fqP d 78 [.ref 4] (mk h) (fun v σ' => pm_WL fqP d 55 (pc + n) r L (pm_pu v S) σ' Q))
  simp only [w_invv, lg_55, lm_7_175, pm_oM_s, pm_oP_s, pm_pop_0, pm_pop_s, pm_rcv_is, hg_4, pm_oO_s, pm_ref1_is, Nat.reduceEqDiff, Nat.zero_ne_one, Nat.succ_ne_self, true_or, or_true, or_false, false_or, or_self, false_implies, true_implies, implies_true, true_and]
theorem gf_55_151_6 : pm_WL fqP d 55 pc ((.getfield 151, n) :: r) L (.ref 6 :: S) (mk h) Q = pm_WL fqP d 55 (pc + n) r L (.ref 17 :: S) (mk h) Q := by
  simp only [w_getf, lg_55, lf_7_151, pm_oF_s, hg_6, pm_oO_s, List.getElem?_cons_succ, List.getElem?_cons_zero, pm_oK_s, true_and]
theorem gf_55_151_34 : pm_WL fqP d 55 pc ((.getfield 151, n) :: r) L (.ref 34 :: S) (mk h) Q = pm_WL fqP d 55 (pc + n) r L (.ref 45 :: S) (mk h) Q := by
  simp only [w_getf, lg_55, lf_7_151, pm_oF_s, hg_34, pm_oO_s, List.getElem?_cons_succ, List.getElem?_cons_zero, pm_oK_s, true_and]
theorem gf_55_151_61 : pm_WL fqP d 55 pc ((.getfield 151, n) :: r) L (.ref 61 :: S) (mk h) Q = pm_WL fqP d 55 (pc + n) r L (.ref 72 :: S) (mk h) Q := by
  simp only [w_getf, lg_55, lf_7_151, pm_oF_s, hg_61, pm_oO_s, List.getElem?_cons_succ, List.getElem?_cons_zero, pm_oK_s, true_and]
theorem iv_55_113 {x0 : Nat} {x1 : Int32} : pm_WL fqP d 55 pc ((.invokestatic 113, n) :: r) L (.int x1 :: .ref x0 :: S) σ Q = (pm_okW 8 S = true ∧ pm_WC fqP d 91 [.ref x0, .int x1] σ (pm_kk fqP d 55 (pc + n) r L S Q)) := by
  show _ = (pm_okW 8 S = true ∧ pm_WC fqP d 91 [.ref x0, .int x1] σ (fun v σ' => pm_WL fqP d 55 (pc + n) r L (pm_pu v S) σ' Q))
  simp only [w_invs, lg_55, lm_7_113, pm_oM_s, pm_oP_s, pm_pop_0, pm_pop_s, pm_ref1_is, Nat.reduceEqDiff, Nat.zero_ne_one, Nat.succ_ne_self, true_or, or_true, or_false, false_or, or_self, false_implies, true_implies, implies_true, true_and]
theorem gf_56_12_4 : pm_WL fqP d 56 pc ((.getfield 12, n) :: r) L (.ref 4 :: S) (mk h) Q = pm_WL fqP d 56 (pc + n) r L (.ref 5 :: S) (mk h) Q := by
  simp only [w_getf, lg_56, lf_7_12, pm_oF_s, hg_4, pm_oO_s, List.getElem?_cons_succ, List.getElem?_cons_zero, pm_oK_s, true_and]
theorem gf_56_70_5 : pm_WL fqP d 56 pc ((.getfield 70, n) :: r) L (.ref 5 :: S) (mk h) Q = pm_WL fqP d 56 (pc + n) r L (.ref 6 :: S) (mk h) Q := by
  simp only [w_getf, lg_56, lf_7_70, pm_oF_s, hg_5, pm_oO_s, List.getElem?_cons_succ, List.getElem?_cons_zero, pm_oK_s, true_and]
theorem gf_56_70_33 : pm_WL fqP d 56 pc ((.getfield 70, n) :: r) L (.ref 33 :: S) (mk h) Q = pm_WL fqP d 56 (pc + n) r L (.ref 34 :: S) (mk h) Q := by
  simp only [w_getf, lg_56, lf_7_70, pm_oF_s, hg_33, pm_oO_s, List.getElem?_cons_succ, List.getElem?_cons_zero, pm_oK_s, true_and]
theorem gf_56_169_6 : pm_WL fqP d 56 pc ((.getfield 169, n) :: r) L (.ref 6 :: S) (mk h) Q = pm_WL fqP d 56 (pc + n) r L (.int (gd (h 6) 2) :: S) (mk h) Q := by
  simp only [w_getf, lg_56, lf_7_169, pm_oF_s, hg_6, pm_oO_s, List.getElem?_cons_succ, List.getElem?_cons_zero, pm_oK_s, true_and]
theorem gf_56_169_34 : pm_WL fqP d 56 pc ((.getfield 169, n) :: r) L (.ref 34 :: S) (mk h) Q = pm_WL fqP d 56 (pc + n) r L (.int (gd (h 34) 2) :: S) (mk h) Q := by
  simp only [w_getf, lg_56, lf_7_169, pm_oF_s, hg_34, pm_oO_s, List.getElem?_cons_succ, List.getElem?_cons_zero, pm_oK_s, true_and]
theorem gf_56_169_61 : pm_WL fqP d 56 pc ((.getfield 169, n) :: r) L (.ref 61 :: S) (mk h) Q = pm_WL fqP d 56 (pc + n) r L (.int (gd (h 61) 2) :: S) (mk h) Q := by
  simp only [w_getf, lg_56, lf_7_169, pm_oF_s, hg_61, pm_oO_s, List.getElem?_cons_succ, List.getElem?_cons_zero, pm_oK_s, true_and]
theorem iv_56_178_6 {x1 : Int32} : pm_WL fqP d 56 pc ((.invokevirtual 178, n) :: r) L (.int x1 :: .ref 6 :: S) (mk h) Q = (pm_okW 8 S = true ∧ pm_WC fqP d 31 [.ref 6, .int x1] (mk h) (pm_kk fqP d 56 (pc + n) r L S Q)) := by
  show _ = (pm_okW 8 S = true ∧ pm_WC fqP d 31 [.ref 6, .int x1] (mk h) (fun v σ' => pm_WL fqP d 56 (pc + n) r L (pm_pu v S) σ' Q))
  simp only [w_invv, lg_56, lm_7_178, pm_oM_s, pm_oP_s, pm_pop_0, pm_pop_s, pm_rcv_is, hg_6, pm_oO_s, pm_ref1_is, Nat.reduceEqDiff, Nat.zero_ne_one, Nat.succ_ne_self, true_or, or_true, or_false, false_or, or_self, false_implies, true_implies, implies_true, true_and]
theorem iv_56_178_34 {x1 : Int32} : pm_WL fqP d 56 pc ((.invokevirtual 178, n) :: r) L (.int x1 :: .ref 34 :: S) (mk h) Q = (pm_okW 8 S = true ∧ pm_WC fqP d 31 [.ref 34, .int x1] (mk h) (pm_kk fqP d 56 (pc + n) r L S Q)) := by
  show _ = (pm_okW 8 S = true ∧ pm_WC fqP d 31 [.ref 34, .int x1] (mk h) (fun v σ' => pm_WL fqP d 56 (pc + n) r L (pm_pu v S) σ' Q))
  simp only [w_invv, lg_56, lm_7_178, pm_oM_s, pm_oP_s, pm_pop_0, pm_pop_s, pm_rcv_is, hg_34, pm_oO_s, pm_ref1_is, Nat.reduceEqDiff, Nat.zero_ne_one, Nat.succ_ne_self, true_or, or_true, or_false, false_or, or_self, false_implies, true_implies, implies_true, true_and]
theorem iv_56_178_61 {x1 : Int32} : pm_WL fqP d 56 pc ((.invokevirtual 178, n) :: r) L (.int x1 :: .ref 61 :: S) (mk h) Q = (pm_okW 8 S = true ∧ pm_WC fqP d 31 [.ref 61, .int x1] (mk h) (pm_kk fqP d 56 (pc + n) r L S Q)) := by
  show _ = (pm_okW 8 S = true ∧ pm_WC fqP d 31 [.ref 61, .int x1] (mk h) (fun v σ' => pm_WL fqP d 56 (pc + n) r L (pm_pu v S) σ' Q))
  simp only [w_invv, lg_56, lm_7_178, pm_oM_s, pm_oP_s, pm_pop_0, pm_pop_s, pm_rcv_is, hg_61, pm_oO_s, pm_ref1_is, Nat.reduceEqDiff, Nat.zero_ne_one, Nat.succ_ne_self, true_or, or_true, or_false, false_or, or_self, false_implies, true_implies, implies_true, true_and]
theorem gf_57_24_4 : pm_WL fqP d 57 pc ((.getfield 24, n) :: r) L (.ref 4 :: S) (mk h) Q = pm_WL fqP d 57 (pc + n) r L (.ref 61 :: S) (mk h) Q := by
  simp only [w_getf, lg_57, lf_7_24, pm_oF_s, hg_4, pm_oO_s, List.getElem?_cons_succ, List.getElem?_cons_zero, pm_oK_s, true_and]
theorem gf_57_12_4 : pm_WL fqP d 57 pc ((.getfield 12, n) :: r) L (.ref 4 :: S) (mk h) Q = pm_WL fqP d 57 (pc + n) r L (.ref 5 :: S) (mk h) Q := by
  simp only [w_getf, lg_57, lf_7_12, pm_oF_s, hg_4, pm_oO_s, List.getElem?_cons_succ, List.getElem?_cons_zero, pm_oK_s, true_and]
theorem gf_57_70_5 : pm_WL fqP d 57 pc ((.getfield 70, n) :: r) L (.ref 5 :: S) (mk h) Q = pm_WL fqP d 57 (pc + n) r L (.ref 6 :: S) (mk h) Q := by
  simp only [w_getf, lg_57, lf_7_70, pm_oF_s, hg_5, pm_oO_s, List.getElem?_cons_succ, List.getElem?_cons_zero, pm_oK_s, true_and]
theorem gf_57_70_33 : pm_WL fqP d 57 pc ((.getfield 70, n) :: r) L (.ref 33 :: S) (mk h) Q = pm_WL fqP d 57 (pc + n) r L (.ref 34 :: S) (mk h) Q := by
  simp only [w_getf, lg_57, lf_7_70, pm_oF_s, hg_33, pm_oO_s, List.getElem?_cons_succ, List.getElem?_cons_zero, pm_oK_s, true_and]
theorem iv_57_182_6 {x1 : Nat} : pm_WL fqP d 57 pc ((.invokevirtual 182, n) :: r) L (.ref x1 :: .ref 6 :: S) (mk h) Q = (pm_okW 8 S = true ∧ pm_WC fqP d 38 [.ref 6, .ref x1] (mk h) (pm_kk fqP d 57 (pc + n) r L S Q)) := by
  show _ = (pm_okW 8 S = true ∧ pm_WC fqP d 38 [.ref 6, .ref x1] (mk h) (fun v σ' => pm_WL fqP d 57 (pc + n) r L (pm_pu v S) σ' Q))
  simp only [w_invv, lg_57, lm_7_182, pm_oM_s, pm_oP_s, pm_pop_0, pm_pop_s, pm_rcv_is, hg_6, pm_oO_s, pm_ref1_is, Nat.reduceEqDiff, Nat.zero_ne_one, Nat.succ_ne_self, true_or, or_true, or_false, false_or, or_self, false_implies, true_implies, implies_true, true_and]
theorem iv_57_182_34 {x1 : Nat} : pm_WL fqP d 57 pc ((.invokevirtual 182, n) :: r) L (.ref x1 :: .ref 34 :: S) (mk h) Q = (pm_okW 8 S = true ∧ pm_WC fqP d 38 [.ref 34, .ref x1] (mk h) (pm_kk fqP d 57 (pc + n) r L S Q)) := by
  show _ = (pm_okW 8 S = true ∧ pm_WC fqP d 38 [.ref 34, .ref x1] (mk h) (fun v σ' => pm_WL fqP d 57 (pc + n) r L (pm_pu v S) σ' Q))
  simp only [w_invv, lg_57, lm_7_182, pm_oM_s, pm_oP_s, pm_pop_0, pm_pop_s, pm_rcv_is, hg_34, pm_oO_s, pm_ref1_is, Nat.reduceEqDiff, Nat.zero_ne_one, Nat.succ_ne_self, true_or, or_true, or_false, false_or, or_self, false_implies, true_implies, implies_true, true_and]
theorem iv_57_182_61 {x1 : Nat} : pm_WL fqP d 57 pc ((.invokevirtual 182, n) :: r) L (.ref x1 :: .ref 61 :: S) (mk h) Q = (pm_okW 8 S = true ∧ pm_WC fqP d 38 [.ref 61, .ref x1] (mk h) (pm_kk fqP d 57 (pc + n) r L S Q)) := by
  show _ = (pm_okW 8 S = true ∧ pm_WC fqP d 38 [.ref 61, .ref x1] (mk h) (fun v σ' => pm_WL fqP d 57 (pc + n) r L (pm_pu v S) σ' Q))
  simp only [w_invv, lg_57, lm_7_182, pm_oM_s, pm_oP_s, pm_pop_0, pm_pop_s, pm_rcv_is, hg_61, pm_oO_s, pm_ref1_is, Nat.reduceEqDiff, Nat.zero_ne_one, Nat.succ_ne_self, true_or, or_true, or_false, false_or, or_self, false_implies, true_implies, implies_true, true_and]
theorem iv_57_178_6 {x1 : Int32} : pm_WL fqP d 57 pc ((.invokevirtual 178, n) :: r) L (.int x1 :: .ref 6 :: S) (mk h) Q = (pm_okW 8 S = true ∧ pm_WC fqP d 31 [.ref 6, .int x1] (mk h) (pm_kk fqP d 57 (pc + n) r L S Q)) := by
  show _ = (pm_okW 8 S = true ∧ pm_WC fqP d 31 [.ref 6, .int x1] (mk h) (fun v σ' => pm_WL fqP d 57 (pc + n) r L (pm_pu v S) σ' Q))
  simp only [w_invv, lg_57, lm_7_178, pm_oM_s, pm_oP_s, pm_pop_0, pm_pop_s, pm_rcv_is, hg_6, pm_oO_s, pm_ref1_is, Nat.reduceEqDiff, Nat.zero_ne_one, Nat.succ_ne_self, true_or, or_true, or_false, false_or, or_self, false_implies, true_implies, implies_true, true_and]
theorem iv_57_178_34 {x1 : Int32} : pm_WL fqP d 57 pc ((.invokevirtual 178, n) :: r) L (.int x1 :: .ref 34 :: S) (mk h) Q = (pm_okW 8 S = true ∧ pm_WC fqP d 31 [.ref 34, .int x1] (mk h) (pm_kk fqP d 57 (pc + n) r L S Q)) := by
  show _ = (pm_okW 8 S = true ∧ pm_WC fqP d 31 [.ref 34, .int x1] (mk h) (fun v σ' => pm_WL fqP d 57 (pc + n) r L (pm_pu v S) σ' Q))
  simp only [w_invv, lg_57, lm_7_178, pm_oM_s, pm_oP_s, pm_pop_0, pm_pop_s, pm_rcv_is, hg_34, pm_oO_s, pm_ref1_is, Nat.reduceEqDiff, Nat.zero_ne_one, Nat.succ_ne_self, true_or, or_true, or_false, false_or, or_self, false_implies, true_implies, implies_true, true_and]
theorem iv_57_178_61 {x1 : Int32} : pm_WL fqP d 57 pc ((.invokevirtual 178, n) :: r) L (.int x1 :: .ref 61 :: S) (mk h) Q = (pm_okW 8 S = true ∧ pm_WC fqP d 31 [.ref 61, .int x1] (mk h) (pm_kk fqP d 57 (pc + n) r L S Q)) := by
  show _ = (pm_okW 8 S = true ∧ pm_WC fqP d 31 [.ref 61, .int x1] (mk h) (fun v σ' => pm_WL fqP d 57 (pc + n) r L (pm_pu v S) σ' Q))
  simp only [w_invv, lg_57, lm_7_178, pm_oM_s, pm_oP_s, pm_pop_0, pm_pop_s, pm_rcv_is, hg_61, pm_oO_s, pm_ref1_is, Nat.reduceEqDiff, Nat.zero_ne_one, Nat.succ_ne_self, true_or, or_true, or_false, false_or, or_self, false_implies, true_implies, implies_true, true_and]
theorem gf_57_166_6 : pm_WL fqP d 57 pc ((.getfield 166, n) :: r) L (.ref 6 :: S) (mk h) Q = pm_WL fqP d 57 (pc + n) r L (.int (gd (h 6) 1) :: S) (mk h) Q := by
  simp only [w_getf, lg_57, lf_7_166, pm_oF_s, hg_6, pm_oO_s, List.getElem?_cons_succ, List.getElem?_cons_zero, pm_oK_s, true_and]
theorem gf_57_166_34 : pm_WL fqP d 57 pc ((.getfield 166, n) :: r) L (.ref 34 :: S) (mk h) Q = pm_WL fqP d 57 (pc + n) r L (.int (gd (h 34) 1) :: S) (mk h) Q := by
  simp only [w_getf, lg_57, lf_7_166, pm_oF_s, hg_34, pm_oO_s, List.getElem?_cons_succ, List.getElem?_cons_zero, pm_oK_s, true_and]
theorem gf_57_166_61 : pm_WL fqP d 57 pc ((.getfield 166, n) :: r) L (.ref 61 :: S) (mk h) Q = pm_WL fqP d 57 (pc + n) r L (.int (gd (h 61) 1) :: S) (mk h) Q := by
  simp only [w_getf, lg_57, lf_7_166, pm_oF_s, hg_61, pm_oO_s, List.getElem?_cons_succ, List.getElem?_cons_zero, pm_oK_s, true_and]
theorem iv_57_133_6 : pm_WL fqP d 57 pc ((.invokevirtual 133, n) :: r) L (.ref 6 :: S) (mk h) Q = (pm_okW 8 S = true ∧ pm_WC fqP d 30 [.ref 6] (mk h) (pm_kk fqP d 57 (pc + n) r L S Q)) := by
  show _ = (pm_okW 8 S = true ∧ pm_WC fqP d 30 [.ref 6] (mk h) (fun v σ' => pm_WL fqP d 57 (pc + n) r L (pm_pu v S) σ' Q))
  simp only [w_invv, lg_57, lm_7_133, pm_oM_s, pm_oP_s, pm_pop_0, pm_pop_s, pm_rcv_is, hg_6, pm_oO_s, pm_ref1_is, Nat.reduceEqDiff, Nat.zero_ne_one, Nat.succ_ne_self, true_or, or_true, or_false, false_or, or_self, false_implies, true_implies, implies_true, true_and]
theorem iv_57_133_34 : pm_WL fqP d 57 pc ((.invokevirtual 133, n) :: r) L (.ref 34 :: S) (mk h) Q = (pm_okW 8 S = true ∧ pm_WC fqP d 30 [.ref 34] (mk h) (pm_kk fqP d 57 (pc + n) r L S Q)) := by
  show _ = (pm_okW 8 S = true ∧ pm_WC fqP d 30 [.ref 34] (mk h) (fun v σ' => pm_WL fqP d 57 (pc + n) r L (pm_pu v S) σ' Q))
  simp only [w_invv, lg_57, lm_7_133, pm_oM_s, pm_oP_s, pm_pop_0, pm_pop_s, pm_rcv_is, hg_34, pm_oO_s, pm_ref1_is, Nat.reduceEqDiff, Nat.zero_ne_one, Nat.succ_ne_self, true_or, or_true, or_false, false_or, or_self, false_implies, true_implies, implies_true, true_and]
theorem iv_57_133_61 : pm_WL fqP d 57 pc ((.invokevirtual 133, n) :: r) L (.ref 61 :: S) (mk h) Q = (pm_okW 8 S = true ∧ pm_WC fqP d 30 [.ref 61] (mk h) (pm_kk fqP d 57 (pc + n) r L S Q)) := by
  show _ = (pm_okW 8 S = true ∧ pm_WC fqP d 30 [.ref 61] (mk h) (fun v σ' => pm_WL fqP d 57 (pc + n) r L (pm_pu v S) σ' Q))
  simp only [w_invv, lg_57, lm_7_133, pm_oM_s, pm_oP_s, pm_pop_0, pm_pop_s, pm_rcv_is, hg_61, pm_oO_s, pm_ref1_is, Nat.reduceEqDiff, Nat.zero_ne_one, Nat.succ_ne_self, true_or, or_true, or_false, false_or, or_self, false_implies, true_implies, implies_true, true_and]
theorem iv_58_157 {x0 : Int32} : pm_WL fqP d 58 pc ((.invokestatic 157, n) :: r) L (.int x0 :: S) σ Q = (pm_okW 8 S = true ∧ pm_WC fqP d 87 [.int x0] σ (pm_kk fqP d 58 (pc + n) r L S Q)) := by
  show _ = (pm_okW 8 S = true ∧ pm_WC fqP d 87 [.int x0] σ (fun v σ' => pm_WL fqP d 58 (pc + n) r L (pm_pu v S) σ' Q))
  simp only [w_invs, lg_58, lm_7_157, pm_oM_s, pm_oP_s, pm_pop_0, pm_pop_s, pm_ref1_is, Nat.reduceEqDiff, Nat.zero_ne_one, Nat.succ_ne_self, true_or, or_true, or_false, false_or, or_self, false_implies, true_implies, implies_true, true_and]
theorem gf_58_24_4 : pm_WL fqP d 58 pc ((.getfield 24, n) :: r) L (.ref 4 :: S) (mk h) Q = pm_WL fqP d 58 (pc + n) r L (.ref 61 :: S) (mk h) Q := by
  simp only [w_getf, lg_58, lf_7_24, pm_oF_s, hg_4, pm_oO_s, List.getElem?_cons_succ, List.getElem?_cons_zero, pm_oK_s, true_and]
theorem gf_58_12_4 : pm_WL fqP d 58 pc ((.getfield 12, n) :: r) L (.ref 4 :: S) (mk h) Q = pm_WL fqP d 58 (pc + n) r L (.ref 5 :: S) (mk h) Q := by
  simp only [w_getf, lg_58, lf_7_12, pm_oF_s, hg_4, pm_oO_s, List.getElem?_cons_succ, List.getElem?_cons_zero, pm_oK_s, true_and]
theorem gf_58_70_5 : pm_WL fqP d 58 pc ((.getfield 70, n) :: r) L (.ref 5 :: S) (mk h) Q = pm_WL fqP d 58 (pc + n) r L (.ref 6 :: S) (mk h) Q := by
  simp only [w_getf, lg_58, lf_7_70, pm_oF_s, hg_5, pm_oO_s, List.getElem?_cons_succ, List.getElem?_cons_zero, pm_oK_s, true_and]
theorem gf_58_70_33 : pm_WL fqP d 58 pc ((.getfield 70, n) :: r) L (.ref 33 :: S) (mk h) Q = pm_WL fqP d 58 (pc + n) r L (.ref 34 :: S) (mk h) Q := by
  simp only [w_getf, lg_58, lf_7_70, pm_oF_s, hg_33, pm_oO_s, List.getElem?_cons_succ, List.getElem?_cons_zero, pm_oK_s, true_and]
theorem iv_58_182_6 {x1 : Nat} : pm_WL fqP d 58 pc ((.invokevirtual 182, n) :: r) L (.ref x1 :: .ref 6 :: S) (mk h) Q = (pm_okW 8 S = true ∧ pm_WC fqP d 38 [.ref 6, .ref x1] (mk h) (pm_kk fqP d 58 (pc + n) r L S Q)) := by
  show _ = (pm_okW 8 S = true ∧ pm_WC fqP d 38 [.ref 6, .ref x1] (mk h) (fun v σ' => pm_WL fqP d 58 (pc + n) r L (pm_pu v S) σ' Q))
  simp only [w_invv, lg_58, lm_7_182, pm_oM_s, pm_oP_s, pm_pop_0, pm_pop_s, pm_rcv_is, hg_6, pm_oO_s, pm_ref1_is, Nat.reduceEqDiff, Nat.zero_ne_one, Nat.succ_ne_self, true_or, or_true, or_false, false_or, or_self, false_implies, true_implies, implies_true, true_and]
theorem iv_58_182_34 {x1 : Nat} : pm_WL fqP d 58 pc ((.invokevirtual 182, n) :: r) L (.ref x1 :: .ref 34 :: S) (mk h) Q = (pm_okW 8 S = true ∧ pm_WC fqP d 38 [.ref 34, .ref x1] (mk h) (pm_kk fqP d 58 (pc + n) r L S Q)) := by
  show _ = (pm_okW 8 S = true ∧ pm_WC fqP d 38 [.ref 34, .ref x1] (mk h) (fun v σ' => pm_WL fqP d 58 (pc + n) r L (pm_pu v S) σ' Q))
  simp only [w_invv, lg_58, lm_7_182, pm_oM_s, pm_oP_s, pm_pop_0, pm_pop_s, pm_rcv_is, hg_34, pm_oO_s, pm_ref1_is, Nat.reduceEqDiff, Nat.zero_ne_one, Nat.succ_ne_self, true_or, or_true, or_false, false_or, or_self, false_implies, true_implies, implies_true, true_and]
theorem iv_58_182_61 {x1 : Nat} : pm_WL fqP d 58 pc ((.invokevirtual 182, n) :: r) L (.ref x1 :: .ref 61 :: S) (mk h) Q = (pm_okW 8 S = true ∧ pm_WC fqP d 38 [.ref 61, .ref x1] (mk h) (pm_kk fqP d 58 (pc + n) r L S Q)) := by
  show _ = (pm_okW 8 S = true ∧ pm_WC fqP d 38 [.ref 61, .ref x1] (mk h) (fun v σ' => pm_WL fqP d 58 (pc + n) r L (pm_pu v S) σ' Q))
  simp only [w_invv, lg_58, lm_7_182, pm_oM_s, pm_oP_s, pm_pop_0, pm_pop_s, pm_rcv_is, hg_61, pm_oO_s, pm_ref1_is, Nat.reduceEqDiff, Nat.zero_ne_one, Nat.succ_ne_self, true_or, or_true, or_false, false_or, or_self, false_implies, true_implies, implies_true, true_and]
theorem gf_58_166_6 : pm_WL fqP d 58 pc ((.getfield 166, n) :: r) L (.ref 6 :: S) (mk h) Q = pm_WL fqP d 58 (pc + n) r L (.int (gd (h 6) 1) :: S) (mk h) Q := by
  simp only [w_getf, lg_58, lf_7_166, pm_oF_s, hg_6, pm_oO_s, List.getElem?_cons_succ, List.getElem?_cons_zero, pm_oK_s, true_and]
theorem gf_58_166_34 : pm_WL fqP d 58 pc ((.getfield 166, n) :: r) L (.ref 34 :: S) (mk h) Q = pm_WL fqP d 58 (pc + n) r L (.int (gd (h 34) 1) :: S) (mk h) Q := by
  simp only [w_getf, lg_58, lf_7_166, pm_oF_s, hg_34, pm_oO_s, List.getElem?_cons_succ, List.getElem?_cons_zero, pm_oK_s, true_and]
theorem gf_58_166_61 : pm_WL fqP d 58 pc ((.getfield 166, n) :: r) L (.ref 61 :: S) (mk h) Q = pm_WL fqP d 58 (pc + n) r L (.int (gd (h 61) 1) :: S) (mk h) Q := by
  simp only [w_getf, lg_58, lf_7_166, pm_oF_s, hg_61, pm_oO_s, List.getElem?_cons_succ, List.getElem?_cons_zero, pm_oK_s, true_and]
theorem iv_58_129 {x0 : Int32} {x1 : Int32} : pm_WL fqP d 58 pc ((.invokestatic 129, n) :: r) L (.int x1 :: .int x0 :: S) σ Q = (pm_okW 8 S = true ∧ pm_WC fqP d 95 [.int x0, .int x1] σ (pm_kk fqP d 58 (pc + n) r L S Q)) := by
  show _ = (pm_okW 8 S = true ∧ pm_WC fqP d 95 [.int x0, .int x1] σ (fun v σ' => pm_WL fqP d 58 (pc + n) r L (pm_pu v S) σ' Q))
  simp only [w_invs, lg_58, lm_7_129, pm_oM_s, pm_oP_s, pm_pop_0, pm_pop_s, pm_ref1_is, Nat.reduceEqDiff, Nat.zero_ne_one, Nat.succ_ne_self, true_or, or_true, or_false, false_or, or_self, false_implies, true_implies, implies_true, true_and]
theorem iv_58_185_6 : pm_WL fqP d 58 pc ((.invokevirtual 185, n) :: r) L (.ref 6 :: S) (mk h) Q = (pm_okW 8 S = true ∧ pm_WC fqP d 32 [.ref 6] (mk h) (pm_kk fqP d 58 (pc + n) r L S Q)) := by
  show _ = (pm_okW 8 S = true ∧ pm_WC fqP d 32 [.ref 6] (mk h) (fun v σ' => pm_WL fqP d 58 (pc + n) r L (pm_pu v S) σ' Q))
  simp only [w_invv, lg_58, lm_7_185, pm_oM_s, pm_oP_s, pm_pop_0, pm_pop_s, pm_rcv_is, hg_6, pm_oO_s, pm_ref1_is, Nat.reduceEqDiff, Nat.zero_ne_one, Nat.succ_ne_self, true_or, or_true, or_false, false_or, or_self, false_implies, true_implies, implies_true, true_and]
theorem iv_58_185_34 : pm_WL fqP d 58 pc ((.invokevirtual 185, n) :: r) L (.ref 34 :: S) (mk h) Q = (pm_okW 8 S = true ∧ pm_WC fqP d 32 [.ref 34] (mk h) (pm_kk fqP d 58 (pc + n) r L S Q)) := by
  show _ = (pm_okW 8 S = true ∧ pm_WC fqP d 32 [.ref 34] (mk h) (fun v σ' => pm_WL fqP d 58 (pc + n) r L (pm_pu v S) σ' Q))
  simp only [w_invv, lg_58, lm_7_185, pm_oM_s, pm_oP_s, pm_pop_0, pm_pop_s, pm_rcv_is, hg_34, pm_oO_s, pm_ref1_is, Nat.reduceEqDiff, Nat.zero_ne_one, Nat.succ_ne_self, true_or, or_true, or_false, false_or, or_self, false_implies, true_implies, implies_true, true_and]
theorem iv_58_185_61 : pm_WL fqP d 58 pc ((.invokevirtual 185, n) :: r) L (.ref 61 :: S) (mk h) Q = (pm_okW 8 S = true ∧ pm_WC fqP d 32 [.ref 61] (mk h) (pm_kk fqP d 58 (pc + n) r L S Q)) := by
  show _ = (pm_okW 8 S = true ∧ pm_WC fqP d 32 [.ref 61] (mk h) (fun v σ' => pm_WL fqP d 58 (pc + n) r L (pm_pu v S) σ' Q))
  simp only [w_invv, lg_58, lm_7_185, pm_oM_s, pm_oP_s, pm_pop_0, pm_pop_s, pm_rcv_is, hg_61, pm_oO_s, pm_ref1_is, Nat.reduceEqDiff, Nat.zero_ne_one, Nat.succ_ne_self, true_or, or_true, or_false, false_or, or_self, false_implies, true_implies, implies_true, true_and]
theorem iv_59_188_4 {x1 : Int32} : pm_WL fqP d 59 pc ((.invokevirtual 188, n) :: r) L (.int x1 :: .ref 4 :: S) (mk h) Q = (pm_okW 8 S = true ∧ pm_WC fqP d 79 [.ref 4, .int x1] (mk h) (pm_kk fqP d 59 (pc + n) r L S Q)) := by
  show _ = (pm_okW 8 S = true ∧ pm_WC fqP d 79 [.ref 4, .int x1] (mk h) (fun v σ' => pm_WL fqP d 59 (pc + n) r L (pm_pu v S) σ' Q))
  simp only [w_invv, lg_59, lm_7_188, pm_oM_s, pm_oP_s, pm_pop_0, pm_pop_s, pm_rcv_is, hg_4, pm_oO_s, pm_ref1_is, Nat.reduceEqDiff, Nat.zero_ne_one, Nat.succ_ne_self, true_or, or_true, or_false, false_or, or_self, false_implies, true_implies, implies_true, true_and]
theorem gf_59_46_4 : pm_WL fqP d 59 pc ((.getfield 46, n) :: r) L (.ref 4 :: S) (mk h) Q = pm_WL fqP d 59 (pc + n) r L (.ref 84 :: S) (mk h) Q := by
  simp only [w_getf, lg_59, lf_7_46, pm_oF_s, hg_4, pm_oO_s, List.getElem?_cons_succ, List.getElem?_cons_zero, pm_oK_s, true_and]
theorem iv_59_113 {x0 : Nat} {x1 : Int32} : pm_WL fqP d 59 pc ((.invokestatic 113, n) :: r) L (.int x1 :: .ref x0 :: S) σ Q = (pm_okW 8 S = true ∧ pm_WC fqP d 91 [.ref x0, .int x1] σ (pm_kk fqP d 59 (pc + n) r L S Q)) := by
  show _ = (pm_okW 8 S = true ∧ pm_WC fqP d 91 [.ref x0, .int x1] σ (fun v σ' => pm_WL fqP d 59 (pc + n) r L (pm_pu v S) σ' Q))
  simp only [w_invs, lg_59, lm_7_113, pm_oM_s, pm_oP_s, pm_pop_0, pm_pop_s, pm_ref1_is, Nat.reduceEqDiff, Nat.zero_ne_one, Nat.succ_ne_self, true_or, or_true, or_false, false_or, or_self, false_implies, true_implies, implies_true, true_and]
theorem iv_60_157 {x0 : Int32} : pm_WL fqP d 60 pc ((.invokestatic 157, n) :: r) L (.int x0 :: S) σ Q = (pm_okW 8 S = true ∧ pm_WC fqP d 87 [.int x0] σ (pm_kk fqP d 60 (pc + n) r L S Q)) := by
  show _ = (pm_okW 8 S = true ∧ pm_WC fqP d 87 [.int x0] σ (fun v σ' => pm_WL fqP d 60 (pc + n) r L (pm_pu v S) σ' Q))
  simp only [w_invs, lg_60, lm_7_157, pm_oM_s, pm_oP_s, pm_pop_0, pm_pop_s, pm_ref1_is, Nat.reduceEqDiff, Nat.zero_ne_one, Nat.succ_ne_self, true_or, or_true, or_false, false_or, or_self, false_implies, true_implies, implies_true, true_and]
theorem iv_60_192_4 {x1 : Int32} : pm_WL fqP d 60 pc ((.invokevirtual 192, n) :: r) L (.int x1 :: .ref 4 :: S) (mk h) Q = (pm_okW 8 S = true ∧ pm_WC fqP d 80 [.ref 4, .int x1] (mk h) (pm_kk fqP d 60 (pc + n) r L S Q)) := by
  show _ = (pm_okW 8 S = true ∧ pm_WC fqP d 80 [.ref 4, .int x1] (mk h) (fun v σ' => pm_WL fqP d 60 (pc + n) r L (pm_pu v S) σ' Q))
  simp only [w_invv, lg_60, lm_7_192, pm_oM_s, pm_oP_s, pm_pop_0, pm_pop_s, pm_rcv_is, hg_4, pm_oO_s, pm_ref1_is, Nat.reduceEqDiff, Nat.zero_ne_one, Nat.succ_ne_self, true_or, or_true, or_false, false_or, or_self, false_implies, true_implies, implies_true, true_and]
theorem iv_61_157 {x0 : Int32} : pm_WL fqP d 61 pc ((.invokestatic 157, n) :: r) L (.int x0 :: S) σ Q = (pm_okW 8 S = true ∧ pm_WC fqP d 87 [.int x0] σ (pm_kk fqP d 61 (pc + n) r L S Q)) := by
  show _ = (pm_okW 8 S = true ∧ pm_WC fqP d 87 [.int x0] σ (fun v σ' => pm_WL fqP d 61 (pc + n) r L (pm_pu v S) σ' Q))
  simp only [w_invs, lg_61, lm_7_157, pm_oM_s, pm_oP_s, pm_pop_0, pm_pop_s, pm_ref1_is, Nat.reduceEqDiff, Nat.zero_ne_one, Nat.succ_ne_self, true_or, or_true, or_false, false_or, or_self, false_implies, true_implies, implies_true, true_and]
theorem gf_61_24_4 : pm_WL fqP d 61 pc ((.getfield 24, n) :: r) L (.ref 4 :: S) (mk h) Q = pm_WL fqP d 61 (pc + n) r L (.ref 61 :: S) (mk h) Q := by
  simp only [w_getf, lg_61, lf_7_24, pm_oF_s, hg_4, pm_oO_s, List.getElem?_cons_succ, List.getElem?_cons_zero, pm_oK_s, true_and]
theorem gf_61_12_4 : pm_WL fqP d 61 pc ((.getfield 12, n) :: r) L (.ref 4 :: S) (mk h) Q = pm_WL fqP d 61 (pc + n) r L (.ref 5 :: S) (mk h) Q := by
  simp only [w_getf, lg_61, lf_7_12, pm_oF_s, hg_4, pm_oO_s, List.getElem?_cons_succ, List.getElem?_cons_zero, pm_oK_s, true_and]
theorem gf_61_70_5 : pm_WL fqP d 61 pc ((.getfield 70, n) :: r) L (.ref 5 :: S) (mk h) Q = pm_WL fqP d 61 (pc + n) r L (.ref 6 :: S) (mk h) Q := by
  simp only [w_getf, lg_61, lf_7_70, pm_oF_s, hg_5, pm_oO_s, List.getElem?_cons_succ, List.getElem?_cons_zero, pm_oK_s, true_and]
theorem gf_61_70_33 : pm_WL fqP d 61 pc ((.getfield 70, n) :: r) L (.ref 33 :: S) (mk h) Q = pm_WL fqP d 61 (pc + n) r L (.ref 34 :: S) (mk h) Q := by
  simp only [w_getf, lg_61, lf_7_70, pm_oF_s, hg_33, pm_oO_s, List.getElem?_cons_succ, List.getElem?_cons_zero, pm_oK_s, true_and]
theorem iv_61_182_6 {x1 : Nat} : pm_WL fqP d 61 pc ((.invokevirtual 182, n) :: r) L (.ref x1 :: .ref 6 :: S) (mk h) Q = (pm_okW 8 S = true ∧ pm_WC fqP d 38 [.ref 6, .ref x1] (mk h) (pm_kk fqP d 61 (pc + n) r L S Q)) := by
  show _ = (pm_okW 8 S = true ∧ pm_WC fqP d 38 [.ref 6, .ref x1] (mk h) (fun v σ' => pm_WL fqP d 61 (pc + n) r L (pm_pu v S) σ' Q))
  simp only [w_invv, lg_61, lm_7_182, pm_oM_s, pm_oP_s, pm_pop_0, pm_pop_s, pm_rcv_is, hg_6, pm_oO_s, pm_ref1_is, Nat.reduceEqDiff, Nat.zero_ne_one, Nat.succ_ne_self, true_or, or_true, or_false, false_or, or_self, false_implies, true_implies, implies_true, true_and]
theorem iv_61_182_34 {x1 : Nat} : pm_WL fqP d 61 pc ((.invokevirtual 182, n) :: r) L (.ref x1 :: .ref 34 :: S) (mk h) Q = (pm_okW 8 S = true ∧ pm_WC fqP d 38 [.ref 34, .ref x1] (mk h) (pm_kk fqP d 61 (pc + n) r L S Q)) := by
  show _ = (pm_okW 8 S = true ∧ pm_WC fqP d 38 [.ref 34, .ref x1] (mk h) (fun v σ' => pm_WL fqP d 61 (pc + n) r L (pm_pu v S) σ' Q))
  simp only [w_invv, lg_61, lm_7_182, pm_oM_s, pm_oP_s, pm_pop_0, pm_pop_s, pm_rcv_is, hg_34, pm_oO_s, pm_ref1_is, Nat.reduceEqDiff, Nat.zero_ne_one, Nat.succ_ne_self, true_or, or_true, or_false, false_or, or_self, false_implies, true_implies, implies_true, true_and]
theorem iv_61_182_61 {x1 : Nat} : pm_WL fqP d 61 pc ((.invokevirtual 182, n) :: r) L (.ref x1 :: .ref 61 :: S) (mk h) Q = (pm_okW 8 S = true ∧ pm_WC fqP d 38 [.ref 61, .ref x1] (mk h) (pm_kk fqP d 61 (pc + n) r L S Q)) := by
  show _ = (pm_okW 8 S = true ∧ pm_WC fqP d 38 [.ref 61, .ref x1] (mk h) (fun v σ' => pm_WL fqP d 61 (pc + n) r L (pm_pu v S) σ' Q))
  simp only [w_invv, lg_61, lm_7_182, pm_oM_s, pm_oP_s, pm_pop_0, pm_pop_s, pm_rcv_is, hg_61, pm_oO_s, pm_ref1_is, Nat.reduceEqDiff, Nat.zero_ne_one, Nat.succ_ne_self, true_or, or_true, or_false, false_or, or_self, false_implies, true_implies, implies_true, true_and]
theorem gf_61_93_6 : pm_WL fqP d 61 pc ((.getfield 93, n) :: r) L (.ref 6 :: S) (mk h) Q = pm_WL fqP d 61 (pc + n) r L (.ref 11 :: S) (mk h) Q := by
  simp only [w_getf, lg_61, lf_7_93, pm_oF_s, hg_6, pm_oO_s, List.getElem?_cons_succ, List.getElem?_cons_zero, pm_oK_s, true_and]
theorem gf_61_93_34 : pm_WL fqP d 61 pc ((.getfield 93, n) :: r) L (.ref 34 :: S) (mk h) Q = pm_WL fqP d 61 (pc + n) r L (.ref 39 :: S) (mk h) Q := by
  simp only [w_getf, lg_61, lf_7_93, pm_oF_s, hg_34, pm_oO_s, List.getElem?_cons_succ, List.getElem?_cons_zero, pm_oK_s, true_and]
theorem gf_61_93_61 : pm_WL fqP d 61 pc ((.getfield 93, n) :: r) L (.ref 61 :: S) (mk h) Q = pm_WL fqP d 61 (pc + n) r L (.ref 66 :: S) (mk h) Q := by
  simp only [w_getf, lg_61, lf_7_93, pm_oF_s, hg_61, pm_oO_s, List.getElem?_cons_succ, List.getElem?_cons_zero, pm_oK_s, true_and]
theorem gf_61_97_11 : pm_WL fqP d 61 pc ((.getfield 97, n) :: r) L (.ref 11 :: S) (mk h) Q = pm_WL fqP d 61 (pc + n) r L (.int (gd (h 11) 1) :: S) (mk h) Q := by
  simp only [w_getf, lg_61, lf_7_97, pm_oF_s, hg_11, pm_oO_s, List.getElem?_cons_succ, List.getElem?_cons_zero, pm_oK_s, true_and]
theorem gf_61_97_39 : pm_WL fqP d 61 pc ((.getfield 97, n) :: r) L (.ref 39 :: S) (mk h) Q = pm_WL fqP d 61 (pc + n) r L (.int (gd (h 39) 1) :: S) (mk h) Q := by
  simp only [w_getf, lg_61, lf_7_97, pm_oF_s, hg_39, pm_oO_s, List.getElem?_cons_succ, List.getElem?_cons_zero, pm_oK_s, true_and]
theorem gf_61_97_66 : pm_WL fqP d 61 pc ((.getfield 97, n) :: r) L (.ref 66 :: S) (mk h) Q = pm_WL fqP d 61 (pc + n) r L (.int (gd (h 66) 1) :: S) (mk h) Q := by
  simp only [w_getf, lg_61, lf_7_97, pm_oF_s, hg_66, pm_oO_s, List.getElem?_cons_succ, List.getElem?_cons_zero, pm_oK_s, true_and]
theorem iv_61_195 {x0 : Int32} : pm_WL fqP d 61 pc ((.invokestatic 195, n) :: r) L (.int x0 :: S) σ Q = (pm_okW 8 S = true ∧ pm_WC fqP d 185 [.int x0] σ (pm_kk fqP d 61 (pc + n) r L S Q)) := by
  show _ = (pm_okW 8 S = true ∧ pm_WC fqP d 185 [.int x0] σ (fun v σ' => pm_WL fqP d 61 (pc + n) r L (pm_pu v S) σ' Q))
  simp only [w_invs, lg_61, lm_7_195, pm_oM_s, pm_oP_s, pm_pop_0, pm_pop_s, pm_ref1_is, Nat.reduceEqDiff, Nat.zero_ne_one, Nat.succ_ne_self, true_or, or_true, or_false, false_or, or_self, false_implies, true_implies, implies_true, true_and]
theorem iv_61_200_4 {x1 : Int32} {x2 : Int32} : pm_WL fqP d 61 pc ((.invokevirtual 200, n) :: r) L (.int x2 :: .int x1 :: .ref 4 :: S) (mk h) Q = (pm_okW 8 S = true ∧ pm_WC fqP d 81 [.ref 4, .int x1, .int x2] (mk h) (pm_kk fqP d 61 (pc + n) r L S Q)) := by
  show _ = (pm_okW 8 S = true ∧ pm_WC fqP d 81 [.ref 4, .int x1, .int x2] (mk h) (fun v σ' => pm_WL fqP d 61 (pc + n) r L (pm_pu v S) σ' Q))
  simp only [w_invv, lg_61, lm_7_200, pm_oM_s, pm_oP_s, pm_pop_0, pm_pop_s, pm_rcv_is, hg_4, pm_oO_s, pm_ref1_is, Nat.reduceEqDiff, Nat.zero_ne_one, Nat.succ_ne_self, true_or, or_true, or_false, false_or, or_self, false_implies, true_implies, implies_true, true_and]
theorem gf_62_12_4 : pm_WL fqP d 62 pc ((.getfield 12, n) :: r) L (.ref 4 :: S) (mk h) Q = pm_WL fqP d 62 (pc + n) r L (.ref 5 :: S) (mk h) Q := by
  simp only [w_getf, lg_62, lf_7_12, pm_oF_s, hg_4, pm_oO_s, List.getElem?_cons_succ, List.getElem?_cons_zero, pm_oK_s, true_and]
theorem gf_62_204_5 : pm_WL fqP d 62 pc ((.getfield 204, n) :: r) L (.ref 5 :: S) (mk h) Q = pm_WL fqP d 62 (pc + n) r L (.ref 21 :: S) (mk h) Q := by
  simp only [w_getf, lg_62, lf_7_204, pm_oF_s, hg_5, pm_oO_s, List.getElem?_cons_succ, List.getElem?_cons_zero, pm_oK_s, true_and]
theorem gf_62_204_33 : pm_WL fqP d 62 pc ((.getfield 204, n) :: r) L (.ref 33 :: S) (mk h) Q = pm_WL fqP d 62 (pc + n) r L (.ref 49 :: S) (mk h) Q := by
  simp only [w_getf, lg_62, lf_7_204, pm_oF_s, hg_33, pm_oO_s, List.getElem?_cons_succ, List.getElem?_cons_zero, pm_oK_s, true_and]
theorem pf_62_208_21 {x : Int32} : pm_WL fqP d 62 pc ((.putfield 208, n) :: r) L (.int x :: .ref 21 :: S) (mk h) Q = pm_WL fqP d 62 (pc + n) r L S (mk (up h 21 [x])) Q := by
  simp only [w_putf, lg_62, lf_7_208, lt_4_3, pm_oF_s, hg_21, pm_oO_s, List.set_cons_succ, List.set_cons_zero, List.length_cons, List.length_nil, pm_fit_i, Nat.reduceAdd, Nat.reduceLT, Nat.zero_add, Nat.lt_add_one, Bool.false_eq_true, false_implies, true_and, and_true, hs_21]
theorem pf_62_208_25 {x : Int32} : pm_WL fqP d 62 pc ((.putfield 208, n) :: r) L (.int x :: .ref 25 :: S) (mk h) Q = pm_WL fqP d 62 (pc + n) r L S (mk (up h 25 [x])) Q := by
  simp only [w_putf, lg_62, lf_7_208, lt_4_3, pm_oF_s, hg_25, pm_oO_s, List.set_cons_succ, List.set_cons_zero, List.length_cons, List.length_nil, pm_fit_i, Nat.reduceAdd, Nat.reduceLT, Nat.zero_add, Nat.lt_add_one, Bool.false_eq_true, false_implies, true_and, and_true, hs_25]
theorem pf_62_208_29 {x : Int32} : pm_WL fqP d 62 pc ((.putfield 208, n) :: r) L (.int x :: .ref 29 :: S) (mk h) Q = pm_WL fqP d 62 (pc + n) r L S (mk (up h 29 [x])) Q := by
  simp only [w_putf, lg_62, lf_7_208, lt_4_3, pm_oF_s, hg_29, pm_oO_s, List.set_cons_succ, List.set_cons_zero, List.length_cons, List.length_nil, pm_fit_i, Nat.reduceAdd, Nat.reduceLT, Nat.zero_add, Nat.lt_add_one, Bool.false_eq_true, false_implies, true_and, and_true, hs_29]
theorem pf_62_208_49 {x : Int32} : pm_WL fqP d 62 pc ((.putfield 208, n) :: r) L (.int x :: .ref 49 :: S) (mk h) Q = pm_WL fqP d 62 (pc + n) r L S (mk (up h 49 [x])) Q := by
  simp only [w_putf, lg_62, lf_7_208, lt_4_3, pm_oF_s, hg_49, pm_oO_s, List.set_cons_succ, List.set_cons_zero, List.length_cons, List.length_nil, pm_fit_i, Nat.reduceAdd, Nat.reduceLT, Nat.zero_add, Nat.lt_add_one, Bool.false_eq_true, false_implies, true_and, and_true, hs_49]
theorem pf_62_208_53 {x : Int32} : pm_WL fqP d 62 pc ((.putfield 208, n) :: r) L (.int x :: .ref 53 :: S) (mk h) Q = pm_WL fqP d 62 (pc + n) r L S (mk (up h 53 [x])) Q := by
  simp only [w_putf, lg_62, lf_7_208, lt_4_3, pm_oF_s, hg_53, pm_oO_s, List.set_cons_succ, List.set_cons_zero, List.length_cons, List.length_nil, pm_fit_i, Nat.reduceAdd, Nat.reduceLT, Nat.zero_add, Nat.lt_add_one, Bool.false_eq_true, false_implies, true_and, and_true, hs_53]
theorem pf_62_208_57 {x : Int32} : pm_WL fqP d 62 pc ((.putfield 208, n) :: r) L (.int x :: .ref 57 :: S) (mk h) Q = pm_WL fqP d 62 (pc + n) r L S (mk (up h 57 [x])) Q := by
  simp only [w_putf, lg_62, lf_7_208, lt_4_3, pm_oF_s, hg_57, pm_oO_s, List.set_cons_succ, List.set_cons_zero, List.length_cons, List.length_nil, pm_fit_i, Nat.reduceAdd, Nat.reduceLT, Nat.zero_add, Nat.lt_add_one, Bool.false_eq_true, false_implies, true_and, and_true, hs_57]
theorem iv_62_157 {x0 : Int32} : pm_WL fqP d 62 pc ((.invokestatic 157, n) :: r) L (.int x0 :: S) σ Q = (pm_okW 8 S = true ∧ pm_WC fqP d 87 [.int x0] σ (pm_kk fqP d 62 (pc + n) r L S Q)) := by
  show _ = (pm_okW 8 S = true ∧ pm_WC fqP d 87 [.int x0] σ (fun v σ' => pm_WL fqP d 62 (pc + n) r L (pm_pu v S) σ' Q))
  simp only [w_invs, lg_62, lm_7_157, pm_oM_s, pm_oP_s, pm_pop_0, pm_pop_s, pm_ref1_is, Nat.reduceEqDiff, Nat.zero_ne_one, Nat.succ_ne_self, true_or, or_true, or_false, false_or, or_self, false_implies, true_implies, implies_true, true_and]
theorem iv_62_211_21 {x1 : Int32} {x2 : Int32} {x3 : Int32} : pm_WL fqP d 62 pc ((.invokevirtual 211, n) :: r) L (.int x3 :: .int x2 :: .int x1 :: .ref 21 :: S) (mk h) Q = (pm_okW 8 S = true ∧ pm_WC fqP d 25 [.ref 21, .int x1, .int x2, .int x3] (mk h) (pm_kk fqP d 62 (pc + n) r L S Q)) := by
  show _ = (pm_okW 8 S = true ∧ pm_WC fqP d 25 [.ref 21, .int x1, .int x2, .int x3] (mk h) (fun v σ' => pm_WL fqP d 62 (pc + n) r L (pm_pu v S) σ' Q))
  simp only [w_invv, lg_62, lm_7_211, pm_oM_s, pm_oP_s, pm_pop_0, pm_pop_s, pm_rcv_is, hg_21, pm_oO_s, pm_ref1_is, Nat.reduceEqDiff, Nat.zero_ne_one, Nat.succ_ne_self, true_or, or_true, or_false, false_or, or_self, false_implies, true_implies, implies_true, true_and]
theorem iv_62_211_25 {x1 : Int32} {x2 : Int32} {x3 : Int32} : pm_WL fqP d 62 pc ((.invokevirtual 211, n) :: r) L (.int x3 :: .int x2 :: .int x1 :: .ref 25 :: S) (mk h) Q = (pm_okW 8 S = true ∧ pm_WC fqP d 25 [.ref 25, .int x1, .int x2, .int x3] (mk h) (pm_kk fqP d 62 (pc + n) r L S Q)) := by
  show _ = (pm_okW 8 S = true ∧ pm_WC fqP d 25 [.ref 25, .int x1, .int x2, .int x3] (mk h) (fun v σ' => pm_WL fqP d 62 (pc + n) r L (pm_pu v S) σ' Q))
  simp only [w_invv, lg_62, lm_7_211, pm_oM_s, pm_oP_s, pm_pop_0, pm_pop_s, pm_rcv_is, hg_25, pm_oO_s, pm_ref1_is, Nat.reduceEqDiff, Nat.zero_ne_one, Nat.succ_ne_self, true_or, or_true, or_false, false_or, or_self, false_implies, true_implies, implies_true, true_and]
theorem iv_62_211_29 {x1 : Int32} {x2 : Int32} {x3 : Int32} : pm_WL fqP d 62 pc ((.invokevirtual 211, n) :: r) L (.int x3 :: .int x2 :: .int x1 :: .ref 29 :: S) (mk h) Q = (pm_okW 8 S = true ∧ pm_WC fqP d 25 [.ref 29, .int x1, .int x2, .int x3] (mk h) (pm_kk fqP d 62 (pc + n) r L S Q)) := by
  show _ = (pm_okW 8 S = true ∧ pm_WC fqP d 25 [.ref 29, .int x1, .int x2, .int x3] (mk h) (fun v σ' => pm_WL fqP d 62 (pc + n) r L (pm_pu v S) σ' Q))
  simp only [w_invv, lg_62, lm_7_211, pm_oM_s, pm_oP_s, pm_pop_0, pm_pop_s, pm_rcv_is, hg_29, pm_oO_s, pm_ref1_is, Nat.reduceEqDiff, Nat.zero_ne_one, Nat.succ_ne_self, true_or, or_true, or_false, false_or, or_self, false_implies, true_implies, implies_true, true_and]
theorem iv_62_211_49 {x1 : Int32} {x2 : Int32} {x3 : Int32} : pm_WL fqP d 62 pc ((.invokevirtual 211, n) :: r) L (.int x3 :: .int x2 :: .int x1 :: .ref 49 :: S) (mk h) Q = (pm_okW 8 S = true ∧ pm_WC fqP d 25 [.ref 49, .int x1, .int x2, .int x3] (mk h) (pm_kk fqP d 62 (pc + n) r L S Q)) := by
  show _ = (pm_okW 8 S = true ∧ pm_WC fqP d 25 [.ref 49, .int x1, .int x2, .int x3] (mk h) (fun v σ' => pm_WL fqP d 62 (pc + n) r L (pm_pu v S) σ' Q))
  simp only [w_invv, lg_62, lm_7_211, pm_oM_s, pm_oP_s, pm_pop_0, pm_pop_s, pm_rcv_is, hg_49, pm_oO_s, pm_ref1_is, Nat.reduceEqDiff, Nat.zero_ne_one, Nat.succ_ne_self, true_or, or_true, or_false, false_or, or_self, false_implies, true_implies, implies_true, true_and]
theorem iv_62_211_53 {x1 : Int32} {x2 : Int32} {x3 : Int32} : pm_WL fqP d 62 pc ((.invokevirtual 211, n) :: r) L (.int x3 :: .int x2 :: .int x1 :: .ref 53 :: S) (mk h) Q = (pm_okW 8 S = true ∧ pm_WC fqP d 25 [.ref 53, .int x1, .int x2, .int x3] (mk h) (pm_kk fqP d 62 (pc + n) r L S Q)) := by
  show _ = (pm_okW 8 S = true ∧ pm_WC fqP d 25 [.ref 53, .int x1, .int x2, .int x3] (mk h) (fun v σ' => pm_WL fqP d 62 (pc + n) r L (pm_pu v S) σ' Q))
  simp only [w_invv, lg_62, lm_7_211, pm_oM_s, pm_oP_s, pm_pop_0, pm_pop_s, pm_rcv_is, hg_53, pm_oO_s, pm_ref1_is, Nat.reduceEqDiff, Nat.zero_ne_one, Nat.succ_ne_self, true_or, or_true, or_false, false_or, or_self, false_implies, true_implies, implies_true, true_and]
theorem iv_62_211_57 {x1 : Int32} {x2 : Int32} {x3 : Int32} : pm_WL fqP d 62 pc ((.invokevirtual 211, n) :: r) L (.int x3 :: .int x2 :: .int x1 :: .ref 57 :: S) (mk h) Q = (pm_okW 8 S = true ∧ pm_WC fqP d 25 [.ref 57, .int x1, .int x2, .int x3] (mk h) (pm_kk fqP d 62 (pc + n) r L S Q)) := by
  show _ = (pm_okW 8 S = true ∧ pm_WC fqP d 25 [.ref 57, .int x1, .int x2, .int x3] (mk h) (fun v σ' => pm_WL fqP d 62 (pc + n) r L (pm_pu v S) σ' Q))
  simp only [w_invv, lg_62, lm_7_211, pm_oM_s, pm_oP_s, pm_pop_0, pm_pop_s, pm_rcv_is, hg_57, pm_oO_s, pm_ref1_is, Nat.reduceEqDiff, Nat.zero_ne_one, Nat.succ_ne_self, true_or, or_true, or_false, false_or, or_self, false_implies, true_implies, implies_true, true_and]
theorem gf_63_12_4 : pm_WL fqP d 63 pc ((.getfield 12, n) :: r) L (.ref 4 :: S) (mk h) Q = pm_WL fqP d 63 (pc + n) r L (.ref 5 :: S) (mk h) Q := by
  simp only [w_getf, lg_63, lf_7_12, pm_oF_s, hg_4, pm_oO_s, List.getElem?_cons_succ, List.getElem?_cons_zero, pm_oK_s, true_and]
theorem gf_63_70_5 : pm_WL fqP d 63 pc ((.getfield 70, n) :: r) L (.ref 5 :: S) (mk h) Q = pm_WL fqP d 63 (pc + n) r L (.ref 6 :: S) (mk h) Q := by
  simp only [w_getf, lg_63, lf_7_70, pm_oF_s, hg_5, pm_oO_s, List.getElem?_cons_succ, List.getElem?_cons_zero, pm_oK_s, true_and]
theorem gf_63_70_33 : pm_WL fqP d 63 pc ((.getfield 70, n) :: r) L (.ref 33 :: S) (mk h) Q = pm_WL fqP d 63 (pc + n) r L (.ref 34 :: S) (mk h) Q := by
  simp only [w_getf, lg_63, lf_7_70, pm_oF_s, hg_33, pm_oO_s, List.getElem?_cons_succ, List.getElem?_cons_zero, pm_oK_s, true_and]
theorem gf_63_93_6 : pm_WL fqP d 63 pc ((.getfield 93, n) :: r) L (.ref 6 :: S) (mk h) Q = pm_WL fqP d 63 (pc + n) r L (.ref 11 :: S) (mk h) Q := by
  simp only [w_getf, lg_63, lf_7_93, pm_oF_s, hg_6, pm_oO_s, List.getElem?_cons_succ, List.getElem?_cons_zero, pm_oK_s, true_and]
theorem gf_63_93_34 : pm_WL fqP d 63 pc ((.getfield 93, n) :: r) L (.ref 34 :: S) (mk h) Q = pm_WL fqP d 63 (pc + n) r L (.ref 39 :: S) (mk h) Q := by
  simp only [w_getf, lg_63, lf_7_93, pm_oF_s, hg_34, pm_oO_s, List.getElem?_cons_succ, List.getElem?_cons_zero, pm_oK_s, true_and]
theorem gf_63_93_61 : pm_WL fqP d 63 pc ((.getfield 93, n) :: r) L (.ref 61 :: S) (mk h) Q = pm_WL fqP d 63 (pc + n) r L (.ref 66 :: S) (mk h) Q := by
  simp only [w_getf, lg_63, lf_7_93, pm_oF_s, hg_61, pm_oO_s, List.getElem?_cons_succ, List.getElem?_cons_zero, pm_oK_s, true_and]
theorem iv_63_106_11 {x1 : Int32} : pm_WL fqP d 63 pc ((.invokevirtual 106, n) :: r) L (.int x1 :: .ref 11 :: S) (mk h) Q = (pm_okW 8 S = true ∧ pm_WC fqP d 40 [.ref 11, .int x1] (mk h) (pm_kk fqP d 63 (pc + n) r L S Q)) := by
  show _ = (pm_okW 8 S = true ∧ pm_WC fqP d 40 [.ref 11, .int x1] (mk h) (fun v σ' => pm_WL fqP d 63 (pc + n) r L (pm_pu v S) σ' Q))
  simp only [w_invv, lg_63, lm_7_106, pm_oM_s, pm_oP_s, pm_pop_0, pm_pop_s, pm_rcv_is, hg_11, pm_oO_s, pm_ref1_is, Nat.reduceEqDiff, Nat.zero_ne_one, Nat.succ_ne_self, true_or, or_true, or_false, false_or, or_self, false_implies, true_implies, implies_true, true_and]
theorem iv_63_106_39 {x1 : Int32} : pm_WL fqP d 63 pc ((.invokevirtual 106, n) :: r) L (.int x1 :: .ref 39 :: S) (mk h) Q = (pm_okW 8 S = true ∧ pm_WC fqP d 40 [.ref 39, .int x1] (mk h) (pm_kk fqP d 63 (pc + n) r L S Q)) := by
  show _ = (pm_okW 8 S = true ∧ pm_WC fqP d 40 [.ref 39, .int x1] (mk h) (fun v σ' => pm_WL fqP d 63 (pc + n) r L (pm_pu v S) σ' Q))
  simp only [w_invv, lg_63, lm_7_106, pm_oM_s, pm_oP_s, pm_pop_0, pm_pop_s, pm_rcv_is, hg_39, pm_oO_s, pm_ref1_is, Nat.reduceEqDiff, Nat.zero_ne_one, Nat.succ_ne_self, true_or, or_true, or_false, false_or, or_self, false_implies, true_implies, implies_true, true_and]
theorem iv_63_106_66 {x1 : Int32} : pm_WL fqP d 63 pc ((.invokevirtual 106, n) :: r) L (.int x1 :: .ref 66 :: S) (mk h) Q = (pm_okW 8 S = true ∧ pm_WC fqP d 40 [.ref 66, .int x1] (mk h) (pm_kk fqP d 63 (pc + n) r L S Q)) := by
  show _ = (pm_okW 8 S = true ∧ pm_WC fqP d 40 [.ref 66, .int x1] (mk h) (fun v σ' => pm_WL fqP d 63 (pc + n) r L (pm_pu v S) σ' Q))
  simp only [w_invv, lg_63, lm_7_106, pm_oM_s, pm_oP_s, pm_pop_0, pm_pop_s, pm_rcv_is, hg_66, pm_oO_s, pm_ref1_is, Nat.reduceEqDiff, Nat.zero_ne_one, Nat.succ_ne_self, true_or, or_true, or_false, false_or, or_self, false_implies, true_implies, implies_true, true_and]
theorem gf_63_24_4 : pm_WL fqP d 63 pc ((.getfield 24, n) :: r) L (.ref 4 :: S) (mk h) Q = pm_WL fqP d 63 (pc + n) r L (.ref 61 :: S) (mk h) Q := by
  simp only [w_getf, lg_63, lf_7_24, pm_oF_s, hg_4, pm_oO_s, List.getElem?_cons_succ, List.getElem?_cons_zero, pm_oK_s, true_and]
theorem iv_63_182_6 {x1 : Nat} : pm_WL fqP d 63 pc ((.invokevirtual 182, n) :: r) L (.ref x1 :: .ref 6 :: S) (mk h) Q = (pm_okW 8 S = true ∧ pm_WC fqP d 38 [.ref 6, .ref x1] (mk h) (pm_kk fqP d 63 (pc + n) r L S Q)) := by
  show _ = (pm_okW 8 S = true ∧ pm_WC fqP d 38 [.ref 6, .ref x1] (mk h) (fun v σ' => pm_WL fqP d 63 (pc + n) r L (pm_pu v S) σ' Q))
  simp only [w_invv, lg_63, lm_7_182, pm_oM_s, pm_oP_s, pm_pop_0, pm_pop_s, pm_rcv_is, hg_6, pm_oO_s, pm_ref1_is, Nat.reduceEqDiff, Nat.zero_ne_one, Nat.succ_ne_self, true_or, or_true, or_false, false_or, or_self, false_implies, true_implies, implies_true, true_and]
theorem iv_63_182_34 {x1 : Nat} : pm_WL fqP d 63 pc ((.invokevirtual 182, n) :: r) L (.ref x1 :: .ref 34 :: S) (mk h) Q = (pm_okW 8 S = true ∧ pm_WC fqP d 38 [.ref 34, .ref x1] (mk h) (pm_kk fqP d 63 (pc + n) r L S Q)) := by
  show _ = (pm_okW 8 S = true ∧ pm_WC fqP d 38 [.ref 34, .ref x1] (mk h) (fun v σ' => pm_WL fqP d 63 (pc + n) r L (pm_pu v S) σ' Q))
  simp only [w_invv, lg_63, lm_7_182, pm_oM_s, pm_oP_s, pm_pop_0, pm_pop_s, pm_rcv_is, hg_34, pm_oO_s, pm_ref1_is, Nat.reduceEqDiff, Nat.zero_ne_one, Nat.succ_ne_self, true_or, or_true, or_false, false_or, or_self, false_implies, true_implies, implies_true, true_and]
theorem iv_63_182_61 {x1 : Nat} : pm_WL fqP d 63 pc ((.invokevirtual 182, n) :: r) L (.ref x1 :: .ref 61 :: S) (mk h) Q = (pm_okW 8 S = true ∧ pm_WC fqP d 38 [.ref 61, .ref x1] (mk h) (pm_kk fqP d 63 (pc + n) r L S Q)) := by
  show _ = (pm_okW 8 S = true ∧ pm_WC fqP d 38 [.ref 61, .ref x1] (mk h) (fun v σ' => pm_WL fqP d 63 (pc + n) r L (pm_pu v S) σ' Q))
  simp only [w_invv, lg_63, lm_7_182, pm_oM_s, pm_oP_s, pm_pop_0, pm_pop_s, pm_rcv_is, hg_61, pm_oO_s, pm_ref1_is, Nat.reduceEqDiff, Nat.zero_ne_one, Nat.succ_ne_self, true_or, or_true, or_false, false_or, or_self, false_implies, true_implies, implies_true, true_and]
theorem gf_63_123_11 : pm_WL fqP d 63 pc ((.getfield 123, n) :: r) L (.ref 11 :: S) (mk h) Q = pm_WL fqP d 63 (pc + n) r L (.ref 15 :: S) (mk h) Q := by
  simp only [w_getf, lg_63, lf_7_123, pm_oF_s, hg_11, pm_oO_s, List.getElem?_cons_succ, List.getElem?_cons_zero, pm_oK_s, true_and]
theorem gf_63_123_39 : pm_WL fqP d 63 pc ((.getfield 123, n) :: r) L (.ref 39 :: S) (mk h) Q = pm_WL fqP d 63 (pc + n) r L (.ref 43 :: S) (mk h) Q := by
  simp only [w_getf, lg_63, lf_7_123, pm_oF_s, hg_39, pm_oO_s, List.getElem?_cons_succ, List.getElem?_cons_zero, pm_oK_s, true_and]
theorem gf_63_123_66 : pm_WL fqP d 63 pc ((.getfield 123, n) :: r) L (.ref 66 :: S) (mk h) Q = pm_WL fqP d 63 (pc + n) r L (.ref 70 :: S) (mk h) Q := by
  simp only [w_getf, lg_63, lf_7_123, pm_oF_s, hg_66, pm_oO_s, List.getElem?_cons_succ, List.getElem?_cons_zero, pm_oK_s, true_and]
theorem iv_63_212_4 {x1 : Nat} {x2 : Int32} : pm_WL fqP d 63 pc ((.invokevirtual 212, n) :: r) L (.int x2 :: .ref x1 :: .ref 4 :: S) (mk h) Q = (pm_okW 8 S = true ∧ pm_WC fqP d 82 [.ref 4, .ref x1, .int x2] (mk h) (pm_kk fqP d 63 (pc + n) r L S Q)) := by
  show _ = (pm_okW 8 S = true ∧ pm_WC fqP d 82 [.ref 4, .ref x1, .int x2] (mk h) (fun v σ' => pm_WL fqP d 63 (pc + n) r L (pm_pu v S) σ' Q))
  simp only [w_invv, lg_63, lm_7_212, pm_oM_s, pm_oP_s, pm_pop_0, pm_pop_s, pm_rcv_is, hg_4, pm_oO_s, pm_ref1_is, Nat.reduceEqDiff, Nat.zero_ne_one, Nat.succ_ne_self, true_or, or_true, or_false, false_or, or_self, false_implies, true_implies, implies_true, true_and]
theorem gf_64_12_4 : pm_WL fqP d 64 pc ((.getfield 12, n) :: r) L (.ref 4 :: S) (mk h) Q = pm_WL fqP d 64 (pc + n) r L (.ref 5 :: S) (mk h) Q := by
  simp only [w_getf, lg_64, lf_7_12, pm_oF_s, hg_4, pm_oO_s, List.getElem?_cons_succ, List.getElem?_cons_zero, pm_oK_s, true_and]
theorem gf_64_70_5 : pm_WL fqP d 64 pc ((.getfield 70, n) :: r) L (.ref 5 :: S) (mk h) Q = pm_WL fqP d 64 (pc + n) r L (.ref 6 :: S) (mk h) Q := by
  simp only [w_getf, lg_64, lf_7_70, pm_oF_s, hg_5, pm_oO_s, List.getElem?_cons_succ, List.getElem?_cons_zero, pm_oK_s, true_and]
theorem gf_64_70_33 : pm_WL fqP d 64 pc ((.getfield 70, n) :: r) L (.ref 33 :: S) (mk h) Q = pm_WL fqP d 64 (pc + n) r L (.ref 34 :: S) (mk h) Q := by
  simp only [w_getf, lg_64, lf_7_70, pm_oF_s, hg_33, pm_oO_s, List.getElem?_cons_succ, List.getElem?_cons_zero, pm_oK_s, true_and]
theorem gf_64_93_6 : pm_WL fqP d 64 pc ((.getfield 93, n) :: r) L (.ref 6 :: S) (mk h) Q = pm_WL fqP d 64 (pc + n) r L (.ref 11 :: S) (mk h) Q := by
  simp only [w_getf, lg_64, lf_7_93, pm_oF_s, hg_6, pm_oO_s, List.getElem?_cons_succ, List.getElem?_cons_zero, pm_oK_s, true_and]
theorem gf_64_93_34 : pm_WL fqP d 64 pc ((.getfield 93, n) :: r) L (.ref 34 :: S) (mk h) Q = pm_WL fqP d 64 (pc + n) r L (.ref 39 :: S) (mk h) Q := by
  simp only [w_getf, lg_64, lf_7_93, pm_oF_s, hg_34, pm_oO_s, List.getElem?_cons_succ, List.getElem?_cons_zero, pm_oK_s, true_and]
theorem gf_64_93_61 : pm_WL fqP d 64 pc ((.getfield 93, n) :: r) L (.ref 61 :: S) (mk h) Q = pm_WL fqP d 64 (pc + n) r L (.ref 66 :: S) (mk h) Q := by
  simp only [w_getf, lg_64, lf_7_93, pm_oF_s, hg_61, pm_oO_s, List.getElem?_cons_succ, List.getElem?_cons_zero, pm_oK_s, true_and]
theorem iv_64_106_11 {x1 : Int32} : pm_WL fqP d 64 pc ((.invokevirtual 106, n) :: r) L (.int x1 :: .ref 11 :: S) (mk h) Q = (pm_okW 8 S = true ∧ pm_WC fqP d 40 [.ref 11, .int x1] (mk h) (pm_kk fqP d 64 (pc + n) r L S Q)) := by
  show _ = (pm_okW 8 S = true ∧ pm_WC fqP d 40 [.ref 11, .int x1] (mk h) (fun v σ' => pm_WL fqP d 64 (pc + n) r L (pm_pu v S) σ' Q))
  simp only [w_invv, lg_64, lm_7_106, pm_oM_s, pm_oP_s, pm_pop_0, pm_pop_s, pm_rcv_is, hg_11, pm_oO_s, pm_ref1_is, Nat.reduceEqDiff, Nat.zero_ne_one, Nat.succ_ne_self, true_or, or_true, or_false, false_or, or_self, false_implies, true_implies, implies_true, true_and]
theorem iv_64_106_39 {x1 : Int32} : pm_WL fqP d 64 pc ((.invokevirtual 106, n) :: r) L (.int x1 :: .ref 39 :: S) (mk h) Q = (pm_okW 8 S = true ∧ pm_WC fqP d 40 [.ref 39, .int x1] (mk h) (pm_kk fqP d 64 (pc + n) r L S Q)) := by
  show _ = (pm_okW 8 S = true ∧ pm_WC fqP d 40 [.ref 39, .int x1] (mk h) (fun v σ' => pm_WL fqP d 64 (pc + n) r L (pm_pu v S) σ' Q))
  simp only [w_invv, lg_64, lm_7_106, pm_oM_s, pm_oP_s, pm_pop_0, pm_pop_s, pm_rcv_is, hg_39, pm_oO_s, pm_ref1_is, Nat.reduceEqDiff, Nat.zero_ne_one, Nat.succ_ne_self, true_or, or_true, or_false, false_or, or_self, false_implies, true_implies, implies_true, true_and]
theorem iv_64_106_66 {x1 : Int32} : pm_WL fqP d 64 pc ((.invokevirtual 106, n) :: r) L (.int x1 :: .ref 66 :: S) (mk h) Q = (pm_okW 8 S = true ∧ pm_WC fqP d 40 [.ref 66, .int x1] (mk h) (pm_kk fqP d 64 (pc + n) r L S Q)) := by
  show _ = (pm_okW 8 S = true ∧ pm_WC fqP d 40 [.ref 66, .int x1] (mk h) (fun v σ' => pm_WL fqP d 64 (pc + n) r L (pm_pu v S) σ' Q))
  simp only [w_invv, lg_64, lm_7_106, pm_oM_s, pm_oP_s, pm_pop_0, pm_pop_s, pm_rcv_is, hg_66, pm_oO_s, pm_ref1_is, Nat.reduceEqDiff, Nat.zero_ne_one, Nat.succ_ne_self, true_or, or_true, or_false, false_or, or_self, false_implies, true_implies, implies_true, true_and]
theorem gf_64_24_4 : pm_WL fqP d 64 pc ((.getfield 24, n) :: r) L (.ref 4 :: S) (mk h) Q = pm_WL fqP d 64 (pc + n) r L (.ref 61 :: S) (mk h) Q := by
  simp only [w_getf, lg_64, lf_7_24, pm_oF_s, hg_4, pm_oO_s, List.getElem?_cons_succ, List.getElem?_cons_zero, pm_oK_s, true_and]
theorem iv_64_182_6 {x1 : Nat} : pm_WL fqP d 64 pc ((.invokevirtual 182, n) :: r) L (.ref x1 :: .ref 6 :: S) (mk h) Q = (pm_okW 8 S = true ∧ pm_WC fqP d 38 [.ref 6, .ref x1] (mk h) (pm_kk fqP d 64 (pc + n) r L S Q)) := by
  show _ = (pm_okW 8 S = true ∧ pm_WC fqP d 38 [.ref 6, .ref x1] (mk h) (fun v σ' => pm_WL fqP d 64 (pc + n) r L (pm_pu v S) σ' Q))
  simp only [w_invv, lg_64, lm_7_182, pm_oM_s, pm_oP_s, pm_pop_0, pm_pop_s, pm_rcv_is, hg_6, pm_oO_s, pm_ref1_is, Nat.reduceEqDiff, Nat.zero_ne_one, Nat.succ_ne_self, true_or, or_true, or_false, false_or, or_self, false_implies, true_implies, implies_true, true_and]
theorem iv_64_182_34 {x1 : Nat} : pm_WL fqP d 64 pc ((.invokevirtual 182, n) :: r) L (.ref x1 :: .ref 34 :: S) (mk h) Q = (pm_okW 8 S = true ∧ pm_WC fqP d 38 [.ref 34, .ref x1] (mk h) (pm_kk fqP d 64 (pc + n) r L S Q)) := by
  show _ = (pm_okW 8 S = true ∧ pm_WC fqP d 38 [.ref 34, .ref x1] (mk h) (fun v σ' => pm_WL fqP d 64 (pc + n) r L (pm_pu v S) σ' Q))
  simp only [w_invv, lg_64, lm_7_182, pm_oM_s, pm_oP_s, pm_pop_0, pm_pop_s, pm_rcv_is, hg_34, pm_oO_s, pm_ref1_is, Nat.reduceEqDiff, Nat.zero_ne_one, Nat.succ_ne_self, true_or, or_true, or_false, false_or, or_self, false_implies, true_implies, implies_true, true_and]
theorem iv_64_182_61 {x1 : Nat} : pm_WL fqP d 64 pc ((.invokevirtual 182, n) :: r) L (.ref x1 :: .ref 61 :: S) (mk h) Q = (pm_okW 8 S = true ∧ pm_WC fqP d 38 [.ref 61, .ref x1] (mk h) (pm_kk fqP d 64 (pc + n) r L S Q)) := by
  show _ = (pm_okW 8 S = true ∧ pm_WC fqP d 38 [.ref 61, .ref x1] (mk h) (fun v σ' => pm_WL fqP d 64 (pc + n) r L (pm_pu v S) σ' Q))
  simp only [w_invv, lg_64, lm_7_182, pm_oM_s, pm_oP_s, pm_pop_0, pm_pop_s, pm_rcv_is, hg_61, pm_oO_s, pm_ref1_is, Nat.reduceEqDiff, Nat.zero_ne_one, Nat.succ_ne_self, true_or, or_true, or_false, false_or, or_self, false_implies, true_implies, implies_true, true_and]
theorem gf_64_117_11 : pm_WL fqP d 64 pc ((.getfield 117, n) :: r) L (.ref 11 :: S) (mk h) Q = pm_WL fqP d 64 (pc + n) r L (.ref 13 :: S) (mk h) Q := by
  simp only [w_getf, lg_64, lf_7_117, pm_oF_s, hg_11, pm_oO_s, List.getElem?_cons_succ, List.getElem?_cons_zero, pm_oK_s, true_and]
theorem gf_64_117_39 : pm_WL fqP d 64 pc ((.getfield 117, n) :: r) L (.ref 39 :: S) (mk h) Q = pm_WL fqP d 64 (pc + n) r L (.ref 41 :: S) (mk h) Q := by
  simp only [w_getf, lg_64, lf_7_117, pm_oF_s, hg_39, pm_oO_s, List.getElem?_cons_succ, List.getElem?_cons_zero, pm_oK_s, true_and]
theorem gf_64_117_66 : pm_WL fqP d 64 pc ((.getfield 117, n) :: r) L (.ref 66 :: S) (mk h) Q = pm_WL fqP d 64 (pc + n) r L (.ref 68 :: S) (mk h) Q := by
  simp only [w_getf, lg_64, lf_7_117, pm_oF_s, hg_66, pm_oO_s, List.getElem?_cons_succ, List.getElem?_cons_zero, pm_oK_s, true_and]
theorem iv_64_212_4 {x1 : Nat} {x2 : Int32} : pm_WL fqP d 64 pc ((.invokevirtual 212, n) :: r) L (.int x2 :: .ref x1 :: .ref 4 :: S) (mk h) Q = (pm_okW 8 S = true ∧ pm_WC fqP d 82 [.ref 4, .ref x1, .int x2] (mk h) (pm_kk fqP d 64 (pc + n) r L S Q)) := by
  show _ = (pm_okW 8 S = true ∧ pm_WC fqP d 82 [.ref 4, .ref x1, .int x2] (mk h) (fun v σ' => pm_WL fqP d 64 (pc + n) r L (pm_pu v S) σ' Q))
  simp only [w_invv, lg_64, lm_7_212, pm_oM_s, pm_oP_s, pm_pop_0, pm_pop_s, pm_rcv_is, hg_4, pm_oO_s, pm_ref1_is, Nat.reduceEqDiff, Nat.zero_ne_one, Nat.succ_ne_self, true_or, or_true, or_false, false_or, or_self, false_implies, true_implies, implies_true, true_and]
theorem iv_64_195 {x0 : Int32} : pm_WL fqP d 64 pc ((.invokestatic 195, n) :: r) L (.int x0 :: S) σ Q = (pm_okW 8 S = true ∧ pm_WC fqP d 185 [.int x0] σ (pm_kk fqP d 64 (pc + n) r L S Q)) := by
  show _ = (pm_okW 8 S = true ∧ pm_WC fqP d 185 [.int x0] σ (fun v σ' => pm_WL fqP d 64 (pc + n) r L (pm_pu v S) σ' Q))
  simp only [w_invs, lg_64, lm_7_195, pm_oM_s, pm_oP_s, pm_pop_0, pm_pop_s, pm_ref1_is, Nat.reduceEqDiff, Nat.zero_ne_one, Nat.succ_ne_self, true_or, or_true, or_false, false_or, or_self, false_implies, true_implies, implies_true, true_and]
theorem iv_64_215 {x0 : Int32} : pm_WL fqP d 64 pc ((.invokestatic 215, n) :: r) L (.int x0 :: S) σ Q = (pm_okW 8 S = true ∧ pm_WC fqP d 97 [.int x0] σ (pm_kk fqP d 64 (pc + n) r L S Q)) := by
  show _ = (pm_okW 8 S = true ∧ pm_WC fqP d 97 [.int x0] σ (fun v σ' => pm_WL fqP d 64 (pc + n) r L (pm_pu v S) σ' Q))
  simp only [w_invs, lg_64, lm_7_215, pm_oM_s, pm_oP_s, pm_pop_0, pm_pop_s, pm_ref1_is, Nat.reduceEqDiff, Nat.zero_ne_one, Nat.succ_ne_self, true_or, or_true, or_false, false_or, or_self, false_implies, true_implies, implies_true, true_and]
theorem gf_65_12_4 : pm_WL fqP d 65 pc ((.getfield 12, n) :: r) L (.ref 4 :: S) (mk h) Q = pm_WL fqP d 65 (pc + n) r L (.ref 5 :: S) (mk h) Q := by
  simp only [w_getf, lg_65, lf_7_12, pm_oF_s, hg_4, pm_oO_s, List.getElem?_cons_succ, List.getElem?_cons_zero, pm_oK_s, true_and]
theorem gf_65_70_5 : pm_WL fqP d 65 pc ((.getfield 70, n) :: r) L (.ref 5 :: S) (mk h) Q = pm_WL fqP d 65 (pc + n) r L (.ref 6 :: S) (mk h) Q := by
  simp only [w_getf, lg_65, lf_7_70, pm_oF_s, hg_5, pm_oO_s, List.getElem?_cons_succ, List.getElem?_cons_zero, pm_oK_s, true_and]
theorem gf_65_70_33 : pm_WL fqP d 65 pc ((.getfield 70, n) :: r) L (.ref 33 :: S) (mk h) Q = pm_WL fqP d 65 (pc + n) r L (.ref 34 :: S) (mk h) Q := by
  simp only [w_getf, lg_65, lf_7_70, pm_oF_s, hg_33, pm_oO_s, List.getElem?_cons_succ, List.getElem?_cons_zero, pm_oK_s, true_and]
theorem gf_65_93_6 : pm_WL fqP d 65 pc ((.getfield 93, n) :: r) L (.ref 6 :: S) (mk h) Q = pm_WL fqP d 65 (pc + n) r L (.ref 11 :: S) (mk h) Q := by
  simp only [w_getf, lg_65, lf_7_93, pm_oF_s, hg_6, pm_oO_s, List.getElem?_cons_succ, List.getElem?_cons_zero, pm_oK_s, true_and]
theorem gf_65_93_34 : pm_WL fqP d 65 pc ((.getfield 93, n) :: r) L (.ref 34 :: S) (mk h) Q = pm_WL fqP d 65 (pc + n) r L (.ref 39 :: S) (mk h) Q := by
  simp only [w_getf, lg_65, lf_7_93, pm_oF_s, hg_34, pm_oO_s, List.getElem?_cons_succ, List.getElem?_cons_zero, pm_oK_s, true_and]
theorem gf_65_93_61 : pm_WL fqP d 65 pc ((.getfield 93, n) :: r) L (.ref 61 :: S) (mk h) Q = pm_WL fqP d 65 (pc + n) r L (.ref 66 :: S) (mk h) Q := by
  simp only [w_getf, lg_65, lf_7_93, pm_oF_s, hg_61, pm_oO_s, List.getElem?_cons_succ, List.getElem?_cons_zero, pm_oK_s, true_and]
theorem iv_65_106_11 {x1 : Int32} : pm_WL fqP d 65 pc ((.invokevirtual 106, n) :: r) L (.int x1 :: .ref 11 :: S) (mk h) Q = (pm_okW 8 S = true ∧ pm_WC fqP d 40 [.ref 11, .int x1] (mk h) (pm_kk fqP d 65 (pc + n) r L S Q)) := by
  show _ = (pm_okW 8 S = true ∧ pm_WC fqP d 40 [.ref 11, .int x1] (mk h) (fun v σ' => pm_WL fqP d 65 (pc + n) r L (pm_pu v S) σ' Q))
  simp only [w_invv, lg_65, lm_7_106, pm_oM_s, pm_oP_s, pm_pop_0, pm_pop_s, pm_rcv_is, hg_11, pm_oO_s, pm_ref1_is, Nat.reduceEqDiff, Nat.zero_ne_one, Nat.succ_ne_self, true_or, or_true, or_false, false_or, or_self, false_implies, true_implies, implies_true, true_and]
theorem iv_65_106_39 {x1 : Int32} : pm_WL fqP d 65 pc ((.invokevirtual 106, n) :: r) L (.int x1 :: .ref 39 :: S) (mk h) Q = (pm_okW 8 S = true ∧ pm_WC fqP d 40 [.ref 39, .int x1] (mk h) (pm_kk fqP d 65 (pc + n) r L S Q)) := by
  show _ = (pm_okW 8 S = true ∧ pm_WC fqP d 40 [.ref 39, .int x1] (mk h) (fun v σ' => pm_WL fqP d 65 (pc + n) r L (pm_pu v S) σ' Q))
  simp only [w_invv, lg_65, lm_7_106, pm_oM_s, pm_oP_s, pm_pop_0, pm_pop_s, pm_rcv_is, hg_39, pm_oO_s, pm_ref1_is, Nat.reduceEqDiff, Nat.zero_ne_one, Nat.succ_ne_self, true_or, or_true, or_false, false_or, or_self, false_implies, true_implies, implies_true, true_and]
theorem iv_65_106_66 {x1 : Int32} : pm_WL fqP d 65 pc ((.invokevirtual 106, n) :: r) L (.int x1 :: .ref 66 :: S) (mk h) Q = (pm_okW 8 S = true ∧ pm_WC fqP d 40 [.ref 66, .int x1] (mk h) (pm_kk fqP d 65 (pc + n) r L S Q)) := by
  show _ = (pm_okW 8 S = true ∧ pm_WC fqP d 40 [.ref 66, .int x1] (mk h) (fun v σ' => pm_WL fqP d 65 (pc + n) r L (pm_pu v S) σ' Q))
  simp only [w_invv, lg_65, lm_7_106, pm_oM_s, pm_oP_s, pm_pop_0, pm_pop_s, pm_rcv_is, hg_66, pm_oO_s, pm_ref1_is, Nat.reduceEqDiff, Nat.zero_ne_one, Nat.succ_ne_self, true_or, or_true, or_false, false_or, or_self, false_implies, true_implies, implies_true, true_and]
theorem iv_65_218 {x0 : Int32} : pm_WL fqP d 65 pc ((.invokestatic 218, n) :: r) L (.int x0 :: S) σ Q = (pm_okW 8 S = true ∧ pm_WC fqP d 89 [.int x0] σ (pm_kk fqP d 65 (pc + n) r L S Q)) := by
  show _ = (pm_okW 8 S = true ∧ pm_WC fqP d 89 [.int x0] σ (fun v σ' => pm_WL fqP d 65 (pc + n) r L (pm_pu v S) σ' Q))
  simp only [w_invs, lg_65, lm_7_218, pm_oM_s, pm_oP_s, pm_pop_0, pm_pop_s, pm_ref1_is, Nat.reduceEqDiff, Nat.zero_ne_one, Nat.succ_ne_self, true_or, or_true, or_false, false_or, or_self, false_implies, true_implies, implies_true, true_and]
theorem iv_65_133_6 : pm_WL fqP d 65 pc ((.invokevirtual 133, n) :: r) L (.ref 6 :: S) (mk h) Q = (pm_okW 8 S = true ∧ pm_WC fqP d 30 [.ref 6] (mk h) (pm_kk fqP d 65 (pc + n) r L S Q)) := by
  show _ = (pm_okW 8 S = true ∧ pm_WC fqP d 30 [.ref 6] (mk h) (fun v σ' => pm_WL fqP d 65 (pc + n) r L (pm_pu v S) σ' Q))
  simp only [w_invv, lg_65, lm_7_133, pm_oM_s, pm_oP_s, pm_pop_0, pm_pop_s, pm_rcv_is, hg_6, pm_oO_s, pm_ref1_is, Nat.reduceEqDiff, Nat.zero_ne_one, Nat.succ_ne_self, true_or, or_true, or_false, false_or, or_self, false_implies, true_implies, implies_true, true_and]
theorem iv_65_133_34 : pm_WL fqP d 65 pc ((.invokevirtual 133, n) :: r) L (.ref 34 :: S) (mk h) Q = (pm_okW 8 S = true ∧ pm_WC fqP d 30 [.ref 34] (mk h) (pm_kk fqP d 65 (pc + n) r L S Q)) := by
  show _ = (pm_okW 8 S = true ∧ pm_WC fqP d 30 [.ref 34] (mk h) (fun v σ' => pm_WL fqP d 65 (pc + n) r L (pm_pu v S) σ' Q))
  simp only [w_invv, lg_65, lm_7_133, pm_oM_s, pm_oP_s, pm_pop_0, pm_pop_s, pm_rcv_is, hg_34, pm_oO_s, pm_ref1_is, Nat.reduceEqDiff, Nat.zero_ne_one, Nat.succ_ne_self, true_or, or_true, or_false, false_or, or_self, false_implies, true_implies, implies_true, true_and]
theorem iv_65_133_61 : pm_WL fqP d 65 pc ((.invokevirtual 133, n) :: r) L (.ref 61 :: S) (mk h) Q = (pm_okW 8 S = true ∧ pm_WC fqP d 30 [.ref 61] (mk h) (pm_kk fqP d 65 (pc + n) r L S Q)) := by
  show _ = (pm_okW 8 S = true ∧ pm_WC fqP d 30 [.ref 61] (mk h) (fun v σ' => pm_WL fqP d 65 (pc + n) r L (pm_pu v S) σ' Q))
  simp only [w_invv, lg_65, lm_7_133, pm_oM_s, pm_oP_s, pm_pop_0, pm_pop_s, pm_rcv_is, hg_61, pm_oO_s, pm_ref1_is, Nat.reduceEqDiff, Nat.zero_ne_one, Nat.succ_ne_self, true_or, or_true, or_false, false_or, or_self, false_implies, true_implies, implies_true, true_and]
theorem iv_65_129 {x0 : Int32} {x1 : Int32} : pm_WL fqP d 65 pc ((.invokestatic 129, n) :: r) L (.int x1 :: .int x0 :: S) σ Q = (pm_okW 8 S = true ∧ pm_WC fqP d 95 [.int x0, .int x1] σ (pm_kk fqP d 65 (pc + n) r L S Q)) := by
  show _ = (pm_okW 8 S = true ∧ pm_WC fqP d 95 [.int x0, .int x1] σ (fun v σ' => pm_WL fqP d 65 (pc + n) r L (pm_pu v S) σ' Q))
  simp only [w_invs, lg_65, lm_7_129, pm_oM_s, pm_oP_s, pm_pop_0, pm_pop_s, pm_ref1_is, Nat.reduceEqDiff, Nat.zero_ne_one, Nat.succ_ne_self, true_or, or_true, or_false, false_or, or_self, false_implies, true_implies, implies_true, true_and]
theorem iv_65_223 {x0 : Int64} {x1 : Int64} {x2 : Int32} : pm_WL fqP d 65 pc ((.invokestatic 223, n) :: r) L (.int x2 :: .long x1 :: .long x0 :: S) σ Q = (pm_okW 8 S = true ∧ pm_WC fqP d 99 [.long x0, .long x1, .int x2] σ (pm_kk fqP d 65 (pc + n) r L S Q)) := by
  show _ = (pm_okW 8 S = true ∧ pm_WC fqP d 99 [.long x0, .long x1, .int x2] σ (fun v σ' => pm_WL fqP d 65 (pc + n) r L (pm_pu v S) σ' Q))
  simp only [w_invs, lg_65, lm_7_223, pm_oM_s, pm_oP_s, pm_pop_0, pm_pop_s, pm_ref1_is, Nat.reduceEqDiff, Nat.zero_ne_one, Nat.succ_ne_self, true_or, or_true, or_false, false_or, or_self, false_implies, true_implies, implies_true, true_and]
theorem iv_65_227_4 {x1 : Int32} {x2 : Int32} : pm_WL fqP d 65 pc ((.invokevirtual 227, n) :: r) L (.int x2 :: .int x1 :: .ref 4 :: S) (mk h) Q = (pm_okW 8 S = true ∧ pm_WC fqP d 84 [.ref 4, .int x1, .int x2] (mk h) (pm_kk fqP d 65 (pc + n) r L S Q)) := by
  show _ = (pm_okW 8 S = true ∧ pm_WC fqP d 84 [.ref 4, .int x1, .int x2] (mk h) (fun v σ' => pm_WL fqP d 65 (pc + n) r L (pm_pu v S) σ' Q))
  simp only [w_invv, lg_65, lm_7_227, pm_oM_s, pm_oP_s, pm_pop_0, pm_pop_s, pm_rcv_is, hg_4, pm_oO_s, pm_ref1_is, Nat.reduceEqDiff, Nat.zero_ne_one, Nat.succ_ne_self, true_or, or_true, or_false, false_or, or_self, false_implies, true_implies, implies_true, true_and]
theorem iv_65_195 {x0 : Int32} : pm_WL fqP d 65 pc ((.invokestatic 195, n) :: r) L (.int x0 :: S) σ Q = (pm_okW 8 S = true ∧ pm_WC fqP d 185 [.int x0] σ (pm_kk fqP d 65 (pc + n) r L S Q)) := by
  show _ = (pm_okW 8 S = true ∧ pm_WC fqP d 185 [.int x0] σ (fun v σ' => pm_WL fqP d 65 (pc + n) r L (pm_pu v S) σ' Q))
  simp only [w_invs, lg_65, lm_7_195, pm_oM_s, pm_oP_s, pm_pop_0, pm_pop_s, pm_ref1_is, Nat.reduceEqDiff, Nat.zero_ne_one, Nat.succ_ne_self, true_or, or_true, or_false, false_or, or_self, false_implies, true_implies, implies_true, true_and]
theorem iv_65_113 {x0 : Nat} {x1 : Int32} : pm_WL fqP d 65 pc ((.invokestatic 113, n) :: r) L (.int x1 :: .ref x0 :: S) σ Q = (pm_okW 8 S = true ∧ pm_WC fqP d 91 [.ref x0, .int x1] σ (pm_kk fqP d 65 (pc + n) r L S Q)) := by
  show _ = (pm_okW 8 S = true ∧ pm_WC fqP d 91 [.ref x0, .int x1] σ (fun v σ' => pm_WL fqP d 65 (pc + n) r L (pm_pu v S) σ' Q))
  simp only [w_invs, lg_65, lm_7_113, pm_oM_s, pm_oP_s, pm_pop_0, pm_pop_s, pm_ref1_is, Nat.reduceEqDiff, Nat.zero_ne_one, Nat.succ_ne_self, true_or, or_true, or_false, false_or, or_self, false_implies, true_implies, implies_true, true_and]
theorem iv_66_157 {x0 : Int32} : pm_WL fqP d 66 pc ((.invokestatic 157, n) :: r) L (.int x0 :: S) σ Q = (pm_okW 8 S = true ∧ pm_WC fqP d 87 [.int x0] σ (pm_kk fqP d 66 (pc + n) r L S Q)) := by
  show _ = (pm_okW 8 S = true ∧ pm_WC fqP d 87 [.int x0] σ (fun v σ' => pm_WL fqP d 66 (pc + n) r L (pm_pu v S) σ' Q))
  simp only [w_invs, lg_66, lm_7_157, pm_oM_s, pm_oP_s, pm_pop_0, pm_pop_s, pm_ref1_is, Nat.reduceEqDiff, Nat.zero_ne_one, Nat.succ_ne_self, true_or, or_true, or_false, false_or, or_self, false_implies, true_implies, implies_true, true_and]
theorem iv_66_218 {x0 : Int32} : pm_WL fqP d 66 pc ((.invokestatic 218, n) :: r) L (.int x0 :: S) σ Q = (pm_okW 8 S = true ∧ pm_WC fqP d 89 [.int x0] σ (pm_kk fqP d 66 (pc + n) r L S Q)) := by
  show _ = (pm_okW 8 S = true ∧ pm_WC fqP d 89 [.int x0] σ (fun v σ' => pm_WL fqP d 66 (pc + n) r L (pm_pu v S) σ' Q))
  simp only [w_invs, lg_66, lm_7_218, pm_oM_s, pm_oP_s, pm_pop_0, pm_pop_s, pm_ref1_is, Nat.reduceEqDiff, Nat.zero_ne_one, Nat.succ_ne_self, true_or, or_true, or_false, false_or, or_self, false_implies, true_implies, implies_true, true_and]
theorem iv_66_192_4 {x1 : Int32} : pm_WL fqP d 66 pc ((.invokevirtual 192, n) :: r) L (.int x1 :: .ref 4 :: S) (mk h) Q = (pm_okW 8 S = true ∧ pm_WC fqP d 80 [.ref 4, .int x1] (mk h) (pm_kk fqP d 66 (pc + n) r L S Q)) := by
  show _ = (pm_okW 8 S = true ∧ pm_WC fqP d 80 [.ref 4, .int x1] (mk h) (fun v σ' => pm_WL fqP d 66 (pc + n) r L (pm_pu v S) σ' Q))
  simp only [w_invv, lg_66, lm_7_192, pm_oM_s, pm_oP_s, pm_pop_0, pm_pop_s, pm_rcv_is, hg_4, pm_oO_s, pm_ref1_is, Nat.reduceEqDiff, Nat.zero_ne_one, Nat.succ_ne_self, true_or, or_true, or_false, false_or, or_self, false_implies, true_implies, implies_true, true_and]
theorem iv_66_195 {x0 : Int32} : pm_WL fqP d 66 pc ((.invokestatic 195, n) :: r) L (.int x0 :: S) σ Q = (pm_okW 8 S = true ∧ pm_WC fqP d 185 [.int x0] σ (pm_kk fqP d 66 (pc + n) r L S Q)) := by
  show _ = (pm_okW 8 S = true ∧ pm_WC fqP d 185 [.int x0] σ (fun v σ' => pm_WL fqP d 66 (pc + n) r L (pm_pu v S) σ' Q))
  simp only [w_invs, lg_66, lm_7_195, pm_oM_s, pm_oP_s, pm_pop_0, pm_pop_s, pm_ref1_is, Nat.reduceEqDiff, Nat.zero_ne_one, Nat.succ_ne_self, true_or, or_true, or_false, false_or, or_self, false_implies, true_implies, implies_true, true_and]
theorem iv_66_223 {x0 : Int64} {x1 : Int64} {x2 : Int32} : pm_WL fqP d 66 pc ((.invokestatic 223, n) :: r) L (.int x2 :: .long x1 :: .long x0 :: S) σ Q = (pm_okW 8 S = true ∧ pm_WC fqP d 99 [.long x0, .long x1, .int x2] σ (pm_kk fqP d 66 (pc + n) r L S Q)) := by
  show _ = (pm_okW 8 S = true ∧ pm_WC fqP d 99 [.long x0, .long x1, .int x2] σ (fun v σ' => pm_WL fqP d 66 (pc + n) r L (pm_pu v S) σ' Q))
  simp only [w_invs, lg_66, lm_7_223, pm_oM_s, pm_oP_s, pm_pop_0, pm_pop_s, pm_ref1_is, Nat.reduceEqDiff, Nat.zero_ne_one, Nat.succ_ne_self, true_or, or_true, or_false, false_or, or_self, false_implies, true_implies, implies_true, true_and]
theorem gf_67_12_4 : pm_WL fqP d 67 pc ((.getfield 12, n) :: r) L (.ref 4 :: S) (mk h) Q = pm_WL fqP d 67 (pc + n) r L (.ref 5 :: S) (mk h) Q := by
  simp only [w_getf, lg_67, lf_7_12, pm_oF_s, hg_4, pm_oO_s, List.getElem?_cons_succ, List.getElem?_cons_zero, pm_oK_s, true_and]
theorem gf_67_70_5 : pm_WL fqP d 67 pc ((.getfield 70, n) :: r) L (.ref 5 :: S) (mk h) Q = pm_WL fqP d 67 (pc + n) r L (.ref 6 :: S) (mk h) Q := by
  simp only [w_getf, lg_67, lf_7_70, pm_oF_s, hg_5, pm_oO_s, List.getElem?_cons_succ, List.getElem?_cons_zero, pm_oK_s, true_and]
theorem gf_67_70_33 : pm_WL fqP d 67 pc ((.getfield 70, n) :: r) L (.ref 33 :: S) (mk h) Q = pm_WL fqP d 67 (pc + n) r L (.ref 34 :: S) (mk h) Q := by
  simp only [w_getf, lg_67, lf_7_70, pm_oF_s, hg_33, pm_oO_s, List.getElem?_cons_succ, List.getElem?_cons_zero, pm_oK_s, true_and]
theorem iv_67_133_6 : pm_WL fqP d 67 pc ((.invokevirtual 133, n) :: r) L (.ref 6 :: S) (mk h) Q = (pm_okW 8 S = true ∧ pm_WC fqP d 30 [.ref 6] (mk h) (pm_kk fqP d 67 (pc + n) r L S Q)) := by
  show _ = (pm_okW 8 S = true ∧ pm_WC fqP d 30 [.ref 6] (mk h) (fun v σ' => pm_WL fqP d 67 (pc + n) r L (pm_pu v S) σ' Q))
  simp only [w_invv, lg_67, lm_7_133, pm_oM_s, pm_oP_s, pm_pop_0, pm_pop_s, pm_rcv_is, hg_6, pm_oO_s, pm_ref1_is, Nat.reduceEqDiff, Nat.zero_ne_one, Nat.succ_ne_self, true_or, or_true, or_false, false_or, or_self, false_implies, true_implies, implies_true, true_and]
theorem iv_67_133_34 : pm_WL fqP d 67 pc ((.invokevirtual 133, n) :: r) L (.ref 34 :: S) (mk h) Q = (pm_okW 8 S = true ∧ pm_WC fqP d 30 [.ref 34] (mk h) (pm_kk fqP d 67 (pc + n) r L S Q)) := by
  show _ = (pm_okW 8 S = true ∧ pm_WC fqP d 30 [.ref 34] (mk h) (fun v σ' => pm_WL fqP d 67 (pc + n) r L (pm_pu v S) σ' Q))
  simp only [w_invv, lg_67, lm_7_133, pm_oM_s, pm_oP_s, pm_pop_0, pm_pop_s, pm_rcv_is, hg_34, pm_oO_s, pm_ref1_is, Nat.reduceEqDiff, Nat.zero_ne_one, Nat.succ_ne_self, true_or, or_true, or_false, false_or, or_self, false_implies, true_implies, implies_true, true_and]
theorem iv_67_133_61 : pm_WL fqP d 67 pc ((.invokevirtual 133, n) :: r) L (.ref 61 :: S) (mk h) Q = (pm_okW 8 S = true ∧ pm_WC fqP d 30 [.ref 61] (mk h) (pm_kk fqP d 67 (pc + n) r L S Q)) := by
  show _ = (pm_okW 8 S = true ∧ pm_WC fqP d 30 [.ref 61] (mk h) (fun v σ' => pm_WL fqP d 67 (pc + n) r L (pm_pu v S) σ' Q))
  simp only [w_invv, lg_67, lm_7_133, pm_oM_s, pm_oP_s, pm_pop_0, pm_pop_s, pm_rcv_is, hg_61, pm_oO_s, pm_ref1_is, Nat.reduceEqDiff, Nat.zero_ne_one, Nat.succ_ne_self, true_or, or_true, or_false, false_or, or_self, false_implies, true_implies, implies_true, true_and]
theorem iv_67_218 {x0 : Int32} : pm_WL fqP d 67 pc ((.invokestatic 218, n) :: r) L (.int x0 :: S) σ Q = (pm_okW 8 S = true ∧ pm_WC fqP d 89 [.int x0] σ (pm_kk fqP d 67 (pc + n) r L S Q)) := by
  show _ = (pm_okW 8 S = true ∧ pm_WC fqP d 89 [.int x0] σ (fun v σ' => pm_WL fqP d 67 (pc + n) r L (pm_pu v S) σ' Q))
  simp only [w_invs, lg_67, lm_7_218, pm_oM_s, pm_oP_s, pm_pop_0, pm_pop_s, pm_ref1_is, Nat.reduceEqDiff, Nat.zero_ne_one, Nat.succ_ne_self, true_or, or_true, or_false, false_or, or_self, false_implies, true_implies, implies_true, true_and]
theorem gf_67_93_6 : pm_WL fqP d 67 pc ((.getfield 93, n) :: r) L (.ref 6 :: S) (mk h) Q = pm_WL fqP d 67 (pc + n) r L (.ref 11 :: S) (mk h) Q := by
  simp only [w_getf, lg_67, lf_7_93, pm_oF_s, hg_6, pm_oO_s, List.getElem?_cons_succ, List.getElem?_cons_zero, pm_oK_s, true_and]
theorem gf_67_93_34 : pm_WL fqP d 67 pc ((.getfield 93, n) :: r) L (.ref 34 :: S) (mk h) Q = pm_WL fqP d 67 (pc + n) r L (.ref 39 :: S) (mk h) Q := by
  simp only [w_getf, lg_67, lf_7_93, pm_oF_s, hg_34, pm_oO_s, List.getElem?_cons_succ, List.getElem?_cons_zero, pm_oK_s, true_and]
theorem gf_67_93_61 : pm_WL fqP d 67 pc ((.getfield 93, n) :: r) L (.ref 61 :: S) (mk h) Q = pm_WL fqP d 67 (pc + n) r L (.ref 66 :: S) (mk h) Q := by
  simp only [w_getf, lg_67, lf_7_93, pm_oF_s, hg_61, pm_oO_s, List.getElem?_cons_succ, List.getElem?_cons_zero, pm_oK_s, true_and]
theorem iv_67_236_11 {x1 : Int32} : pm_WL fqP d 67 pc ((.invokevirtual 236, n) :: r) L (.int x1 :: .ref 11 :: S) (mk h) Q = (pm_okW 8 S = true ∧ pm_WC fqP d 42 [.ref 11, .int x1] (mk h) (pm_kk fqP d 67 (pc + n) r L S Q)) := by
  show _ = (pm_okW 8 S = true ∧ pm_WC fqP d 42 [.ref 11, .int x1] (mk h) (fun v σ' => pm_WL fqP d 67 (pc + n) r L (pm_pu v S) σ' Q))
  simp only [w_invv, lg_67, lm_7_236, pm_oM_s, pm_oP_s, pm_pop_0, pm_pop_s, pm_rcv_is, hg_11, pm_oO_s, pm_ref1_is, Nat.reduceEqDiff, Nat.zero_ne_one, Nat.succ_ne_self, true_or, or_true, or_false, false_or, or_self, false_implies, true_implies, implies_true, true_and]
theorem iv_67_236_39 {x1 : Int32} : pm_WL fqP d 67 pc ((.invokevirtual 236, n) :: r) L (.int x1 :: .ref 39 :: S) (mk h) Q = (pm_okW 8 S = true ∧ pm_WC fqP d 42 [.ref 39, .int x1] (mk h) (pm_kk fqP d 67 (pc + n) r L S Q)) := by
  show _ = (pm_okW 8 S = true ∧ pm_WC fqP d 42 [.ref 39, .int x1] (mk h) (fun v σ' => pm_WL fqP d 67 (pc + n) r L (pm_pu v S) σ' Q))
  simp only [w_invv, lg_67, lm_7_236, pm_oM_s, pm_oP_s, pm_pop_0, pm_pop_s, pm_rcv_is, hg_39, pm_oO_s, pm_ref1_is, Nat.reduceEqDiff, Nat.zero_ne_one, Nat.succ_ne_self, true_or, or_true, or_false, false_or, or_self, false_implies, true_implies, implies_true, true_and]
theorem iv_67_236_66 {x1 : Int32} : pm_WL fqP d 67 pc ((.invokevirtual 236, n) :: r) L (.int x1 :: .ref 66 :: S) (mk h) Q = (pm_okW 8 S = true ∧ pm_WC fqP d 42 [.ref 66, .int x1] (mk h) (pm_kk fqP d 67 (pc + n) r L S Q)) := by
  show _ = (pm_okW 8 S = true ∧ pm_WC fqP d 42 [.ref 66, .int x1] (mk h) (fun v σ' => pm_WL fqP d 67 (pc + n) r L (pm_pu v S) σ' Q))
  simp only [w_invv, lg_67, lm_7_236, pm_oM_s, pm_oP_s, pm_pop_0, pm_pop_s, pm_rcv_is, hg_66, pm_oO_s, pm_ref1_is, Nat.reduceEqDiff, Nat.zero_ne_one, Nat.succ_ne_self, true_or, or_true, or_false, false_or, or_self, false_implies, true_implies, implies_true, true_and]
theorem iv_67_195 {x0 : Int32} : pm_WL fqP d 67 pc ((.invokestatic 195, n) :: r) L (.int x0 :: S) σ Q = (pm_okW 8 S = true ∧ pm_WC fqP d 185 [.int x0] σ (pm_kk fqP d 67 (pc + n) r L S Q)) := by
  show _ = (pm_okW 8 S = true ∧ pm_WC fqP d 185 [.int x0] σ (fun v σ' => pm_WL fqP d 67 (pc + n) r L (pm_pu v S) σ' Q))
  simp only [w_invs, lg_67, lm_7_195, pm_oM_s, pm_oP_s, pm_pop_0, pm_pop_s, pm_ref1_is, Nat.reduceEqDiff, Nat.zero_ne_one, Nat.succ_ne_self, true_or, or_true, or_false, false_or, or_self, false_implies, true_implies, implies_true, true_and]
theorem iv_67_223 {x0 : Int64} {x1 : Int64} {x2 : Int32} : pm_WL fqP d 67 pc ((.invokestatic 223, n) :: r) L (.int x2 :: .long x1 :: .long x0 :: S) σ Q = (pm_okW 8 S = true ∧ pm_WC fqP d 99 [.long x0, .long x1, .int x2] σ (pm_kk fqP d 67 (pc + n) r L S Q)) := by
  show _ = (pm_okW 8 S = true ∧ pm_WC fqP d 99 [.long x0, .long x1, .int x2] σ (fun v σ' => pm_WL fqP d 67 (pc + n) r L (pm_pu v S) σ' Q))
  simp only [w_invs, lg_67, lm_7_223, pm_oM_s, pm_oP_s, pm_pop_0, pm_pop_s, pm_ref1_is, Nat.reduceEqDiff, Nat.zero_ne_one, Nat.succ_ne_self, true_or, or_true, or_false, false_or, or_self, false_implies, true_implies, implies_true, true_and]
theorem gf_68_12_4 : pm_WL fqP d 68 pc ((.getfield 12, n) :: r) L (.ref 4 :: S) (mk h) Q = pm_WL fqP d 68 (pc + n) r L (.ref 5 :: S) (mk h) Q := by
  simp only [w_getf, lg_68, lf_7_12, pm_oF_s, hg_4, pm_oO_s, List.getElem?_cons_succ, List.getElem?_cons_zero, pm_oK_s, true_and]
theorem gf_68_239_5 : pm_WL fqP d 68 pc ((.getfield 239, n) :: r) L (.ref 5 :: S) (mk h) Q = pm_WL fqP d 68 (pc + n) r L (.ref 25 :: S) (mk h) Q := by
  simp only [w_getf, lg_68, lf_7_239, pm_oF_s, hg_5, pm_oO_s, List.getElem?_cons_succ, List.getElem?_cons_zero, pm_oK_s, true_and]
theorem gf_68_239_33 : pm_WL fqP d 68 pc ((.getfield 239, n) :: r) L (.ref 33 :: S) (mk h) Q = pm_WL fqP d 68 (pc + n) r L (.ref 53 :: S) (mk h) Q := by
  simp only [w_getf, lg_68, lf_7_239, pm_oF_s, hg_33, pm_oO_s, List.getElem?_cons_succ, List.getElem?_cons_zero, pm_oK_s, true_and]
theorem pf_68_208_21 {x : Int32} : pm_WL fqP d 68 pc ((.putfield 208, n) :: r) L (.int x :: .ref 21 :: S) (mk h) Q = pm_WL fqP d 68 (pc + n) r L S (mk (up h 21 [x])) Q := by
  simp only [w_putf, lg_68, lf_7_208, lt_4_3, pm_oF_s, hg_21, pm_oO_s, List.set_cons_succ, List.set_cons_zero, List.length_cons, List.length_nil, pm_fit_i, Nat.reduceAdd, Nat.reduceLT, Nat.zero_add, Nat.lt_add_one, Bool.false_eq_true, false_implies, true_and, and_true, hs_21]
theorem pf_68_208_25 {x : Int32} : pm_WL fqP d 68 pc ((.putfield 208, n) :: r) L (.int x :: .ref 25 :: S) (mk h) Q = pm_WL fqP d 68 (pc + n) r L S (mk (up h 25 [x])) Q := by
  simp only [w_putf, lg_68, lf_7_208, lt_4_3, pm_oF_s, hg_25, pm_oO_s, List.set_cons_succ, List.set_cons_zero, List.length_cons, List.length_nil, pm_fit_i, Nat.reduceAdd, Nat.reduceLT, Nat.zero_add, Nat.lt_add_one, Bool.false_eq_true, false_implies, true_and, and_true, hs_25]
theorem pf_68_208_29 {x : Int32} : pm_WL fqP d 68 pc ((.putfield 208, n) :: r) L (.int x :: .ref 29 :: S) (mk h) Q = pm_WL fqP d 68 (pc + n) r L S (mk (up h 29 [x])) Q := by
  simp only [w_putf, lg_68, lf_7_208, lt_4_3, pm_oF_s, hg_29, pm_oO_s, List.set_cons_succ, List.set_cons_zero, List.length_cons, List.length_nil, pm_fit_i, Nat.reduceAdd, Nat.reduceLT, Nat.zero_add, Nat.lt_add_one, Bool.false_eq_true, false_implies, true_and, and_true, hs_29]
theorem pf_68_208_49 {x : Int32} : pm_WL fqP d 68 pc ((.putfield 208, n) :: r) L (.int x :: .ref 49 :: S) (mk h) Q = pm_WL fqP d 68 (pc + n) r L S (mk (up h 49 [x])) Q := by
  simp only [w_putf, lg_68, lf_7_208, lt_4_3, pm_oF_s, hg_49, pm_oO_s, List.set_cons_succ, List.set_cons_zero, List.length_cons, List.length_nil, pm_fit_i, Nat.reduceAdd, Nat.reduceLT, Nat.zero_add, Nat.lt_add_one, Bool.false_eq_true, false_implies, true_and, and_true, hs_49]
theorem pf_68_208_53 {x : Int32} : pm_WL fqP d 68 pc ((.putfield 208, n) :: r) L (.int x :: .ref 53 :: S) (mk h) Q = pm_WL fqP d 68 (pc + n) r L S (mk (up h 53 [x])) Q := by
  simp only [w_putf, lg_68, lf_7_208, lt_4_3, pm_oF_s, hg_53, pm_oO_s, List.set_cons_succ, List.set_cons_zero, List.length_cons, List.length_nil, pm_fit_i, Nat.reduceAdd, Nat.reduceLT, Nat.zero_add, Nat.lt_add_one, Bool.false_eq_true, false_implies, true_and, and_true, hs_53]
theorem pf_68_208_57 {x : Int32} : pm_WL fqP d 68 pc ((.putfield 208, n) :: r) L (.int x :: .ref 57 :: S) (mk h) Q = pm_WL fqP d 68 (pc + n) r L S (mk (up h 57 [x])) Q := by
  simp only [w_putf, lg_68, lf_7_208, lt_4_3, pm_oF_s, hg_57, pm_oO_s, List.set_cons_succ, List.set_cons_zero, List.length_cons, List.length_nil, pm_fit_i, Nat.reduceAdd, Nat.reduceLT, Nat.zero_add, Nat.lt_add_one, Bool.false_eq_true, false_implies, true_and, and_true, hs_57]
theorem gf_68_70_5 : pm_WL fqP d 68 pc ((.getfield 70, n) :: r) L (.ref 5 :: S) (mk h) Q = pm_WL fqP d 68 (pc + n) r L (.ref 6 :: S) (mk h) Q := by
  simp only [w_getf, lg_68, lf_7_70, pm_oF_s, hg_5, pm_oO_s, List.getElem?_cons_succ, List.getElem?_cons_zero, pm_oK_s, true_and]
theorem gf_68_70_33 : pm_WL fqP d 68 pc ((.getfield 70, n) :: r) L (.ref 33 :: S) (mk h) Q = pm_WL fqP d 68 (pc + n) r L (.ref 34 :: S) (mk h) Q := by
  simp only [w_getf, lg_68, lf_7_70, pm_oF_s, hg_33, pm_oO_s, List.getElem?_cons_succ, List.getElem?_cons_zero, pm_oK_s, true_and]
theorem gf_68_93_6 : pm_WL fqP d 68 pc ((.getfield 93, n) :: r) L (.ref 6 :: S) (mk h) Q = pm_WL fqP d 68 (pc + n) r L (.ref 11 :: S) (mk h) Q := by
  simp only [w_getf, lg_68, lf_7_93, pm_oF_s, hg_6, pm_oO_s, List.getElem?_cons_succ, List.getElem?_cons_zero, pm_oK_s, true_and]
theorem gf_68_93_34 : pm_WL fqP d 68 pc ((.getfield 93, n) :: r) L (.ref 34 :: S) (mk h) Q = pm_WL fqP d 68 (pc + n) r L (.ref 39 :: S) (mk h) Q := by
  simp only [w_getf, lg_68, lf_7_93, pm_oF_s, hg_34, pm_oO_s, List.getElem?_cons_succ, List.getElem?_cons_zero, pm_oK_s, true_and]
theorem gf_68_93_61 : pm_WL fqP d 68 pc ((.getfield 93, n) :: r) L (.ref 61 :: S) (mk h) Q = pm_WL fqP d 68 (pc + n) r L (.ref 66 :: S) (mk h) Q := by
  simp only [w_getf, lg_68, lf_7_93, pm_oF_s, hg_61, pm_oO_s, List.getElem?_cons_succ, List.getElem?_cons_zero, pm_oK_s, true_and]
theorem iv_68_106_11 {x1 : Int32} : pm_WL fqP d 68 pc ((.invokevirtual 106, n) :: r) L (.int x1 :: .ref 11 :: S) (mk h) Q = (pm_okW 8 S = true ∧ pm_WC fqP d 40 [.ref 11, .int x1] (mk h) (pm_kk fqP d 68 (pc + n) r L S Q)) := by
  show _ = (pm_okW 8 S = true ∧ pm_WC fqP d 40 [.ref 11, .int x1] (mk h) (fun v σ' => pm_WL fqP d 68 (pc + n) r L (pm_pu v S) σ' Q))
  simp only [w_invv, lg_68, lm_7_106, pm_oM_s, pm_oP_s, pm_pop_0, pm_pop_s, pm_rcv_is, hg_11, pm_oO_s, pm_ref1_is, Nat.reduceEqDiff, Nat.zero_ne_one, Nat.succ_ne_self, true_or, or_true, or_false, false_or, or_self, false_implies, true_implies, implies_true, true_and]
theorem iv_68_106_39 {x1 : Int32} : pm_WL fqP d 68 pc ((.invokevirtual 106, n) :: r) L (.int x1 :: .ref 39 :: S) (mk h) Q = (pm_okW 8 S = true ∧ pm_WC fqP d 40 [.ref 39, .int x1] (mk h) (pm_kk fqP d 68 (pc + n) r L S Q)) := by
  show _ = (pm_okW 8 S = true ∧ pm_WC fqP d 40 [.ref 39, .int x1] (mk h) (fun v σ' => pm_WL fqP d 68 (pc + n) r L (pm_pu v S) σ' Q))
  simp only [w_invv, lg_68, lm_7_106, pm_oM_s, pm_oP_s, pm_pop_0, pm_pop_s, pm_rcv_is, hg_39, pm_oO_s, pm_ref1_is, Nat.reduceEqDiff, Nat.zero_ne_one, Nat.succ_ne_self, true_or, or_true, or_false, false_or, or_self, false_implies, true_implies, implies_true, true_and]
theorem iv_68_106_66 {x1 : Int32} : pm_WL fqP d 68 pc ((.invokevirtual 106, n) :: r) L (.int x1 :: .ref 66 :: S) (mk h) Q = (pm_okW 8 S = true ∧ pm_WC fqP d 40 [.ref 66, .int x1] (mk h) (pm_kk fqP d 68 (pc + n) r L S Q)) := by
  show _ = (pm_okW 8 S = true ∧ pm_WC fqP d 40 [.ref 66, .int x1] (mk h) (fun v σ' => pm_WL fqP d 68 (pc + n) r L (pm_pu v S) σ' Q))
  simp only [w_invv, lg_68, lm_7_106, pm_oM_s, pm_oP_s, pm_pop_0, pm_pop_s, pm_rcv_is, hg_66, pm_oO_s, pm_ref1_is, Nat.reduceEqDiff, Nat.zero_ne_one, Nat.succ_ne_self, true_or, or_true, or_false, false_or, or_self, false_implies, true_implies, implies_true, true_and]
theorem iv_68_157 {x0 : Int32} : pm_WL fqP d 68 pc ((.invokestatic 157, n) :: r) L (.int x0 :: S) σ Q = (pm_okW 8 S = true ∧ pm_WC fqP d 87 [.int x0] σ (pm_kk fqP d 68 (pc + n) r L S Q)) := by
  show _ = (pm_okW 8 S = true ∧ pm_WC fqP d 87 [.int x0] σ (fun v σ' => pm_WL fqP d 68 (pc + n) r L (pm_pu v S) σ' Q))
  simp only [w_invs, lg_68, lm_7_157, pm_oM_s, pm_oP_s, pm_pop_0, pm_pop_s, pm_ref1_is, Nat.reduceEqDiff, Nat.zero_ne_one, Nat.succ_ne_self, true_or, or_true, or_false, false_or, or_self, false_implies, true_implies, implies_true, true_and]
theorem iv_68_211_21 {x1 : Int32} {x2 : Int32} {x3 : Int32} : pm_WL fqP d 68 pc ((.invokevirtual 211, n) :: r) L (.int x3 :: .int x2 :: .int x1 :: .ref 21 :: S) (mk h) Q = (pm_okW 8 S = true ∧ pm_WC fqP d 25 [.ref 21, .int x1, .int x2, .int x3] (mk h) (pm_kk fqP d 68 (pc + n) r L S Q)) := by
  show _ = (pm_okW 8 S = true ∧ pm_WC fqP d 25 [.ref 21, .int x1, .int x2, .int x3] (mk h) (fun v σ' => pm_WL fqP d 68 (pc + n) r L (pm_pu v S) σ' Q))
  simp only [w_invv, lg_68, lm_7_211, pm_oM_s, pm_oP_s, pm_pop_0, pm_pop_s, pm_rcv_is, hg_21, pm_oO_s, pm_ref1_is, Nat.reduceEqDiff, Nat.zero_ne_one, Nat.succ_ne_self, true_or, or_true, or_false, false_or, or_self, false_implies, true_implies, implies_true, true_and]
theorem iv_68_211_25 {x1 : Int32} {x2 : Int32} {x3 : Int32} : pm_WL fqP d 68 pc ((.invokevirtual 211, n) :: r) L (.int x3 :: .int x2 :: .int x1 :: .ref 25 :: S) (mk h) Q = (pm_okW 8 S = true ∧ pm_WC fqP d 25 [.ref 25, .int x1, .int x2, .int x3] (mk h) (pm_kk fqP d 68 (pc + n) r L S Q)) := by
  show _ = (pm_okW 8 S = true ∧ pm_WC fqP d 25 [.ref 25, .int x1, .int x2, .int x3] (mk h) (fun v σ' => pm_WL fqP d 68 (pc + n) r L (pm_pu v S) σ' Q))
  simp only [w_invv, lg_68, lm_7_211, pm_oM_s, pm_oP_s, pm_pop_0, pm_pop_s, pm_rcv_is, hg_25, pm_oO_s, pm_ref1_is, Nat.reduceEqDiff, Nat.zero_ne_one, Nat.succ_ne_self, true_or, or_true, or_false, false_or, or_self, false_implies, true_implies, implies_true, true_and]
theorem iv_68_211_29 {x1 : Int32} {x2 : Int32} {x3 : Int32} : pm_WL fqP d 68 pc ((.invokevirtual 211, n) :: r) L (.int x3 :: .int x2 :: .int x1 :: .ref 29 :: S) (mk h) Q = (pm_okW 8 S = true ∧ pm_WC fqP d 25 [.ref 29, .int x1, .int x2, .int x3] (mk h) (pm_kk fqP d 68 (pc + n) r L S Q)) := by
  show _ = (pm_okW 8 S = true ∧ pm_WC fqP d 25 [.ref 29, .int x1, .int x2, .int x3] (mk h) (fun v σ' => pm_WL fqP d 68 (pc + n) r L (pm_pu v S) σ' Q))
  simp only [w_invv, lg_68, lm_7_211, pm_oM_s, pm_oP_s, pm_pop_0, pm_pop_s, pm_rcv_is, hg_29, pm_oO_s, pm_ref1_is, Nat.reduceEqDiff, Nat.zero_ne_one, Nat.succ_ne_self, true_or, or_true, or_false, false_or, or_self, false_implies, true_implies, implies_true, true_and]
theorem iv_68_211_49 {x1 : Int32} {x2 : Int32} {x3 : Int32} : pm_WL fqP d 68 pc ((.invokevirtual 211, n) :: r) L (.int x3 :: .int x2 :: .int x1 :: .ref 49 :: S) (mk h) Q = (pm_okW 8 S = true ∧ pm_WC fqP d 25 [.ref 49, .int x1, .int x2, .int x3] (mk h) (pm_kk fqP d 68 (pc + n) r L S Q)) := by
  show _ = (pm_okW 8 S = true ∧ pm_WC fqP d 25 [.ref 49, .int x1, .int x2, .int x3] (mk h) (fun v σ' => pm_WL fqP d 68 (pc + n) r L (pm_pu v S) σ' Q))
  simp only [w_invv, lg_68, lm_7_211, pm_oM_s, pm_oP_s, pm_pop_0, pm_pop_s, pm_rcv_is, hg_49, pm_oO_s, pm_ref1_is, Nat.reduceEqDiff, Nat.zero_ne_one, Nat.succ_ne_self, true_or, or_true, or_false, false_or, or_self, false_implies, true_implies, implies_true, true_and]
theorem iv_68_211_53 {x1 : Int32} {x2 : Int32} {x3 : Int32} : pm_WL fqP d 68 pc ((.invokevirtual 211, n) :: r) L (.int x3 :: .int x2 :: .int x1 :: .ref 53 :: S) (mk h) Q = (pm_okW 8 S = true ∧ pm_WC fqP d 25 [.ref 53, .int x1, .int x2, .int x3] (mk h) (pm_kk fqP d 68 (pc + n) r L S Q)) := by
  show _ = (pm_okW 8 S = true ∧ pm_WC fqP d 25 [.ref 53, .int x1, .int x2, .int x3] (mk h) (fun v σ' => pm_WL fqP d 68 (pc + n) r L (pm_pu v S) σ' Q))
  simp only [w_invv, lg_68, lm_7_211, pm_oM_s, pm_oP_s, pm_pop_0, pm_pop_s, pm_rcv_is, hg_53, pm_oO_s, pm_ref1_is, Nat.reduceEqDiff, Nat.zero_ne_one, Nat.succ_ne_self, true_or, or_true, or_false, false_or, or_self, false_implies, true_implies, implies_true, true_and]
theorem iv_68_211_57 {x1 : Int32} {x2 : Int32} {x3 : Int32} : pm_WL fqP d 68 pc ((.invokevirtual 211, n) :: r) L (.int x3 :: .int x2 :: .int x1 :: .ref 57 :: S) (mk h) Q = (pm_okW 8 S = true ∧ pm_WC fqP d 25 [.ref 57, .int x1, .int x2, .int x3] (mk h) (pm_kk fqP d 68 (pc + n) r L S Q)) := by
  show _ = (pm_okW 8 S = true ∧ pm_WC fqP d 25 [.ref 57, .int x1, .int x2, .int x3] (mk h) (fun v σ' => pm_WL fqP d 68 (pc + n) r L (pm_pu v S) σ' Q))
  simp only [w_invv, lg_68, lm_7_211, pm_oM_s, pm_oP_s, pm_pop_0, pm_pop_s, pm_rcv_is, hg_57, pm_oO_s, pm_ref1_is, Nat.reduceEqDiff, Nat.zero_ne_one, Nat.succ_ne_self, true_or, or_true, or_false, false_or, or_self, false_implies, true_implies, implies_true, true_and]
theorem gf_69_24_4 : pm_WL fqP d 69 pc ((.getfield 24, n) :: r) L (.ref 4 :: S) (mk h) Q = pm_WL fqP d 69 (pc + n) r L (.ref 61 :: S) (mk h) Q := by
  simp only [w_getf, lg_69, lf_7_24, pm_oF_s, hg_4, pm_oO_s, List.getElem?_cons_succ, List.getElem?_cons_zero, pm_oK_s, true_and]
theorem gf_69_12_4 : pm_WL fqP d 69 pc ((.getfield 12, n) :: r) L (.ref 4 :: S) (mk h) Q = pm_WL fqP d 69 (pc + n) r L (.ref 5 :: S) (mk h) Q := by
  simp only [w_getf, lg_69, lf_7_12, pm_oF_s, hg_4, pm_oO_s, List.getElem?_cons_succ, List.getElem?_cons_zero, pm_oK_s, true_and]
theorem gf_69_70_5 : pm_WL fqP d 69 pc ((.getfield 70, n) :: r) L (.ref 5 :: S) (mk h) Q = pm_WL fqP d 69 (pc + n) r L (.ref 6 :: S) (mk h) Q := by
  simp only [w_getf, lg_69, lf_7_70, pm_oF_s, hg_5, pm_oO_s, List.getElem?_cons_succ, List.getElem?_cons_zero, pm_oK_s, true_and]
theorem gf_69_70_33 : pm_WL fqP d 69 pc ((.getfield 70, n) :: r) L (.ref 33 :: S) (mk h) Q = pm_WL fqP d 69 (pc + n) r L (.ref 34 :: S) (mk h) Q := by
  simp only [w_getf, lg_69, lf_7_70, pm_oF_s, hg_33, pm_oO_s, List.getElem?_cons_succ, List.getElem?_cons_zero, pm_oK_s, true_and]
theorem iv_69_182_6 {x1 : Nat} : pm_WL fqP d 69 pc ((.invokevirtual 182, n) :: r) L (.ref x1 :: .ref 6 :: S) (mk h) Q = (pm_okW 8 S = true ∧ pm_WC fqP d 38 [.ref 6, .ref x1] (mk h) (pm_kk fqP d 69 (pc + n) r L S Q)) := by
  show _ = (pm_okW 8 S = true ∧ pm_WC fqP d 38 [.ref 6, .ref x1] (mk h) (fun v σ' => pm_WL fqP d 69 (pc + n) r L (pm_pu v S) σ' Q))
  simp only [w_invv, lg_69, lm_7_182, pm_oM_s, pm_oP_s, pm_pop_0, pm_pop_s, pm_rcv_is, hg_6, pm_oO_s, pm_ref1_is, Nat.reduceEqDiff, Nat.zero_ne_one, Nat.succ_ne_self, true_or, or_true, or_false, false_or, or_self, false_implies, true_implies, implies_true, true_and]
theorem iv_69_182_34 {x1 : Nat} : pm_WL fqP d 69 pc ((.invokevirtual 182, n) :: r) L (.ref x1 :: .ref 34 :: S) (mk h) Q = (pm_okW 8 S = true ∧ pm_WC fqP d 38 [.ref 34, .ref x1] (mk h) (pm_kk fqP d 69 (pc + n) r L S Q)) := by
  show _ = (pm_okW 8 S = true ∧ pm_WC fqP d 38 [.ref 34, .ref x1] (mk h) (fun v σ' => pm_WL fqP d 69 (pc + n) r L (pm_pu v S) σ' Q))
  simp only [w_invv, lg_69, lm_7_182, pm_oM_s, pm_oP_s, pm_pop_0, pm_pop_s, pm_rcv_is, hg_34, pm_oO_s, pm_ref1_is, Nat.reduceEqDiff, Nat.zero_ne_one, Nat.succ_ne_self, true_or, or_true, or_false, false_or, or_self, false_implies, true_implies, implies_true, true_and]
theorem iv_69_182_61 {x1 : Nat} : pm_WL fqP d 69 pc ((.invokevirtual 182, n) :: r) L (.ref x1 :: .ref 61 :: S) (mk h) Q = (pm_okW 8 S = true ∧ pm_WC fqP d 38 [.ref 61, .ref x1] (mk h) (pm_kk fqP d 69 (pc + n) r L S Q)) := by
  show _ = (pm_okW 8 S = true ∧ pm_WC fqP d 38 [.ref 61, .ref x1] (mk h) (fun v σ' => pm_WL fqP d 69 (pc + n) r L (pm_pu v S) σ' Q))
  simp only [w_invv, lg_69, lm_7_182, pm_oM_s, pm_oP_s, pm_pop_0, pm_pop_s, pm_rcv_is, hg_61, pm_oO_s, pm_ref1_is, Nat.reduceEqDiff, Nat.zero_ne_one, Nat.succ_ne_self, true_or, or_true, or_false, false_or, or_self, false_implies, true_implies, implies_true, true_and]
theorem gf_69_239_5 : pm_WL fqP d 69 pc ((.getfield 239, n) :: r) L (.ref 5 :: S) (mk h) Q = pm_WL fqP d 69 (pc + n) r L (.ref 25 :: S) (mk h) Q := by
  simp only [w_getf, lg_69, lf_7_239, pm_oF_s, hg_5, pm_oO_s, List.getElem?_cons_succ, List.getElem?_cons_zero, pm_oK_s, true_and]
theorem gf_69_239_33 : pm_WL fqP d 69 pc ((.getfield 239, n) :: r) L (.ref 33 :: S) (mk h) Q = pm_WL fqP d 69 (pc + n) r L (.ref 53 :: S) (mk h) Q := by
  simp only [w_getf, lg_69, lf_7_239, pm_oF_s, hg_33, pm_oO_s, List.getElem?_cons_succ, List.getElem?_cons_zero, pm_oK_s, true_and]
theorem gf_69_208_21 : pm_WL fqP d 69 pc ((.getfield 208, n) :: r) L (.ref 21 :: S) (mk h) Q = pm_WL fqP d 69 (pc + n) r L (.int (gd (h 21) 0) :: S) (mk h) Q := by
  simp only [w_getf, lg_69, lf_7_208, pm_oF_s, hg_21, pm_oO_s, List.getElem?_cons_succ, List.getElem?_cons_zero, pm_oK_s, true_and]
theorem gf_69_208_25 : pm_WL fqP d 69 pc ((.getfield 208, n) :: r) L (.ref 25 :: S) (mk h) Q = pm_WL fqP d 69 (pc + n) r L (.int (gd (h 25) 0) :: S) (mk h) Q := by
  simp only [w_getf, lg_69, lf_7_208, pm_oF_s, hg_25, pm_oO_s, List.getElem?_cons_succ, List.getElem?_cons_zero, pm_oK_s, true_and]
theorem gf_69_208_29 : pm_WL fqP d 69 pc ((.getfield 208, n) :: r) L (.ref 29 :: S) (mk h) Q = pm_WL fqP d 69 (pc + n) r L (.int (gd (h 29) 0) :: S) (mk h) Q := by
  simp only [w_getf, lg_69, lf_7_208, pm_oF_s, hg_29, pm_oO_s, List.getElem?_cons_succ, List.getElem?_cons_zero, pm_oK_s, true_and]
theorem gf_69_208_49 : pm_WL fqP d 69 pc ((.getfield 208, n) :: r) L (.ref 49 :: S) (mk h) Q = pm_WL fqP d 69 (pc + n) r L (.int (gd (h 49) 0) :: S) (mk h) Q := by
  simp only [w_getf, lg_69, lf_7_208, pm_oF_s, hg_49, pm_oO_s, List.getElem?_cons_succ, List.getElem?_cons_zero, pm_oK_s, true_and]
theorem gf_69_208_53 : pm_WL fqP d 69 pc ((.getfield 208, n) :: r) L (.ref 53 :: S) (mk h) Q = pm_WL fqP d 69 (pc + n) r L (.int (gd (h 53) 0) :: S) (mk h) Q := by
  simp only [w_getf, lg_69, lf_7_208, pm_oF_s, hg_53, pm_oO_s, List.getElem?_cons_succ, List.getElem?_cons_zero, pm_oK_s, true_and]
theorem gf_69_208_57 : pm_WL fqP d 69 pc ((.getfield 208, n) :: r) L (.ref 57 :: S) (mk h) Q = pm_WL fqP d 69 (pc + n) r L (.int (gd (h 57) 0) :: S) (mk h) Q := by
  simp only [w_getf, lg_69, lf_7_208, pm_oF_s, hg_57, pm_oO_s, List.getElem?_cons_succ, List.getElem?_cons_zero, pm_oK_s, true_and]
theorem gf_69_242_21 : pm_WL fqP d 69 pc ((.getfield 242, n) :: r) L (.ref 21 :: S) (mk h) Q = pm_WL fqP d 69 (pc + n) r L (.ref 22 :: S) (mk h) Q := by
  simp only [w_getf, lg_69, lf_7_242, pm_oF_s, hg_21, pm_oO_s, List.getElem?_cons_succ, List.getElem?_cons_zero, pm_oK_s, true_and]
theorem gf_69_242_25 : pm_WL fqP d 69 pc ((.getfield 242, n) :: r) L (.ref 25 :: S) (mk h) Q = pm_WL fqP d 69 (pc + n) r L (.ref 26 :: S) (mk h) Q := by
  simp only [w_getf, lg_69, lf_7_242, pm_oF_s, hg_25, pm_oO_s, List.getElem?_cons_succ, List.getElem?_cons_zero, pm_oK_s, true_and]
theorem gf_69_242_29 : pm_WL fqP d 69 pc ((.getfield 242, n) :: r) L (.ref 29 :: S) (mk h) Q = pm_WL fqP d 69 (pc + n) r L (.ref 30 :: S) (mk h) Q := by
  simp only [w_getf, lg_69, lf_7_242, pm_oF_s, hg_29, pm_oO_s, List.getElem?_cons_succ, List.getElem?_cons_zero, pm_oK_s, true_and]
theorem gf_69_242_49 : pm_WL fqP d 69 pc ((.getfield 242, n) :: r) L (.ref 49 :: S) (mk h) Q = pm_WL fqP d 69 (pc + n) r L (.ref 50 :: S) (mk h) Q := by
  simp only [w_getf, lg_69, lf_7_242, pm_oF_s, hg_49, pm_oO_s, List.getElem?_cons_succ, List.getElem?_cons_zero, pm_oK_s, true_and]
theorem gf_69_242_53 : pm_WL fqP d 69 pc ((.getfield 242, n) :: r) L (.ref 53 :: S) (mk h) Q = pm_WL fqP d 69 (pc + n) r L (.ref 54 :: S) (mk h) Q := by
  simp only [w_getf, lg_69, lf_7_242, pm_oF_s, hg_53, pm_oO_s, List.getElem?_cons_succ, List.getElem?_cons_zero, pm_oK_s, true_and]
theorem gf_69_242_57 : pm_WL fqP d 69 pc ((.getfield 242, n) :: r) L (.ref 57 :: S) (mk h) Q = pm_WL fqP d 69 (pc + n) r L (.ref 58 :: S) (mk h) Q := by
  simp only [w_getf, lg_69, lf_7_242, pm_oF_s, hg_57, pm_oO_s, List.getElem?_cons_succ, List.getElem?_cons_zero, pm_oK_s, true_and]
theorem iv_69_113 {x0 : Nat} {x1 : Int32} : pm_WL fqP d 69 pc ((.invokestatic 113, n) :: r) L (.int x1 :: .ref x0 :: S) σ Q = (pm_okW 8 S = true ∧ pm_WC fqP d 91 [.ref x0, .int x1] σ (pm_kk fqP d 69 (pc + n) r L S Q)) := by
  show _ = (pm_okW 8 S = true ∧ pm_WC fqP d 91 [.ref x0, .int x1] σ (fun v σ' => pm_WL fqP d 69 (pc + n) r L (pm_pu v S) σ' Q))
  simp only [w_invs, lg_69, lm_7_113, pm_oM_s, pm_oP_s, pm_pop_0, pm_pop_s, pm_ref1_is, Nat.reduceEqDiff, Nat.zero_ne_one, Nat.succ_ne_self, true_or, or_true, or_false, false_or, or_self, false_implies, true_implies, implies_true, true_and]
theorem gf_69_245_21 : pm_WL fqP d 69 pc ((.getfield 245, n) :: r) L (.ref 21 :: S) (mk h) Q = pm_WL fqP d 69 (pc + n) r L (.ref 23 :: S) (mk h) Q := by
  simp only [w_getf, lg_69, lf_7_245, pm_oF_s, hg_21, pm_oO_s, List.getElem?_cons_succ, List.getElem?_cons_zero, pm_oK_s, true_and]
theorem gf_69_245_25 : pm_WL fqP d 69 pc ((.getfield 245, n) :: r) L (.ref 25 :: S) (mk h) Q = pm_WL fqP d 69 (pc + n) r L (.ref 27 :: S) (mk h) Q := by
  simp only [w_getf, lg_69, lf_7_245, pm_oF_s, hg_25, pm_oO_s, List.getElem?_cons_succ, List.getElem?_cons_zero, pm_oK_s, true_and]
theorem gf_69_245_29 : pm_WL fqP d 69 pc ((.getfield 245, n) :: r) L (.ref 29 :: S) (mk h) Q = pm_WL fqP d 69 (pc + n) r L (.ref 31 :: S) (mk h) Q := by
  simp only [w_getf, lg_69, lf_7_245, pm_oF_s, hg_29, pm_oO_s, List.getElem?_cons_succ, List.getElem?_cons_zero, pm_oK_s, true_and]
theorem gf_69_245_49 : pm_WL fqP d 69 pc ((.getfield 245, n) :: r) L (.ref 49 :: S) (mk h) Q = pm_WL fqP d 69 (pc + n) r L (.ref 51 :: S) (mk h) Q := by
  simp only [w_getf, lg_69, lf_7_245, pm_oF_s, hg_49, pm_oO_s, List.getElem?_cons_succ, List.getElem?_cons_zero, pm_oK_s, true_and]
theorem gf_69_245_53 : pm_WL fqP d 69 pc ((.getfield 245, n) :: r) L (.ref 53 :: S) (mk h) Q = pm_WL fqP d 69 (pc + n) r L (.ref 55 :: S) (mk h) Q := by
  simp only [w_getf, lg_69, lf_7_245, pm_oF_s, hg_53, pm_oO_s, List.getElem?_cons_succ, List.getElem?_cons_zero, pm_oK_s, true_and]
theorem gf_69_245_57 : pm_WL fqP d 69 pc ((.getfield 245, n) :: r) L (.ref 57 :: S) (mk h) Q = pm_WL fqP d 69 (pc + n) r L (.ref 59 :: S) (mk h) Q := by
  simp only [w_getf, lg_69, lf_7_245, pm_oF_s, hg_57, pm_oO_s, List.getElem?_cons_succ, List.getElem?_cons_zero, pm_oK_s, true_and]
theorem iv_69_248_4 {x1 : Int32} {x2 : Int32} : pm_WL fqP d 69 pc ((.invokevirtual 248, n) :: r) L (.int x2 :: .int x1 :: .ref 4 :: S) (mk h) Q = (pm_okW 8 S = true ∧ pm_WC fqP d 85 [.ref 4, .int x1, .int x2] (mk h) (pm_kk fqP d 69 (pc + n) r L S Q)) := by
  show _ = (pm_okW 8 S = true ∧ pm_WC fqP d 85 [.ref 4, .int x1, .int x2] (mk h) (fun v σ' => pm_WL fqP d 69 (pc + n) r L (pm_pu v S) σ' Q))
  simp only [w_invv, lg_69, lm_7_248, pm_oM_s, pm_oP_s, pm_pop_0, pm_pop_s, pm_rcv_is, hg_4, pm_oO_s, pm_ref1_is, Nat.reduceEqDiff, Nat.zero_ne_one, Nat.succ_ne_self, true_or, or_true, or_false, false_or, or_self, false_implies, true_implies, implies_true, true_and]
theorem gf_69_166_6 : pm_WL fqP d 69 pc ((.getfield 166, n) :: r) L (.ref 6 :: S) (mk h) Q = pm_WL fqP d 69 (pc + n) r L (.int (gd (h 6) 1) :: S) (mk h) Q := by
  simp only [w_getf, lg_69, lf_7_166, pm_oF_s, hg_6, pm_oO_s, List.getElem?_cons_succ, List.getElem?_cons_zero, pm_oK_s, true_and]
theorem gf_69_166_34 : pm_WL fqP d 69 pc ((.getfield 166, n) :: r) L (.ref 34 :: S) (mk h) Q = pm_WL fqP d 69 (pc + n) r L (.int (gd (h 34) 1) :: S) (mk h) Q := by
  simp only [w_getf, lg_69, lf_7_166, pm_oF_s, hg_34, pm_oO_s, List.getElem?_cons_succ, List.getElem?_cons_zero, pm_oK_s, true_and]
theorem gf_69_166_61 : pm_WL fqP d 69 pc ((.getfield 166, n) :: r) L (.ref 61 :: S) (mk h) Q = pm_WL fqP d 69 (pc + n) r L (.int (gd (h 61) 1) :: S) (mk h) Q := by
  simp only [w_getf, lg_69, lf_7_166, pm_oF_s, hg_61, pm_oO_s, List.getElem?_cons_succ, List.getElem?_cons_zero, pm_oK_s, true_and]
theorem iv_69_133_6 : pm_WL fqP d 69 pc ((.invokevirtual 133, n) :: r) L (.ref 6 :: S) (mk h) Q = (pm_okW 8 S = true ∧ pm_WC fqP d 30 [.ref 6] (mk h) (pm_kk fqP d 69 (pc + n) r L S Q)) := by
  show _ = (pm_okW 8 S = true ∧ pm_WC fqP d 30 [.ref 6] (mk h) (fun v σ' => pm_WL fqP d 69 (pc + n) r L (pm_pu v S) σ' Q))
  simp only [w_invv, lg_69, lm_7_133, pm_oM_s, pm_oP_s, pm_pop_0, pm_pop_s, pm_rcv_is, hg_6, pm_oO_s, pm_ref1_is, Nat.reduceEqDiff, Nat.zero_ne_one, Nat.succ_ne_self, true_or, or_true, or_false, false_or, or_self, false_implies, true_implies, implies_true, true_and]
theorem iv_69_133_34 : pm_WL fqP d 69 pc ((.invokevirtual 133, n) :: r) L (.ref 34 :: S) (mk h) Q = (pm_okW 8 S = true ∧ pm_WC fqP d 30 [.ref 34] (mk h) (pm_kk fqP d 69 (pc + n) r L S Q)) := by
  show _ = (pm_okW 8 S = true ∧ pm_WC fqP d 30 [.ref 34] (mk h) (fun v σ' => pm_WL fqP d 69 (pc + n) r L (pm_pu v S) σ' Q))
  simp only [w_invv, lg_69, lm_7_133, pm_oM_s, pm_oP_s, pm_pop_0, pm_pop_s, pm_rcv_is, hg_34, pm_oO_s, pm_ref1_is, Nat.reduceEqDiff, Nat.zero_ne_one, Nat.succ_ne_self, true_or, or_true, or_false, false_or, or_self, false_implies, true_implies, implies_true, true_and]
theorem iv_69_133_61 : pm_WL fqP d 69 pc ((.invokevirtual 133, n) :: r) L (.ref 61 :: S) (mk h) Q = (pm_okW 8 S = true ∧ pm_WC fqP d 30 [.ref 61] (mk h) (pm_kk fqP d 69 (pc + n) r L S Q)) := by
  show _ = (pm_okW 8 S = true ∧ pm_WC fqP d 30 [.ref 61] (mk h) (fun v σ' => pm_WL fqP d 69 (pc + n) r L (pm_pu v S) σ' Q))
  simp only [w_invv, lg_69, lm_7_133, pm_oM_s, pm_oP_s, pm_pop_0, pm_pop_s, pm_rcv_is, hg_61, pm_oO_s, pm_ref1_is, Nat.reduceEqDiff, Nat.zero_ne_one, Nat.succ_ne_self, true_or, or_true, or_false, false_or, or_self, false_implies, true_implies, implies_true, true_and]
theorem gf_70_12_4 : pm_WL fqP d 70 pc ((.getfield 12, n) :: r) L (.ref 4 :: S) (mk h) Q = pm_WL fqP d 70 (pc + n) r L (.ref 5 :: S) (mk h) Q := by
  simp only [w_getf, lg_70, lf_7_12, pm_oF_s, hg_4, pm_oO_s, List.getElem?_cons_succ, List.getElem?_cons_zero, pm_oK_s, true_and]
theorem gf_70_252_5 : pm_WL fqP d 70 pc ((.getfield 252, n) :: r) L (.ref 5 :: S) (mk h) Q = pm_WL fqP d 70 (pc + n) r L (.ref 29 :: S) (mk h) Q := by
  simp only [w_getf, lg_70, lf_7_252, pm_oF_s, hg_5, pm_oO_s, List.getElem?_cons_succ, List.getElem?_cons_zero, pm_oK_s, true_and]
theorem gf_70_252_33 : pm_WL fqP d 70 pc ((.getfield 252, n) :: r) L (.ref 33 :: S) (mk h) Q = pm_WL fqP d 70 (pc + n) r L (.ref 57 :: S) (mk h) Q := by
  simp only [w_getf, lg_70, lf_7_252, pm_oF_s, hg_33, pm_oO_s, List.getElem?_cons_succ, List.getElem?_cons_zero, pm_oK_s, true_and]
theorem pf_70_208_21 {x : Int32} : pm_WL fqP d 70 pc ((.putfield 208, n) :: r) L (.int x :: .ref 21 :: S) (mk h) Q = pm_WL fqP d 70 (pc + n) r L S (mk (up h 21 [x])) Q := by
  simp only [w_putf, lg_70, lf_7_208, lt_4_3, pm_oF_s, hg_21, pm_oO_s, List.set_cons_succ, List.set_cons_zero, List.length_cons, List.length_nil, pm_fit_i, Nat.reduceAdd, Nat.reduceLT, Nat.zero_add, Nat.lt_add_one, Bool.false_eq_true, false_implies, true_and, and_true, hs_21]
theorem pf_70_208_25 {x : Int32} : pm_WL fqP d 70 pc ((.putfield 208, n) :: r) L (.int x :: .ref 25 :: S) (mk h) Q = pm_WL fqP d 70 (pc + n) r L S (mk (up h 25 [x])) Q := by
  simp only [w_putf, lg_70, lf_7_208, lt_4_3, pm_oF_s, hg_25, pm_oO_s, List.set_cons_succ, List.set_cons_zero, List.length_cons, List.length_nil, pm_fit_i, Nat.reduceAdd, Nat.reduceLT, Nat.zero_add, Nat.lt_add_one, Bool.false_eq_true, false_implies, true_and, and_true, hs_25]
theorem pf_70_208_29 {x : Int32} : pm_WL fqP d 70 pc ((.putfield 208, n) :: r) L (.int x :: .ref 29 :: S) (mk h) Q = pm_WL fqP d 70 (pc + n) r L S (mk (up h 29 [x])) Q := by
  simp only [w_putf, lg_70, lf_7_208, lt_4_3, pm_oF_s, hg_29, pm_oO_s, List.set_cons_succ, List.set_cons_zero, List.length_cons, List.length_nil, pm_fit_i, Nat.reduceAdd, Nat.reduceLT, Nat.zero_add, Nat.lt_add_one, Bool.false_eq_true, false_implies, true_and, and_true, hs_29]
theorem pf_70_208_49 {x : Int32} : pm_WL fqP d 70 pc ((.putfield 208, n) :: r) L (.int x :: .ref 49 :: S) (mk h) Q = pm_WL fqP d 70 (pc + n) r L S (mk (up h 49 [x])) Q := by
  simp only [w_putf, lg_70, lf_7_208, lt_4_3, pm_oF_s, hg_49, pm_oO_s, List.set_cons_succ, List.set_cons_zero, List.length_cons, List.length_nil, pm_fit_i, Nat.reduceAdd, Nat.reduceLT, Nat.zero_add, Nat.lt_add_one, Bool.false_eq_true, false_implies, true_and, and_true, hs_49]
theorem pf_70_208_53 {x : Int32} : pm_WL fqP d 70 pc ((.putfield 208, n) :: r) L (.int x :: .ref 53 :: S) (mk h) Q = pm_WL fqP d 70 (pc + n) r L S (mk (up h 53 [x])) Q := by
  simp only [w_putf, lg_70, lf_7_208, lt_4_3, pm_oF_s, hg_53, pm_oO_s, List.set_cons_succ, List.set_cons_zero, List.length_cons, List.length_nil, pm_fit_i, Nat.reduceAdd, Nat.reduceLT, Nat.zero_add, Nat.lt_add_one, Bool.false_eq_true, false_implies, true_and, and_true, hs_53]
theorem pf_70_208_57 {x : Int32} : pm_WL fqP d 70 pc ((.putfield 208, n) :: r) L (.int x :: .ref 57 :: S) (mk h) Q = pm_WL fqP d 70 (pc + n) r L S (mk (up h 57 [x])) Q := by
  simp only [w_putf, lg_70, lf_7_208, lt_4_3, pm_oF_s, hg_57, pm_oO_s, List.set_cons_succ, List.set_cons_zero, List.length_cons, List.length_nil, pm_fit_i, Nat.reduceAdd, Nat.reduceLT, Nat.zero_add, Nat.lt_add_one, Bool.false_eq_true, false_implies, true_and, and_true, hs_57]
theorem gf_70_70_5 : pm_WL fqP d 70 pc ((.getfield 70, n) :: r) L (.ref 5 :: S) (mk h) Q = pm_WL fqP d 70 (pc + n) r L (.ref 6 :: S) (mk h) Q := by
  simp only [w_getf, lg_70, lf_7_70, pm_oF_s, hg_5, pm_oO_s, List.getElem?_cons_succ, List.getElem?_cons_zero, pm_oK_s, true_and]
theorem gf_70_70_33 : pm_WL fqP d 70 pc ((.getfield 70, n) :: r) L (.ref 33 :: S) (mk h) Q = pm_WL fqP d 70 (pc + n) r L (.ref 34 :: S) (mk h) Q := by
  simp only [w_getf, lg_70, lf_7_70, pm_oF_s, hg_33, pm_oO_s, List.getElem?_cons_succ, List.getElem?_cons_zero, pm_oK_s, true_and]
theorem gf_70_93_6 : pm_WL fqP d 70 pc ((.getfield 93, n) :: r) L (.ref 6 :: S) (mk h) Q = pm_WL fqP d 70 (pc + n) r L (.ref 11 :: S) (mk h) Q := by
  simp only [w_getf, lg_70, lf_7_93, pm_oF_s, hg_6, pm_oO_s, List.getElem?_cons_succ, List.getElem?_cons_zero, pm_oK_s, true_and]
theorem gf_70_93_34 : pm_WL fqP d 70 pc ((.getfield 93, n) :: r) L (.ref 34 :: S) (mk h) Q = pm_WL fqP d 70 (pc + n) r L (.ref 39 :: S) (mk h) Q := by
  simp only [w_getf, lg_70, lf_7_93, pm_oF_s, hg_34, pm_oO_s, List.getElem?_cons_succ, List.getElem?_cons_zero, pm_oK_s, true_and]
theorem gf_70_93_61 : pm_WL fqP d 70 pc ((.getfield 93, n) :: r) L (.ref 61 :: S) (mk h) Q = pm_WL fqP d 70 (pc + n) r L (.ref 66 :: S) (mk h) Q := by
  simp only [w_getf, lg_70, lf_7_93, pm_oF_s, hg_61, pm_oO_s, List.getElem?_cons_succ, List.getElem?_cons_zero, pm_oK_s, true_and]
theorem iv_70_106_11 {x1 : Int32} : pm_WL fqP d 70 pc ((.invokevirtual 106, n) :: r) L (.int x1 :: .ref 11 :: S) (mk h) Q = (pm_okW 8 S = true ∧ pm_WC fqP d 40 [.ref 11, .int x1] (mk h) (pm_kk fqP d 70 (pc + n) r L S Q)) := by
  show _ = (pm_okW 8 S = true ∧ pm_WC fqP d 40 [.ref 11, .int x1] (mk h) (fun v σ' => pm_WL fqP d 70 (pc + n) r L (pm_pu v S) σ' Q))
  simp only [w_invv, lg_70, lm_7_106, pm_oM_s, pm_oP_s, pm_pop_0, pm_pop_s, pm_rcv_is, hg_11, pm_oO_s, pm_ref1_is, Nat.reduceEqDiff, Nat.zero_ne_one, Nat.succ_ne_self, true_or, or_true, or_false, false_or, or_self, false_implies, true_implies, implies_true, true_and]
theorem iv_70_106_39 {x1 : Int32} : pm_WL fqP d 70 pc ((.invokevirtual 106, n) :: r) L (.int x1 :: .ref 39 :: S) (mk h) Q = (pm_okW 8 S = true ∧ pm_WC fqP d 40 [.ref 39, .int x1] (mk h) (pm_kk fqP d 70 (pc + n) r L S Q)) := by
  show _ = (pm_okW 8 S = true ∧ pm_WC fqP d 40 [.ref 39, .int x1] (mk h) (fun v σ' => pm_WL fqP d 70 (pc + n) r L (pm_pu v S) σ' Q))
  simp only [w_invv, lg_70, lm_7_106, pm_oM_s, pm_oP_s, pm_pop_0, pm_pop_s, pm_rcv_is, hg_39, pm_oO_s, pm_ref1_is, Nat.reduceEqDiff, Nat.zero_ne_one, Nat.succ_ne_self, true_or, or_true, or_false, false_or, or_self, false_implies, true_implies, implies_true, true_and]
theorem iv_70_106_66 {x1 : Int32} : pm_WL fqP d 70 pc ((.invokevirtual 106, n) :: r) L (.int x1 :: .ref 66 :: S) (mk h) Q = (pm_okW 8 S = true ∧ pm_WC fqP d 40 [.ref 66, .int x1] (mk h) (pm_kk fqP d 70 (pc + n) r L S Q)) := by
  show _ = (pm_okW 8 S = true ∧ pm_WC fqP d 40 [.ref 66, .int x1] (mk h) (fun v σ' => pm_WL fqP d 70 (pc + n) r L (pm_pu v S) σ' Q))
  simp only [w_invv, lg_70, lm_7_106, pm_oM_s, pm_oP_s, pm_pop_0, pm_pop_s, pm_rcv_is, hg_66, pm_oO_s, pm_ref1_is, Nat.reduceEqDiff, Nat.zero_ne_one, Nat.succ_ne_self, true_or, or_true, or_false, false_or, or_self, false_implies, true_implies, implies_true, true_and]
theorem iv_70_90 {x0 : Int32} : pm_WL fqP d 70 pc ((.invokestatic 90, n) :: r) L (.int x0 :: S) σ Q = (pm_okW 8 S = true ∧ pm_WC fqP d 86 [.int x0] σ (pm_kk fqP d 70 (pc + n) r L S Q)) := by
  show _ = (pm_okW 8 S = true ∧ pm_WC fqP d 86 [.int x0] σ (fun v σ' => pm_WL fqP d 70 (pc + n) r L (pm_pu v S) σ' Q))
  simp only [w_invs, lg_70, lm_7_90, pm_oM_s, pm_oP_s, pm_pop_0, pm_pop_s, pm_ref1_is, Nat.reduceEqDiff, Nat.zero_ne_one, Nat.succ_ne_self, true_or, or_true, or_false, false_or, or_self, false_implies, true_implies, implies_true, true_and]
theorem iv_70_211_21 {x1 : Int32} {x2 : Int32} {x3 : Int32} : pm_WL fqP d 70 pc ((.invokevirtual 211, n) :: r) L (.int x3 :: .int x2 :: .int x1 :: .ref 21 :: S) (mk h) Q = (pm_okW 8 S = true ∧ pm_WC fqP d 25 [.ref 21, .int x1, .int x2, .int x3] (mk h) (pm_kk fqP d 70 (pc + n) r L S Q)) := by
  show _ = (pm_okW 8 S = true ∧ pm_WC fqP d 25 [.ref 21, .int x1, .int x2, .int x3] (mk h) (fun v σ' => pm_WL fqP d 70 (pc + n) r L (pm_pu v S) σ' Q))
  simp only [w_invv, lg_70, lm_7_211, pm_oM_s, pm_oP_s, pm_pop_0, pm_pop_s, pm_rcv_is, hg_21, pm_oO_s, pm_ref1_is, Nat.reduceEqDiff, Nat.zero_ne_one, Nat.succ_ne_self, true_or, or_true, or_false, false_or, or_self, false_implies, true_implies, implies_true, true_and]
theorem iv_70_211_25 {x1 : Int32} {x2 : Int32} {x3 : Int32} : pm_WL fqP d 70 pc ((.invokevirtual 211, n) :: r) L (.int x3 :: .int x2 :: .int x1 :: .ref 25 :: S) (mk h) Q = (pm_okW 8 S = true ∧ pm_WC fqP d 25 [.ref 25, .int x1, .int x2, .int x3] (mk h) (pm_kk fqP d 70 (pc + n) r L S Q)) := by
  show _ = (pm_okW 8 S = true ∧ pm_WC fqP d 25 [.ref 25, .int x1, .int x2, .int x3] (mk h) (fun v σ' => pm_WL fqP d 70 (pc + n) r L (pm_pu v S) σ' Q))
  simp only [w_invv, lg_70, lm_7_211, pm_oM_s, pm_oP_s, pm_pop_0, pm_pop_s, pm_rcv_is, hg_25, pm_oO_s, pm_ref1_is, Nat.reduceEqDiff, Nat.zero_ne_one, Nat.succ_ne_self, true_or, or_true, or_false, false_or, or_self, false_implies, true_implies, implies_true, true_and]
theorem iv_70_211_29 {x1 : Int32} {x2 : Int32} {x3 : Int32} : pm_WL fqP d 70 pc ((.invokevirtual 211, n) :: r) L (.int x3 :: .int x2 :: .int x1 :: .ref 29 :: S) (mk h) Q = (pm_okW 8 S = true ∧ pm_WC fqP d 25 [.ref 29, .int x1, .int x2, .int x3] (mk h) (pm_kk fqP d 70 (pc + n) r L S Q)) := by
  show _ = (pm_okW 8 S = true ∧ pm_WC fqP d 25 [.ref 29, .int x1, .int x2, .int x3] (mk h) (fun v σ' => pm_WL fqP d 70 (pc + n) r L (pm_pu v S) σ' Q))
  simp only [w_invv, lg_70, lm_7_211, pm_oM_s, pm_oP_s, pm_pop_0, pm_pop_s, pm_rcv_is, hg_29, pm_oO_s, pm_ref1_is, Nat.reduceEqDiff, Nat.zero_ne_one, Nat.succ_ne_self, true_or, or_true, or_false, false_or, or_self, false_implies, true_implies, implies_true, true_and]
theorem iv_70_211_49 {x1 : Int32} {x2 : Int32} {x3 : Int32} : pm_WL fqP d 70 pc ((.invokevirtual 211, n) :: r) L (.int x3 :: .int x2 :: .int x1 :: .ref 49 :: S) (mk h) Q = (pm_okW 8 S = true ∧ pm_WC fqP d 25 [.ref 49, .int x1, .int x2, .int x3] (mk h) (pm_kk fqP d 70 (pc + n) r L S Q)) := by
  show _ = (pm_okW 8 S = true ∧ pm_WC fqP d 25 [.ref 49, .int x1, .int x2, .int x3] (mk h) (fun v σ' => pm_WL fqP d 70 (pc + n) r L (pm_pu v S) σ' Q))
  simp only [w_invv, lg_70, lm_7_211, pm_oM_s, pm_oP_s, pm_pop_0, pm_pop_s, pm_rcv_is, hg_49, pm_oO_s, pm_ref1_is, Nat.reduceEqDiff, Nat.zero_ne_one, Nat.succ_ne_self, true_or, or_true, or_false, false_or, or_self, false_implies, true_implies, implies_true, true_and]
theorem iv_70_211_53 {x1 : Int32} {x2 : Int32} {x3 : Int32} : pm_WL fqP d 70 pc ((.invokevirtual 211, n) :: r) L (.int x3 :: .int x2 :: .int x1 :: .ref 53 :: S) (mk h) Q = (pm_okW 8 S = true ∧ pm_WC fqP d 25 [.ref 53, .int x1, .int x2, .int x3] (mk h) (pm_kk fqP d 70 (pc + n) r L S Q)) := by
  show _ = (pm_okW 8 S = true ∧ pm_WC fqP d 25 [.ref 53, .int x1, .int x2, .int x3] (mk h) (fun v σ' => pm_WL fqP d 70 (pc + n) r L (pm_pu v S) σ' Q))
  simp only [w_invv, lg_70, lm_7_211, pm_oM_s, pm_oP_s, pm_pop_0, pm_pop_s, pm_rcv_is, hg_53, pm_oO_s, pm_ref1_is, Nat.reduceEqDiff, Nat.zero_ne_one, Nat.succ_ne_self, true_or, or_true, or_false, false_or, or_self, false_implies, true_implies, implies_true, true_and]
theorem iv_70_211_57 {x1 : Int32} {x2 : Int32} {x3 : Int32} : pm_WL fqP d 70 pc ((.invokevirtual 211, n) :: r) L (.int x3 :: .int x2 :: .int x1 :: .ref 57 :: S) (mk h) Q = (pm_okW 8 S = true ∧ pm_WC fqP d 25 [.ref 57, .int x1, .int x2, .int x3] (mk h) (pm_kk fqP d 70 (pc + n) r L S Q)) := by
  show _ = (pm_okW 8 S = true ∧ pm_WC fqP d 25 [.ref 57, .int x1, .int x2, .int x3] (mk h) (fun v σ' => pm_WL fqP d 70 (pc + n) r L (pm_pu v S) σ' Q))
  simp only [w_invv, lg_70, lm_7_211, pm_oM_s, pm_oP_s, pm_pop_0, pm_pop_s, pm_rcv_is, hg_57, pm_oO_s, pm_ref1_is, Nat.reduceEqDiff, Nat.zero_ne_one, Nat.succ_ne_self, true_or, or_true, or_false, false_or, or_self, false_implies, true_implies, implies_true, true_and]
theorem gf_71_12_4 : pm_WL fqP d 71 pc ((.getfield 12, n) :: r) L (.ref 4 :: S) (mk h) Q = pm_WL fqP d 71 (pc + n) r L (.ref 5 :: S) (mk h) Q := by
  simp only [w_getf, lg_71, lf_7_12, pm_oF_s, hg_4, pm_oO_s, List.getElem?_cons_succ, List.getElem?_cons_zero, pm_oK_s, true_and]
theorem gf_71_252_5 : pm_WL fqP d 71 pc ((.getfield 252, n) :: r) L (.ref 5 :: S) (mk h) Q = pm_WL fqP d 71 (pc + n) r L (.ref 29 :: S) (mk h) Q := by
  simp only [w_getf, lg_71, lf_7_252, pm_oF_s, hg_5, pm_oO_s, List.getElem?_cons_succ, List.getElem?_cons_zero, pm_oK_s, true_and]
theorem gf_71_252_33 : pm_WL fqP d 71 pc ((.getfield 252, n) :: r) L (.ref 33 :: S) (mk h) Q = pm_WL fqP d 71 (pc + n) r L (.ref 57 :: S) (mk h) Q := by
  simp only [w_getf, lg_71, lf_7_252, pm_oF_s, hg_33, pm_oO_s, List.getElem?_cons_succ, List.getElem?_cons_zero, pm_oK_s, true_and]
theorem gf_71_208_21 : pm_WL fqP d 71 pc ((.getfield 208, n) :: r) L (.ref 21 :: S) (mk h) Q = pm_WL fqP d 71 (pc + n) r L (.int (gd (h 21) 0) :: S) (mk h) Q := by
  simp only [w_getf, lg_71, lf_7_208, pm_oF_s, hg_21, pm_oO_s, List.getElem?_cons_succ, List.getElem?_cons_zero, pm_oK_s, true_and]
theorem gf_71_208_25 : pm_WL fqP d 71 pc ((.getfield 208, n) :: r) L (.ref 25 :: S) (mk h) Q = pm_WL fqP d 71 (pc + n) r L (.int (gd (h 25) 0) :: S) (mk h) Q := by
  simp only [w_getf, lg_71, lf_7_208, pm_oF_s, hg_25, pm_oO_s, List.getElem?_cons_succ, List.getElem?_cons_zero, pm_oK_s, true_and]
theorem gf_71_208_29 : pm_WL fqP d 71 pc ((.getfield 208, n) :: r) L (.ref 29 :: S) (mk h) Q = pm_WL fqP d 71 (pc + n) r L (.int (gd (h 29) 0) :: S) (mk h) Q := by
  simp only [w_getf, lg_71, lf_7_208, pm_oF_s, hg_29, pm_oO_s, List.getElem?_cons_succ, List.getElem?_cons_zero, pm_oK_s, true_and]
theorem gf_71_208_49 : pm_WL fqP d 71 pc ((.getfield 208, n) :: r) L (.ref 49 :: S) (mk h) Q = pm_WL fqP d 71 (pc + n) r L (.int (gd (h 49) 0) :: S) (mk h) Q := by
  simp only [w_getf, lg_71, lf_7_208, pm_oF_s, hg_49, pm_oO_s, List.getElem?_cons_succ, List.getElem?_cons_zero, pm_oK_s, true_and]
theorem gf_71_208_53 : pm_WL fqP d 71 pc ((.getfield 208, n) :: r) L (.ref 53 :: S) (mk h) Q = pm_WL fqP d 71 (pc + n) r L (.int (gd (h 53) 0) :: S) (mk h) Q := by
  simp only [w_getf, lg_71, lf_7_208, pm_oF_s, hg_53, pm_oO_s, List.getElem?_cons_succ, List.getElem?_cons_zero, pm_oK_s, true_and]
theorem gf_71_208_57 : pm_WL fqP d 71 pc ((.getfield 208, n) :: r) L (.ref 57 :: S) (mk h) Q = pm_WL fqP d 71 (pc + n) r L (.int (gd (h 57) 0) :: S) (mk h) Q := by
  simp only [w_getf, lg_71, lf_7_208, pm_oF_s, hg_57, pm_oO_s, List.getElem?_cons_succ, List.getElem?_cons_zero, pm_oK_s, true_and]
theorem gf_71_70_5 : pm_WL fqP d 71 pc ((.getfield 70, n) :: r) L (.ref 5 :: S) (mk h) Q = pm_WL fqP d 71 (pc + n) r L (.ref 6 :: S) (mk h) Q := by
  simp only [w_getf, lg_71, lf_7_70, pm_oF_s, hg_5, pm_oO_s, List.getElem?_cons_succ, List.getElem?_cons_zero, pm_oK_s, true_and]
theorem gf_71_70_33 : pm_WL fqP d 71 pc ((.getfield 70, n) :: r) L (.ref 33 :: S) (mk h) Q = pm_WL fqP d 71 (pc + n) r L (.ref 34 :: S) (mk h) Q := by
  simp only [w_getf, lg_71, lf_7_70, pm_oF_s, hg_33, pm_oO_s, List.getElem?_cons_succ, List.getElem?_cons_zero, pm_oK_s, true_and]
theorem gf_71_93_6 : pm_WL fqP d 71 pc ((.getfield 93, n) :: r) L (.ref 6 :: S) (mk h) Q = pm_WL fqP d 71 (pc + n) r L (.ref 11 :: S) (mk h) Q := by
  simp only [w_getf, lg_71, lf_7_93, pm_oF_s, hg_6, pm_oO_s, List.getElem?_cons_succ, List.getElem?_cons_zero, pm_oK_s, true_and]
theorem gf_71_93_34 : pm_WL fqP d 71 pc ((.getfield 93, n) :: r) L (.ref 34 :: S) (mk h) Q = pm_WL fqP d 71 (pc + n) r L (.ref 39 :: S) (mk h) Q := by
  simp only [w_getf, lg_71, lf_7_93, pm_oF_s, hg_34, pm_oO_s, List.getElem?_cons_succ, List.getElem?_cons_zero, pm_oK_s, true_and]
theorem gf_71_93_61 : pm_WL fqP d 71 pc ((.getfield 93, n) :: r) L (.ref 61 :: S) (mk h) Q = pm_WL fqP d 71 (pc + n) r L (.ref 66 :: S) (mk h) Q := by
  simp only [w_getf, lg_71, lf_7_93, pm_oF_s, hg_61, pm_oO_s, List.getElem?_cons_succ, List.getElem?_cons_zero, pm_oK_s, true_and]
theorem gf_71_123_11 : pm_WL fqP d 71 pc ((.getfield 123, n) :: r) L (.ref 11 :: S) (mk h) Q = pm_WL fqP d 71 (pc + n) r L (.ref 15 :: S) (mk h) Q := by
  simp only [w_getf, lg_71, lf_7_123, pm_oF_s, hg_11, pm_oO_s, List.getElem?_cons_succ, List.getElem?_cons_zero, pm_oK_s, true_and]
theorem gf_71_123_39 : pm_WL fqP d 71 pc ((.getfield 123, n) :: r) L (.ref 39 :: S) (mk h) Q = pm_WL fqP d 71 (pc + n) r L (.ref 43 :: S) (mk h) Q := by
  simp only [w_getf, lg_71, lf_7_123, pm_oF_s, hg_39, pm_oO_s, List.getElem?_cons_succ, List.getElem?_cons_zero, pm_oK_s, true_and]
theorem gf_71_123_66 : pm_WL fqP d 71 pc ((.getfield 123, n) :: r) L (.ref 66 :: S) (mk h) Q = pm_WL fqP d 71 (pc + n) r L (.ref 70 :: S) (mk h) Q := by
  simp only [w_getf, lg_71, lf_7_123, pm_oF_s, hg_66, pm_oO_s, List.getElem?_cons_succ, List.getElem?_cons_zero, pm_oK_s, true_and]
theorem gf_71_242_21 : pm_WL fqP d 71 pc ((.getfield 242, n) :: r) L (.ref 21 :: S) (mk h) Q = pm_WL fqP d 71 (pc + n) r L (.ref 22 :: S) (mk h) Q := by
  simp only [w_getf, lg_71, lf_7_242, pm_oF_s, hg_21, pm_oO_s, List.getElem?_cons_succ, List.getElem?_cons_zero, pm_oK_s, true_and]
theorem gf_71_242_25 : pm_WL fqP d 71 pc ((.getfield 242, n) :: r) L (.ref 25 :: S) (mk h) Q = pm_WL fqP d 71 (pc + n) r L (.ref 26 :: S) (mk h) Q := by
  simp only [w_getf, lg_71, lf_7_242, pm_oF_s, hg_25, pm_oO_s, List.getElem?_cons_succ, List.getElem?_cons_zero, pm_oK_s, true_and]
theorem gf_71_242_29 : pm_WL fqP d 71 pc ((.getfield 242, n) :: r) L (.ref 29 :: S) (mk h) Q = pm_WL fqP d 71 (pc + n) r L (.ref 30 :: S) (mk h) Q := by
  simp only [w_getf, lg_71, lf_7_242, pm_oF_s, hg_29, pm_oO_s, List.getElem?_cons_succ, List.getElem?_cons_zero, pm_oK_s, true_and]
theorem gf_71_242_49 : pm_WL fqP d 71 pc ((.getfield 242, n) :: r) L (.ref 49 :: S) (mk h) Q = pm_WL fqP d 71 (pc + n) r L (.ref 50 :: S) (mk h) Q := by
  simp only [w_getf, lg_71, lf_7_242, pm_oF_s, hg_49, pm_oO_s, List.getElem?_cons_succ, List.getElem?_cons_zero, pm_oK_s, true_and]
theorem gf_71_242_53 : pm_WL fqP d 71 pc ((.getfield 242, n) :: r) L (.ref 53 :: S) (mk h) Q = pm_WL fqP d 71 (pc + n) r L (.ref 54 :: S) (mk h) Q := by
  simp only [w_getf, lg_71, lf_7_242, pm_oF_s, hg_53, pm_oO_s, List.getElem?_cons_succ, List.getElem?_cons_zero, pm_oK_s, true_and]
theorem gf_71_242_57 : pm_WL fqP d 71 pc ((.getfield 242, n) :: r) L (.ref 57 :: S) (mk h) Q = pm_WL fqP d 71 (pc + n) r L (.ref 58 :: S) (mk h) Q := by
  simp only [w_getf, lg_71, lf_7_242, pm_oF_s, hg_57, pm_oO_s, List.getElem?_cons_succ, List.getElem?_cons_zero, pm_oK_s, true_and]
theorem iv_71_113 {x0 : Nat} {x1 : Int32} : pm_WL fqP d 71 pc ((.invokestatic 113, n) :: r) L (.int x1 :: .ref x0 :: S) σ Q = (pm_okW 8 S = true ∧ pm_WC fqP d 91 [.ref x0, .int x1] σ (pm_kk fqP d 71 (pc + n) r L S Q)) := by
  show _ = (pm_okW 8 S = true ∧ pm_WC fqP d 91 [.ref x0, .int x1] σ (fun v σ' => pm_WL fqP d 71 (pc + n) r L (pm_pu v S) σ' Q))
  simp only [w_invs, lg_71, lm_7_113, pm_oM_s, pm_oP_s, pm_pop_0, pm_pop_s, pm_ref1_is, Nat.reduceEqDiff, Nat.zero_ne_one, Nat.succ_ne_self, true_or, or_true, or_false, false_or, or_self, false_implies, true_implies, implies_true, true_and]
theorem gf_71_245_21 : pm_WL fqP d 71 pc ((.getfield 245, n) :: r) L (.ref 21 :: S) (mk h) Q = pm_WL fqP d 71 (pc + n) r L (.ref 23 :: S) (mk h) Q := by
  simp only [w_getf, lg_71, lf_7_245, pm_oF_s, hg_21, pm_oO_s, List.getElem?_cons_succ, List.getElem?_cons_zero, pm_oK_s, true_and]
theorem gf_71_245_25 : pm_WL fqP d 71 pc ((.getfield 245, n) :: r) L (.ref 25 :: S) (mk h) Q = pm_WL fqP d 71 (pc + n) r L (.ref 27 :: S) (mk h) Q := by
  simp only [w_getf, lg_71, lf_7_245, pm_oF_s, hg_25, pm_oO_s, List.getElem?_cons_succ, List.getElem?_cons_zero, pm_oK_s, true_and]
theorem gf_71_245_29 : pm_WL fqP d 71 pc ((.getfield 245, n) :: r) L (.ref 29 :: S) (mk h) Q = pm_WL fqP d 71 (pc + n) r L (.ref 31 :: S) (mk h) Q := by
  simp only [w_getf, lg_71, lf_7_245, pm_oF_s, hg_29, pm_oO_s, List.getElem?_cons_succ, List.getElem?_cons_zero, pm_oK_s, true_and]
theorem gf_71_245_49 : pm_WL fqP d 71 pc ((.getfield 245, n) :: r) L (.ref 49 :: S) (mk h) Q = pm_WL fqP d 71 (pc + n) r L (.ref 51 :: S) (mk h) Q := by
  simp only [w_getf, lg_71, lf_7_245, pm_oF_s, hg_49, pm_oO_s, List.getElem?_cons_succ, List.getElem?_cons_zero, pm_oK_s, true_and]
theorem gf_71_245_53 : pm_WL fqP d 71 pc ((.getfield 245, n) :: r) L (.ref 53 :: S) (mk h) Q = pm_WL fqP d 71 (pc + n) r L (.ref 55 :: S) (mk h) Q := by
  simp only [w_getf, lg_71, lf_7_245, pm_oF_s, hg_53, pm_oO_s, List.getElem?_cons_succ, List.getElem?_cons_zero, pm_oK_s, true_and]
theorem gf_71_245_57 : pm_WL fqP d 71 pc ((.getfield 245, n) :: r) L (.ref 57 :: S) (mk h) Q = pm_WL fqP d 71 (pc + n) r L (.ref 59 :: S) (mk h) Q := by
  simp only [w_getf, lg_71, lf_7_245, pm_oF_s, hg_57, pm_oO_s, List.getElem?_cons_succ, List.getElem?_cons_zero, pm_oK_s, true_and]
theorem gf_72_12_4 : pm_WL fqP d 72 pc ((.getfield 12, n) :: r) L (.ref 4 :: S) (mk h) Q = pm_WL fqP d 72 (pc + n) r L (.ref 5 :: S) (mk h) Q := by
  simp only [w_getf, lg_72, lf_7_12, pm_oF_s, hg_4, pm_oO_s, List.getElem?_cons_succ, List.getElem?_cons_zero, pm_oK_s, true_and]
theorem gf_72_70_5 : pm_WL fqP d 72 pc ((.getfield 70, n) :: r) L (.ref 5 :: S) (mk h) Q = pm_WL fqP d 72 (pc + n) r L (.ref 6 :: S) (mk h) Q := by
  simp only [w_getf, lg_72, lf_7_70, pm_oF_s, hg_5, pm_oO_s, List.getElem?_cons_succ, List.getElem?_cons_zero, pm_oK_s, true_and]
theorem gf_72_70_33 : pm_WL fqP d 72 pc ((.getfield 70, n) :: r) L (.ref 33 :: S) (mk h) Q = pm_WL fqP d 72 (pc + n) r L (.ref 34 :: S) (mk h) Q := by
  simp only [w_getf, lg_72, lf_7_70, pm_oF_s, hg_33, pm_oO_s, List.getElem?_cons_succ, List.getElem?_cons_zero, pm_oK_s, true_and]
theorem gf_72_93_6 : pm_WL fqP d 72 pc ((.getfield 93, n) :: r) L (.ref 6 :: S) (mk h) Q = pm_WL fqP d 72 (pc + n) r L (.ref 11 :: S) (mk h) Q := by
  simp only [w_getf, lg_72, lf_7_93, pm_oF_s, hg_6, pm_oO_s, List.getElem?_cons_succ, List.getElem?_cons_zero, pm_oK_s, true_and]
theorem gf_72_93_34 : pm_WL fqP d 72 pc ((.getfield 93, n) :: r) L (.ref 34 :: S) (mk h) Q = pm_WL fqP d 72 (pc + n) r L (.ref 39 :: S) (mk h) Q := by
  simp only [w_getf, lg_72, lf_7_93, pm_oF_s, hg_34, pm_oO_s, List.getElem?_cons_succ, List.getElem?_cons_zero, pm_oK_s, true_and]
theorem gf_72_93_61 : pm_WL fqP d 72 pc ((.getfield 93, n) :: r) L (.ref 61 :: S) (mk h) Q = pm_WL fqP d 72 (pc + n) r L (.ref 66 :: S) (mk h) Q := by
  simp only [w_getf, lg_72, lf_7_93, pm_oF_s, hg_61, pm_oO_s, List.getElem?_cons_succ, List.getElem?_cons_zero, pm_oK_s, true_and]
theorem gf_72_38_4 : pm_WL fqP d 72 pc ((.getfield 38, n) :: r) L (.ref 4 :: S) (mk h) Q = pm_WL fqP d 72 (pc + n) r L (.ref 81 :: S) (mk h) Q := by
  simp only [w_getf, lg_72, lf_7_38, pm_oF_s, hg_4, pm_oO_s, List.getElem?_cons_succ, List.getElem?_cons_zero, pm_oK_s, true_and]
theorem pf_72_255_81 {x : Int32} : pm_WL fqP d 72 pc ((.putfield 255, n) :: r) L (.int x :: .ref 81 :: S) (mk h) Q = pm_WL fqP d 72 (pc + n) r L S (mk (up h 81 [x, gd (h 81) 1, gd (h 81) 2, gd (h 81) 3])) Q := by
  simp only [w_putf, lg_72, lf_7_255, lt_0_1, pm_oF_s, hg_81, pm_oO_s, List.set_cons_succ, List.set_cons_zero, List.length_cons, List.length_nil, pm_fit_i, Nat.reduceAdd, Nat.reduceLT, Nat.zero_add, Nat.lt_add_one, Bool.false_eq_true, false_implies, true_and, and_true, hs_81]
theorem iv_72_106_11 {x1 : Int32} : pm_WL fqP d 72 pc ((.invokevirtual 106, n) :: r) L (.int x1 :: .ref 11 :: S) (mk h) Q = (pm_okW 8 S = true ∧ pm_WC fqP d 40 [.ref 11, .int x1] (mk h) (pm_kk fqP d 72 (pc + n) r L S Q)) := by
  show _ = (pm_okW 8 S = true ∧ pm_WC fqP d 40 [.ref 11, .int x1] (mk h) (fun v σ' => pm_WL fqP d 72 (pc + n) r L (pm_pu v S) σ' Q))
  simp only [w_invv, lg_72, lm_7_106, pm_oM_s, pm_oP_s, pm_pop_0, pm_pop_s, pm_rcv_is, hg_11, pm_oO_s, pm_ref1_is, Nat.reduceEqDiff, Nat.zero_ne_one, Nat.succ_ne_self, true_or, or_true, or_false, false_or, or_self, false_implies, true_implies, implies_true, true_and]
theorem iv_72_106_39 {x1 : Int32} : pm_WL fqP d 72 pc ((.invokevirtual 106, n) :: r) L (.int x1 :: .ref 39 :: S) (mk h) Q = (pm_okW 8 S = true ∧ pm_WC fqP d 40 [.ref 39, .int x1] (mk h) (pm_kk fqP d 72 (pc + n) r L S Q)) := by
  show _ = (pm_okW 8 S = true ∧ pm_WC fqP d 40 [.ref 39, .int x1] (mk h) (fun v σ' => pm_WL fqP d 72 (pc + n) r L (pm_pu v S) σ' Q))
  simp only [w_invv, lg_72, lm_7_106, pm_oM_s, pm_oP_s, pm_pop_0, pm_pop_s, pm_rcv_is, hg_39, pm_oO_s, pm_ref1_is, Nat.reduceEqDiff, Nat.zero_ne_one, Nat.succ_ne_self, true_or, or_true, or_false, false_or, or_self, false_implies, true_implies, implies_true, true_and]
theorem iv_72_106_66 {x1 : Int32} : pm_WL fqP d 72 pc ((.invokevirtual 106, n) :: r) L (.int x1 :: .ref 66 :: S) (mk h) Q = (pm_okW 8 S = true ∧ pm_WC fqP d 40 [.ref 66, .int x1] (mk h) (pm_kk fqP d 72 (pc + n) r L S Q)) := by
  show _ = (pm_okW 8 S = true ∧ pm_WC fqP d 40 [.ref 66, .int x1] (mk h) (fun v σ' => pm_WL fqP d 72 (pc + n) r L (pm_pu v S) σ' Q))
  simp only [w_invv, lg_72, lm_7_106, pm_oM_s, pm_oP_s, pm_pop_0, pm_pop_s, pm_rcv_is, hg_66, pm_oO_s, pm_ref1_is, Nat.reduceEqDiff, Nat.zero_ne_one, Nat.succ_ne_self, true_or, or_true, or_false, false_or, or_self, false_implies, true_implies, implies_true, true_and]
theorem pf_72_258_81 {x : Int32} : pm_WL fqP d 72 pc ((.putfield 258, n) :: r) L (.int x :: .ref 81 :: S) (mk h) Q = pm_WL fqP d 72 (pc + n) r L S (mk (up h 81 [gd (h 81) 0, x, gd (h 81) 2, gd (h 81) 3])) Q := by
  simp only [w_putf, lg_72, lf_7_258, lt_0_2, pm_oF_s, hg_81, pm_oO_s, List.set_cons_succ, List.set_cons_zero, List.length_cons, List.length_nil, pm_fit_i, Nat.reduceAdd, Nat.reduceLT, Nat.zero_add, Nat.lt_add_one, Bool.false_eq_true, false_implies, true_and, and_true, hs_81]
theorem gf_72_110_11 : pm_WL fqP d 72 pc ((.getfield 110, n) :: r) L (.ref 11 :: S) (mk h) Q = pm_WL fqP d 72 (pc + n) r L (.ref 12 :: S) (mk h) Q := by
  simp only [w_getf, lg_72, lf_7_110, pm_oF_s, hg_11, pm_oO_s, List.getElem?_cons_succ, List.getElem?_cons_zero, pm_oK_s, true_and]
theorem gf_72_110_39 : pm_WL fqP d 72 pc ((.getfield 110, n) :: r) L (.ref 39 :: S) (mk h) Q = pm_WL fqP d 72 (pc + n) r L (.ref 40 :: S) (mk h) Q := by
  simp only [w_getf, lg_72, lf_7_110, pm_oF_s, hg_39, pm_oO_s, List.getElem?_cons_succ, List.getElem?_cons_zero, pm_oK_s, true_and]
theorem gf_72_110_66 : pm_WL fqP d 72 pc ((.getfield 110, n) :: r) L (.ref 66 :: S) (mk h) Q = pm_WL fqP d 72 (pc + n) r L (.ref 67 :: S) (mk h) Q := by
  simp only [w_getf, lg_72, lf_7_110, pm_oF_s, hg_66, pm_oO_s, List.getElem?_cons_succ, List.getElem?_cons_zero, pm_oK_s, true_and]
theorem iv_72_113 {x0 : Nat} {x1 : Int32} : pm_WL fqP d 72 pc ((.invokestatic 113, n) :: r) L (.int x1 :: .ref x0 :: S) σ Q = (pm_okW 8 S = true ∧ pm_WC fqP d 91 [.ref x0, .int x1] σ (pm_kk fqP d 72 (pc + n) r L S Q)) := by
  show _ = (pm_okW 8 S = true ∧ pm_WC fqP d 91 [.ref x0, .int x1] σ (fun v σ' => pm_WL fqP d 72 (pc + n) r L (pm_pu v S) σ' Q))
  simp only [w_invs, lg_72, lm_7_113, pm_oM_s, pm_oP_s, pm_pop_0, pm_pop_s, pm_ref1_is, Nat.reduceEqDiff, Nat.zero_ne_one, Nat.succ_ne_self, true_or, or_true, or_false, false_or, or_self, false_implies, true_implies, implies_true, true_and]
theorem pf_72_261_81 {x : Int32} : pm_WL fqP d 72 pc ((.putfield 261, n) :: r) L (.int x :: .ref 81 :: S) (mk h) Q = pm_WL fqP d 72 (pc + n) r L S (mk (up h 81 [gd (h 81) 0, gd (h 81) 1, x, gd (h 81) 3])) Q := by
  simp only [w_putf, lg_72, lf_7_261, lt_0_3, pm_oF_s, hg_81, pm_oO_s, List.set_cons_succ, List.set_cons_zero, List.length_cons, List.length_nil, pm_fit_i, Nat.reduceAdd, Nat.reduceLT, Nat.zero_add, Nat.lt_add_one, Bool.false_eq_true, false_implies, true_and, and_true, hs_81]
theorem gf_72_117_11 : pm_WL fqP d 72 pc ((.getfield 117, n) :: r) L (.ref 11 :: S) (mk h) Q = pm_WL fqP d 72 (pc + n) r L (.ref 13 :: S) (mk h) Q := by
  simp only [w_getf, lg_72, lf_7_117, pm_oF_s, hg_11, pm_oO_s, List.getElem?_cons_succ, List.getElem?_cons_zero, pm_oK_s, true_and]
theorem gf_72_117_39 : pm_WL fqP d 72 pc ((.getfield 117, n) :: r) L (.ref 39 :: S) (mk h) Q = pm_WL fqP d 72 (pc + n) r L (.ref 41 :: S) (mk h) Q := by
  simp only [w_getf, lg_72, lf_7_117, pm_oF_s, hg_39, pm_oO_s, List.getElem?_cons_succ, List.getElem?_cons_zero, pm_oK_s, true_and]
theorem gf_72_117_66 : pm_WL fqP d 72 pc ((.getfield 117, n) :: r) L (.ref 66 :: S) (mk h) Q = pm_WL fqP d 72 (pc + n) r L (.ref 68 :: S) (mk h) Q := by
  simp only [w_getf, lg_72, lf_7_117, pm_oF_s, hg_66, pm_oO_s, List.getElem?_cons_succ, List.getElem?_cons_zero, pm_oK_s, true_and]
theorem pf_72_263_81 {x : Int32} : pm_WL fqP d 72 pc ((.putfield 263, n) :: r) L (.int x :: .ref 81 :: S) (mk h) Q = pm_WL fqP d 72 (pc + n) r L S (mk (up h 81 [gd (h 81) 0, gd (h 81) 1, gd (h 81) 2, x])) Q := by
  simp only [w_putf, lg_72, lf_7_263, lt_0_4, pm_oF_s, hg_81, pm_oO_s, List.set_cons_succ, List.set_cons_zero, List.length_cons, List.length_nil, pm_fit_i, Nat.reduceAdd, Nat.reduceLT, Nat.zero_add, Nat.lt_add_one, Bool.false_eq_true, false_implies, true_and, and_true, hs_81]
theorem gf_72_261_81 : pm_WL fqP d 72 pc ((.getfield 261, n) :: r) L (.ref 81 :: S) (mk h) Q = pm_WL fqP d 72 (pc + n) r L (.int (gd (h 81) 2) :: S) (mk h) Q := by
  simp only [w_getf, lg_72, lf_7_261, pm_oF_s, hg_81, pm_oO_s, List.getElem?_cons_succ, List.getElem?_cons_zero, pm_oK_s, true_and]
theorem iv_72_265 {x0 : Nat} {x1 : Int32} {x2 : Int32} {x3 : Int32} {x4 : Int32} : pm_WL fqP d 72 pc ((.invokestatic 265, n) :: r) L (.int x4 :: .int x3 :: .int x2 :: .int x1 :: .ref x0 :: S) σ Q = (pm_okW 8 S = true ∧ pm_WC fqP d 1 [.ref x0, .int x1, .int x2, .int x3, .int x4] σ (pm_kk fqP d 72 (pc + n) r L S Q)) := by
  show _ = (pm_okW 8 S = true ∧ pm_WC fqP d 1 [.ref x0, .int x1, .int x2, .int x3, .int x4] σ (fun v σ' => pm_WL fqP d 72 (pc + n) r L (pm_pu v S) σ' Q))
  simp only [w_invs, lg_72, lm_7_265, pm_oM_s, pm_oP_s, pm_pop_0, pm_pop_s, pm_ref1_is, Nat.reduceEqDiff, Nat.zero_ne_one, Nat.succ_ne_self, true_or, or_true, or_false, false_or, or_self, false_implies, true_implies, implies_true, true_and]
theorem gf_73_38_4 : pm_WL fqP d 73 pc ((.getfield 38, n) :: r) L (.ref 4 :: S) (mk h) Q = pm_WL fqP d 73 (pc + n) r L (.ref 81 :: S) (mk h) Q := by
  simp only [w_getf, lg_73, lf_7_38, pm_oF_s, hg_4, pm_oO_s, List.getElem?_cons_succ, List.getElem?_cons_zero, pm_oK_s, true_and]
theorem gf_73_255_81 : pm_WL fqP d 73 pc ((.getfield 255, n) :: r) L (.ref 81 :: S) (mk h) Q = pm_WL fqP d 73 (pc + n) r L (.int (gd (h 81) 0) :: S) (mk h) Q := by
  simp only [w_getf, lg_73, lf_7_255, pm_oF_s, hg_81, pm_oO_s, List.getElem?_cons_succ, List.getElem?_cons_zero, pm_oK_s, true_and]
theorem gf_73_269_81 : pm_WL fqP d 73 pc ((.getfield 269, n) :: r) L (.ref 81 :: S) (mk h) Q = pm_WL fqP d 73 (pc + n) r L (.ref 82 :: S) (mk h) Q := by
  simp only [w_getf, lg_73, lf_7_269, pm_oF_s, hg_81, pm_oO_s, List.getElem?_cons_succ, List.getElem?_cons_zero, pm_oK_s, true_and]
theorem iv_73_113 {x0 : Nat} {x1 : Int32} : pm_WL fqP d 73 pc ((.invokestatic 113, n) :: r) L (.int x1 :: .ref x0 :: S) σ Q = (pm_okW 8 S = true ∧ pm_WC fqP d 91 [.ref x0, .int x1] σ (pm_kk fqP d 73 (pc + n) r L S Q)) := by
  show _ = (pm_okW 8 S = true ∧ pm_WC fqP d 91 [.ref x0, .int x1] σ (fun v σ' => pm_WL fqP d 73 (pc + n) r L (pm_pu v S) σ' Q))
  simp only [w_invs, lg_73, lm_7_113, pm_oM_s, pm_oP_s, pm_pop_0, pm_pop_s, pm_ref1_is, Nat.reduceEqDiff, Nat.zero_ne_one, Nat.succ_ne_self, true_or, or_true, or_false, false_or, or_self, false_implies, true_implies, implies_true, true_and]
theorem gf_74_12_4 : pm_WL fqP d 74 pc ((.getfield 12, n) :: r) L (.ref 4 :: S) (mk h) Q = pm_WL fqP d 74 (pc + n) r L (.ref 5 :: S) (mk h) Q := by
  simp only [w_getf, lg_74, lf_7_12, pm_oF_s, hg_4, pm_oO_s, List.getElem?_cons_succ, List.getElem?_cons_zero, pm_oK_s, true_and]
theorem gf_74_70_5 : pm_WL fqP d 74 pc ((.getfield 70, n) :: r) L (.ref 5 :: S) (mk h) Q = pm_WL fqP d 74 (pc + n) r L (.ref 6 :: S) (mk h) Q := by
  simp only [w_getf, lg_74, lf_7_70, pm_oF_s, hg_5, pm_oO_s, List.getElem?_cons_succ, List.getElem?_cons_zero, pm_oK_s, true_and]
theorem gf_74_70_33 : pm_WL fqP d 74 pc ((.getfield 70, n) :: r) L (.ref 33 :: S) (mk h) Q = pm_WL fqP d 74 (pc + n) r L (.ref 34 :: S) (mk h) Q := by
  simp only [w_getf, lg_74, lf_7_70, pm_oF_s, hg_33, pm_oO_s, List.getElem?_cons_succ, List.getElem?_cons_zero, pm_oK_s, true_and]
theorem gf_74_93_6 : pm_WL fqP d 74 pc ((.getfield 93, n) :: r) L (.ref 6 :: S) (mk h) Q = pm_WL fqP d 74 (pc + n) r L (.ref 11 :: S) (mk h) Q := by
  simp only [w_getf, lg_74, lf_7_93, pm_oF_s, hg_6, pm_oO_s, List.getElem?_cons_succ, List.getElem?_cons_zero, pm_oK_s, true_and]
theorem gf_74_93_34 : pm_WL fqP d 74 pc ((.getfield 93, n) :: r) L (.ref 34 :: S) (mk h) Q = pm_WL fqP d 74 (pc + n) r L (.ref 39 :: S) (mk h) Q := by
  simp only [w_getf, lg_74, lf_7_93, pm_oF_s, hg_34, pm_oO_s, List.getElem?_cons_succ, List.getElem?_cons_zero, pm_oK_s, true_and]
theorem gf_74_93_61 : pm_WL fqP d 74 pc ((.getfield 93, n) :: r) L (.ref 61 :: S) (mk h) Q = pm_WL fqP d 74 (pc + n) r L (.ref 66 :: S) (mk h) Q := by
  simp only [w_getf, lg_74, lf_7_93, pm_oF_s, hg_61, pm_oO_s, List.getElem?_cons_succ, List.getElem?_cons_zero, pm_oK_s, true_and]
theorem iv_74_106_11 {x1 : Int32} : pm_WL fqP d 74 pc ((.invokevirtual 106, n) :: r) L (.int x1 :: .ref 11 :: S) (mk h) Q = (pm_okW 8 S = true ∧ pm_WC fqP d 40 [.ref 11, .int x1] (mk h) (pm_kk fqP d 74 (pc + n) r L S Q)) := by
  show _ = (pm_okW 8 S = true ∧ pm_WC fqP d 40 [.ref 11, .int x1] (mk h) (fun v σ' => pm_WL fqP d 74 (pc + n) r L (pm_pu v S) σ' Q))
  simp only [w_invv, lg_74, lm_7_106, pm_oM_s, pm_oP_s, pm_pop_0, pm_pop_s, pm_rcv_is, hg_11, pm_oO_s, pm_ref1_is, Nat.reduceEqDiff, Nat.zero_ne_one, Nat.succ_ne_self, true_or, or_true, or_false, false_or, or_self, false_implies, true_implies, implies_true, true_and]
theorem iv_74_106_39 {x1 : Int32} : pm_WL fqP d 74 pc ((.invokevirtual 106, n) :: r) L (.int x1 :: .ref 39 :: S) (mk h) Q = (pm_okW 8 S = true ∧ pm_WC fqP d 40 [.ref 39, .int x1] (mk h) (pm_kk fqP d 74 (pc + n) r L S Q)) := by
  show _ = (pm_okW 8 S = true ∧ pm_WC fqP d 40 [.ref 39, .int x1] (mk h) (fun v σ' => pm_WL fqP d 74 (pc + n) r L (pm_pu v S) σ' Q))
  simp only [w_invv, lg_74, lm_7_106, pm_oM_s, pm_oP_s, pm_pop_0, pm_pop_s, pm_rcv_is, hg_39, pm_oO_s, pm_ref1_is, Nat.reduceEqDiff, Nat.zero_ne_one, Nat.succ_ne_self, true_or, or_true, or_false, false_or, or_self, false_implies, true_implies, implies_true, true_and]
theorem iv_74_106_66 {x1 : Int32} : pm_WL fqP d 74 pc ((.invokevirtual 106, n) :: r) L (.int x1 :: .ref 66 :: S) (mk h) Q = (pm_okW 8 S = true ∧ pm_WC fqP d 40 [.ref 66, .int x1] (mk h) (pm_kk fqP d 74 (pc + n) r L S Q)) := by
  show _ = (pm_okW 8 S = true ∧ pm_WC fqP d 40 [.ref 66, .int x1] (mk h) (fun v σ' => pm_WL fqP d 74 (pc + n) r L (pm_pu v S) σ' Q))
  simp only [w_invv, lg_74, lm_7_106, pm_oM_s, pm_oP_s, pm_pop_0, pm_pop_s, pm_rcv_is, hg_66, pm_oO_s, pm_ref1_is, Nat.reduceEqDiff, Nat.zero_ne_one, Nat.succ_ne_self, true_or, or_true, or_false, false_or, or_self, false_implies, true_implies, implies_true, true_and]
theorem iv_74_86 {x0 : Int32} : pm_WL fqP d 74 pc ((.invokestatic 86, n) :: r) L (.int x0 :: S) σ Q = (pm_okW 8 S = true ∧ pm_WC fqP d 88 [.int x0] σ (pm_kk fqP d 74 (pc + n) r L S Q)) := by
  show _ = (pm_okW 8 S = true ∧ pm_WC fqP d 88 [.int x0] σ (fun v σ' => pm_WL fqP d 74 (pc + n) r L (pm_pu v S) σ' Q))
  simp only [w_invs, lg_74, lm_7_86, pm_oM_s, pm_oP_s, pm_pop_0, pm_pop_s, pm_ref1_is, Nat.reduceEqDiff, Nat.zero_ne_one, Nat.succ_ne_self, true_or, or_true, or_false, false_or, or_self, false_implies, true_implies, implies_true, true_and]
theorem gf_74_110_11 : pm_WL fqP d 74 pc ((.getfield 110, n) :: r) L (.ref 11 :: S) (mk h) Q = pm_WL fqP d 74 (pc + n) r L (.ref 12 :: S) (mk h) Q := by
  simp only [w_getf, lg_74, lf_7_110, pm_oF_s, hg_11, pm_oO_s, List.getElem?_cons_succ, List.getElem?_cons_zero, pm_oK_s, true_and]
theorem gf_74_110_39 : pm_WL fqP d 74 pc ((.getfield 110, n) :: r) L (.ref 39 :: S) (mk h) Q = pm_WL fqP d 74 (pc + n) r L (.ref 40 :: S) (mk h) Q := by
  simp only [w_getf, lg_74, lf_7_110, pm_oF_s, hg_39, pm_oO_s, List.getElem?_cons_succ, List.getElem?_cons_zero, pm_oK_s, true_and]
theorem gf_74_110_66 : pm_WL fqP d 74 pc ((.getfield 110, n) :: r) L (.ref 66 :: S) (mk h) Q = pm_WL fqP d 74 (pc + n) r L (.ref 67 :: S) (mk h) Q := by
  simp only [w_getf, lg_74, lf_7_110, pm_oF_s, hg_66, pm_oO_s, List.getElem?_cons_succ, List.getElem?_cons_zero, pm_oK_s, true_and]
theorem iv_74_113 {x0 : Nat} {x1 : Int32} : pm_WL fqP d 74 pc ((.invokestatic 113, n) :: r) L (.int x1 :: .ref x0 :: S) σ Q = (pm_okW 8 S = true ∧ pm_WC fqP d 91 [.ref x0, .int x1] σ (pm_kk fqP d 74 (pc + n) r L S Q)) := by
  show _ = (pm_okW 8 S = true ∧ pm_WC fqP d 91 [.ref x0, .int x1] σ (fun v σ' => pm_WL fqP d 74 (pc + n) r L (pm_pu v S) σ' Q))
  simp only [w_invs, lg_74, lm_7_113, pm_oM_s, pm_oP_s, pm_pop_0, pm_pop_s, pm_ref1_is, Nat.reduceEqDiff, Nat.zero_ne_one, Nat.succ_ne_self, true_or, or_true, or_false, false_or, or_self, false_implies, true_implies, implies_true, true_and]
theorem iv_74_272 {x0 : Int32} {x1 : Int32} : pm_WL fqP d 74 pc ((.invokestatic 272, n) :: r) L (.int x1 :: .int x0 :: S) σ Q = (pm_okW 8 S = true ∧ pm_WC fqP d 90 [.int x0, .int x1] σ (pm_kk fqP d 74 (pc + n) r L S Q)) := by
  show _ = (pm_okW 8 S = true ∧ pm_WC fqP d 90 [.int x0, .int x1] σ (fun v σ' => pm_WL fqP d 74 (pc + n) r L (pm_pu v S) σ' Q))
  simp only [w_invs, lg_74, lm_7_272, pm_oM_s, pm_oP_s, pm_pop_0, pm_pop_s, pm_ref1_is, Nat.reduceEqDiff, Nat.zero_ne_one, Nat.succ_ne_self, true_or, or_true, or_false, false_or, or_self, false_implies, true_implies, implies_true, true_and]
theorem gf_74_117_11 : pm_WL fqP d 74 pc ((.getfield 117, n) :: r) L (.ref 11 :: S) (mk h) Q = pm_WL fqP d 74 (pc + n) r L (.ref 13 :: S) (mk h) Q := by
  simp only [w_getf, lg_74, lf_7_117, pm_oF_s, hg_11, pm_oO_s, List.getElem?_cons_succ, List.getElem?_cons_zero, pm_oK_s, true_and]
theorem gf_74_117_39 : pm_WL fqP d 74 pc ((.getfield 117, n) :: r) L (.ref 39 :: S) (mk h) Q = pm_WL fqP d 74 (pc + n) r L (.ref 41 :: S) (mk h) Q := by
  simp only [w_getf, lg_74, lf_7_117, pm_oF_s, hg_39, pm_oO_s, List.getElem?_cons_succ, List.getElem?_cons_zero, pm_oK_s, true_and]
theorem gf_74_117_66 : pm_WL fqP d 74 pc ((.getfield 117, n) :: r) L (.ref 66 :: S) (mk h) Q = pm_WL fqP d 74 (pc + n) r L (.ref 68 :: S) (mk h) Q := by
  simp only [w_getf, lg_74, lf_7_117, pm_oF_s, hg_66, pm_oO_s, List.getElem?_cons_succ, List.getElem?_cons_zero, pm_oK_s, true_and]
theorem gf_75_18_4 : pm_WL fqP d 75 pc ((.getfield 18, n) :: r) L (.ref 4 :: S) (mk h) Q = pm_WL fqP d 75 (pc + n) r L (.ref 33 :: S) (mk h) Q := by
  simp only [w_getf, lg_75, lf_7_18, pm_oF_s, hg_4, pm_oO_s, List.getElem?_cons_succ, List.getElem?_cons_zero, pm_oK_s, true_and]
theorem gf_75_12_4 : pm_WL fqP d 75 pc ((.getfield 12, n) :: r) L (.ref 4 :: S) (mk h) Q = pm_WL fqP d 75 (pc + n) r L (.ref 5 :: S) (mk h) Q := by
  simp only [w_getf, lg_75, lf_7_12, pm_oF_s, hg_4, pm_oO_s, List.getElem?_cons_succ, List.getElem?_cons_zero, pm_oK_s, true_and]
theorem iv_75_275_5 {x1 : Nat} : pm_WL fqP d 75 pc ((.invokevirtual 275, n) :: r) L (.ref x1 :: .ref 5 :: S) (mk h) Q = (pm_okW 8 S = true ∧ pm_WC fqP d 12 [.ref 5, .ref x1] (mk h) (pm_kk fqP d 75 (pc + n) r L S Q)) := by
  show _ = (pm_okW 8 S = true ∧ pm_WC fqP d 12 [.ref 5, .ref x1] (mk h) (fun v σ' => pm_WL fqP d 75 (pc + n) r L (pm_pu v S) σ' Q))
  simp only [w_invv, lg_75, lm_7_275, pm_oM_s, pm_oP_s, pm_pop_0, pm_pop_s, pm_rcv_is, hg_5, pm_oO_s, pm_ref1_is, Nat.reduceEqDiff, Nat.zero_ne_one, Nat.succ_ne_self, true_or, or_true, or_false, false_or, or_self, false_implies, true_implies, implies_true, true_and]
theorem iv_75_275_33 {x1 : Nat} : pm_WL fqP d 75 pc ((.invokevirtual 275, n) :: r) L (.ref x1 :: .ref 33 :: S) (mk h) Q = (pm_okW 8 S = true ∧ pm_WC fqP d 12 [.ref 33, .ref x1] (mk h) (pm_kk fqP d 75 (pc + n) r L S Q)) := by
  show _ = (pm_okW 8 S = true ∧ pm_WC fqP d 12 [.ref 33, .ref x1] (mk h) (fun v σ' => pm_WL fqP d 75 (pc + n) r L (pm_pu v S) σ' Q))
  simp only [w_invv, lg_75, lm_7_275, pm_oM_s, pm_oP_s, pm_pop_0, pm_pop_s, pm_rcv_is, hg_33, pm_oO_s, pm_ref1_is, Nat.reduceEqDiff, Nat.zero_ne_one, Nat.succ_ne_self, true_or, or_true, or_false, false_or, or_self, false_implies, true_implies, implies_true, true_and]
theorem pf_75_278_4 {x : Int32} (hb : pm_fit 1 (.int x) = true) : pm_WL fqP d 75 pc ((.putfield 278, n) :: r) L (.int x :: .ref 4 :: S) (mk h) Q = pm_WL fqP d 75 (pc + n) r L S (mk (up h 4 [x])) Q := by
  simp only [w_putf, lg_75, lf_7_278, lt_7_2, pm_oF_s, hg_4, pm_oO_s, List.set_cons_succ, List.set_cons_zero, List.length_cons, List.length_nil, pm_fit_i, hb, Nat.reduceAdd, Nat.reduceLT, Nat.zero_add, Nat.lt_add_one, Bool.false_eq_true, false_implies, true_and, and_true, hs_4]
theorem gf_75_70_5 : pm_WL fqP d 75 pc ((.getfield 70, n) :: r) L (.ref 5 :: S) (mk h) Q = pm_WL fqP d 75 (pc + n) r L (.ref 6 :: S) (mk h) Q := by
  simp only [w_getf, lg_75, lf_7_70, pm_oF_s, hg_5, pm_oO_s, List.getElem?_cons_succ, List.getElem?_cons_zero, pm_oK_s, true_and]
theorem gf_75_70_33 : pm_WL fqP d 75 pc ((.getfield 70, n) :: r) L (.ref 33 :: S) (mk h) Q = pm_WL fqP d 75 (pc + n) r L (.ref 34 :: S) (mk h) Q := by
  simp only [w_getf, lg_75, lf_7_70, pm_oF_s, hg_33, pm_oO_s, List.getElem?_cons_succ, List.getElem?_cons_zero, pm_oK_s, true_and]
theorem gf_75_93_6 : pm_WL fqP d 75 pc ((.getfield 93, n) :: r) L (.ref 6 :: S) (mk h) Q = pm_WL fqP d 75 (pc + n) r L (.ref 11 :: S) (mk h) Q := by
  simp only [w_getf, lg_75, lf_7_93, pm_oF_s, hg_6, pm_oO_s, List.getElem?_cons_succ, List.getElem?_cons_zero, pm_oK_s, true_and]
theorem gf_75_93_34 : pm_WL fqP d 75 pc ((.getfield 93, n) :: r) L (.ref 34 :: S) (mk h) Q = pm_WL fqP d 75 (pc + n) r L (.ref 39 :: S) (mk h) Q := by
  simp only [w_getf, lg_75, lf_7_93, pm_oF_s, hg_34, pm_oO_s, List.getElem?_cons_succ, List.getElem?_cons_zero, pm_oK_s, true_and]
theorem gf_75_93_61 : pm_WL fqP d 75 pc ((.getfield 93, n) :: r) L (.ref 61 :: S) (mk h) Q = pm_WL fqP d 75 (pc + n) r L (.ref 66 :: S) (mk h) Q := by
  simp only [w_getf, lg_75, lf_7_93, pm_oF_s, hg_61, pm_oO_s, List.getElem?_cons_succ, List.getElem?_cons_zero, pm_oK_s, true_and]
theorem gf_75_97_11 : pm_WL fqP d 75 pc ((.getfield 97, n) :: r) L (.ref 11 :: S) (mk h) Q = pm_WL fqP d 75 (pc + n) r L (.int (gd (h 11) 1) :: S) (mk h) Q := by
  simp only [w_getf, lg_75, lf_7_97, pm_oF_s, hg_11, pm_oO_s, List.getElem?_cons_succ, List.getElem?_cons_zero, pm_oK_s, true_and]
theorem gf_75_97_39 : pm_WL fqP d 75 pc ((.getfield 97, n) :: r) L (.ref 39 :: S) (mk h) Q = pm_WL fqP d 75 (pc + n) r L (.int (gd (h 39) 1) :: S) (mk h) Q := by
  simp only [w_getf, lg_75, lf_7_97, pm_oF_s, hg_39, pm_oO_s, List.getElem?_cons_succ, List.getElem?_cons_zero, pm_oK_s, true_and]
theorem gf_75_97_66 : pm_WL fqP d 75 pc ((.getfield 97, n) :: r) L (.ref 66 :: S) (mk h) Q = pm_WL fqP d 75 (pc + n) r L (.int (gd (h 66) 1) :: S) (mk h) Q := by
  simp only [w_getf, lg_75, lf_7_97, pm_oF_s, hg_66, pm_oO_s, List.getElem?_cons_succ, List.getElem?_cons_zero, pm_oK_s, true_and]
theorem gf_76_278_4 : pm_WL fqP d 76 pc ((.getfield 278, n) :: r) L (.ref 4 :: S) (mk h) Q = pm_WL fqP d 76 (pc + n) r L (.int (gd (h 4) 0) :: S) (mk h) Q := by
  simp only [w_getf, lg_76, lf_7_278, pm_oF_s, hg_4, pm_oO_s, List.getElem?_cons_succ, List.getElem?_cons_zero, pm_oK_s, true_and]
theorem gf_76_12_4 : pm_WL fqP d 76 pc ((.getfield 12, n) :: r) L (.ref 4 :: S) (mk h) Q = pm_WL fqP d 76 (pc + n) r L (.ref 5 :: S) (mk h) Q := by
  simp only [w_getf, lg_76, lf_7_12, pm_oF_s, hg_4, pm_oO_s, List.getElem?_cons_succ, List.getElem?_cons_zero, pm_oK_s, true_and]
theorem gf_76_18_4 : pm_WL fqP d 76 pc ((.getfield 18, n) :: r) L (.ref 4 :: S) (mk h) Q = pm_WL fqP d 76 (pc + n) r L (.ref 33 :: S) (mk h) Q := by
  simp only [w_getf, lg_76, lf_7_18, pm_oF_s, hg_4, pm_oO_s, List.getElem?_cons_succ, List.getElem?_cons_zero, pm_oK_s, true_and]
theorem iv_76_275_5 {x1 : Nat} : pm_WL fqP d 76 pc ((.invokevirtual 275, n) :: r) L (.ref x1 :: .ref 5 :: S) (mk h) Q = (pm_okW 8 S = true ∧ pm_WC fqP d 12 [.ref 5, .ref x1] (mk h) (pm_kk fqP d 76 (pc + n) r L S Q)) := by
  show _ = (pm_okW 8 S = true ∧ pm_WC fqP d 12 [.ref 5, .ref x1] (mk h) (fun v σ' => pm_WL fqP d 76 (pc + n) r L (pm_pu v S) σ' Q))
  simp only [w_invv, lg_76, lm_7_275, pm_oM_s, pm_oP_s, pm_pop_0, pm_pop_s, pm_rcv_is, hg_5, pm_oO_s, pm_ref1_is, Nat.reduceEqDiff, Nat.zero_ne_one, Nat.succ_ne_self, true_or, or_true, or_false, false_or, or_self, false_implies, true_implies, implies_true, true_and]
theorem iv_76_275_33 {x1 : Nat} : pm_WL fqP d 76 pc ((.invokevirtual 275, n) :: r) L (.ref x1 :: .ref 33 :: S) (mk h) Q = (pm_okW 8 S = true ∧ pm_WC fqP d 12 [.ref 33, .ref x1] (mk h) (pm_kk fqP d 76 (pc + n) r L S Q)) := by
  show _ = (pm_okW 8 S = true ∧ pm_WC fqP d 12 [.ref 33, .ref x1] (mk h) (fun v σ' => pm_WL fqP d 76 (pc + n) r L (pm_pu v S) σ' Q))
  simp only [w_invv, lg_76, lm_7_275, pm_oM_s, pm_oP_s, pm_pop_0, pm_pop_s, pm_rcv_is, hg_33, pm_oO_s, pm_ref1_is, Nat.reduceEqDiff, Nat.zero_ne_one, Nat.succ_ne_self, true_or, or_true, or_false, false_or, or_self, false_implies, true_implies, implies_true, true_and]
theorem gf_76_70_5 : pm_WL fqP d 76 pc ((.getfield 70, n) :: r) L (.ref 5 :: S) (mk h) Q = pm_WL fqP d 76 (pc + n) r L (.ref 6 :: S) (mk h) Q := by
  simp only [w_getf, lg_76, lf_7_70, pm_oF_s, hg_5, pm_oO_s, List.getElem?_cons_succ, List.getElem?_cons_zero, pm_oK_s, true_and]
theorem gf_76_70_33 : pm_WL fqP d 76 pc ((.getfield 70, n) :: r) L (.ref 33 :: S) (mk h) Q = pm_WL fqP d 76 (pc + n) r L (.ref 34 :: S) (mk h) Q := by
  simp only [w_getf, lg_76, lf_7_70, pm_oF_s, hg_33, pm_oO_s, List.getElem?_cons_succ, List.getElem?_cons_zero, pm_oK_s, true_and]
theorem gf_76_93_6 : pm_WL fqP d 76 pc ((.getfield 93, n) :: r) L (.ref 6 :: S) (mk h) Q = pm_WL fqP d 76 (pc + n) r L (.ref 11 :: S) (mk h) Q := by
  simp only [w_getf, lg_76, lf_7_93, pm_oF_s, hg_6, pm_oO_s, List.getElem?_cons_succ, List.getElem?_cons_zero, pm_oK_s, true_and]
theorem gf_76_93_34 : pm_WL fqP d 76 pc ((.getfield 93, n) :: r) L (.ref 34 :: S) (mk h) Q = pm_WL fqP d 76 (pc + n) r L (.ref 39 :: S) (mk h) Q := by
  simp only [w_getf, lg_76, lf_7_93, pm_oF_s, hg_34, pm_oO_s, List.getElem?_cons_succ, List.getElem?_cons_zero, pm_oK_s, true_and]
theorem gf_76_93_61 : pm_WL fqP d 76 pc ((.getfield 93, n) :: r) L (.ref 61 :: S) (mk h) Q = pm_WL fqP d 76 (pc + n) r L (.ref 66 :: S) (mk h) Q := by
  simp only [w_getf, lg_76, lf_7_93, pm_oF_s, hg_61, pm_oO_s, List.getElem?_cons_succ, List.getElem?_cons_zero, pm_oK_s, true_and]
theorem gf_76_97_11 : pm_WL fqP d 76 pc ((.getfield 97, n) :: r) L (.ref 11 :: S) (mk h) Q = pm_WL fqP d 76 (pc + n) r L (.int (gd (h 11) 1) :: S) (mk h) Q := by
  simp only [w_getf, lg_76, lf_7_97, pm_oF_s, hg_11, pm_oO_s, List.getElem?_cons_succ, List.getElem?_cons_zero, pm_oK_s, true_and]
theorem gf_76_97_39 : pm_WL fqP d 76 pc ((.getfield 97, n) :: r) L (.ref 39 :: S) (mk h) Q = pm_WL fqP d 76 (pc + n) r L (.int (gd (h 39) 1) :: S) (mk h) Q := by
  simp only [w_getf, lg_76, lf_7_97, pm_oF_s, hg_39, pm_oO_s, List.getElem?_cons_succ, List.getElem?_cons_zero, pm_oK_s, true_and]
theorem gf_76_97_66 : pm_WL fqP d 76 pc ((.getfield 97, n) :: r) L (.ref 66 :: S) (mk h) Q = pm_WL fqP d 76 (pc + n) r L (.int (gd (h 66) 1) :: S) (mk h) Q := by
  simp only [w_getf, lg_76, lf_7_97, pm_oF_s, hg_66, pm_oO_s, List.getElem?_cons_succ, List.getElem?_cons_zero, pm_oK_s, true_and]
theorem gf_77_12_4 : pm_WL fqP d 77 pc ((.getfield 12, n) :: r) L (.ref 4 :: S) (mk h) Q = pm_WL fqP d 77 (pc + n) r L (.ref 5 :: S) (mk h) Q := by
  simp only [w_getf, lg_77, lf_7_12, pm_oF_s, hg_4, pm_oO_s, List.getElem?_cons_succ, List.getElem?_cons_zero, pm_oK_s, true_and]
theorem gf_77_70_5 : pm_WL fqP d 77 pc ((.getfield 70, n) :: r) L (.ref 5 :: S) (mk h) Q = pm_WL fqP d 77 (pc + n) r L (.ref 6 :: S) (mk h) Q := by
  simp only [w_getf, lg_77, lf_7_70, pm_oF_s, hg_5, pm_oO_s, List.getElem?_cons_succ, List.getElem?_cons_zero, pm_oK_s, true_and]
theorem gf_77_70_33 : pm_WL fqP d 77 pc ((.getfield 70, n) :: r) L (.ref 33 :: S) (mk h) Q = pm_WL fqP d 77 (pc + n) r L (.ref 34 :: S) (mk h) Q := by
  simp only [w_getf, lg_77, lf_7_70, pm_oF_s, hg_33, pm_oO_s, List.getElem?_cons_succ, List.getElem?_cons_zero, pm_oK_s, true_and]
theorem gf_77_93_6 : pm_WL fqP d 77 pc ((.getfield 93, n) :: r) L (.ref 6 :: S) (mk h) Q = pm_WL fqP d 77 (pc + n) r L (.ref 11 :: S) (mk h) Q := by
  simp only [w_getf, lg_77, lf_7_93, pm_oF_s, hg_6, pm_oO_s, List.getElem?_cons_succ, List.getElem?_cons_zero, pm_oK_s, true_and]
theorem gf_77_93_34 : pm_WL fqP d 77 pc ((.getfield 93, n) :: r) L (.ref 34 :: S) (mk h) Q = pm_WL fqP d 77 (pc + n) r L (.ref 39 :: S) (mk h) Q := by
  simp only [w_getf, lg_77, lf_7_93, pm_oF_s, hg_34, pm_oO_s, List.getElem?_cons_succ, List.getElem?_cons_zero, pm_oK_s, true_and]
theorem gf_77_93_61 : pm_WL fqP d 77 pc ((.getfield 93, n) :: r) L (.ref 61 :: S) (mk h) Q = pm_WL fqP d 77 (pc + n) r L (.ref 66 :: S) (mk h) Q := by
  simp only [w_getf, lg_77, lf_7_93, pm_oF_s, hg_61, pm_oO_s, List.getElem?_cons_succ, List.getElem?_cons_zero, pm_oK_s, true_and]
theorem gf_77_97_11 : pm_WL fqP d 77 pc ((.getfield 97, n) :: r) L (.ref 11 :: S) (mk h) Q = pm_WL fqP d 77 (pc + n) r L (.int (gd (h 11) 1) :: S) (mk h) Q := by
  simp only [w_getf, lg_77, lf_7_97, pm_oF_s, hg_11, pm_oO_s, List.getElem?_cons_succ, List.getElem?_cons_zero, pm_oK_s, true_and]
theorem gf_77_97_39 : pm_WL fqP d 77 pc ((.getfield 97, n) :: r) L (.ref 39 :: S) (mk h) Q = pm_WL fqP d 77 (pc + n) r L (.int (gd (h 39) 1) :: S) (mk h) Q := by
  simp only [w_getf, lg_77, lf_7_97, pm_oF_s, hg_39, pm_oO_s, List.getElem?_cons_succ, List.getElem?_cons_zero, pm_oK_s, true_and]
theorem gf_77_97_66 : pm_WL fqP d 77 pc ((.getfield 97, n) :: r) L (.ref 66 :: S) (mk h) Q = pm_WL fqP d 77 (pc + n) r L (.int (gd (h 66) 1) :: S) (mk h) Q := by
  simp only [w_getf, lg_77, lf_7_97, pm_oF_s, hg_66, pm_oO_s, List.getElem?_cons_succ, List.getElem?_cons_zero, pm_oK_s, true_and]
theorem gf_77_60_5 : pm_WL fqP d 77 pc ((.getfield 60, n) :: r) L (.ref 5 :: S) (mk h) Q = pm_WL fqP d 77 (pc + n) r L (.int (gd (h 5) 1) :: S) (mk h) Q := by
  simp only [w_getf, lg_77, lf_7_60, pm_oF_s, hg_5, pm_oO_s, List.getElem?_cons_succ, List.getElem?_cons_zero, pm_oK_s, true_and]
theorem gf_77_60_33 : pm_WL fqP d 77 pc ((.getfield 60, n) :: r) L (.ref 33 :: S) (mk h) Q = pm_WL fqP d 77 (pc + n) r L (.int (gd (h 33) 1) :: S) (mk h) Q := by
  simp only [w_getf, lg_77, lf_7_60, pm_oF_s, hg_33, pm_oO_s, List.getElem?_cons_succ, List.getElem?_cons_zero, pm_oK_s, true_and]
theorem gf_77_154_6 : pm_WL fqP d 77 pc ((.getfield 154, n) :: r) L (.ref 6 :: S) (mk h) Q = pm_WL fqP d 77 (pc + n) r L (.int (gd (h 6) 0) :: S) (mk h) Q := by
  simp only [w_getf, lg_77, lf_7_154, pm_oF_s, hg_6, pm_oO_s, List.getElem?_cons_succ, List.getElem?_cons_zero, pm_oK_s, true_and]
theorem gf_77_154_34 : pm_WL fqP d 77 pc ((.getfield 154, n) :: r) L (.ref 34 :: S) (mk h) Q = pm_WL fqP d 77 (pc + n) r L (.int (gd (h 34) 0) :: S) (mk h) Q := by
  simp only [w_getf, lg_77, lf_7_154, pm_oF_s, hg_34, pm_oO_s, List.getElem?_cons_succ, List.getElem?_cons_zero, pm_oK_s, true_and]
theorem gf_77_154_61 : pm_WL fqP d 77 pc ((.getfield 154, n) :: r) L (.ref 61 :: S) (mk h) Q = pm_WL fqP d 77 (pc + n) r L (.int (gd (h 61) 0) :: S) (mk h) Q := by
  simp only [w_getf, lg_77, lf_7_154, pm_oF_s, hg_61, pm_oO_s, List.getElem?_cons_succ, List.getElem?_cons_zero, pm_oK_s, true_and]
theorem gf_77_204_5 : pm_WL fqP d 77 pc ((.getfield 204, n) :: r) L (.ref 5 :: S) (mk h) Q = pm_WL fqP d 77 (pc + n) r L (.ref 21 :: S) (mk h) Q := by
  simp only [w_getf, lg_77, lf_7_204, pm_oF_s, hg_5, pm_oO_s, List.getElem?_cons_succ, List.getElem?_cons_zero, pm_oK_s, true_and]
theorem gf_77_204_33 : pm_WL fqP d 77 pc ((.getfield 204, n) :: r) L (.ref 33 :: S) (mk h) Q = pm_WL fqP d 77 (pc + n) r L (.ref 49 :: S) (mk h) Q := by
  simp only [w_getf, lg_77, lf_7_204, pm_oF_s, hg_33, pm_oO_s, List.getElem?_cons_succ, List.getElem?_cons_zero, pm_oK_s, true_and]
theorem gf_77_208_21 : pm_WL fqP d 77 pc ((.getfield 208, n) :: r) L (.ref 21 :: S) (mk h) Q = pm_WL fqP d 77 (pc + n) r L (.int (gd (h 21) 0) :: S) (mk h) Q := by
  simp only [w_getf, lg_77, lf_7_208, pm_oF_s, hg_21, pm_oO_s, List.getElem?_cons_succ, List.getElem?_cons_zero, pm_oK_s, true_and]
theorem gf_77_208_25 : pm_WL fqP d 77 pc ((.getfield 208, n) :: r) L (.ref 25 :: S) (mk h) Q = pm_WL fqP d 77 (pc + n) r L (.int (gd (h 25) 0) :: S) (mk h) Q := by
  simp only [w_getf, lg_77, lf_7_208, pm_oF_s, hg_25, pm_oO_s, List.getElem?_cons_succ, List.getElem?_cons_zero, pm_oK_s, true_and]
theorem gf_77_208_29 : pm_WL fqP d 77 pc ((.getfield 208, n) :: r) L (.ref 29 :: S) (mk h) Q = pm_WL fqP d 77 (pc + n) r L (.int (gd (h 29) 0) :: S) (mk h) Q := by
  simp only [w_getf, lg_77, lf_7_208, pm_oF_s, hg_29, pm_oO_s, List.getElem?_cons_succ, List.getElem?_cons_zero, pm_oK_s, true_and]
theorem gf_77_208_49 : pm_WL fqP d 77 pc ((.getfield 208, n) :: r) L (.ref 49 :: S) (mk h) Q = pm_WL fqP d 77 (pc + n) r L (.int (gd (h 49) 0) :: S) (mk h) Q := by
  simp only [w_getf, lg_77, lf_7_208, pm_oF_s, hg_49, pm_oO_s, List.getElem?_cons_succ, List.getElem?_cons_zero, pm_oK_s, true_and]
theorem gf_77_208_53 : pm_WL fqP d 77 pc ((.getfield 208, n) :: r) L (.ref 53 :: S) (mk h) Q = pm_WL fqP d 77 (pc + n) r L (.int (gd (h 53) 0) :: S) (mk h) Q := by
  simp only [w_getf, lg_77, lf_7_208, pm_oF_s, hg_53, pm_oO_s, List.getElem?_cons_succ, List.getElem?_cons_zero, pm_oK_s, true_and]
theorem gf_77_208_57 : pm_WL fqP d 77 pc ((.getfield 208, n) :: r) L (.ref 57 :: S) (mk h) Q = pm_WL fqP d 77 (pc + n) r L (.int (gd (h 57) 0) :: S) (mk h) Q := by
  simp only [w_getf, lg_77, lf_7_208, pm_oF_s, hg_57, pm_oO_s, List.getElem?_cons_succ, List.getElem?_cons_zero, pm_oK_s, true_and]
theorem gf_77_239_5 : pm_WL fqP d 77 pc ((.getfield 239, n) :: r) L (.ref 5 :: S) (mk h) Q = pm_WL fqP d 77 (pc + n) r L (.ref 25 :: S) (mk h) Q := by
  simp only [w_getf, lg_77, lf_7_239, pm_oF_s, hg_5, pm_oO_s, List.getElem?_cons_succ, List.getElem?_cons_zero, pm_oK_s, true_and]
theorem gf_77_239_33 : pm_WL fqP d 77 pc ((.getfield 239, n) :: r) L (.ref 33 :: S) (mk h) Q = pm_WL fqP d 77 (pc + n) r L (.ref 53 :: S) (mk h) Q := by
  simp only [w_getf, lg_77, lf_7_239, pm_oF_s, hg_33, pm_oO_s, List.getElem?_cons_succ, List.getElem?_cons_zero, pm_oK_s, true_and]
theorem gf_77_252_5 : pm_WL fqP d 77 pc ((.getfield 252, n) :: r) L (.ref 5 :: S) (mk h) Q = pm_WL fqP d 77 (pc + n) r L (.ref 29 :: S) (mk h) Q := by
  simp only [w_getf, lg_77, lf_7_252, pm_oF_s, hg_5, pm_oO_s, List.getElem?_cons_succ, List.getElem?_cons_zero, pm_oK_s, true_and]
theorem gf_77_252_33 : pm_WL fqP d 77 pc ((.getfield 252, n) :: r) L (.ref 33 :: S) (mk h) Q = pm_WL fqP d 77 (pc + n) r L (.ref 57 :: S) (mk h) Q := by
  simp only [w_getf, lg_77, lf_7_252, pm_oF_s, hg_33, pm_oO_s, List.getElem?_cons_succ, List.getElem?_cons_zero, pm_oK_s, true_and]
theorem gf_77_49_5 : pm_WL fqP d 77 pc ((.getfield 49, n) :: r) L (.ref 5 :: S) (mk h) Q = pm_WL fqP d 77 (pc + n) r L (.int (gd (h 5) 0) :: S) (mk h) Q := by
  simp only [w_getf, lg_77, lf_7_49, pm_oF_s, hg_5, pm_oO_s, List.getElem?_cons_succ, List.getElem?_cons_zero, pm_oK_s, true_and]
theorem gf_77_49_33 : pm_WL fqP d 77 pc ((.getfield 49, n) :: r) L (.ref 33 :: S) (mk h) Q = pm_WL fqP d 77 (pc + n) r L (.int (gd (h 33) 0) :: S) (mk h) Q := by
  simp only [w_getf, lg_77, lf_7_49, pm_oF_s, hg_33, pm_oO_s, List.getElem?_cons_succ, List.getElem?_cons_zero, pm_oK_s, true_and]
theorem gf_77_38_4 : pm_WL fqP d 77 pc ((.getfield 38, n) :: r) L (.ref 4 :: S) (mk h) Q = pm_WL fqP d 77 (pc + n) r L (.ref 81 :: S) (mk h) Q := by
  simp only [w_getf, lg_77, lf_7_38, pm_oF_s, hg_4, pm_oO_s, List.getElem?_cons_succ, List.getElem?_cons_zero, pm_oK_s, true_and]
theorem gf_77_255_81 : pm_WL fqP d 77 pc ((.getfield 255, n) :: r) L (.ref 81 :: S) (mk h) Q = pm_WL fqP d 77 (pc + n) r L (.int (gd (h 81) 0) :: S) (mk h) Q := by
  simp only [w_getf, lg_77, lf_7_255, pm_oF_s, hg_81, pm_oO_s, List.getElem?_cons_succ, List.getElem?_cons_zero, pm_oK_s, true_and]
theorem gf_78_24_4 : pm_WL fqP d 78 pc ((.getfield 24, n) :: r) L (.ref 4 :: S) (mk h) Q = pm_WL fqP d 78 (pc + n) r L (.ref 61 :: S) (mk h) Q := by
  simp only [w_getf, lg_78, lf_7_24, pm_oF_s, hg_4, pm_oO_s, List.getElem?_cons_succ, List.getElem?_cons_zero, pm_oK_s, true_and]
theorem gf_78_12_4 : pm_WL fqP d 78 pc ((.getfield 12, n) :: r) L (.ref 4 :: S) (mk h) Q = pm_WL fqP d 78 (pc + n) r L (.ref 5 :: S) (mk h) Q := by
  simp only [w_getf, lg_78, lf_7_12, pm_oF_s, hg_4, pm_oO_s, List.getElem?_cons_succ, List.getElem?_cons_zero, pm_oK_s, true_and]
theorem gf_78_70_5 : pm_WL fqP d 78 pc ((.getfield 70, n) :: r) L (.ref 5 :: S) (mk h) Q = pm_WL fqP d 78 (pc + n) r L (.ref 6 :: S) (mk h) Q := by
  simp only [w_getf, lg_78, lf_7_70, pm_oF_s, hg_5, pm_oO_s, List.getElem?_cons_succ, List.getElem?_cons_zero, pm_oK_s, true_and]
theorem gf_78_70_33 : pm_WL fqP d 78 pc ((.getfield 70, n) :: r) L (.ref 33 :: S) (mk h) Q = pm_WL fqP d 78 (pc + n) r L (.ref 34 :: S) (mk h) Q := by
  simp only [w_getf, lg_78, lf_7_70, pm_oF_s, hg_33, pm_oO_s, List.getElem?_cons_succ, List.getElem?_cons_zero, pm_oK_s, true_and]
theorem iv_78_182_6 {x1 : Nat} : pm_WL fqP d 78 pc ((.invokevirtual 182, n) :: r) L (.ref x1 :: .ref 6 :: S) (mk h) Q = (pm_okW 8 S = true ∧ pm_WC fqP d 38 [.ref 6, .ref x1] (mk h) (pm_kk fqP d 78 (pc + n) r L S Q)) := by
  show _ = (pm_okW 8 S = true ∧ pm_WC fqP d 38 [.ref 6, .ref x1] (mk h) (fun v σ' => pm_WL fqP d 78 (pc + n) r L (pm_pu v S) σ' Q))
  simp only [w_invv, lg_78, lm_7_182, pm_oM_s, pm_oP_s, pm_pop_0, pm_pop_s, pm_rcv_is, hg_6, pm_oO_s, pm_ref1_is, Nat.reduceEqDiff, Nat.zero_ne_one, Nat.succ_ne_self, true_or, or_true, or_false, false_or, or_self, false_implies, true_implies, implies_true, true_and]
theorem iv_78_182_34 {x1 : Nat} : pm_WL fqP d 78 pc ((.invokevirtual 182, n) :: r) L (.ref x1 :: .ref 34 :: S) (mk h) Q = (pm_okW 8 S = true ∧ pm_WC fqP d 38 [.ref 34, .ref x1] (mk h) (pm_kk fqP d 78 (pc + n) r L S Q)) := by
  show _ = (pm_okW 8 S = true ∧ pm_WC fqP d 38 [.ref 34, .ref x1] (mk h) (fun v σ' => pm_WL fqP d 78 (pc + n) r L (pm_pu v S) σ' Q))
  simp only [w_invv, lg_78, lm_7_182, pm_oM_s, pm_oP_s, pm_pop_0, pm_pop_s, pm_rcv_is, hg_34, pm_oO_s, pm_ref1_is, Nat.reduceEqDiff, Nat.zero_ne_one, Nat.succ_ne_self, true_or, or_true, or_false, false_or, or_self, false_implies, true_implies, implies_true, true_and]
theorem iv_78_182_61 {x1 : Nat} : pm_WL fqP d 78 pc ((.invokevirtual 182, n) :: r) L (.ref x1 :: .ref 61 :: S) (mk h) Q = (pm_okW 8 S = true ∧ pm_WC fqP d 38 [.ref 61, .ref x1] (mk h) (pm_kk fqP d 78 (pc + n) r L S Q)) := by
  show _ = (pm_okW 8 S = true ∧ pm_WC fqP d 38 [.ref 61, .ref x1] (mk h) (fun v σ' => pm_WL fqP d 78 (pc + n) r L (pm_pu v S) σ' Q))
  simp only [w_invv, lg_78, lm_7_182, pm_oM_s, pm_oP_s, pm_pop_0, pm_pop_s, pm_rcv_is, hg_61, pm_oO_s, pm_ref1_is, Nat.reduceEqDiff, Nat.zero_ne_one, Nat.succ_ne_self, true_or, or_true, or_false, false_or, or_self, false_implies, true_implies, implies_true, true_and]
theorem gf_78_166_6 : pm_WL fqP d 78 pc ((.getfield 166, n) :: r) L (.ref 6 :: S) (mk h) Q = pm_WL fqP d 78 (pc + n) r L (.int (gd (h 6) 1) :: S) (mk h) Q := by
  simp only [w_getf, lg_78, lf_7_166, pm_oF_s, hg_6, pm_oO_s, List.getElem?_cons_succ, List.getElem?_cons_zero, pm_oK_s, true_and]
theorem gf_78_166_34 : pm_WL fqP d 78 pc ((.getfield 166, n) :: r) L (.ref 34 :: S) (mk h) Q = pm_WL fqP d 78 (pc + n) r L (.int (gd (h 34) 1) :: S) (mk h) Q := by
  simp only [w_getf, lg_78, lf_7_166, pm_oF_s, hg_34, pm_oO_s, List.getElem?_cons_succ, List.getElem?_cons_zero, pm_oK_s, true_and]
theorem gf_78_166_61 : pm_WL fqP d 78 pc ((.getfield 166, n) :: r) L (.ref 61 :: S) (mk h) Q = pm_WL fqP d 78 (pc + n) r L (.int (gd (h 61) 1) :: S) (mk h) Q := by
  simp only [w_getf, lg_78, lf_7_166, pm_oF_s, hg_61, pm_oO_s, List.getElem?_cons_succ, List.getElem?_cons_zero, pm_oK_s, true_and]
theorem iv_78_185_6 : pm_WL fqP d 78 pc ((.invokevirtual 185, n) :: r) L (.ref 6 :: S) (mk h) Q = (pm_okW 8 S = true ∧ pm_WC fqP d 32 [.ref 6] (mk h) (pm_kk fqP d 78 (pc + n) r L S Q)) := by
  show _ = (pm_okW 8 S = true ∧ pm_WC fqP d 32 [.ref 6] (mk h) (fun v σ' => pm_WL fqP d 78 (pc + n) r L (pm_pu v S) σ' Q))
  simp only [w_invv, lg_78, lm_7_185, pm_oM_s, pm_oP_s, pm_pop_0, pm_pop_s, pm_rcv_is, hg_6, pm_oO_s, pm_ref1_is, Nat.reduceEqDiff, Nat.zero_ne_one, Nat.succ_ne_self, true_or, or_true, or_false, false_or, or_self, false_implies, true_implies, implies_true, true_and]
theorem iv_78_185_34 : pm_WL fqP d 78 pc ((.invokevirtual 185, n) :: r) L (.ref 34 :: S) (mk h) Q = (pm_okW 8 S = true ∧ pm_WC fqP d 32 [.ref 34] (mk h) (pm_kk fqP d 78 (pc + n) r L S Q)) := by
  show _ = (pm_okW 8 S = true ∧ pm_WC fqP d 32 [.ref 34] (mk h) (fun v σ' => pm_WL fqP d 78 (pc + n) r L (pm_pu v S) σ' Q))
  simp only [w_invv, lg_78, lm_7_185, pm_oM_s, pm_oP_s, pm_pop_0, pm_pop_s, pm_rcv_is, hg_34, pm_oO_s, pm_ref1_is, Nat.reduceEqDiff, Nat.zero_ne_one, Nat.succ_ne_self, true_or, or_true, or_false, false_or, or_self, false_implies, true_implies, implies_true, true_and]
theorem iv_78_185_61 : pm_WL fqP d 78 pc ((.invokevirtual 185, n) :: r) L (.ref 61 :: S) (mk h) Q = (pm_okW 8 S = true ∧ pm_WC fqP d 32 [.ref 61] (mk h) (pm_kk fqP d 78 (pc + n) r L S Q)) := by
  show _ = (pm_okW 8 S = true ∧ pm_WC fqP d 32 [.ref 61] (mk h) (fun v σ' => pm_WL fqP d 78 (pc + n) r L (pm_pu v S) σ' Q))
  simp only [w_invv, lg_78, lm_7_185, pm_oM_s, pm_oP_s, pm_pop_0, pm_pop_s, pm_rcv_is, hg_61, pm_oO_s, pm_ref1_is, Nat.reduceEqDiff, Nat.zero_ne_one, Nat.succ_ne_self, true_or, or_true, or_false, false_or, or_self, false_implies, true_implies, implies_true, true_and]
theorem gf_79_24_4 : pm_WL fqP d 79 pc ((.getfield 24, n) :: r) L (.ref 4 :: S) (mk h) Q = pm_WL fqP d 79 (pc + n) r L (.ref 61 :: S) (mk h) Q := by
  simp only [w_getf, lg_79, lf_7_24, pm_oF_s, hg_4, pm_oO_s, List.getElem?_cons_succ, List.getElem?_cons_zero, pm_oK_s, true_and]
theorem gf_79_12_4 : pm_WL fqP d 79 pc ((.getfield 12, n) :: r) L (.ref 4 :: S) (mk h) Q = pm_WL fqP d 79 (pc + n) r L (.ref 5 :: S) (mk h) Q := by
  simp only [w_getf, lg_79, lf_7_12, pm_oF_s, hg_4, pm_oO_s, List.getElem?_cons_succ, List.getElem?_cons_zero, pm_oK_s, true_and]
theorem gf_79_70_5 : pm_WL fqP d 79 pc ((.getfield 70, n) :: r) L (.ref 5 :: S) (mk h) Q = pm_WL fqP d 79 (pc + n) r L (.ref 6 :: S) (mk h) Q := by
  simp only [w_getf, lg_79, lf_7_70, pm_oF_s, hg_5, pm_oO_s, List.getElem?_cons_succ, List.getElem?_cons_zero, pm_oK_s, true_and]
theorem gf_79_70_33 : pm_WL fqP d 79 pc ((.getfield 70, n) :: r) L (.ref 33 :: S) (mk h) Q = pm_WL fqP d 79 (pc + n) r L (.ref 34 :: S) (mk h) Q := by
  simp only [w_getf, lg_79, lf_7_70, pm_oF_s, hg_33, pm_oO_s, List.getElem?_cons_succ, List.getElem?_cons_zero, pm_oK_s, true_and]
theorem iv_79_182_6 {x1 : Nat} : pm_WL fqP d 79 pc ((.invokevirtual 182, n) :: r) L (.ref x1 :: .ref 6 :: S) (mk h) Q = (pm_okW 8 S = true ∧ pm_WC fqP d 38 [.ref 6, .ref x1] (mk h) (pm_kk fqP d 79 (pc + n) r L S Q)) := by
  show _ = (pm_okW 8 S = true ∧ pm_WC fqP d 38 [.ref 6, .ref x1] (mk h) (fun v σ' => pm_WL fqP d 79 (pc + n) r L (pm_pu v S) σ' Q))
  simp only [w_invv, lg_79, lm_7_182, pm_oM_s, pm_oP_s, pm_pop_0, pm_pop_s, pm_rcv_is, hg_6, pm_oO_s, pm_ref1_is, Nat.reduceEqDiff, Nat.zero_ne_one, Nat.succ_ne_self, true_or, or_true, or_false, false_or, or_self, false_implies, true_implies, implies_true, true_and]
theorem iv_79_182_34 {x1 : Nat} : pm_WL fqP d 79 pc ((.invokevirtual 182, n) :: r) L (.ref x1 :: .ref 34 :: S) (mk h) Q = (pm_okW 8 S = true ∧ pm_WC fqP d 38 [.ref 34, .ref x1] (mk h) (pm_kk fqP d 79 (pc + n) r L S Q)) := by
  show _ = (pm_okW 8 S = true ∧ pm_WC fqP d 38 [.ref 34, .ref x1] (mk h) (fun v σ' => pm_WL fqP d 79 (pc + n) r L (pm_pu v S) σ' Q))
  simp only [w_invv, lg_79, lm_7_182, pm_oM_s, pm_oP_s, pm_pop_0, pm_pop_s, pm_rcv_is, hg_34, pm_oO_s, pm_ref1_is, Nat.reduceEqDiff, Nat.zero_ne_one, Nat.succ_ne_self, true_or, or_true, or_false, false_or, or_self, false_implies, true_implies, implies_true, true_and]
theorem iv_79_182_61 {x1 : Nat} : pm_WL fqP d 79 pc ((.invokevirtual 182, n) :: r) L (.ref x1 :: .ref 61 :: S) (mk h) Q = (pm_okW 8 S = true ∧ pm_WC fqP d 38 [.ref 61, .ref x1] (mk h) (pm_kk fqP d 79 (pc + n) r L S Q)) := by
  show _ = (pm_okW 8 S = true ∧ pm_WC fqP d 38 [.ref 61, .ref x1] (mk h) (fun v σ' => pm_WL fqP d 79 (pc + n) r L (pm_pu v S) σ' Q))
  simp only [w_invv, lg_79, lm_7_182, pm_oM_s, pm_oP_s, pm_pop_0, pm_pop_s, pm_rcv_is, hg_61, pm_oO_s, pm_ref1_is, Nat.reduceEqDiff, Nat.zero_ne_one, Nat.succ_ne_self, true_or, or_true, or_false, false_or, or_self, false_implies, true_implies, implies_true, true_and]
theorem gf_79_42_4 : pm_WL fqP d 79 pc ((.getfield 42, n) :: r) L (.ref 4 :: S) (mk h) Q = pm_WL fqP d 79 (pc + n) r L (.ref 83 :: S) (mk h) Q := by
  simp only [w_getf, lg_79, lf_7_42, pm_oF_s, hg_4, pm_oO_s, List.getElem?_cons_succ, List.getElem?_cons_zero, pm_oK_s, true_and]
theorem iv_79_56 {x0 : Nat} {x1 : Int32} {x2 : Int32} : pm_WL fqP d 79 pc ((.invokestatic 56, n) :: r) L (.int x2 :: .int x1 :: .ref x0 :: S) σ Q = (pm_okW 8 S = true ∧ pm_WC fqP d 92 [.ref x0, .int x1, .int x2] σ (pm_kk fqP d 79 (pc + n) r L S Q)) := by
  show _ = (pm_okW 8 S = true ∧ pm_WC fqP d 92 [.ref x0, .int x1, .int x2] σ (fun v σ' => pm_WL fqP d 79 (pc + n) r L (pm_pu v S) σ' Q))
  simp only [w_invs, lg_79, lm_7_56, pm_oM_s, pm_oP_s, pm_pop_0, pm_pop_s, pm_ref1_is, Nat.reduceEqDiff, Nat.zero_ne_one, Nat.succ_ne_self, true_or, or_true, or_false, false_or, or_self, false_implies, true_implies, implies_true, true_and]
theorem gf_79_163_6 : pm_WL fqP d 79 pc ((.getfield 163, n) :: r) L (.ref 6 :: S) (mk h) Q = pm_WL fqP d 79 (pc + n) r L (.ref 18 :: S) (mk h) Q := by
  simp only [w_getf, lg_79, lf_7_163, pm_oF_s, hg_6, pm_oO_s, List.getElem?_cons_succ, List.getElem?_cons_zero, pm_oK_s, true_and]
theorem gf_79_163_34 : pm_WL fqP d 79 pc ((.getfield 163, n) :: r) L (.ref 34 :: S) (mk h) Q = pm_WL fqP d 79 (pc + n) r L (.ref 46 :: S) (mk h) Q := by
  simp only [w_getf, lg_79, lf_7_163, pm_oF_s, hg_34, pm_oO_s, List.getElem?_cons_succ, List.getElem?_cons_zero, pm_oK_s, true_and]
theorem gf_79_163_61 : pm_WL fqP d 79 pc ((.getfield 163, n) :: r) L (.ref 61 :: S) (mk h) Q = pm_WL fqP d 79 (pc + n) r L (.ref 73 :: S) (mk h) Q := by
  simp only [w_getf, lg_79, lf_7_163, pm_oF_s, hg_61, pm_oO_s, List.getElem?_cons_succ, List.getElem?_cons_zero, pm_oK_s, true_and]
theorem iv_79_282 {x0 : Nat} {x1 : Nat} : pm_WL fqP d 79 pc ((.invokestatic 282, n) :: r) L (.ref x1 :: .ref x0 :: S) σ Q = (pm_okW 8 S = true ∧ pm_WC fqP d 94 [.ref x0, .ref x1] σ (pm_kk fqP d 79 (pc + n) r L S Q)) := by
  show _ = (pm_okW 8 S = true ∧ pm_WC fqP d 94 [.ref x0, .ref x1] σ (fun v σ' => pm_WL fqP d 79 (pc + n) r L (pm_pu v S) σ' Q))
  simp only [w_invs, lg_79, lm_7_282, pm_oM_s, pm_oP_s, pm_pop_0, pm_pop_s, pm_ref1_is, Nat.reduceEqDiff, Nat.zero_ne_one, Nat.succ_ne_self, true_or, or_true, or_false, false_or, or_self, false_implies, true_implies, implies_true, true_and]
theorem pf_79_154_6 {x : Int32} : pm_WL fqP d 79 pc ((.putfield 154, n) :: r) L (.int x :: .ref 6 :: S) (mk h) Q = pm_WL fqP d 79 (pc + n) r L S (mk (up h 6 [x, gd (h 6) 1, gd (h 6) 2])) Q := by
  simp only [w_putf, lg_79, lf_7_154, lt_5_4, pm_oF_s, hg_6, pm_oO_s, List.set_cons_succ, List.set_cons_zero, List.length_cons, List.length_nil, pm_fit_i, Nat.reduceAdd, Nat.reduceLT, Nat.zero_add, Nat.lt_add_one, Bool.false_eq_true, false_implies, true_and, and_true, hs_6]
theorem pf_79_154_34 {x : Int32} : pm_WL fqP d 79 pc ((.putfield 154, n) :: r) L (.int x :: .ref 34 :: S) (mk h) Q = pm_WL fqP d 79 (pc + n) r L S (mk (up h 34 [x, gd (h 34) 1, gd (h 34) 2])) Q := by
  simp only [w_putf, lg_79, lf_7_154, lt_5_4, pm_oF_s, hg_34, pm_oO_s, List.set_cons_succ, List.set_cons_zero, List.length_cons, List.length_nil, pm_fit_i, Nat.reduceAdd, Nat.reduceLT, Nat.zero_add, Nat.lt_add_one, Bool.false_eq_true, false_implies, true_and, and_true, hs_34]
theorem pf_79_154_61 {x : Int32} : pm_WL fqP d 79 pc ((.putfield 154, n) :: r) L (.int x :: .ref 61 :: S) (mk h) Q = pm_WL fqP d 79 (pc + n) r L S (mk (up h 61 [x, gd (h 61) 1, gd (h 61) 2])) Q := by
  simp only [w_putf, lg_79, lf_7_154, lt_5_4, pm_oF_s, hg_61, pm_oO_s, List.set_cons_succ, List.set_cons_zero, List.length_cons, List.length_nil, pm_fit_i, Nat.reduceAdd, Nat.reduceLT, Nat.zero_add, Nat.lt_add_one, Bool.false_eq_true, false_implies, true_and, and_true, hs_61]
theorem iv_79_286_6 {x1 : Nat} : pm_WL fqP d 79 pc ((.invokevirtual 286, n) :: r) L (.ref x1 :: .ref 6 :: S) (mk h) Q = (pm_okW 8 S = true ∧ pm_WC fqP d 37 [.ref 6, .ref x1] (mk h) (pm_kk fqP d 79 (pc + n) r L S Q)) := by
  show _ = (pm_okW 8 S = true ∧ pm_WC fqP d 37 [.ref 6, .ref x1] (mk h) (fun v σ' => pm_WL fqP d 79 (pc + n) r L (pm_pu v S) σ' Q))
  simp only [w_invv, lg_79, lm_7_286, pm_oM_s, pm_oP_s, pm_pop_0, pm_pop_s, pm_rcv_is, hg_6, pm_oO_s, pm_ref1_is, Nat.reduceEqDiff, Nat.zero_ne_one, Nat.succ_ne_self, true_or, or_true, or_false, false_or, or_self, false_implies, true_implies, implies_true, true_and]
theorem iv_79_286_34 {x1 : Nat} : pm_WL fqP d 79 pc ((.invokevirtual 286, n) :: r) L (.ref x1 :: .ref 34 :: S) (mk h) Q = (pm_okW 8 S = true ∧ pm_WC fqP d 37 [.ref 34, .ref x1] (mk h) (pm_kk fqP d 79 (pc + n) r L S Q)) := by
  show _ = (pm_okW 8 S = true ∧ pm_WC fqP d 37 [.ref 34, .ref x1] (mk h) (fun v σ' => pm_WL fqP d 79 (pc + n) r L (pm_pu v S) σ' Q))
  simp only [w_invv, lg_79, lm_7_286, pm_oM_s, pm_oP_s, pm_pop_0, pm_pop_s, pm_rcv_is, hg_34, pm_oO_s, pm_ref1_is, Nat.reduceEqDiff, Nat.zero_ne_one, Nat.succ_ne_self, true_or, or_true, or_false, false_or, or_self, false_implies, true_implies, implies_true, true_and]
theorem iv_79_286_61 {x1 : Nat} : pm_WL fqP d 79 pc ((.invokevirtual 286, n) :: r) L (.ref x1 :: .ref 61 :: S) (mk h) Q = (pm_okW 8 S = true ∧ pm_WC fqP d 37 [.ref 61, .ref x1] (mk h) (pm_kk fqP d 79 (pc + n) r L S Q)) := by
  show _ = (pm_okW 8 S = true ∧ pm_WC fqP d 37 [.ref 61, .ref x1] (mk h) (fun v σ' => pm_WL fqP d 79 (pc + n) r L (pm_pu v S) σ' Q))
  simp only [w_invv, lg_79, lm_7_286, pm_oM_s, pm_oP_s, pm_pop_0, pm_pop_s, pm_rcv_is, hg_61, pm_oO_s, pm_ref1_is, Nat.reduceEqDiff, Nat.zero_ne_one, Nat.succ_ne_self, true_or, or_true, or_false, false_or, or_self, false_implies, true_implies, implies_true, true_and]
theorem iv_79_185_6 : pm_WL fqP d 79 pc ((.invokevirtual 185, n) :: r) L (.ref 6 :: S) (mk h) Q = (pm_okW 8 S = true ∧ pm_WC fqP d 32 [.ref 6] (mk h) (pm_kk fqP d 79 (pc + n) r L S Q)) := by
  show _ = (pm_okW 8 S = true ∧ pm_WC fqP d 32 [.ref 6] (mk h) (fun v σ' => pm_WL fqP d 79 (pc + n) r L (pm_pu v S) σ' Q))
  simp only [w_invv, lg_79, lm_7_185, pm_oM_s, pm_oP_s, pm_pop_0, pm_pop_s, pm_rcv_is, hg_6, pm_oO_s, pm_ref1_is, Nat.reduceEqDiff, Nat.zero_ne_one, Nat.succ_ne_self, true_or, or_true, or_false, false_or, or_self, false_implies, true_implies, implies_true, true_and]
theorem iv_79_185_34 : pm_WL fqP d 79 pc ((.invokevirtual 185, n) :: r) L (.ref 34 :: S) (mk h) Q = (pm_okW 8 S = true ∧ pm_WC fqP d 32 [.ref 34] (mk h) (pm_kk fqP d 79 (pc + n) r L S Q)) := by
  show _ = (pm_okW 8 S = true ∧ pm_WC fqP d 32 [.ref 34] (mk h) (fun v σ' => pm_WL fqP d 79 (pc + n) r L (pm_pu v S) σ' Q))
  simp only [w_invv, lg_79, lm_7_185, pm_oM_s, pm_oP_s, pm_pop_0, pm_pop_s, pm_rcv_is, hg_34, pm_oO_s, pm_ref1_is, Nat.reduceEqDiff, Nat.zero_ne_one, Nat.succ_ne_self, true_or, or_true, or_false, false_or, or_self, false_implies, true_implies, implies_true, true_and]
theorem iv_79_185_61 : pm_WL fqP d 79 pc ((.invokevirtual 185, n) :: r) L (.ref 61 :: S) (mk h) Q = (pm_okW 8 S = true ∧ pm_WC fqP d 32 [.ref 61] (mk h) (pm_kk fqP d 79 (pc + n) r L S Q)) := by
  show _ = (pm_okW 8 S = true ∧ pm_WC fqP d 32 [.ref 61] (mk h) (fun v σ' => pm_WL fqP d 79 (pc + n) r L (pm_pu v S) σ' Q))
  simp only [w_invv, lg_79, lm_7_185, pm_oM_s, pm_oP_s, pm_pop_0, pm_pop_s, pm_rcv_is, hg_61, pm_oO_s, pm_ref1_is, Nat.reduceEqDiff, Nat.zero_ne_one, Nat.succ_ne_self, true_or, or_true, or_false, false_or, or_self, false_implies, true_implies, implies_true, true_and]
theorem gf_79_166_6 : pm_WL fqP d 79 pc ((.getfield 166, n) :: r) L (.ref 6 :: S) (mk h) Q = pm_WL fqP d 79 (pc + n) r L (.int (gd (h 6) 1) :: S) (mk h) Q := by
  simp only [w_getf, lg_79, lf_7_166, pm_oF_s, hg_6, pm_oO_s, List.getElem?_cons_succ, List.getElem?_cons_zero, pm_oK_s, true_and]
theorem gf_79_166_34 : pm_WL fqP d 79 pc ((.getfield 166, n) :: r) L (.ref 34 :: S) (mk h) Q = pm_WL fqP d 79 (pc + n) r L (.int (gd (h 34) 1) :: S) (mk h) Q := by
  simp only [w_getf, lg_79, lf_7_166, pm_oF_s, hg_34, pm_oO_s, List.getElem?_cons_succ, List.getElem?_cons_zero, pm_oK_s, true_and]
theorem gf_79_166_61 : pm_WL fqP d 79 pc ((.getfield 166, n) :: r) L (.ref 61 :: S) (mk h) Q = pm_WL fqP d 79 (pc + n) r L (.int (gd (h 61) 1) :: S) (mk h) Q := by
  simp only [w_getf, lg_79, lf_7_166, pm_oF_s, hg_61, pm_oO_s, List.getElem?_cons_succ, List.getElem?_cons_zero, pm_oK_s, true_and]
theorem iv_79_195 {x0 : Int32} : pm_WL fqP d 79 pc ((.invokestatic 195, n) :: r) L (.int x0 :: S) σ Q = (pm_okW 8 S = true ∧ pm_WC fqP d 185 [.int x0] σ (pm_kk fqP d 79 (pc + n) r L S Q)) := by
  show _ = (pm_okW 8 S = true ∧ pm_WC fqP d 185 [.int x0] σ (fun v σ' => pm_WL fqP d 79 (pc + n) r L (pm_pu v S) σ' Q))
  simp only [w_invs, lg_79, lm_7_195, pm_oM_s, pm_oP_s, pm_pop_0, pm_pop_s, pm_ref1_is, Nat.reduceEqDiff, Nat.zero_ne_one, Nat.succ_ne_self, true_or, or_true, or_false, false_or, or_self, false_implies, true_implies, implies_true, true_and]
theorem gf_79_46_4 : pm_WL fqP d 79 pc ((.getfield 46, n) :: r) L (.ref 4 :: S) (mk h) Q = pm_WL fqP d 79 (pc + n) r L (.ref 84 :: S) (mk h) Q := by
  simp only [w_getf, lg_79, lf_7_46, pm_oF_s, hg_4, pm_oO_s, List.getElem?_cons_succ, List.getElem?_cons_zero, pm_oK_s, true_and]
theorem iv_79_289 {x0 : Nat} : pm_WL fqP d 79 pc ((.invokestatic 289, n) :: r) L (.ref x0 :: S) σ Q = (pm_okW 8 S = true ∧ pm_WC fqP d 98 [.ref x0] σ (pm_kk fqP d 79 (pc + n) r L S Q)) := by
  show _ = (pm_okW 8 S = true ∧ pm_WC fqP d 98 [.ref x0] σ (fun v σ' => pm_WL fqP d 79 (pc + n) r L (pm_pu v S) σ' Q))
  simp only [w_invs, lg_79, lm_7_289, pm_oM_s, pm_oP_s, pm_pop_0, pm_pop_s, pm_ref1_is, Nat.reduceEqDiff, Nat.zero_ne_one, Nat.succ_ne_self, true_or, or_true, or_false, false_or, or_self, false_implies, true_implies, implies_true, true_and]
theorem gf_80_24_4 : pm_WL fqP d 80 pc ((.getfield 24, n) :: r) L (.ref 4 :: S) (mk h) Q = pm_WL fqP d 80 (pc + n) r L (.ref 61 :: S) (mk h) Q := by
  simp only [w_getf, lg_80, lf_7_24, pm_oF_s, hg_4, pm_oO_s, List.getElem?_cons_succ, List.getElem?_cons_zero, pm_oK_s, true_and]
theorem gf_80_12_4 : pm_WL fqP d 80 pc ((.getfield 12, n) :: r) L (.ref 4 :: S) (mk h) Q = pm_WL fqP d 80 (pc + n) r L (.ref 5 :: S) (mk h) Q := by
  simp only [w_getf, lg_80, lf_7_12, pm_oF_s, hg_4, pm_oO_s, List.getElem?_cons_succ, List.getElem?_cons_zero, pm_oK_s, true_and]
theorem gf_80_70_5 : pm_WL fqP d 80 pc ((.getfield 70, n) :: r) L (.ref 5 :: S) (mk h) Q = pm_WL fqP d 80 (pc + n) r L (.ref 6 :: S) (mk h) Q := by
  simp only [w_getf, lg_80, lf_7_70, pm_oF_s, hg_5, pm_oO_s, List.getElem?_cons_succ, List.getElem?_cons_zero, pm_oK_s, true_and]
theorem gf_80_70_33 : pm_WL fqP d 80 pc ((.getfield 70, n) :: r) L (.ref 33 :: S) (mk h) Q = pm_WL fqP d 80 (pc + n) r L (.ref 34 :: S) (mk h) Q := by
  simp only [w_getf, lg_80, lf_7_70, pm_oF_s, hg_33, pm_oO_s, List.getElem?_cons_succ, List.getElem?_cons_zero, pm_oK_s, true_and]
theorem iv_80_182_6 {x1 : Nat} : pm_WL fqP d 80 pc ((.invokevirtual 182, n) :: r) L (.ref x1 :: .ref 6 :: S) (mk h) Q = (pm_okW 8 S = true ∧ pm_WC fqP d 38 [.ref 6, .ref x1] (mk h) (pm_kk fqP d 80 (pc + n) r L S Q)) := by
  show _ = (pm_okW 8 S = true ∧ pm_WC fqP d 38 [.ref 6, .ref x1] (mk h) (fun v σ' => pm_WL fqP d 80 (pc + n) r L (pm_pu v S) σ' Q))
  simp only [w_invv, lg_80, lm_7_182, pm_oM_s, pm_oP_s, pm_pop_0, pm_pop_s, pm_rcv_is, hg_6, pm_oO_s, pm_ref1_is, Nat.reduceEqDiff, Nat.zero_ne_one, Nat.succ_ne_self, true_or, or_true, or_false, false_or, or_self, false_implies, true_implies, implies_true, true_and]
theorem iv_80_182_34 {x1 : Nat} : pm_WL fqP d 80 pc ((.invokevirtual 182, n) :: r) L (.ref x1 :: .ref 34 :: S) (mk h) Q = (pm_okW 8 S = true ∧ pm_WC fqP d 38 [.ref 34, .ref x1] (mk h) (pm_kk fqP d 80 (pc + n) r L S Q)) := by
  show _ = (pm_okW 8 S = true ∧ pm_WC fqP d 38 [.ref 34, .ref x1] (mk h) (fun v σ' => pm_WL fqP d 80 (pc + n) r L (pm_pu v S) σ' Q))
  simp only [w_invv, lg_80, lm_7_182, pm_oM_s, pm_oP_s, pm_pop_0, pm_pop_s, pm_rcv_is, hg_34, pm_oO_s, pm_ref1_is, Nat.reduceEqDiff, Nat.zero_ne_one, Nat.succ_ne_self, true_or, or_true, or_false, false_or, or_self, false_implies, true_implies, implies_true, true_and]
theorem iv_80_182_61 {x1 : Nat} : pm_WL fqP d 80 pc ((.invokevirtual 182, n) :: r) L (.ref x1 :: .ref 61 :: S) (mk h) Q = (pm_okW 8 S = true ∧ pm_WC fqP d 38 [.ref 61, .ref x1] (mk h) (pm_kk fqP d 80 (pc + n) r L S Q)) := by
  show _ = (pm_okW 8 S = true ∧ pm_WC fqP d 38 [.ref 61, .ref x1] (mk h) (fun v σ' => pm_WL fqP d 80 (pc + n) r L (pm_pu v S) σ' Q))
  simp only [w_invv, lg_80, lm_7_182, pm_oM_s, pm_oP_s, pm_pop_0, pm_pop_s, pm_rcv_is, hg_61, pm_oO_s, pm_ref1_is, Nat.reduceEqDiff, Nat.zero_ne_one, Nat.succ_ne_self, true_or, or_true, or_false, false_or, or_self, false_implies, true_implies, implies_true, true_and]
theorem gf_80_151_6 : pm_WL fqP d 80 pc ((.getfield 151, n) :: r) L (.ref 6 :: S) (mk h) Q = pm_WL fqP d 80 (pc + n) r L (.ref 17 :: S) (mk h) Q := by
  simp only [w_getf, lg_80, lf_7_151, pm_oF_s, hg_6, pm_oO_s, List.getElem?_cons_succ, List.getElem?_cons_zero, pm_oK_s, true_and]
theorem gf_80_151_34 : pm_WL fqP d 80 pc ((.getfield 151, n) :: r) L (.ref 34 :: S) (mk h) Q = pm_WL fqP d 80 (pc + n) r L (.ref 45 :: S) (mk h) Q := by
  simp only [w_getf, lg_80, lf_7_151, pm_oF_s, hg_34, pm_oO_s, List.getElem?_cons_succ, List.getElem?_cons_zero, pm_oK_s, true_and]
theorem gf_80_151_61 : pm_WL fqP d 80 pc ((.getfield 151, n) :: r) L (.ref 61 :: S) (mk h) Q = pm_WL fqP d 80 (pc + n) r L (.ref 72 :: S) (mk h) Q := by
  simp only [w_getf, lg_80, lf_7_151, pm_oF_s, hg_61, pm_oO_s, List.getElem?_cons_succ, List.getElem?_cons_zero, pm_oK_s, true_and]
theorem gf_80_169_6 : pm_WL fqP d 80 pc ((.getfield 169, n) :: r) L (.ref 6 :: S) (mk h) Q = pm_WL fqP d 80 (pc + n) r L (.int (gd (h 6) 2) :: S) (mk h) Q := by
  simp only [w_getf, lg_80, lf_7_169, pm_oF_s, hg_6, pm_oO_s, List.getElem?_cons_succ, List.getElem?_cons_zero, pm_oK_s, true_and]
theorem gf_80_169_34 : pm_WL fqP d 80 pc ((.getfield 169, n) :: r) L (.ref 34 :: S) (mk h) Q = pm_WL fqP d 80 (pc + n) r L (.int (gd (h 34) 2) :: S) (mk h) Q := by
  simp only [w_getf, lg_80, lf_7_169, pm_oF_s, hg_34, pm_oO_s, List.getElem?_cons_succ, List.getElem?_cons_zero, pm_oK_s, true_and]
theorem gf_80_169_61 : pm_WL fqP d 80 pc ((.getfield 169, n) :: r) L (.ref 61 :: S) (mk h) Q = pm_WL fqP d 80 (pc + n) r L (.int (gd (h 61) 2) :: S) (mk h) Q := by
  simp only [w_getf, lg_80, lf_7_169, pm_oF_s, hg_61, pm_oO_s, List.getElem?_cons_succ, List.getElem?_cons_zero, pm_oK_s, true_and]
theorem iv_80_56 {x0 : Nat} {x1 : Int32} {x2 : Int32} : pm_WL fqP d 80 pc ((.invokestatic 56, n) :: r) L (.int x2 :: .int x1 :: .ref x0 :: S) σ Q = (pm_okW 8 S = true ∧ pm_WC fqP d 92 [.ref x0, .int x1, .int x2] σ (pm_kk fqP d 80 (pc + n) r L S Q)) := by
  show _ = (pm_okW 8 S = true ∧ pm_WC fqP d 92 [.ref x0, .int x1, .int x2] σ (fun v σ' => pm_WL fqP d 80 (pc + n) r L (pm_pu v S) σ' Q))
  simp only [w_invs, lg_80, lm_7_56, pm_oM_s, pm_oP_s, pm_pop_0, pm_pop_s, pm_ref1_is, Nat.reduceEqDiff, Nat.zero_ne_one, Nat.succ_ne_self, true_or, or_true, or_false, false_or, or_self, false_implies, true_implies, implies_true, true_and]
theorem iv_80_286_6 {x1 : Nat} : pm_WL fqP d 80 pc ((.invokevirtual 286, n) :: r) L (.ref x1 :: .ref 6 :: S) (mk h) Q = (pm_okW 8 S = true ∧ pm_WC fqP d 37 [.ref 6, .ref x1] (mk h) (pm_kk fqP d 80 (pc + n) r L S Q)) := by
  show _ = (pm_okW 8 S = true ∧ pm_WC fqP d 37 [.ref 6, .ref x1] (mk h) (fun v σ' => pm_WL fqP d 80 (pc + n) r L (pm_pu v S) σ' Q))
  simp only [w_invv, lg_80, lm_7_286, pm_oM_s, pm_oP_s, pm_pop_0, pm_pop_s, pm_rcv_is, hg_6, pm_oO_s, pm_ref1_is, Nat.reduceEqDiff, Nat.zero_ne_one, Nat.succ_ne_self, true_or, or_true, or_false, false_or, or_self, false_implies, true_implies, implies_true, true_and]
theorem iv_80_286_34 {x1 : Nat} : pm_WL fqP d 80 pc ((.invokevirtual 286, n) :: r) L (.ref x1 :: .ref 34 :: S) (mk h) Q = (pm_okW 8 S = true ∧ pm_WC fqP d 37 [.ref 34, .ref x1] (mk h) (pm_kk fqP d 80 (pc + n) r L S Q)) := by
  show _ = (pm_okW 8 S = true ∧ pm_WC fqP d 37 [.ref 34, .ref x1] (mk h) (fun v σ' => pm_WL fqP d 80 (pc + n) r L (pm_pu v S) σ' Q))
  simp only [w_invv, lg_80, lm_7_286, pm_oM_s, pm_oP_s, pm_pop_0, pm_pop_s, pm_rcv_is, hg_34, pm_oO_s, pm_ref1_is, Nat.reduceEqDiff, Nat.zero_ne_one, Nat.succ_ne_self, true_or, or_true, or_false, false_or, or_self, false_implies, true_implies, implies_true, true_and]
theorem iv_80_286_61 {x1 : Nat} : pm_WL fqP d 80 pc ((.invokevirtual 286, n) :: r) L (.ref x1 :: .ref 61 :: S) (mk h) Q = (pm_okW 8 S = true ∧ pm_WC fqP d 37 [.ref 61, .ref x1] (mk h) (pm_kk fqP d 80 (pc + n) r L S Q)) := by
  show _ = (pm_okW 8 S = true ∧ pm_WC fqP d 37 [.ref 61, .ref x1] (mk h) (fun v σ' => pm_WL fqP d 80 (pc + n) r L (pm_pu v S) σ' Q))
  simp only [w_invv, lg_80, lm_7_286, pm_oM_s, pm_oP_s, pm_pop_0, pm_pop_s, pm_rcv_is, hg_61, pm_oO_s, pm_ref1_is, Nat.reduceEqDiff, Nat.zero_ne_one, Nat.succ_ne_self, true_or, or_true, or_false, false_or, or_self, false_implies, true_implies, implies_true, true_and]
theorem iv_80_185_6 : pm_WL fqP d 80 pc ((.invokevirtual 185, n) :: r) L (.ref 6 :: S) (mk h) Q = (pm_okW 8 S = true ∧ pm_WC fqP d 32 [.ref 6] (mk h) (pm_kk fqP d 80 (pc + n) r L S Q)) := by
  show _ = (pm_okW 8 S = true ∧ pm_WC fqP d 32 [.ref 6] (mk h) (fun v σ' => pm_WL fqP d 80 (pc + n) r L (pm_pu v S) σ' Q))
  simp only [w_invv, lg_80, lm_7_185, pm_oM_s, pm_oP_s, pm_pop_0, pm_pop_s, pm_rcv_is, hg_6, pm_oO_s, pm_ref1_is, Nat.reduceEqDiff, Nat.zero_ne_one, Nat.succ_ne_self, true_or, or_true, or_false, false_or, or_self, false_implies, true_implies, implies_true, true_and]
theorem iv_80_185_34 : pm_WL fqP d 80 pc ((.invokevirtual 185, n) :: r) L (.ref 34 :: S) (mk h) Q = (pm_okW 8 S = true ∧ pm_WC fqP d 32 [.ref 34] (mk h) (pm_kk fqP d 80 (pc + n) r L S Q)) := by
  show _ = (pm_okW 8 S = true ∧ pm_WC fqP d 32 [.ref 34] (mk h) (fun v σ' => pm_WL fqP d 80 (pc + n) r L (pm_pu v S) σ' Q))
  simp only [w_invv, lg_80, lm_7_185, pm_oM_s, pm_oP_s, pm_pop_0, pm_pop_s, pm_rcv_is, hg_34, pm_oO_s, pm_ref1_is, Nat.reduceEqDiff, Nat.zero_ne_one, Nat.succ_ne_self, true_or, or_true, or_false, false_or, or_self, false_implies, true_implies, implies_true, true_and]
theorem iv_80_185_61 : pm_WL fqP d 80 pc ((.invokevirtual 185, n) :: r) L (.ref 61 :: S) (mk h) Q = (pm_okW 8 S = true ∧ pm_WC fqP d 32 [.ref 61] (mk h) (pm_kk fqP d 80 (pc + n) r L S Q)) := by
  show _ = (pm_okW 8 S = true ∧ pm_WC fqP d 32 [.ref 61] (mk h) (fun v σ' => pm_WL fqP d 80 (pc + n) r L (pm_pu v S) σ' Q))
  simp only [w_invv, lg_80, lm_7_185, pm_oM_s, pm_oP_s, pm_pop_0, pm_pop_s, pm_rcv_is, hg_61, pm_oO_s, pm_ref1_is, Nat.reduceEqDiff, Nat.zero_ne_one, Nat.succ_ne_self, true_or, or_true, or_false, false_or, or_self, false_implies, true_implies, implies_true, true_and]
theorem gf_80_166_6 : pm_WL fqP d 80 pc ((.getfield 166, n) :: r) L (.ref 6 :: S) (mk h) Q = pm_WL fqP d 80 (pc + n) r L (.int (gd (h 6) 1) :: S) (mk h) Q := by
  simp only [w_getf, lg_80, lf_7_166, pm_oF_s, hg_6, pm_oO_s, List.getElem?_cons_succ, List.getElem?_cons_zero, pm_oK_s, true_and]
theorem gf_80_166_34 : pm_WL fqP d 80 pc ((.getfield 166, n) :: r) L (.ref 34 :: S) (mk h) Q = pm_WL fqP d 80 (pc + n) r L (.int (gd (h 34) 1) :: S) (mk h) Q := by
  simp only [w_getf, lg_80, lf_7_166, pm_oF_s, hg_34, pm_oO_s, List.getElem?_cons_succ, List.getElem?_cons_zero, pm_oK_s, true_and]
theorem gf_80_166_61 : pm_WL fqP d 80 pc ((.getfield 166, n) :: r) L (.ref 61 :: S) (mk h) Q = pm_WL fqP d 80 (pc + n) r L (.int (gd (h 61) 1) :: S) (mk h) Q := by
  simp only [w_getf, lg_80, lf_7_166, pm_oF_s, hg_61, pm_oO_s, List.getElem?_cons_succ, List.getElem?_cons_zero, pm_oK_s, true_and]
theorem iv_80_129 {x0 : Int32} {x1 : Int32} : pm_WL fqP d 80 pc ((.invokestatic 129, n) :: r) L (.int x1 :: .int x0 :: S) σ Q = (pm_okW 8 S = true ∧ pm_WC fqP d 95 [.int x0, .int x1] σ (pm_kk fqP d 80 (pc + n) r L S Q)) := by
  show _ = (pm_okW 8 S = true ∧ pm_WC fqP d 95 [.int x0, .int x1] σ (fun v σ' => pm_WL fqP d 80 (pc + n) r L (pm_pu v S) σ' Q))
  simp only [w_invs, lg_80, lm_7_129, pm_oM_s, pm_oP_s, pm_pop_0, pm_pop_s, pm_ref1_is, Nat.reduceEqDiff, Nat.zero_ne_one, Nat.succ_ne_self, true_or, or_true, or_false, false_or, or_self, false_implies, true_implies, implies_true, true_and]
theorem gf_81_24_4 : pm_WL fqP d 81 pc ((.getfield 24, n) :: r) L (.ref 4 :: S) (mk h) Q = pm_WL fqP d 81 (pc + n) r L (.ref 61 :: S) (mk h) Q := by
  simp only [w_getf, lg_81, lf_7_24, pm_oF_s, hg_4, pm_oO_s, List.getElem?_cons_succ, List.getElem?_cons_zero, pm_oK_s, true_and]
theorem gf_81_93_6 : pm_WL fqP d 81 pc ((.getfield 93, n) :: r) L (.ref 6 :: S) (mk h) Q = pm_WL fqP d 81 (pc + n) r L (.ref 11 :: S) (mk h) Q := by
  simp only [w_getf, lg_81, lf_7_93, pm_oF_s, hg_6, pm_oO_s, List.getElem?_cons_succ, List.getElem?_cons_zero, pm_oK_s, true_and]
theorem gf_81_93_34 : pm_WL fqP d 81 pc ((.getfield 93, n) :: r) L (.ref 34 :: S) (mk h) Q = pm_WL fqP d 81 (pc + n) r L (.ref 39 :: S) (mk h) Q := by
  simp only [w_getf, lg_81, lf_7_93, pm_oF_s, hg_34, pm_oO_s, List.getElem?_cons_succ, List.getElem?_cons_zero, pm_oK_s, true_and]
theorem gf_81_93_61 : pm_WL fqP d 81 pc ((.getfield 93, n) :: r) L (.ref 61 :: S) (mk h) Q = pm_WL fqP d 81 (pc + n) r L (.ref 66 :: S) (mk h) Q := by
  simp only [w_getf, lg_81, lf_7_93, pm_oF_s, hg_61, pm_oO_s, List.getElem?_cons_succ, List.getElem?_cons_zero, pm_oK_s, true_and]
theorem gf_81_12_4 : pm_WL fqP d 81 pc ((.getfield 12, n) :: r) L (.ref 4 :: S) (mk h) Q = pm_WL fqP d 81 (pc + n) r L (.ref 5 :: S) (mk h) Q := by
  simp only [w_getf, lg_81, lf_7_12, pm_oF_s, hg_4, pm_oO_s, List.getElem?_cons_succ, List.getElem?_cons_zero, pm_oK_s, true_and]
theorem gf_81_70_5 : pm_WL fqP d 81 pc ((.getfield 70, n) :: r) L (.ref 5 :: S) (mk h) Q = pm_WL fqP d 81 (pc + n) r L (.ref 6 :: S) (mk h) Q := by
  simp only [w_getf, lg_81, lf_7_70, pm_oF_s, hg_5, pm_oO_s, List.getElem?_cons_succ, List.getElem?_cons_zero, pm_oK_s, true_and]
theorem gf_81_70_33 : pm_WL fqP d 81 pc ((.getfield 70, n) :: r) L (.ref 33 :: S) (mk h) Q = pm_WL fqP d 81 (pc + n) r L (.ref 34 :: S) (mk h) Q := by
  simp only [w_getf, lg_81, lf_7_70, pm_oF_s, hg_33, pm_oO_s, List.getElem?_cons_succ, List.getElem?_cons_zero, pm_oK_s, true_and]
theorem gf_81_126_11 : pm_WL fqP d 81 pc ((.getfield 126, n) :: r) L (.ref 11 :: S) (mk h) Q = pm_WL fqP d 81 (pc + n) r L (.int (gd (h 11) 0) :: S) (mk h) Q := by
  simp only [w_getf, lg_81, lf_7_126, pm_oF_s, hg_11, pm_oO_s, List.getElem?_cons_succ, List.getElem?_cons_zero, pm_oK_s, true_and]
theorem gf_81_126_39 : pm_WL fqP d 81 pc ((.getfield 126, n) :: r) L (.ref 39 :: S) (mk h) Q = pm_WL fqP d 81 (pc + n) r L (.int (gd (h 39) 0) :: S) (mk h) Q := by
  simp only [w_getf, lg_81, lf_7_126, pm_oF_s, hg_39, pm_oO_s, List.getElem?_cons_succ, List.getElem?_cons_zero, pm_oK_s, true_and]
theorem gf_81_126_66 : pm_WL fqP d 81 pc ((.getfield 126, n) :: r) L (.ref 66 :: S) (mk h) Q = pm_WL fqP d 81 (pc + n) r L (.int (gd (h 66) 0) :: S) (mk h) Q := by
  simp only [w_getf, lg_81, lf_7_126, pm_oF_s, hg_66, pm_oO_s, List.getElem?_cons_succ, List.getElem?_cons_zero, pm_oK_s, true_and]
theorem pf_81_126_11 {x : Int32} : pm_WL fqP d 81 pc ((.putfield 126, n) :: r) L (.int x :: .ref 11 :: S) (mk h) Q = pm_WL fqP d 81 (pc + n) r L S (mk (up h 11 [x, gd (h 11) 1])) Q := by
  simp only [w_putf, lg_81, lf_7_126, lt_6_5, pm_oF_s, hg_11, pm_oO_s, List.set_cons_succ, List.set_cons_zero, List.length_cons, List.length_nil, pm_fit_i, Nat.reduceAdd, Nat.reduceLT, Nat.zero_add, Nat.lt_add_one, Bool.false_eq_true, false_implies, true_and, and_true, hs_11]
theorem pf_81_126_39 {x : Int32} : pm_WL fqP d 81 pc ((.putfield 126, n) :: r) L (.int x :: .ref 39 :: S) (mk h) Q = pm_WL fqP d 81 (pc + n) r L S (mk (up h 39 [x, gd (h 39) 1])) Q := by
  simp only [w_putf, lg_81, lf_7_126, lt_6_5, pm_oF_s, hg_39, pm_oO_s, List.set_cons_succ, List.set_cons_zero, List.length_cons, List.length_nil, pm_fit_i, Nat.reduceAdd, Nat.reduceLT, Nat.zero_add, Nat.lt_add_one, Bool.false_eq_true, false_implies, true_and, and_true, hs_39]
theorem pf_81_126_66 {x : Int32} : pm_WL fqP d 81 pc ((.putfield 126, n) :: r) L (.int x :: .ref 66 :: S) (mk h) Q = pm_WL fqP d 81 (pc + n) r L S (mk (up h 66 [x, gd (h 66) 1])) Q := by
  simp only [w_putf, lg_81, lf_7_126, lt_6_5, pm_oF_s, hg_66, pm_oO_s, List.set_cons_succ, List.set_cons_zero, List.length_cons, List.length_nil, pm_fit_i, Nat.reduceAdd, Nat.reduceLT, Nat.zero_add, Nat.lt_add_one, Bool.false_eq_true, false_implies, true_and, and_true, hs_66]
theorem iv_81_286_6 {x1 : Nat} : pm_WL fqP d 81 pc ((.invokevirtual 286, n) :: r) L (.ref x1 :: .ref 6 :: S) (mk h) Q = (pm_okW 8 S = true ∧ pm_WC fqP d 37 [.ref 6, .ref x1] (mk h) (pm_kk fqP d 81 (pc + n) r L S Q)) := by
  show _ = (pm_okW 8 S = true ∧ pm_WC fqP d 37 [.ref 6, .ref x1] (mk h) (fun v σ' => pm_WL fqP d 81 (pc + n) r L (pm_pu v S) σ' Q))
  simp only [w_invv, lg_81, lm_7_286, pm_oM_s, pm_oP_s, pm_pop_0, pm_pop_s, pm_rcv_is, hg_6, pm_oO_s, pm_ref1_is, Nat.reduceEqDiff, Nat.zero_ne_one, Nat.succ_ne_self, true_or, or_true, or_false, false_or, or_self, false_implies, true_implies, implies_true, true_and]
theorem iv_81_286_34 {x1 : Nat} : pm_WL fqP d 81 pc ((.invokevirtual 286, n) :: r) L (.ref x1 :: .ref 34 :: S) (mk h) Q = (pm_okW 8 S = true ∧ pm_WC fqP d 37 [.ref 34, .ref x1] (mk h) (pm_kk fqP d 81 (pc + n) r L S Q)) := by
  show _ = (pm_okW 8 S = true ∧ pm_WC fqP d 37 [.ref 34, .ref x1] (mk h) (fun v σ' => pm_WL fqP d 81 (pc + n) r L (pm_pu v S) σ' Q))
  simp only [w_invv, lg_81, lm_7_286, pm_oM_s, pm_oP_s, pm_pop_0, pm_pop_s, pm_rcv_is, hg_34, pm_oO_s, pm_ref1_is, Nat.reduceEqDiff, Nat.zero_ne_one, Nat.succ_ne_self, true_or, or_true, or_false, false_or, or_self, false_implies, true_implies, implies_true, true_and]
theorem iv_81_286_61 {x1 : Nat} : pm_WL fqP d 81 pc ((.invokevirtual 286, n) :: r) L (.ref x1 :: .ref 61 :: S) (mk h) Q = (pm_okW 8 S = true ∧ pm_WC fqP d 37 [.ref 61, .ref x1] (mk h) (pm_kk fqP d 81 (pc + n) r L S Q)) := by
  show _ = (pm_okW 8 S = true ∧ pm_WC fqP d 37 [.ref 61, .ref x1] (mk h) (fun v σ' => pm_WL fqP d 81 (pc + n) r L (pm_pu v S) σ' Q))
  simp only [w_invv, lg_81, lm_7_286, pm_oM_s, pm_oP_s, pm_pop_0, pm_pop_s, pm_rcv_is, hg_61, pm_oO_s, pm_ref1_is, Nat.reduceEqDiff, Nat.zero_ne_one, Nat.succ_ne_self, true_or, or_true, or_false, false_or, or_self, false_implies, true_implies, implies_true, true_and]
theorem iv_81_185_6 : pm_WL fqP d 81 pc ((.invokevirtual 185, n) :: r) L (.ref 6 :: S) (mk h) Q = (pm_okW 8 S = true ∧ pm_WC fqP d 32 [.ref 6] (mk h) (pm_kk fqP d 81 (pc + n) r L S Q)) := by
  show _ = (pm_okW 8 S = true ∧ pm_WC fqP d 32 [.ref 6] (mk h) (fun v σ' => pm_WL fqP d 81 (pc + n) r L (pm_pu v S) σ' Q))
  simp only [w_invv, lg_81, lm_7_185, pm_oM_s, pm_oP_s, pm_pop_0, pm_pop_s, pm_rcv_is, hg_6, pm_oO_s, pm_ref1_is, Nat.reduceEqDiff, Nat.zero_ne_one, Nat.succ_ne_self, true_or, or_true, or_false, false_or, or_self, false_implies, true_implies, implies_true, true_and]
theorem iv_81_185_34 : pm_WL fqP d 81 pc ((.invokevirtual 185, n) :: r) L (.ref 34 :: S) (mk h) Q = (pm_okW 8 S = true ∧ pm_WC fqP d 32 [.ref 34] (mk h) (pm_kk fqP d 81 (pc + n) r L S Q)) := by
  show _ = (pm_okW 8 S = true ∧ pm_WC fqP d 32 [.ref 34] (mk h) (fun v σ' => pm_WL fqP d 81 (pc + n) r L (pm_pu v S) σ' Q))
  simp only [w_invv, lg_81, lm_7_185, pm_oM_s, pm_oP_s, pm_pop_0, pm_pop_s, pm_rcv_is, hg_34, pm_oO_s, pm_ref1_is, Nat.reduceEqDiff, Nat.zero_ne_one, Nat.succ_ne_self, true_or, or_true, or_false, false_or, or_self, false_implies, true_implies, implies_true, true_and]
theorem iv_81_185_61 : pm_WL fqP d 81 pc ((.invokevirtual 185, n) :: r) L (.ref 61 :: S) (mk h) Q = (pm_okW 8 S = true ∧ pm_WC fqP d 32 [.ref 61] (mk h) (pm_kk fqP d 81 (pc + n) r L S Q)) := by
  show _ = (pm_okW 8 S = true ∧ pm_WC fqP d 32 [.ref 61] (mk h) (fun v σ' => pm_WL fqP d 81 (pc + n) r L (pm_pu v S) σ' Q))
  simp only [w_invv, lg_81, lm_7_185, pm_oM_s, pm_oP_s, pm_pop_0, pm_pop_s, pm_rcv_is, hg_61, pm_oO_s, pm_ref1_is, Nat.reduceEqDiff, Nat.zero_ne_one, Nat.succ_ne_self, true_or, or_true, or_false, false_or, or_self, false_implies, true_implies, implies_true, true_and]
theorem gf_81_166_6 : pm_WL fqP d 81 pc ((.getfield 166, n) :: r) L (.ref 6 :: S) (mk h) Q = pm_WL fqP d 81 (pc + n) r L (.int (gd (h 6) 1) :: S) (mk h) Q := by
  simp only [w_getf, lg_81, lf_7_166, pm_oF_s, hg_6, pm_oO_s, List.getElem?_cons_succ, List.getElem?_cons_zero, pm_oK_s, true_and]
theorem gf_81_166_34 : pm_WL fqP d 81 pc ((.getfield 166, n) :: r) L (.ref 34 :: S) (mk h) Q = pm_WL fqP d 81 (pc + n) r L (.int (gd (h 34) 1) :: S) (mk h) Q := by
  simp only [w_getf, lg_81, lf_7_166, pm_oF_s, hg_34, pm_oO_s, List.getElem?_cons_succ, List.getElem?_cons_zero, pm_oK_s, true_and]
theorem gf_81_166_61 : pm_WL fqP d 81 pc ((.getfield 166, n) :: r) L (.ref 61 :: S) (mk h) Q = pm_WL fqP d 81 (pc + n) r L (.int (gd (h 61) 1) :: S) (mk h) Q := by
  simp only [w_getf, lg_81, lf_7_166, pm_oF_s, hg_61, pm_oO_s, List.getElem?_cons_succ, List.getElem?_cons_zero, pm_oK_s, true_and]
theorem iv_81_129 {x0 : Int32} {x1 : Int32} : pm_WL fqP d 81 pc ((.invokestatic 129, n) :: r) L (.int x1 :: .int x0 :: S) σ Q = (pm_okW 8 S = true ∧ pm_WC fqP d 95 [.int x0, .int x1] σ (pm_kk fqP d 81 (pc + n) r L S Q)) := by
  show _ = (pm_okW 8 S = true ∧ pm_WC fqP d 95 [.int x0, .int x1] σ (fun v σ' => pm_WL fqP d 81 (pc + n) r L (pm_pu v S) σ' Q))
  simp only [w_invs, lg_81, lm_7_129, pm_oM_s, pm_oP_s, pm_pop_0, pm_pop_s, pm_ref1_is, Nat.reduceEqDiff, Nat.zero_ne_one, Nat.succ_ne_self, true_or, or_true, or_false, false_or, or_self, false_implies, true_implies, implies_true, true_and]
theorem iv_82_56 {x0 : Nat} {x1 : Int32} {x2 : Int32} : pm_WL fqP d 82 pc ((.invokestatic 56, n) :: r) L (.int x2 :: .int x1 :: .ref x0 :: S) σ Q = (pm_okW 8 S = true ∧ pm_WC fqP d 92 [.ref x0, .int x1, .int x2] σ (pm_kk fqP d 82 (pc + n) r L S Q)) := by
  show _ = (pm_okW 8 S = true ∧ pm_WC fqP d 92 [.ref x0, .int x1, .int x2] σ (fun v σ' => pm_WL fqP d 82 (pc + n) r L (pm_pu v S) σ' Q))
  simp only [w_invs, lg_82, lm_7_56, pm_oM_s, pm_oP_s, pm_pop_0, pm_pop_s, pm_ref1_is, Nat.reduceEqDiff, Nat.zero_ne_one, Nat.succ_ne_self, true_or, or_true, or_false, false_or, or_self, false_implies, true_implies, implies_true, true_and]
theorem gf_82_24_4 : pm_WL fqP d 82 pc ((.getfield 24, n) :: r) L (.ref 4 :: S) (mk h) Q = pm_WL fqP d 82 (pc + n) r L (.ref 61 :: S) (mk h) Q := by
  simp only [w_getf, lg_82, lf_7_24, pm_oF_s, hg_4, pm_oO_s, List.getElem?_cons_succ, List.getElem?_cons_zero, pm_oK_s, true_and]
theorem gf_82_12_4 : pm_WL fqP d 82 pc ((.getfield 12, n) :: r) L (.ref 4 :: S) (mk h) Q = pm_WL fqP d 82 (pc + n) r L (.ref 5 :: S) (mk h) Q := by
  simp only [w_getf, lg_82, lf_7_12, pm_oF_s, hg_4, pm_oO_s, List.getElem?_cons_succ, List.getElem?_cons_zero, pm_oK_s, true_and]
theorem gf_82_70_5 : pm_WL fqP d 82 pc ((.getfield 70, n) :: r) L (.ref 5 :: S) (mk h) Q = pm_WL fqP d 82 (pc + n) r L (.ref 6 :: S) (mk h) Q := by
  simp only [w_getf, lg_82, lf_7_70, pm_oF_s, hg_5, pm_oO_s, List.getElem?_cons_succ, List.getElem?_cons_zero, pm_oK_s, true_and]
theorem gf_82_70_33 : pm_WL fqP d 82 pc ((.getfield 70, n) :: r) L (.ref 33 :: S) (mk h) Q = pm_WL fqP d 82 (pc + n) r L (.ref 34 :: S) (mk h) Q := by
  simp only [w_getf, lg_82, lf_7_70, pm_oF_s, hg_33, pm_oO_s, List.getElem?_cons_succ, List.getElem?_cons_zero, pm_oK_s, true_and]
theorem iv_82_286_6 {x1 : Nat} : pm_WL fqP d 82 pc ((.invokevirtual 286, n) :: r) L (.ref x1 :: .ref 6 :: S) (mk h) Q = (pm_okW 8 S = true ∧ pm_WC fqP d 37 [.ref 6, .ref x1] (mk h) (pm_kk fqP d 82 (pc + n) r L S Q)) := by
  show _ = (pm_okW 8 S = true ∧ pm_WC fqP d 37 [.ref 6, .ref x1] (mk h) (fun v σ' => pm_WL fqP d 82 (pc + n) r L (pm_pu v S) σ' Q))
  simp only [w_invv, lg_82, lm_7_286, pm_oM_s, pm_oP_s, pm_pop_0, pm_pop_s, pm_rcv_is, hg_6, pm_oO_s, pm_ref1_is, Nat.reduceEqDiff, Nat.zero_ne_one, Nat.succ_ne_self, true_or, or_true, or_false, false_or, or_self, false_implies, true_implies, implies_true, true_and]
theorem iv_82_286_34 {x1 : Nat} : pm_WL fqP d 82 pc ((.invokevirtual 286, n) :: r) L (.ref x1 :: .ref 34 :: S) (mk h) Q = (pm_okW 8 S = true ∧ pm_WC fqP d 37 [.ref 34, .ref x1] (mk h) (pm_kk fqP d 82 (pc + n) r L S Q)) := by
  show _ = (pm_okW 8 S = true ∧ pm_WC fqP d 37 [.ref 34, .ref x1] (mk h) (fun v σ' => pm_WL fqP d 82 (pc + n) r L (pm_pu v S) σ' Q))
  simp only [w_invv, lg_82, lm_7_286, pm_oM_s, pm_oP_s, pm_pop_0, pm_pop_s, pm_rcv_is, hg_34, pm_oO_s, pm_ref1_is, Nat.reduceEqDiff, Nat.zero_ne_one, Nat.succ_ne_self, true_or, or_true, or_false, false_or, or_self, false_implies, true_implies, implies_true, true_and]
theorem iv_82_286_61 {x1 : Nat} : pm_WL fqP d 82 pc ((.invokevirtual 286, n) :: r) L (.ref x1 :: .ref 61 :: S) (mk h) Q = (pm_okW 8 S = true ∧ pm_WC fqP d 37 [.ref 61, .ref x1] (mk h) (pm_kk fqP d 82 (pc + n) r L S Q)) := by
  show _ = (pm_okW 8 S = true ∧ pm_WC fqP d 37 [.ref 61, .ref x1] (mk h) (fun v σ' => pm_WL fqP d 82 (pc + n) r L (pm_pu v S) σ' Q))
  simp only [w_invv, lg_82, lm_7_286, pm_oM_s, pm_oP_s, pm_pop_0, pm_pop_s, pm_rcv_is, hg_61, pm_oO_s, pm_ref1_is, Nat.reduceEqDiff, Nat.zero_ne_one, Nat.succ_ne_self, true_or, or_true, or_false, false_or, or_self, false_implies, true_implies, implies_true, true_and]
theorem iv_82_293_4 : pm_WL fqP d 82 pc ((.invokevirtual 293, n) :: r) L (.ref 4 :: S) (mk h) Q = (pm_okW 8 S = true ∧ pm_WC fqP d 83 [.ref 4] (mk h) (pm_kk fqP d 82 (pc + n) r L S Q)) := by
  show _ = (pm_okW 8 S = true ∧ pm_WC fqP d 83 [.ref 4] (mk h) (fun v σ' => pm_WL fqP d 82 (pc + n) r L (pm_pu v S) σ' Q))
  simp only [w_invv, lg_82, lm_7_293, pm_oM_s, pm_oP_s, pm_pop_0, pm_pop_s, pm_rcv_is, hg_4, pm_oO_s, pm_ref1_is, Nat.reduceEqDiff, Nat.zero_ne_one, Nat.succ_ne_self, true_or, or_true, or_false, false_or, or_self, false_implies, true_implies, implies_true, true_and]
theorem iv_82_147 {x0 : Int32} {x1 : Int32} {x2 : Int32} : pm_WL fqP d 82 pc ((.invokestatic 147, n) :: r) L (.int x2 :: .int x1 :: .int x0 :: S) σ Q = (pm_okW 8 S = true ∧ pm_WC fqP d 96 [.int x0, .int x1, .int x2] σ (pm_kk fqP d 82 (pc + n) r L S Q)) := by
  show _ = (pm_okW 8 S = true ∧ pm_WC fqP d 96 [.int x0, .int x1, .int x2] σ (fun v σ' => pm_WL fqP d 82 (pc + n) r L (pm_pu v S) σ' Q))
  simp only [w_invs, lg_82, lm_7_147, pm_oM_s, pm_oP_s, pm_pop_0, pm_pop_s, pm_ref1_is, Nat.reduceEqDiff, Nat.zero_ne_one, Nat.succ_ne_self, true_or, or_true, or_false, false_or, or_self, false_implies, true_implies, implies_true, true_and]
theorem gf_83_12_4 : pm_WL fqP d 83 pc ((.getfield 12, n) :: r) L (.ref 4 :: S) (mk h) Q = pm_WL fqP d 83 (pc + n) r L (.ref 5 :: S) (mk h) Q := by
  simp only [w_getf, lg_83, lf_7_12, pm_oF_s, hg_4, pm_oO_s, List.getElem?_cons_succ, List.getElem?_cons_zero, pm_oK_s, true_and]
theorem gf_83_204_5 : pm_WL fqP d 83 pc ((.getfield 204, n) :: r) L (.ref 5 :: S) (mk h) Q = pm_WL fqP d 83 (pc + n) r L (.ref 21 :: S) (mk h) Q := by
  simp only [w_getf, lg_83, lf_7_204, pm_oF_s, hg_5, pm_oO_s, List.getElem?_cons_succ, List.getElem?_cons_zero, pm_oK_s, true_and]
theorem gf_83_204_33 : pm_WL fqP d 83 pc ((.getfield 204, n) :: r) L (.ref 33 :: S) (mk h) Q = pm_WL fqP d 83 (pc + n) r L (.ref 49 :: S) (mk h) Q := by
  simp only [w_getf, lg_83, lf_7_204, pm_oF_s, hg_33, pm_oO_s, List.getElem?_cons_succ, List.getElem?_cons_zero, pm_oK_s, true_and]
theorem iv_83_297_21 : pm_WL fqP d 83 pc ((.invokevirtual 297, n) :: r) L (.ref 21 :: S) (mk h) Q = (pm_okW 8 S = true ∧ pm_WC fqP d 26 [.ref 21] (mk h) (pm_kk fqP d 83 (pc + n) r L S Q)) := by
  show _ = (pm_okW 8 S = true ∧ pm_WC fqP d 26 [.ref 21] (mk h) (fun v σ' => pm_WL fqP d 83 (pc + n) r L (pm_pu v S) σ' Q))
  simp only [w_invv, lg_83, lm_7_297, pm_oM_s, pm_oP_s, pm_pop_0, pm_pop_s, pm_rcv_is, hg_21, pm_oO_s, pm_ref1_is, Nat.reduceEqDiff, Nat.zero_ne_one, Nat.succ_ne_self, true_or, or_true, or_false, false_or, or_self, false_implies, true_implies, implies_true, true_and]
theorem iv_83_297_25 : pm_WL fqP d 83 pc ((.invokevirtual 297, n) :: r) L (.ref 25 :: S) (mk h) Q = (pm_okW 8 S = true ∧ pm_WC fqP d 26 [.ref 25] (mk h) (pm_kk fqP d 83 (pc + n) r L S Q)) := by
  show _ = (pm_okW 8 S = true ∧ pm_WC fqP d 26 [.ref 25] (mk h) (fun v σ' => pm_WL fqP d 83 (pc + n) r L (pm_pu v S) σ' Q))
  simp only [w_invv, lg_83, lm_7_297, pm_oM_s, pm_oP_s, pm_pop_0, pm_pop_s, pm_rcv_is, hg_25, pm_oO_s, pm_ref1_is, Nat.reduceEqDiff, Nat.zero_ne_one, Nat.succ_ne_self, true_or, or_true, or_false, false_or, or_self, false_implies, true_implies, implies_true, true_and]
theorem iv_83_297_29 : pm_WL fqP d 83 pc ((.invokevirtual 297, n) :: r) L (.ref 29 :: S) (mk h) Q = (pm_okW 8 S = true ∧ pm_WC fqP d 26 [.ref 29] (mk h) (pm_kk fqP d 83 (pc + n) r L S Q)) := by
  show _ = (pm_okW 8 S = true ∧ pm_WC fqP d 26 [.ref 29] (mk h) (fun v σ' => pm_WL fqP d 83 (pc + n) r L (pm_pu v S) σ' Q))
  simp only [w_invv, lg_83, lm_7_297, pm_oM_s, pm_oP_s, pm_pop_0, pm_pop_s, pm_rcv_is, hg_29, pm_oO_s, pm_ref1_is, Nat.reduceEqDiff, Nat.zero_ne_one, Nat.succ_ne_self, true_or, or_true, or_false, false_or, or_self, false_implies, true_implies, implies_true, true_and]
theorem iv_83_297_49 : pm_WL fqP d 83 pc ((.invokevirtual 297, n) :: r) L (.ref 49 :: S) (mk h) Q = (pm_okW 8 S = true ∧ pm_WC fqP d 26 [.ref 49] (mk h) (pm_kk fqP d 83 (pc + n) r L S Q)) := by
  show _ = (pm_okW 8 S = true ∧ pm_WC fqP d 26 [.ref 49] (mk h) (fun v σ' => pm_WL fqP d 83 (pc + n) r L (pm_pu v S) σ' Q))
  simp only [w_invv, lg_83, lm_7_297, pm_oM_s, pm_oP_s, pm_pop_0, pm_pop_s, pm_rcv_is, hg_49, pm_oO_s, pm_ref1_is, Nat.reduceEqDiff, Nat.zero_ne_one, Nat.succ_ne_self, true_or, or_true, or_false, false_or, or_self, false_implies, true_implies, implies_true, true_and]
theorem iv_83_297_53 : pm_WL fqP d 83 pc ((.invokevirtual 297, n) :: r) L (.ref 53 :: S) (mk h) Q = (pm_okW 8 S = true ∧ pm_WC fqP d 26 [.ref 53] (mk h) (pm_kk fqP d 83 (pc + n) r L S Q)) := by
  show _ = (pm_okW 8 S = true ∧ pm_WC fqP d 26 [.ref 53] (mk h) (fun v σ' => pm_WL fqP d 83 (pc + n) r L (pm_pu v S) σ' Q))
  simp only [w_invv, lg_83, lm_7_297, pm_oM_s, pm_oP_s, pm_pop_0, pm_pop_s, pm_rcv_is, hg_53, pm_oO_s, pm_ref1_is, Nat.reduceEqDiff, Nat.zero_ne_one, Nat.succ_ne_self, true_or, or_true, or_false, false_or, or_self, false_implies, true_implies, implies_true, true_and]
theorem iv_83_297_57 : pm_WL fqP d 83 pc ((.invokevirtual 297, n) :: r) L (.ref 57 :: S) (mk h) Q = (pm_okW 8 S = true ∧ pm_WC fqP d 26 [.ref 57] (mk h) (pm_kk fqP d 83 (pc + n) r L S Q)) := by
  show _ = (pm_okW 8 S = true ∧ pm_WC fqP d 26 [.ref 57] (mk h) (fun v σ' => pm_WL fqP d 83 (pc + n) r L (pm_pu v S) σ' Q))
  simp only [w_invv, lg_83, lm_7_297, pm_oM_s, pm_oP_s, pm_pop_0, pm_pop_s, pm_rcv_is, hg_57, pm_oO_s, pm_ref1_is, Nat.reduceEqDiff, Nat.zero_ne_one, Nat.succ_ne_self, true_or, or_true, or_false, false_or, or_self, false_implies, true_implies, implies_true, true_and]
theorem gf_83_208_21 : pm_WL fqP d 83 pc ((.getfield 208, n) :: r) L (.ref 21 :: S) (mk h) Q = pm_WL fqP d 83 (pc + n) r L (.int (gd (h 21) 0) :: S) (mk h) Q := by
  simp only [w_getf, lg_83, lf_7_208, pm_oF_s, hg_21, pm_oO_s, List.getElem?_cons_succ, List.getElem?_cons_zero, pm_oK_s, true_and]
theorem gf_83_208_25 : pm_WL fqP d 83 pc ((.getfield 208, n) :: r) L (.ref 25 :: S) (mk h) Q = pm_WL fqP d 83 (pc + n) r L (.int (gd (h 25) 0) :: S) (mk h) Q := by
  simp only [w_getf, lg_83, lf_7_208, pm_oF_s, hg_25, pm_oO_s, List.getElem?_cons_succ, List.getElem?_cons_zero, pm_oK_s, true_and]
theorem gf_83_208_29 : pm_WL fqP d 83 pc ((.getfield 208, n) :: r) L (.ref 29 :: S) (mk h) Q = pm_WL fqP d 83 (pc + n) r L (.int (gd (h 29) 0) :: S) (mk h) Q := by
  simp only [w_getf, lg_83, lf_7_208, pm_oF_s, hg_29, pm_oO_s, List.getElem?_cons_succ, List.getElem?_cons_zero, pm_oK_s, true_and]
theorem gf_83_208_49 : pm_WL fqP d 83 pc ((.getfield 208, n) :: r) L (.ref 49 :: S) (mk h) Q = pm_WL fqP d 83 (pc + n) r L (.int (gd (h 49) 0) :: S) (mk h) Q := by
  simp only [w_getf, lg_83, lf_7_208, pm_oF_s, hg_49, pm_oO_s, List.getElem?_cons_succ, List.getElem?_cons_zero, pm_oK_s, true_and]
theorem gf_83_208_53 : pm_WL fqP d 83 pc ((.getfield 208, n) :: r) L (.ref 53 :: S) (mk h) Q = pm_WL fqP d 83 (pc + n) r L (.int (gd (h 53) 0) :: S) (mk h) Q := by
  simp only [w_getf, lg_83, lf_7_208, pm_oF_s, hg_53, pm_oO_s, List.getElem?_cons_succ, List.getElem?_cons_zero, pm_oK_s, true_and]
theorem gf_83_208_57 : pm_WL fqP d 83 pc ((.getfield 208, n) :: r) L (.ref 57 :: S) (mk h) Q = pm_WL fqP d 83 (pc + n) r L (.int (gd (h 57) 0) :: S) (mk h) Q := by
  simp only [w_getf, lg_83, lf_7_208, pm_oF_s, hg_57, pm_oO_s, List.getElem?_cons_succ, List.getElem?_cons_zero, pm_oK_s, true_and]
theorem gf_83_245_21 : pm_WL fqP d 83 pc ((.getfield 245, n) :: r) L (.ref 21 :: S) (mk h) Q = pm_WL fqP d 83 (pc + n) r L (.ref 23 :: S) (mk h) Q := by
  simp only [w_getf, lg_83, lf_7_245, pm_oF_s, hg_21, pm_oO_s, List.getElem?_cons_succ, List.getElem?_cons_zero, pm_oK_s, true_and]
theorem gf_83_245_25 : pm_WL fqP d 83 pc ((.getfield 245, n) :: r) L (.ref 25 :: S) (mk h) Q = pm_WL fqP d 83 (pc + n) r L (.ref 27 :: S) (mk h) Q := by
  simp only [w_getf, lg_83, lf_7_245, pm_oF_s, hg_25, pm_oO_s, List.getElem?_cons_succ, List.getElem?_cons_zero, pm_oK_s, true_and]
theorem gf_83_245_29 : pm_WL fqP d 83 pc ((.getfield 245, n) :: r) L (.ref 29 :: S) (mk h) Q = pm_WL fqP d 83 (pc + n) r L (.ref 31 :: S) (mk h) Q := by
  simp only [w_getf, lg_83, lf_7_245, pm_oF_s, hg_29, pm_oO_s, List.getElem?_cons_succ, List.getElem?_cons_zero, pm_oK_s, true_and]
theorem gf_83_245_49 : pm_WL fqP d 83 pc ((.getfield 245, n) :: r) L (.ref 49 :: S) (mk h) Q = pm_WL fqP d 83 (pc + n) r L (.ref 51 :: S) (mk h) Q := by
  simp only [w_getf, lg_83, lf_7_245, pm_oF_s, hg_49, pm_oO_s, List.getElem?_cons_succ, List.getElem?_cons_zero, pm_oK_s, true_and]
theorem gf_83_245_53 : pm_WL fqP d 83 pc ((.getfield 245, n) :: r) L (.ref 53 :: S) (mk h) Q = pm_WL fqP d 83 (pc + n) r L (.ref 55 :: S) (mk h) Q := by
  simp only [w_getf, lg_83, lf_7_245, pm_oF_s, hg_53, pm_oO_s, List.getElem?_cons_succ, List.getElem?_cons_zero, pm_oK_s, true_and]
theorem gf_83_245_57 : pm_WL fqP d 83 pc ((.getfield 245, n) :: r) L (.ref 57 :: S) (mk h) Q = pm_WL fqP d 83 (pc + n) r L (.ref 59 :: S) (mk h) Q := by
  simp only [w_getf, lg_83, lf_7_245, pm_oF_s, hg_57, pm_oO_s, List.getElem?_cons_succ, List.getElem?_cons_zero, pm_oK_s, true_and]
theorem iv_83_113 {x0 : Nat} {x1 : Int32} : pm_WL fqP d 83 pc ((.invokestatic 113, n) :: r) L (.int x1 :: .ref x0 :: S) σ Q = (pm_okW 8 S = true ∧ pm_WC fqP d 91 [.ref x0, .int x1] σ (pm_kk fqP d 83 (pc + n) r L S Q)) := by
  show _ = (pm_okW 8 S = true ∧ pm_WC fqP d 91 [.ref x0, .int x1] σ (fun v σ' => pm_WL fqP d 83 (pc + n) r L (pm_pu v S) σ' Q))
  simp only [w_invs, lg_83, lm_7_113, pm_oM_s, pm_oP_s, pm_pop_0, pm_pop_s, pm_ref1_is, Nat.reduceEqDiff, Nat.zero_ne_one, Nat.succ_ne_self, true_or, or_true, or_false, false_or, or_self, false_implies, true_implies, implies_true, true_and]
theorem gf_83_24_4 : pm_WL fqP d 83 pc ((.getfield 24, n) :: r) L (.ref 4 :: S) (mk h) Q = pm_WL fqP d 83 (pc + n) r L (.ref 61 :: S) (mk h) Q := by
  simp only [w_getf, lg_83, lf_7_24, pm_oF_s, hg_4, pm_oO_s, List.getElem?_cons_succ, List.getElem?_cons_zero, pm_oK_s, true_and]
theorem gf_83_166_6 : pm_WL fqP d 83 pc ((.getfield 166, n) :: r) L (.ref 6 :: S) (mk h) Q = pm_WL fqP d 83 (pc + n) r L (.int (gd (h 6) 1) :: S) (mk h) Q := by
  simp only [w_getf, lg_83, lf_7_166, pm_oF_s, hg_6, pm_oO_s, List.getElem?_cons_succ, List.getElem?_cons_zero, pm_oK_s, true_and]
theorem gf_83_166_34 : pm_WL fqP d 83 pc ((.getfield 166, n) :: r) L (.ref 34 :: S) (mk h) Q = pm_WL fqP d 83 (pc + n) r L (.int (gd (h 34) 1) :: S) (mk h) Q := by
  simp only [w_getf, lg_83, lf_7_166, pm_oF_s, hg_34, pm_oO_s, List.getElem?_cons_succ, List.getElem?_cons_zero, pm_oK_s, true_and]
theorem gf_83_166_61 : pm_WL fqP d 83 pc ((.getfield 166, n) :: r) L (.ref 61 :: S) (mk h) Q = pm_WL fqP d 83 (pc + n) r L (.int (gd (h 61) 1) :: S) (mk h) Q := by
  simp only [w_getf, lg_83, lf_7_166, pm_oF_s, hg_61, pm_oO_s, List.getElem?_cons_succ, List.getElem?_cons_zero, pm_oK_s, true_and]
theorem gf_83_242_21 : pm_WL fqP d 83 pc ((.getfield 242, n) :: r) L (.ref 21 :: S) (mk h) Q = pm_WL fqP d 83 (pc + n) r L (.ref 22 :: S) (mk h) Q := by
  simp only [w_getf, lg_83, lf_7_242, pm_oF_s, hg_21, pm_oO_s, List.getElem?_cons_succ, List.getElem?_cons_zero, pm_oK_s, true_and]
theorem gf_83_242_25 : pm_WL fqP d 83 pc ((.getfield 242, n) :: r) L (.ref 25 :: S) (mk h) Q = pm_WL fqP d 83 (pc + n) r L (.ref 26 :: S) (mk h) Q := by
  simp only [w_getf, lg_83, lf_7_242, pm_oF_s, hg_25, pm_oO_s, List.getElem?_cons_succ, List.getElem?_cons_zero, pm_oK_s, true_and]
theorem gf_83_242_29 : pm_WL fqP d 83 pc ((.getfield 242, n) :: r) L (.ref 29 :: S) (mk h) Q = pm_WL fqP d 83 (pc + n) r L (.ref 30 :: S) (mk h) Q := by
  simp only [w_getf, lg_83, lf_7_242, pm_oF_s, hg_29, pm_oO_s, List.getElem?_cons_succ, List.getElem?_cons_zero, pm_oK_s, true_and]
theorem gf_83_242_49 : pm_WL fqP d 83 pc ((.getfield 242, n) :: r) L (.ref 49 :: S) (mk h) Q = pm_WL fqP d 83 (pc + n) r L (.ref 50 :: S) (mk h) Q := by
  simp only [w_getf, lg_83, lf_7_242, pm_oF_s, hg_49, pm_oO_s, List.getElem?_cons_succ, List.getElem?_cons_zero, pm_oK_s, true_and]
theorem gf_83_242_53 : pm_WL fqP d 83 pc ((.getfield 242, n) :: r) L (.ref 53 :: S) (mk h) Q = pm_WL fqP d 83 (pc + n) r L (.ref 54 :: S) (mk h) Q := by
  simp only [w_getf, lg_83, lf_7_242, pm_oF_s, hg_53, pm_oO_s, List.getElem?_cons_succ, List.getElem?_cons_zero, pm_oK_s, true_and]
theorem gf_83_242_57 : pm_WL fqP d 83 pc ((.getfield 242, n) :: r) L (.ref 57 :: S) (mk h) Q = pm_WL fqP d 83 (pc + n) r L (.ref 58 :: S) (mk h) Q := by
  simp only [w_getf, lg_83, lf_7_242, pm_oF_s, hg_57, pm_oO_s, List.getElem?_cons_succ, List.getElem?_cons_zero, pm_oK_s, true_and]
theorem iv_83_129 {x0 : Int32} {x1 : Int32} : pm_WL fqP d 83 pc ((.invokestatic 129, n) :: r) L (.int x1 :: .int x0 :: S) σ Q = (pm_okW 8 S = true ∧ pm_WC fqP d 95 [.int x0, .int x1] σ (pm_kk fqP d 83 (pc + n) r L S Q)) := by
  show _ = (pm_okW 8 S = true ∧ pm_WC fqP d 95 [.int x0, .int x1] σ (fun v σ' => pm_WL fqP d 83 (pc + n) r L (pm_pu v S) σ' Q))
  simp only [w_invs, lg_83, lm_7_129, pm_oM_s, pm_oP_s, pm_pop_0, pm_pop_s, pm_ref1_is, Nat.reduceEqDiff, Nat.zero_ne_one, Nat.succ_ne_self, true_or, or_true, or_false, false_or, or_self, false_implies, true_implies, implies_true, true_and]
theorem gf_83_300_21 : pm_WL fqP d 83 pc ((.getfield 300, n) :: r) L (.ref 21 :: S) (mk h) Q = pm_WL fqP d 83 (pc + n) r L (.ref 24 :: S) (mk h) Q := by
  simp only [w_getf, lg_83, lf_7_300, pm_oF_s, hg_21, pm_oO_s, List.getElem?_cons_succ, List.getElem?_cons_zero, pm_oK_s, true_and]
theorem gf_83_300_25 : pm_WL fqP d 83 pc ((.getfield 300, n) :: r) L (.ref 25 :: S) (mk h) Q = pm_WL fqP d 83 (pc + n) r L (.ref 28 :: S) (mk h) Q := by
  simp only [w_getf, lg_83, lf_7_300, pm_oF_s, hg_25, pm_oO_s, List.getElem?_cons_succ, List.getElem?_cons_zero, pm_oK_s, true_and]
theorem gf_83_300_29 : pm_WL fqP d 83 pc ((.getfield 300, n) :: r) L (.ref 29 :: S) (mk h) Q = pm_WL fqP d 83 (pc + n) r L (.ref 32 :: S) (mk h) Q := by
  simp only [w_getf, lg_83, lf_7_300, pm_oF_s, hg_29, pm_oO_s, List.getElem?_cons_succ, List.getElem?_cons_zero, pm_oK_s, true_and]
theorem gf_83_300_49 : pm_WL fqP d 83 pc ((.getfield 300, n) :: r) L (.ref 49 :: S) (mk h) Q = pm_WL fqP d 83 (pc + n) r L (.ref 52 :: S) (mk h) Q := by
  simp only [w_getf, lg_83, lf_7_300, pm_oF_s, hg_49, pm_oO_s, List.getElem?_cons_succ, List.getElem?_cons_zero, pm_oK_s, true_and]
theorem gf_83_300_53 : pm_WL fqP d 83 pc ((.getfield 300, n) :: r) L (.ref 53 :: S) (mk h) Q = pm_WL fqP d 83 (pc + n) r L (.ref 56 :: S) (mk h) Q := by
  simp only [w_getf, lg_83, lf_7_300, pm_oF_s, hg_53, pm_oO_s, List.getElem?_cons_succ, List.getElem?_cons_zero, pm_oK_s, true_and]
theorem gf_83_300_57 : pm_WL fqP d 83 pc ((.getfield 300, n) :: r) L (.ref 57 :: S) (mk h) Q = pm_WL fqP d 83 (pc + n) r L (.ref 60 :: S) (mk h) Q := by
  simp only [w_getf, lg_83, lf_7_300, pm_oF_s, hg_57, pm_oO_s, List.getElem?_cons_succ, List.getElem?_cons_zero, pm_oK_s, true_and]
theorem iv_83_185_6 : pm_WL fqP d 83 pc ((.invokevirtual 185, n) :: r) L (.ref 6 :: S) (mk h) Q = (pm_okW 8 S = true ∧ pm_WC fqP d 32 [.ref 6] (mk h) (pm_kk fqP d 83 (pc + n) r L S Q)) := by
  show _ = (pm_okW 8 S = true ∧ pm_WC fqP d 32 [.ref 6] (mk h) (fun v σ' => pm_WL fqP d 83 (pc + n) r L (pm_pu v S) σ' Q))
  simp only [w_invv, lg_83, lm_7_185, pm_oM_s, pm_oP_s, pm_pop_0, pm_pop_s, pm_rcv_is, hg_6, pm_oO_s, pm_ref1_is, Nat.reduceEqDiff, Nat.zero_ne_one, Nat.succ_ne_self, true_or, or_true, or_false, false_or, or_self, false_implies, true_implies, implies_true, true_and]
theorem iv_83_185_34 : pm_WL fqP d 83 pc ((.invokevirtual 185, n) :: r) L (.ref 34 :: S) (mk h) Q = (pm_okW 8 S = true ∧ pm_WC fqP d 32 [.ref 34] (mk h) (pm_kk fqP d 83 (pc + n) r L S Q)) := by
  show _ = (pm_okW 8 S = true ∧ pm_WC fqP d 32 [.ref 34] (mk h) (fun v σ' => pm_WL fqP d 83 (pc + n) r L (pm_pu v S) σ' Q))
  simp only [w_invv, lg_83, lm_7_185, pm_oM_s, pm_oP_s, pm_pop_0, pm_pop_s, pm_rcv_is, hg_34, pm_oO_s, pm_ref1_is, Nat.reduceEqDiff, Nat.zero_ne_one, Nat.succ_ne_self, true_or, or_true, or_false, false_or, or_self, false_implies, true_implies, implies_true, true_and]
theorem iv_83_185_61 : pm_WL fqP d 83 pc ((.invokevirtual 185, n) :: r) L (.ref 61 :: S) (mk h) Q = (pm_okW 8 S = true ∧ pm_WC fqP d 32 [.ref 61] (mk h) (pm_kk fqP d 83 (pc + n) r L S Q)) := by
  show _ = (pm_okW 8 S = true ∧ pm_WC fqP d 32 [.ref 61] (mk h) (fun v σ' => pm_WL fqP d 83 (pc + n) r L (pm_pu v S) σ' Q))
  simp only [w_invv, lg_83, lm_7_185, pm_oM_s, pm_oP_s, pm_pop_0, pm_pop_s, pm_rcv_is, hg_61, pm_oO_s, pm_ref1_is, Nat.reduceEqDiff, Nat.zero_ne_one, Nat.succ_ne_self, true_or, or_true, or_false, false_or, or_self, false_implies, true_implies, implies_true, true_and]
theorem gf_84_12_4 : pm_WL fqP d 84 pc ((.getfield 12, n) :: r) L (.ref 4 :: S) (mk h) Q = pm_WL fqP d 84 (pc + n) r L (.ref 5 :: S) (mk h) Q := by
  simp only [w_getf, lg_84, lf_7_12, pm_oF_s, hg_4, pm_oO_s, List.getElem?_cons_succ, List.getElem?_cons_zero, pm_oK_s, true_and]
theorem gf_84_70_5 : pm_WL fqP d 84 pc ((.getfield 70, n) :: r) L (.ref 5 :: S) (mk h) Q = pm_WL fqP d 84 (pc + n) r L (.ref 6 :: S) (mk h) Q := by
  simp only [w_getf, lg_84, lf_7_70, pm_oF_s, hg_5, pm_oO_s, List.getElem?_cons_succ, List.getElem?_cons_zero, pm_oK_s, true_and]
theorem gf_84_70_33 : pm_WL fqP d 84 pc ((.getfield 70, n) :: r) L (.ref 33 :: S) (mk h) Q = pm_WL fqP d 84 (pc + n) r L (.ref 34 :: S) (mk h) Q := by
  simp only [w_getf, lg_84, lf_7_70, pm_oF_s, hg_33, pm_oO_s, List.getElem?_cons_succ, List.getElem?_cons_zero, pm_oK_s, true_and]
theorem gf_84_93_6 : pm_WL fqP d 84 pc ((.getfield 93, n) :: r) L (.ref 6 :: S) (mk h) Q = pm_WL fqP d 84 (pc + n) r L (.ref 11 :: S) (mk h) Q := by
  simp only [w_getf, lg_84, lf_7_93, pm_oF_s, hg_6, pm_oO_s, List.getElem?_cons_succ, List.getElem?_cons_zero, pm_oK_s, true_and]
theorem gf_84_93_34 : pm_WL fqP d 84 pc ((.getfield 93, n) :: r) L (.ref 34 :: S) (mk h) Q = pm_WL fqP d 84 (pc + n) r L (.ref 39 :: S) (mk h) Q := by
  simp only [w_getf, lg_84, lf_7_93, pm_oF_s, hg_34, pm_oO_s, List.getElem?_cons_succ, List.getElem?_cons_zero, pm_oK_s, true_and]
theorem gf_84_93_61 : pm_WL fqP d 84 pc ((.getfield 93, n) :: r) L (.ref 61 :: S) (mk h) Q = pm_WL fqP d 84 (pc + n) r L (.ref 66 :: S) (mk h) Q := by
  simp only [w_getf, lg_84, lf_7_93, pm_oF_s, hg_61, pm_oO_s, List.getElem?_cons_succ, List.getElem?_cons_zero, pm_oK_s, true_and]
theorem iv_84_236_11 {x1 : Int32} : pm_WL fqP d 84 pc ((.invokevirtual 236, n) :: r) L (.int x1 :: .ref 11 :: S) (mk h) Q = (pm_okW 8 S = true ∧ pm_WC fqP d 42 [.ref 11, .int x1] (mk h) (pm_kk fqP d 84 (pc + n) r L S Q)) := by
  show _ = (pm_okW 8 S = true ∧ pm_WC fqP d 42 [.ref 11, .int x1] (mk h) (fun v σ' => pm_WL fqP d 84 (pc + n) r L (pm_pu v S) σ' Q))
  simp only [w_invv, lg_84, lm_7_236, pm_oM_s, pm_oP_s, pm_pop_0, pm_pop_s, pm_rcv_is, hg_11, pm_oO_s, pm_ref1_is, Nat.reduceEqDiff, Nat.zero_ne_one, Nat.succ_ne_self, true_or, or_true, or_false, false_or, or_self, false_implies, true_implies, implies_true, true_and]
theorem iv_84_236_39 {x1 : Int32} : pm_WL fqP d 84 pc ((.invokevirtual 236, n) :: r) L (.int x1 :: .ref 39 :: S) (mk h) Q = (pm_okW 8 S = true ∧ pm_WC fqP d 42 [.ref 39, .int x1] (mk h) (pm_kk fqP d 84 (pc + n) r L S Q)) := by
  show _ = (pm_okW 8 S = true ∧ pm_WC fqP d 42 [.ref 39, .int x1] (mk h) (fun v σ' => pm_WL fqP d 84 (pc + n) r L (pm_pu v S) σ' Q))
  simp only [w_invv, lg_84, lm_7_236, pm_oM_s, pm_oP_s, pm_pop_0, pm_pop_s, pm_rcv_is, hg_39, pm_oO_s, pm_ref1_is, Nat.reduceEqDiff, Nat.zero_ne_one, Nat.succ_ne_self, true_or, or_true, or_false, false_or, or_self, false_implies, true_implies, implies_true, true_and]
theorem iv_84_236_66 {x1 : Int32} : pm_WL fqP d 84 pc ((.invokevirtual 236, n) :: r) L (.int x1 :: .ref 66 :: S) (mk h) Q = (pm_okW 8 S = true ∧ pm_WC fqP d 42 [.ref 66, .int x1] (mk h) (pm_kk fqP d 84 (pc + n) r L S Q)) := by
  show _ = (pm_okW 8 S = true ∧ pm_WC fqP d 42 [.ref 66, .int x1] (mk h) (fun v σ' => pm_WL fqP d 84 (pc + n) r L (pm_pu v S) σ' Q))
  simp only [w_invv, lg_84, lm_7_236, pm_oM_s, pm_oP_s, pm_pop_0, pm_pop_s, pm_rcv_is, hg_66, pm_oO_s, pm_ref1_is, Nat.reduceEqDiff, Nat.zero_ne_one, Nat.succ_ne_self, true_or, or_true, or_false, false_or, or_self, false_implies, true_implies, implies_true, true_and]
theorem gf_84_120_11 : pm_WL fqP d 84 pc ((.getfield 120, n) :: r) L (.ref 11 :: S) (mk h) Q = pm_WL fqP d 84 (pc + n) r L (.ref 14 :: S) (mk h) Q := by
  simp only [w_getf, lg_84, lf_7_120, pm_oF_s, hg_11, pm_oO_s, List.getElem?_cons_succ, List.getElem?_cons_zero, pm_oK_s, true_and]
theorem gf_84_120_39 : pm_WL fqP d 84 pc ((.getfield 120, n) :: r) L (.ref 39 :: S) (mk h) Q = pm_WL fqP d 84 (pc + n) r L (.ref 42 :: S) (mk h) Q := by
  simp only [w_getf, lg_84, lf_7_120, pm_oF_s, hg_39, pm_oO_s, List.getElem?_cons_succ, List.getElem?_cons_zero, pm_oK_s, true_and]
theorem gf_84_120_66 : pm_WL fqP d 84 pc ((.getfield 120, n) :: r) L (.ref 66 :: S) (mk h) Q = pm_WL fqP d 84 (pc + n) r L (.ref 69 :: S) (mk h) Q := by
  simp only [w_getf, lg_84, lf_7_120, pm_oF_s, hg_66, pm_oO_s, List.getElem?_cons_succ, List.getElem?_cons_zero, pm_oK_s, true_and]
theorem iv_84_113 {x0 : Nat} {x1 : Int32} : pm_WL fqP d 84 pc ((.invokestatic 113, n) :: r) L (.int x1 :: .ref x0 :: S) σ Q = (pm_okW 8 S = true ∧ pm_WC fqP d 91 [.ref x0, .int x1] σ (pm_kk fqP d 84 (pc + n) r L S Q)) := by
  show _ = (pm_okW 8 S = true ∧ pm_WC fqP d 91 [.ref x0, .int x1] σ (fun v σ' => pm_WL fqP d 84 (pc + n) r L (pm_pu v S) σ' Q))
  simp only [w_invs, lg_84, lm_7_113, pm_oM_s, pm_oP_s, pm_pop_0, pm_pop_s, pm_ref1_is, Nat.reduceEqDiff, Nat.zero_ne_one, Nat.succ_ne_self, true_or, or_true, or_false, false_or, or_self, false_implies, true_implies, implies_true, true_and]
theorem iv_84_147 {x0 : Int32} {x1 : Int32} {x2 : Int32} : pm_WL fqP d 84 pc ((.invokestatic 147, n) :: r) L (.int x2 :: .int x1 :: .int x0 :: S) σ Q = (pm_okW 8 S = true ∧ pm_WC fqP d 96 [.int x0, .int x1, .int x2] σ (pm_kk fqP d 84 (pc + n) r L S Q)) := by
  show _ = (pm_okW 8 S = true ∧ pm_WC fqP d 96 [.int x0, .int x1, .int x2] σ (fun v σ' => pm_WL fqP d 84 (pc + n) r L (pm_pu v S) σ' Q))
  simp only [w_invs, lg_84, lm_7_147, pm_oM_s, pm_oP_s, pm_pop_0, pm_pop_s, pm_ref1_is, Nat.reduceEqDiff, Nat.zero_ne_one, Nat.succ_ne_self, true_or, or_true, or_false, false_or, or_self, false_implies, true_implies, implies_true, true_and]
theorem iv_84_195 {x0 : Int32} : pm_WL fqP d 84 pc ((.invokestatic 195, n) :: r) L (.int x0 :: S) σ Q = (pm_okW 8 S = true ∧ pm_WC fqP d 185 [.int x0] σ (pm_kk fqP d 84 (pc + n) r L S Q)) := by
  show _ = (pm_okW 8 S = true ∧ pm_WC fqP d 185 [.int x0] σ (fun v σ' => pm_WL fqP d 84 (pc + n) r L (pm_pu v S) σ' Q))
  simp only [w_invs, lg_84, lm_7_195, pm_oM_s, pm_oP_s, pm_pop_0, pm_pop_s, pm_ref1_is, Nat.reduceEqDiff, Nat.zero_ne_one, Nat.succ_ne_self, true_or, or_true, or_false, false_or, or_self, false_implies, true_implies, implies_true, true_and]
theorem gf_85_24_4 : pm_WL fqP d 85 pc ((.getfield 24, n) :: r) L (.ref 4 :: S) (mk h) Q = pm_WL fqP d 85 (pc + n) r L (.ref 61 :: S) (mk h) Q := by
  simp only [w_getf, lg_85, lf_7_24, pm_oF_s, hg_4, pm_oO_s, List.getElem?_cons_succ, List.getElem?_cons_zero, pm_oK_s, true_and]
theorem iv_85_185_6 : pm_WL fqP d 85 pc ((.invokevirtual 185, n) :: r) L (.ref 6 :: S) (mk h) Q = (pm_okW 8 S = true ∧ pm_WC fqP d 32 [.ref 6] (mk h) (pm_kk fqP d 85 (pc + n) r L S Q)) := by
  show _ = (pm_okW 8 S = true ∧ pm_WC fqP d 32 [.ref 6] (mk h) (fun v σ' => pm_WL fqP d 85 (pc + n) r L (pm_pu v S) σ' Q))
  simp only [w_invv, lg_85, lm_7_185, pm_oM_s, pm_oP_s, pm_pop_0, pm_pop_s, pm_rcv_is, hg_6, pm_oO_s, pm_ref1_is, Nat.reduceEqDiff, Nat.zero_ne_one, Nat.succ_ne_self, true_or, or_true, or_false, false_or, or_self, false_implies, true_implies, implies_true, true_and]
theorem iv_85_185_34 : pm_WL fqP d 85 pc ((.invokevirtual 185, n) :: r) L (.ref 34 :: S) (mk h) Q = (pm_okW 8 S = true ∧ pm_WC fqP d 32 [.ref 34] (mk h) (pm_kk fqP d 85 (pc + n) r L S Q)) := by
  show _ = (pm_okW 8 S = true ∧ pm_WC fqP d 32 [.ref 34] (mk h) (fun v σ' => pm_WL fqP d 85 (pc + n) r L (pm_pu v S) σ' Q))
  simp only [w_invv, lg_85, lm_7_185, pm_oM_s, pm_oP_s, pm_pop_0, pm_pop_s, pm_rcv_is, hg_34, pm_oO_s, pm_ref1_is, Nat.reduceEqDiff, Nat.zero_ne_one, Nat.succ_ne_self, true_or, or_true, or_false, false_or, or_self, false_implies, true_implies, implies_true, true_and]
theorem iv_85_185_61 : pm_WL fqP d 85 pc ((.invokevirtual 185, n) :: r) L (.ref 61 :: S) (mk h) Q = (pm_okW 8 S = true ∧ pm_WC fqP d 32 [.ref 61] (mk h) (pm_kk fqP d 85 (pc + n) r L S Q)) := by
  show _ = (pm_okW 8 S = true ∧ pm_WC fqP d 32 [.ref 61] (mk h) (fun v σ' => pm_WL fqP d 85 (pc + n) r L (pm_pu v S) σ' Q))
  simp only [w_invv, lg_85, lm_7_185, pm_oM_s, pm_oP_s, pm_pop_0, pm_pop_s, pm_rcv_is, hg_61, pm_oO_s, pm_ref1_is, Nat.reduceEqDiff, Nat.zero_ne_one, Nat.succ_ne_self, true_or, or_true, or_false, false_or, or_self, false_implies, true_implies, implies_true, true_and]
theorem gf_85_93_6 : pm_WL fqP d 85 pc ((.getfield 93, n) :: r) L (.ref 6 :: S) (mk h) Q = pm_WL fqP d 85 (pc + n) r L (.ref 11 :: S) (mk h) Q := by
  simp only [w_getf, lg_85, lf_7_93, pm_oF_s, hg_6, pm_oO_s, List.getElem?_cons_succ, List.getElem?_cons_zero, pm_oK_s, true_and]
theorem gf_85_93_34 : pm_WL fqP d 85 pc ((.getfield 93, n) :: r) L (.ref 34 :: S) (mk h) Q = pm_WL fqP d 85 (pc + n) r L (.ref 39 :: S) (mk h) Q := by
  simp only [w_getf, lg_85, lf_7_93, pm_oF_s, hg_34, pm_oO_s, List.getElem?_cons_succ, List.getElem?_cons_zero, pm_oK_s, true_and]
theorem gf_85_93_61 : pm_WL fqP d 85 pc ((.getfield 93, n) :: r) L (.ref 61 :: S) (mk h) Q = pm_WL fqP d 85 (pc + n) r L (.ref 66 :: S) (mk h) Q := by
  simp only [w_getf, lg_85, lf_7_93, pm_oF_s, hg_61, pm_oO_s, List.getElem?_cons_succ, List.getElem?_cons_zero, pm_oK_s, true_and]
theorem gf_85_126_11 : pm_WL fqP d 85 pc ((.getfield 126, n) :: r) L (.ref 11 :: S) (mk h) Q = pm_WL fqP d 85 (pc + n) r L (.int (gd (h 11) 0) :: S) (mk h) Q := by
  simp only [w_getf, lg_85, lf_7_126, pm_oF_s, hg_11, pm_oO_s, List.getElem?_cons_succ, List.getElem?_cons_zero, pm_oK_s, true_and]
theorem gf_85_126_39 : pm_WL fqP d 85 pc ((.getfield 126, n) :: r) L (.ref 39 :: S) (mk h) Q = pm_WL fqP d 85 (pc + n) r L (.int (gd (h 39) 0) :: S) (mk h) Q := by
  simp only [w_getf, lg_85, lf_7_126, pm_oF_s, hg_39, pm_oO_s, List.getElem?_cons_succ, List.getElem?_cons_zero, pm_oK_s, true_and]
theorem gf_85_126_66 : pm_WL fqP d 85 pc ((.getfield 126, n) :: r) L (.ref 66 :: S) (mk h) Q = pm_WL fqP d 85 (pc + n) r L (.int (gd (h 66) 0) :: S) (mk h) Q := by
  simp only [w_getf, lg_85, lf_7_126, pm_oF_s, hg_66, pm_oO_s, List.getElem?_cons_succ, List.getElem?_cons_zero, pm_oK_s, true_and]
theorem iv_85_147 {x0 : Int32} {x1 : Int32} {x2 : Int32} : pm_WL fqP d 85 pc ((.invokestatic 147, n) :: r) L (.int x2 :: .int x1 :: .int x0 :: S) σ Q = (pm_okW 8 S = true ∧ pm_WC fqP d 96 [.int x0, .int x1, .int x2] σ (pm_kk fqP d 85 (pc + n) r L S Q)) := by
  show _ = (pm_okW 8 S = true ∧ pm_WC fqP d 96 [.int x0, .int x1, .int x2] σ (fun v σ' => pm_WL fqP d 85 (pc + n) r L (pm_pu v S) σ' Q))
  simp only [w_invs, lg_85, lm_7_147, pm_oM_s, pm_oP_s, pm_pop_0, pm_pop_s, pm_ref1_is, Nat.reduceEqDiff, Nat.zero_ne_one, Nat.succ_ne_self, true_or, or_true, or_false, false_or, or_self, false_implies, true_implies, implies_true, true_and]
theorem pf_85_126_11 {x : Int32} : pm_WL fqP d 85 pc ((.putfield 126, n) :: r) L (.int x :: .ref 11 :: S) (mk h) Q = pm_WL fqP d 85 (pc + n) r L S (mk (up h 11 [x, gd (h 11) 1])) Q := by
  simp only [w_putf, lg_85, lf_7_126, lt_6_5, pm_oF_s, hg_11, pm_oO_s, List.set_cons_succ, List.set_cons_zero, List.length_cons, List.length_nil, pm_fit_i, Nat.reduceAdd, Nat.reduceLT, Nat.zero_add, Nat.lt_add_one, Bool.false_eq_true, false_implies, true_and, and_true, hs_11]
theorem pf_85_126_39 {x : Int32} : pm_WL fqP d 85 pc ((.putfield 126, n) :: r) L (.int x :: .ref 39 :: S) (mk h) Q = pm_WL fqP d 85 (pc + n) r L S (mk (up h 39 [x, gd (h 39) 1])) Q := by
  simp only [w_putf, lg_85, lf_7_126, lt_6_5, pm_oF_s, hg_39, pm_oO_s, List.set_cons_succ, List.set_cons_zero, List.length_cons, List.length_nil, pm_fit_i, Nat.reduceAdd, Nat.reduceLT, Nat.zero_add, Nat.lt_add_one, Bool.false_eq_true, false_implies, true_and, and_true, hs_39]
theorem pf_85_126_66 {x : Int32} : pm_WL fqP d 85 pc ((.putfield 126, n) :: r) L (.int x :: .ref 66 :: S) (mk h) Q = pm_WL fqP d 85 (pc + n) r L S (mk (up h 66 [x, gd (h 66) 1])) Q := by
  simp only [w_putf, lg_85, lf_7_126, lt_6_5, pm_oF_s, hg_66, pm_oO_s, List.set_cons_succ, List.set_cons_zero, List.length_cons, List.length_nil, pm_fit_i, Nat.reduceAdd, Nat.reduceLT, Nat.zero_add, Nat.lt_add_one, Bool.false_eq_true, false_implies, true_and, and_true, hs_66]
theorem gf_85_166_6 : pm_WL fqP d 85 pc ((.getfield 166, n) :: r) L (.ref 6 :: S) (mk h) Q = pm_WL fqP d 85 (pc + n) r L (.int (gd (h 6) 1) :: S) (mk h) Q := by
  simp only [w_getf, lg_85, lf_7_166, pm_oF_s, hg_6, pm_oO_s, List.getElem?_cons_succ, List.getElem?_cons_zero, pm_oK_s, true_and]
theorem gf_85_166_34 : pm_WL fqP d 85 pc ((.getfield 166, n) :: r) L (.ref 34 :: S) (mk h) Q = pm_WL fqP d 85 (pc + n) r L (.int (gd (h 34) 1) :: S) (mk h) Q := by
  simp only [w_getf, lg_85, lf_7_166, pm_oF_s, hg_34, pm_oO_s, List.getElem?_cons_succ, List.getElem?_cons_zero, pm_oK_s, true_and]
theorem gf_85_166_61 : pm_WL fqP d 85 pc ((.getfield 166, n) :: r) L (.ref 61 :: S) (mk h) Q = pm_WL fqP d 85 (pc + n) r L (.int (gd (h 61) 1) :: S) (mk h) Q := by
  simp only [w_getf, lg_85, lf_7_166, pm_oF_s, hg_61, pm_oO_s, List.getElem?_cons_succ, List.getElem?_cons_zero, pm_oK_s, true_and]
theorem pf_85_166_6 {x : Int32} : pm_WL fqP d 85 pc ((.putfield 166, n) :: r) L (.int x :: .ref 6 :: S) (mk h) Q = pm_WL fqP d 85 (pc + n) r L S (mk (up h 6 [gd (h 6) 0, x, gd (h 6) 2])) Q := by
  simp only [w_putf, lg_85, lf_7_166, lt_5_5, pm_oF_s, hg_6, pm_oO_s, List.set_cons_succ, List.set_cons_zero, List.length_cons, List.length_nil, pm_fit_i, Nat.reduceAdd, Nat.reduceLT, Nat.zero_add, Nat.lt_add_one, Bool.false_eq_true, false_implies, true_and, and_true, hs_6]
theorem pf_85_166_34 {x : Int32} : pm_WL fqP d 85 pc ((.putfield 166, n) :: r) L (.int x :: .ref 34 :: S) (mk h) Q = pm_WL fqP d 85 (pc + n) r L S (mk (up h 34 [gd (h 34) 0, x, gd (h 34) 2])) Q := by
  simp only [w_putf, lg_85, lf_7_166, lt_5_5, pm_oF_s, hg_34, pm_oO_s, List.set_cons_succ, List.set_cons_zero, List.length_cons, List.length_nil, pm_fit_i, Nat.reduceAdd, Nat.reduceLT, Nat.zero_add, Nat.lt_add_one, Bool.false_eq_true, false_implies, true_and, and_true, hs_34]
theorem pf_85_166_61 {x : Int32} : pm_WL fqP d 85 pc ((.putfield 166, n) :: r) L (.int x :: .ref 61 :: S) (mk h) Q = pm_WL fqP d 85 (pc + n) r L S (mk (up h 61 [gd (h 61) 0, x, gd (h 61) 2])) Q := by
  simp only [w_putf, lg_85, lf_7_166, lt_5_5, pm_oF_s, hg_61, pm_oO_s, List.set_cons_succ, List.set_cons_zero, List.length_cons, List.length_nil, pm_fit_i, Nat.reduceAdd, Nat.reduceLT, Nat.zero_add, Nat.lt_add_one, Bool.false_eq_true, false_implies, true_and, and_true, hs_61]
theorem iv_90_113 {x0 : Nat} {x1 : Int32} : pm_WL fqP d 90 pc ((.invokestatic 113, n) :: r) L (.int x1 :: .ref x0 :: S) σ Q = (pm_okW 8 S = true ∧ pm_WC fqP d 91 [.ref x0, .int x1] σ (pm_kk fqP d 90 (pc + n) r L S Q)) := by
  show _ = (pm_okW 8 S = true ∧ pm_WC fqP d 91 [.ref x0, .int x1] σ (fun v σ' => pm_WL fqP d 90 (pc + n) r L (pm_pu v S) σ' Q))
  simp only [w_invs, lg_90, lm_7_113, pm_oM_s, pm_oP_s, pm_pop_0, pm_pop_s, pm_ref1_is, Nat.reduceEqDiff, Nat.zero_ne_one, Nat.succ_ne_self, true_or, or_true, or_false, false_or, or_self, false_implies, true_implies, implies_true, true_and]
theorem iv_93_113 {x0 : Nat} {x1 : Int32} : pm_WL fqP d 93 pc ((.invokestatic 113, n) :: r) L (.int x1 :: .ref x0 :: S) σ Q = (pm_okW 8 S = true ∧ pm_WC fqP d 91 [.ref x0, .int x1] σ (pm_kk fqP d 93 (pc + n) r L S Q)) := by
  show _ = (pm_okW 8 S = true ∧ pm_WC fqP d 91 [.ref x0, .int x1] σ (fun v σ' => pm_WL fqP d 93 (pc + n) r L (pm_pu v S) σ' Q))
  simp only [w_invs, lg_93, lm_7_113, pm_oM_s, pm_oP_s, pm_pop_0, pm_pop_s, pm_ref1_is, Nat.reduceEqDiff, Nat.zero_ne_one, Nat.succ_ne_self, true_or, or_true, or_false, false_or, or_self, false_implies, true_implies, implies_true, true_and]
theorem iv_93_56 {x0 : Nat} {x1 : Int32} {x2 : Int32} : pm_WL fqP d 93 pc ((.invokestatic 56, n) :: r) L (.int x2 :: .int x1 :: .ref x0 :: S) σ Q = (pm_okW 8 S = true ∧ pm_WC fqP d 92 [.ref x0, .int x1, .int x2] σ (pm_kk fqP d 93 (pc + n) r L S Q)) := by
  show _ = (pm_okW 8 S = true ∧ pm_WC fqP d 92 [.ref x0, .int x1, .int x2] σ (fun v σ' => pm_WL fqP d 93 (pc + n) r L (pm_pu v S) σ' Q))
  simp only [w_invs, lg_93, lm_7_56, pm_oM_s, pm_oP_s, pm_pop_0, pm_pop_s, pm_ref1_is, Nat.reduceEqDiff, Nat.zero_ne_one, Nat.succ_ne_self, true_or, or_true, or_false, false_or, or_self, false_implies, true_implies, implies_true, true_and]
theorem iv_94_306 {x0 : Int32} {x1 : Int32} : pm_WL fqP d 94 pc ((.invokestatic 306, n) :: r) L (.int x1 :: .int x0 :: S) σ Q = (pm_okW 8 S = true ∧ pm_WC fqP d 905 [.int x0, .int x1] σ (pm_kk fqP d 94 (pc + n) r L S Q)) := by
  show _ = (pm_okW 8 S = true ∧ pm_WC fqP d 905 [.int x0, .int x1] σ (fun v σ' => pm_WL fqP d 94 (pc + n) r L (pm_pu v S) σ' Q))
  simp only [w_invs, lg_94, lm_7_306, pm_oM_s, pm_oP_s, pm_pop_0, pm_pop_s, pm_ref1_is, Nat.reduceEqDiff, Nat.zero_ne_one, Nat.succ_ne_self, true_or, or_true, or_false, false_or, or_self, false_implies, true_implies, implies_true, true_and]
theorem iv_94_311 {x0 : Nat} {x1 : Int32} {x2 : Nat} {x3 : Int32} {x4 : Int32} : pm_WL fqP d 94 pc ((.invokestatic 311, n) :: r) L (.int x4 :: .int x3 :: .ref x2 :: .int x1 :: .ref x0 :: S) σ Q = (pm_okW 8 S = true ∧ pm_WC fqP d 901 [.ref x0, .int x1, .ref x2, .int x3, .int x4] σ (pm_kk fqP d 94 (pc + n) r L S Q)) := by
  show _ = (pm_okW 8 S = true ∧ pm_WC fqP d 901 [.ref x0, .int x1, .ref x2, .int x3, .int x4] σ (fun v σ' => pm_WL fqP d 94 (pc + n) r L (pm_pu v S) σ' Q))
  simp only [w_invs, lg_94, lm_7_311, pm_oM_s, pm_oP_s, pm_pop_0, pm_pop_s, pm_ref1_is, Nat.reduceEqDiff, Nat.zero_ne_one, Nat.succ_ne_self, true_or, or_true, or_false, false_or, or_self, false_implies, true_implies, implies_true, true_and]
theorem iv_97_129 {x0 : Int32} {x1 : Int32} : pm_WL fqP d 97 pc ((.invokestatic 129, n) :: r) L (.int x1 :: .int x0 :: S) σ Q = (pm_okW 8 S = true ∧ pm_WC fqP d 95 [.int x0, .int x1] σ (pm_kk fqP d 97 (pc + n) r L S Q)) := by
  show _ = (pm_okW 8 S = true ∧ pm_WC fqP d 95 [.int x0, .int x1] σ (fun v σ' => pm_WL fqP d 97 (pc + n) r L (pm_pu v S) σ' Q))
  simp only [w_invs, lg_97, lm_7_129, pm_oM_s, pm_oP_s, pm_pop_0, pm_pop_s, pm_ref1_is, Nat.reduceEqDiff, Nat.zero_ne_one, Nat.succ_ne_self, true_or, or_true, or_false, false_or, or_self, false_implies, true_implies, implies_true, true_and]
theorem iv_98_113 {x0 : Nat} {x1 : Int32} : pm_WL fqP d 98 pc ((.invokestatic 113, n) :: r) L (.int x1 :: .ref x0 :: S) σ Q = (pm_okW 8 S = true ∧ pm_WC fqP d 91 [.ref x0, .int x1] σ (pm_kk fqP d 98 (pc + n) r L S Q)) := by
  show _ = (pm_okW 8 S = true ∧ pm_WC fqP d 91 [.ref x0, .int x1] σ (fun v σ' => pm_WL fqP d 98 (pc + n) r L (pm_pu v S) σ' Q))
  simp only [w_invs, lg_98, lm_7_113, pm_oM_s, pm_oP_s, pm_pop_0, pm_pop_s, pm_ref1_is, Nat.reduceEqDiff, Nat.zero_ne_one, Nat.succ_ne_self, true_or, or_true, or_false, false_or, or_self, false_implies, true_implies, implies_true, true_and]
theorem iv_98_143 {x0 : Nat} {x1 : Int32} {x2 : Int32} : pm_WL fqP d 98 pc ((.invokestatic 143, n) :: r) L (.int x2 :: .int x1 :: .ref x0 :: S) σ Q = (pm_okW 8 S = true ∧ pm_WC fqP d 93 [.ref x0, .int x1, .int x2] σ (pm_kk fqP d 98 (pc + n) r L S Q)) := by
  show _ = (pm_okW 8 S = true ∧ pm_WC fqP d 93 [.ref x0, .int x1, .int x2] σ (fun v σ' => pm_WL fqP d 98 (pc + n) r L (pm_pu v S) σ' Q))
  simp only [w_invs, lg_98, lm_7_143, pm_oM_s, pm_oP_s, pm_pop_0, pm_pop_s, pm_ref1_is, Nat.reduceEqDiff, Nat.zero_ne_one, Nat.succ_ne_self, true_or, or_true, or_false, false_or, or_self, false_implies, true_implies, implies_true, true_and]
theorem iv_98_56 {x0 : Nat} {x1 : Int32} {x2 : Int32} : pm_WL fqP d 98 pc ((.invokestatic 56, n) :: r) L (.int x2 :: .int x1 :: .ref x0 :: S) σ Q = (pm_okW 8 S = true ∧ pm_WC fqP d 92 [.ref x0, .int x1, .int x2] σ (pm_kk fqP d 98 (pc + n) r L S Q)) := by
  show _ = (pm_okW 8 S = true ∧ pm_WC fqP d 92 [.ref x0, .int x1, .int x2] σ (fun v σ' => pm_WL fqP d 98 (pc + n) r L (pm_pu v S) σ' Q))
  simp only [w_invs, lg_98, lm_7_56, pm_oM_s, pm_oP_s, pm_pop_0, pm_pop_s, pm_ref1_is, Nat.reduceEqDiff, Nat.zero_ne_one, Nat.succ_ne_self, true_or, or_true, or_false, false_or, or_self, false_implies, true_implies, implies_true, true_and]
theorem iv_102_41 {x0 : Int32} {x1 : Int32} {x2 : Int32} : pm_WL fqP d 102 pc ((.invokestatic 41, n) :: r) L (.int x2 :: .int x1 :: .int x0 :: S) σ Q = (pm_okW 8 S = true ∧ pm_WC fqP d 101 [.int x0, .int x1, .int x2] σ (pm_kk fqP d 102 (pc + n) r L S Q)) := by
  show _ = (pm_okW 8 S = true ∧ pm_WC fqP d 101 [.int x0, .int x1, .int x2] σ (fun v σ' => pm_WL fqP d 102 (pc + n) r L (pm_pu v S) σ' Q))
  simp only [w_invs, lg_102, lm_8_41, pm_oM_s, pm_oP_s, pm_pop_0, pm_pop_s, pm_ref1_is, Nat.reduceEqDiff, Nat.zero_ne_one, Nat.succ_ne_self, true_or, or_true, or_false, false_or, or_self, false_implies, true_implies, implies_true, true_and]
theorem iv_103_41 {x0 : Int32} {x1 : Int32} {x2 : Int32} : pm_WL fqP d 103 pc ((.invokestatic 41, n) :: r) L (.int x2 :: .int x1 :: .int x0 :: S) σ Q = (pm_okW 8 S = true ∧ pm_WC fqP d 101 [.int x0, .int x1, .int x2] σ (pm_kk fqP d 103 (pc + n) r L S Q)) := by
  show _ = (pm_okW 8 S = true ∧ pm_WC fqP d 101 [.int x0, .int x1, .int x2] σ (fun v σ' => pm_WL fqP d 103 (pc + n) r L (pm_pu v S) σ' Q))
  simp only [w_invs, lg_103, lm_8_41, pm_oM_s, pm_oP_s, pm_pop_0, pm_pop_s, pm_ref1_is, Nat.reduceEqDiff, Nat.zero_ne_one, Nat.succ_ne_self, true_or, or_true, or_false, false_or, or_self, false_implies, true_implies, implies_true, true_and]
theorem gf_104_9_85 : pm_WL fqP d 104 pc ((.getfield 9, n) :: r) L (.ref 85 :: S) (mk h) Q = pm_WL fqP d 104 (pc + n) r L (.ref 86 :: S) (mk h) Q := by
  simp only [w_getf, lg_104, lf_8_9, pm_oF_s, hg_85, pm_oO_s, List.getElem?_cons_succ, List.getElem?_cons_zero, pm_oK_s, true_and]
theorem iv_104_41 {x0 : Int32} {x1 : Int32} {x2 : Int32} : pm_WL fqP d 104 pc ((.invokestatic 41, n) :: r) L (.int x2 :: .int x1 :: .int x0 :: S) σ Q = (pm_okW 8 S = true ∧ pm_WC fqP d 101 [.int x0, .int x1, .int x2] σ (pm_kk fqP d 104 (pc + n) r L S Q)) := by
  show _ = (pm_okW 8 S = true ∧ pm_WC fqP d 101 [.int x0, .int x1, .int x2] σ (fun v σ' => pm_WL fqP d 104 (pc + n) r L (pm_pu v S) σ' Q))
  simp only [w_invs, lg_104, lm_8_41, pm_oM_s, pm_oP_s, pm_pop_0, pm_pop_s, pm_ref1_is, Nat.reduceEqDiff, Nat.zero_ne_one, Nat.succ_ne_self, true_or, or_true, or_false, false_or, or_self, false_implies, true_implies, implies_true, true_and]
theorem gf_105_18_85 : pm_WL fqP d 105 pc ((.getfield 18, n) :: r) L (.ref 85 :: S) (mk h) Q = pm_WL fqP d 105 (pc + n) r L (.ref 88 :: S) (mk h) Q := by
  simp only [w_getf, lg_105, lf_8_18, pm_oF_s, hg_85, pm_oO_s, List.getElem?_cons_succ, List.getElem?_cons_zero, pm_oK_s, true_and]
theorem gf_105_9_85 : pm_WL fqP d 105 pc ((.getfield 9, n) :: r) L (.ref 85 :: S) (mk h) Q = pm_WL fqP d 105 (pc + n) r L (.ref 86 :: S) (mk h) Q := by
  simp only [w_getf, lg_105, lf_8_9, pm_oF_s, hg_85, pm_oO_s, List.getElem?_cons_succ, List.getElem?_cons_zero, pm_oK_s, true_and]
theorem gf_106_9_85 : pm_WL fqP d 106 pc ((.getfield 9, n) :: r) L (.ref 85 :: S) (mk h) Q = pm_WL fqP d 106 (pc + n) r L (.ref 86 :: S) (mk h) Q := by
  simp only [w_getf, lg_106, lf_8_9, pm_oF_s, hg_85, pm_oO_s, List.getElem?_cons_succ, List.getElem?_cons_zero, pm_oK_s, true_and]
theorem gf_106_18_85 : pm_WL fqP d 106 pc ((.getfield 18, n) :: r) L (.ref 85 :: S) (mk h) Q = pm_WL fqP d 106 (pc + n) r L (.ref 88 :: S) (mk h) Q := by
  simp only [w_getf, lg_106, lf_8_18, pm_oF_s, hg_85, pm_oO_s, List.getElem?_cons_succ, List.getElem?_cons_zero, pm_oK_s, true_and]
theorem iv_107_41 {x0 : Int32} {x1 : Int32} {x2 : Int32} : pm_WL fqP d 107 pc ((.invokestatic 41, n) :: r) L (.int x2 :: .int x1 :: .int x0 :: S) σ Q = (pm_okW 8 S = true ∧ pm_WC fqP d 101 [.int x0, .int x1, .int x2] σ (pm_kk fqP d 107 (pc + n) r L S Q)) := by
  show _ = (pm_okW 8 S = true ∧ pm_WC fqP d 101 [.int x0, .int x1, .int x2] σ (fun v σ' => pm_WL fqP d 107 (pc + n) r L (pm_pu v S) σ' Q))
  simp only [w_invs, lg_107, lm_8_41, pm_oM_s, pm_oP_s, pm_pop_0, pm_pop_s, pm_ref1_is, Nat.reduceEqDiff, Nat.zero_ne_one, Nat.succ_ne_self, true_or, or_true, or_false, false_or, or_self, false_implies, true_implies, implies_true, true_and]
theorem gf_107_9_85 : pm_WL fqP d 107 pc ((.getfield 9, n) :: r) L (.ref 85 :: S) (mk h) Q = pm_WL fqP d 107 (pc + n) r L (.ref 86 :: S) (mk h) Q := by
  simp only [w_getf, lg_107, lf_8_9, pm_oF_s, hg_85, pm_oO_s, List.getElem?_cons_succ, List.getElem?_cons_zero, pm_oK_s, true_and]
theorem gf_108_45_85 : pm_WL fqP d 108 pc ((.getfield 45, n) :: r) L (.ref 85 :: S) (mk h) Q = pm_WL fqP d 108 (pc + n) r L (.int (gd (h 85) 3) :: S) (mk h) Q := by
  simp only [w_getf, lg_108, lf_8_45, pm_oF_s, hg_85, pm_oO_s, List.getElem?_cons_succ, List.getElem?_cons_zero, pm_oK_s, true_and]
theorem gf_108_48_85 : pm_WL fqP d 108 pc ((.getfield 48, n) :: r) L (.ref 85 :: S) (mk h) Q = pm_WL fqP d 108 (pc + n) r L (.int (gd (h 85) 4) :: S) (mk h) Q := by
  simp only [w_getf, lg_108, lf_8_48, pm_oF_s, hg_85, pm_oO_s, List.getElem?_cons_succ, List.getElem?_cons_zero, pm_oK_s, true_and]
theorem gf_108_9_85 : pm_WL fqP d 108 pc ((.getfield 9, n) :: r) L (.ref 85 :: S) (mk h) Q = pm_WL fqP d 108 (pc + n) r L (.ref 86 :: S) (mk h) Q := by
  simp only [w_getf, lg_108, lf_8_9, pm_oF_s, hg_85, pm_oO_s, List.getElem?_cons_succ, List.getElem?_cons_zero, pm_oK_s, true_and]
theorem gf_109_51_85 : pm_WL fqP d 109 pc ((.getfield 51, n) :: r) L (.ref 85 :: S) (mk h) Q = pm_WL fqP d 109 (pc + n) r L (.int (gd (h 85) 5) :: S) (mk h) Q := by
  simp only [w_getf, lg_109, lf_8_51, pm_oF_s, hg_85, pm_oO_s, List.getElem?_cons_succ, List.getElem?_cons_zero, pm_oK_s, true_and]
theorem iv_109_55_85 : pm_WL fqP d 109 pc ((.invokevirtual 55, n) :: r) L (.ref 85 :: S) (mk h) Q = (pm_okW 8 S = true ∧ pm_WC fqP d 108 [.ref 85] (mk h) (pm_kk fqP d 109 (pc + n) r L S Q)) := by
  show _ = (pm_okW 8 S = true ∧ pm_WC fqP d 108 [.ref 85] (mk h) (fun v σ' => pm_WL fqP d 109 (pc + n) r L (pm_pu v S) σ' Q))
  simp only [w_invv, lg_109, lm_8_55, pm_oM_s, pm_oP_s, pm_pop_0, pm_pop_s, pm_rcv_is, hg_85, pm_oO_s, pm_ref1_is, Nat.reduceEqDiff, Nat.zero_ne_one, Nat.succ_ne_self, true_or, or_true, or_false, false_or, or_self, false_implies, true_implies, implies_true, true_and]
theorem pf_109_51_85 {x : Int32} (hb : pm_fit 1 (.int x) = true) : pm_WL fqP d 109 pc ((.putfield 51, n) :: r) L (.int x :: .ref 85 :: S) (mk h) Q = pm_WL fqP d 109 (pc + n) r L S (mk (up h 85 [gd (h 85) 0, gd (h 85) 1, gd (h 85) 2, gd (h 85) 3, gd (h 85) 4, x, gd (h 85) 6, gd (h 85) 7, gd (h 85) 8, gd (h 85) 9, gd (h 85) 10, gd (h 85) 11])) Q := by
  simp only [w_putf, lg_109, lf_8_51, lt_8_8, pm_oF_s, hg_85, pm_oO_s, List.set_cons_succ, List.set_cons_zero, List.length_cons, List.length_nil, pm_fit_i, hb, Nat.reduceAdd, Nat.reduceLT, Nat.zero_add, Nat.lt_add_one, Bool.false_eq_true, false_implies, true_and, and_true, hs_85]
theorem gf_109_45_85 : pm_WL fqP d 109 pc ((.getfield 45, n) :: r) L (.ref 85 :: S) (mk h) Q = pm_WL fqP d 109 (pc + n) r L (.int (gd (h 85) 3) :: S) (mk h) Q := by
  simp only [w_getf, lg_109, lf_8_45, pm_oF_s, hg_85, pm_oO_s, List.getElem?_cons_succ, List.getElem?_cons_zero, pm_oK_s, true_and]
theorem pf_109_45_85 {x : Int32} : pm_WL fqP d 109 pc ((.putfield 45, n) :: r) L (.int x :: .ref 85 :: S) (mk h) Q = pm_WL fqP d 109 (pc + n) r L S (mk (up h 85 [gd (h 85) 0, gd (h 85) 1, gd (h 85) 2, x, gd (h 85) 4, gd (h 85) 5, gd (h 85) 6, gd (h 85) 7, gd (h 85) 8, gd (h 85) 9, gd (h 85) 10, gd (h 85) 11])) Q := by
  simp only [w_putf, lg_109, lf_8_45, lt_8_6, pm_oF_s, hg_85, pm_oO_s, List.set_cons_succ, List.set_cons_zero, List.length_cons, List.length_nil, pm_fit_i, Nat.reduceAdd, Nat.reduceLT, Nat.zero_add, Nat.lt_add_one, Bool.false_eq_true, false_implies, true_and, and_true, hs_85]
theorem iv_110_59 {x0 : Nat} : pm_WL fqP d 110 pc ((.invokevirtual 59, n) :: r) L (.ref x0 :: S) σ Q = (pm_okW 8 S = true ∧ pm_WC fqP d 902 [.ref x0] σ (pm_kk fqP d 110 (pc + n) r L S Q)) := by
  show _ = (pm_okW 8 S = true ∧ pm_WC fqP d 902 [.ref x0] σ (fun v σ' => pm_WL fqP d 110 (pc + n) r L (pm_pu v S) σ' Q))
  simp only [w_invv, lg_110, lm_8_59, pm_oM_s, pm_oP_s, pm_pop_0, pm_pop_s, pm_ref1_is, Nat.reduceEqDiff, Nat.zero_ne_one, Nat.succ_ne_self, true_or, or_true, or_false, false_or, or_self, false_implies, true_implies, implies_true, true_and]
theorem iv_110_64 {x0 : Nat} {x1 : Int32} : pm_WL fqP d 110 pc ((.invokevirtual 64, n) :: r) L (.int x1 :: .ref x0 :: S) σ Q = (pm_okW 8 S = true ∧ pm_WC fqP d 903 [.ref x0, .int x1] σ (pm_kk fqP d 110 (pc + n) r L S Q)) := by
  show _ = (pm_okW 8 S = true ∧ pm_WC fqP d 903 [.ref x0, .int x1] σ (fun v σ' => pm_WL fqP d 110 (pc + n) r L (pm_pu v S) σ' Q))
  simp only [w_invv, lg_110, lm_8_64, pm_oM_s, pm_oP_s, pm_pop_0, pm_pop_s, pm_ref1_is, Nat.reduceEqDiff, Nat.zero_ne_one, Nat.succ_ne_self, true_or, or_true, or_false, false_or, or_self, false_implies, true_implies, implies_true, true_and]
theorem iv_110_68_85 {x1 : Int32} : pm_WL fqP d 110 pc ((.invokevirtual 68, n) :: r) L (.int x1 :: .ref 85 :: S) (mk h) Q = (pm_okW 8 S = true ∧ pm_WC fqP d 109 [.ref 85, .int x1] (mk h) (pm_kk fqP d 110 (pc + n) r L S Q)) := by
  show _ = (pm_okW 8 S = true ∧ pm_WC fqP d 109 [.ref 85, .int x1] (mk h) (fun v σ' => pm_WL fqP d 110 (pc + n) r L (pm_pu v S) σ' Q))
  simp only [w_invv, lg_110, lm_8_68, pm_oM_s, pm_oP_s, pm_pop_0, pm_pop_s, pm_rcv_is, hg_85, pm_oO_s, pm_ref1_is, Nat.reduceEqDiff, Nat.zero_ne_one, Nat.succ_ne_self, true_or, or_true, or_false, false_or, or_self, false_implies, true_implies, implies_true, true_and]
theorem gf_111_51_85 : pm_WL fqP d 111 pc ((.getfield 51, n) :: r) L (.ref 85 :: S) (mk h) Q = pm_WL fqP d 111 (pc + n) r L (.int (gd (h 85) 5) :: S) (mk h) Q := by
  simp only [w_getf, lg_111, lf_8_51, pm_oF_s, hg_85, pm_oO_s, List.getElem?_cons_succ, List.getElem?_cons_zero, pm_oK_s, true_and]
theorem iv_111_55_85 : pm_WL fqP d 111 pc ((.invokevirtual 55, n) :: r) L (.ref 85 :: S) (mk h) Q = (pm_okW 8 S = true ∧ pm_WC fqP d 108 [.ref 85] (mk h) (pm_kk fqP d 111 (pc + n) r L S Q)) := by
  show _ = (pm_okW 8 S = true ∧ pm_WC fqP d 108 [.ref 85] (mk h) (fun v σ' => pm_WL fqP d 111 (pc + n) r L (pm_pu v S) σ' Q))
  simp only [w_invv, lg_111, lm_8_55, pm_oM_s, pm_oP_s, pm_pop_0, pm_pop_s, pm_rcv_is, hg_85, pm_oO_s, pm_ref1_is, Nat.reduceEqDiff, Nat.zero_ne_one, Nat.succ_ne_self, true_or, or_true, or_false, false_or, or_self, false_implies, true_implies, implies_true, true_and]
theorem iv_111_41 {x0 : Int32} {x1 : Int32} {x2 : Int32} : pm_WL fqP d 111 pc ((.invokestatic 41, n) :: r) L (.int x2 :: .int x1 :: .int x0 :: S) σ Q = (pm_okW 8 S = true ∧ pm_WC fqP d 101 [.int x0, .int x1, .int x2] σ (pm_kk fqP d 111 (pc + n) r L S Q)) := by
  show _ = (pm_okW 8 S = true ∧ pm_WC fqP d 101 [.int x0, .int x1, .int x2] σ (fun v σ' => pm_WL fqP d 111 (pc + n) r L (pm_pu v S) σ' Q))
  simp only [w_invs, lg_111, lm_8_41, pm_oM_s, pm_oP_s, pm_pop_0, pm_pop_s, pm_ref1_is, Nat.reduceEqDiff, Nat.zero_ne_one, Nat.succ_ne_self, true_or, or_true, or_false, false_or, or_self, false_implies, true_implies, implies_true, true_and]
theorem pf_111_51_85 {x : Int32} (hb : pm_fit 1 (.int x) = true) : pm_WL fqP d 111 pc ((.putfield 51, n) :: r) L (.int x :: .ref 85 :: S) (mk h) Q = pm_WL fqP d 111 (pc + n) r L S (mk (up h 85 [gd (h 85) 0, gd (h 85) 1, gd (h 85) 2, gd (h 85) 3, gd (h 85) 4, x, gd (h 85) 6, gd (h 85) 7, gd (h 85) 8, gd (h 85) 9, gd (h 85) 10, gd (h 85) 11])) Q := by
  simp only [w_putf, lg_111, lf_8_51, lt_8_8, pm_oF_s, hg_85, pm_oO_s, List.set_cons_succ, List.set_cons_zero, List.length_cons, List.length_nil, pm_fit_i, hb, Nat.reduceAdd, Nat.reduceLT, Nat.zero_add, Nat.lt_add_one, Bool.false_eq_true, false_implies, true_and, and_true, hs_85]
theorem gf_111_45_85 : pm_WL fqP d 111 pc ((.getfield 45, n) :: r) L (.ref 85 :: S) (mk h) Q = pm_WL fqP d 111 (pc + n) r L (.int (gd (h 85) 3) :: S) (mk h) Q := by
  simp only [w_getf, lg_111, lf_8_45, pm_oF_s, hg_85, pm_oO_s, List.getElem?_cons_succ, List.getElem?_cons_zero, pm_oK_s, true_and]
theorem pf_111_45_85 {x : Int32} : pm_WL fqP d 111 pc ((.putfield 45, n) :: r) L (.int x :: .ref 85 :: S) (mk h) Q = pm_WL fqP d 111 (pc + n) r L S (mk (up h 85 [gd (h 85) 0, gd (h 85) 1, gd (h 85) 2, x, gd (h 85) 4, gd (h 85) 5, gd (h 85) 6, gd (h 85) 7, gd (h 85) 8, gd (h 85) 9, gd (h 85) 10, gd (h 85) 11])) Q := by
  simp only [w_putf, lg_111, lf_8_45, lt_8_6, pm_oF_s, hg_85, pm_oO_s, List.set_cons_succ, List.set_cons_zero, List.length_cons, List.length_nil, pm_fit_i, Nat.reduceAdd, Nat.reduceLT, Nat.zero_add, Nat.lt_add_one, Bool.false_eq_true, false_implies, true_and, and_true, hs_85]
theorem iv_112_59 {x0 : Nat} : pm_WL fqP d 112 pc ((.invokevirtual 59, n) :: r) L (.ref x0 :: S) σ Q = (pm_okW 8 S = true ∧ pm_WC fqP d 902 [.ref x0] σ (pm_kk fqP d 112 (pc + n) r L S Q)) := by
  show _ = (pm_okW 8 S = true ∧ pm_WC fqP d 902 [.ref x0] σ (fun v σ' => pm_WL fqP d 112 (pc + n) r L (pm_pu v S) σ' Q))
  simp only [w_invv, lg_112, lm_8_59, pm_oM_s, pm_oP_s, pm_pop_0, pm_pop_s, pm_ref1_is, Nat.reduceEqDiff, Nat.zero_ne_one, Nat.succ_ne_self, true_or, or_true, or_false, false_or, or_self, false_implies, true_implies, implies_true, true_and]
theorem iv_112_55_85 : pm_WL fqP d 112 pc ((.invokevirtual 55, n) :: r) L (.ref 85 :: S) (mk h) Q = (pm_okW 8 S = true ∧ pm_WC fqP d 108 [.ref 85] (mk h) (pm_kk fqP d 112 (pc + n) r L S Q)) := by
  show _ = (pm_okW 8 S = true ∧ pm_WC fqP d 108 [.ref 85] (mk h) (fun v σ' => pm_WL fqP d 112 (pc + n) r L (pm_pu v S) σ' Q))
  simp only [w_invv, lg_112, lm_8_55, pm_oM_s, pm_oP_s, pm_pop_0, pm_pop_s, pm_rcv_is, hg_85, pm_oO_s, pm_ref1_is, Nat.reduceEqDiff, Nat.zero_ne_one, Nat.succ_ne_self, true_or, or_true, or_false, false_or, or_self, false_implies, true_implies, implies_true, true_and]
theorem iv_112_64 {x0 : Nat} {x1 : Int32} : pm_WL fqP d 112 pc ((.invokevirtual 64, n) :: r) L (.int x1 :: .ref x0 :: S) σ Q = (pm_okW 8 S = true ∧ pm_WC fqP d 903 [.ref x0, .int x1] σ (pm_kk fqP d 112 (pc + n) r L S Q)) := by
  show _ = (pm_okW 8 S = true ∧ pm_WC fqP d 903 [.ref x0, .int x1] σ (fun v σ' => pm_WL fqP d 112 (pc + n) r L (pm_pu v S) σ' Q))
  simp only [w_invv, lg_112, lm_8_64, pm_oM_s, pm_oP_s, pm_pop_0, pm_pop_s, pm_ref1_is, Nat.reduceEqDiff, Nat.zero_ne_one, Nat.succ_ne_self, true_or, or_true, or_false, false_or, or_self, false_implies, true_implies, implies_true, true_and]
theorem gf_112_45_85 : pm_WL fqP d 112 pc ((.getfield 45, n) :: r) L (.ref 85 :: S) (mk h) Q = pm_WL fqP d 112 (pc + n) r L (.int (gd (h 85) 3) :: S) (mk h) Q := by
  simp only [w_getf, lg_112, lf_8_45, pm_oF_s, hg_85, pm_oO_s, List.getElem?_cons_succ, List.getElem?_cons_zero, pm_oK_s, true_and]
theorem pf_112_45_85 {x : Int32} : pm_WL fqP d 112 pc ((.putfield 45, n) :: r) L (.int x :: .ref 85 :: S) (mk h) Q = pm_WL fqP d 112 (pc + n) r L S (mk (up h 85 [gd (h 85) 0, gd (h 85) 1, gd (h 85) 2, x, gd (h 85) 4, gd (h 85) 5, gd (h 85) 6, gd (h 85) 7, gd (h 85) 8, gd (h 85) 9, gd (h 85) 10, gd (h 85) 11])) Q := by
  simp only [w_putf, lg_112, lf_8_45, lt_8_6, pm_oF_s, hg_85, pm_oO_s, List.set_cons_succ, List.set_cons_zero, List.length_cons, List.length_nil, pm_fit_i, Nat.reduceAdd, Nat.reduceLT, Nat.zero_add, Nat.lt_add_one, Bool.false_eq_true, false_implies, true_and, and_true, hs_85]
theorem gf_113_51_85 : pm_WL fqP d 113 pc ((.getfield 51, n) :: r) L (.ref 85 :: S) (mk h) Q = pm_WL fqP d 113 (pc + n) r L (.int (gd (h 85) 5) :: S) (mk h) Q := by
  simp only [w_getf, lg_113, lf_8_51, pm_oF_s, hg_85, pm_oO_s, List.getElem?_cons_succ, List.getElem?_cons_zero, pm_oK_s, true_and]
theorem gf_113_9_85 : pm_WL fqP d 113 pc ((.getfield 9, n) :: r) L (.ref 85 :: S) (mk h) Q = pm_WL fqP d 113 (pc + n) r L (.ref 86 :: S) (mk h) Q := by
  simp only [w_getf, lg_113, lf_8_9, pm_oF_s, hg_85, pm_oO_s, List.getElem?_cons_succ, List.getElem?_cons_zero, pm_oK_s, true_and]
theorem gf_113_72_85 : pm_WL fqP d 113 pc ((.getfield 72, n) :: r) L (.ref 85 :: S) (mk h) Q = pm_WL fqP d 113 (pc + n) r L (.int (gd (h 85) 2) :: S) (mk h) Q := by
  simp only [w_getf, lg_113, lf_8_72, pm_oF_s, hg_85, pm_oO_s, List.getElem?_cons_succ, List.getElem?_cons_zero, pm_oK_s, true_and]
theorem gf_114_51_85 : pm_WL fqP d 114 pc ((.getfield 51, n) :: r) L (.ref 85 :: S) (mk h) Q = pm_WL fqP d 114 (pc + n) r L (.int (gd (h 85) 5) :: S) (mk h) Q := by
  simp only [w_getf, lg_114, lf_8_51, pm_oF_s, hg_85, pm_oO_s, List.getElem?_cons_succ, List.getElem?_cons_zero, pm_oK_s, true_and]
theorem iv_114_55_85 : pm_WL fqP d 114 pc ((.invokevirtual 55, n) :: r) L (.ref 85 :: S) (mk h) Q = (pm_okW 8 S = true ∧ pm_WC fqP d 108 [.ref 85] (mk h) (pm_kk fqP d 114 (pc + n) r L S Q)) := by
  show _ = (pm_okW 8 S = true ∧ pm_WC fqP d 108 [.ref 85] (mk h) (fun v σ' => pm_WL fqP d 114 (pc + n) r L (pm_pu v S) σ' Q))
  simp only [w_invv, lg_114, lm_8_55, pm_oM_s, pm_oP_s, pm_pop_0, pm_pop_s, pm_rcv_is, hg_85, pm_oO_s, pm_ref1_is, Nat.reduceEqDiff, Nat.zero_ne_one, Nat.succ_ne_self, true_or, or_true, or_false, false_or, or_self, false_implies, true_implies, implies_true, true_and]
theorem gf_114_75_85 : pm_WL fqP d 114 pc ((.getfield 75, n) :: r) L (.ref 85 :: S) (mk h) Q = pm_WL fqP d 114 (pc + n) r L (.int (gd (h 85) 6) :: S) (mk h) Q := by
  simp only [w_getf, lg_114, lf_8_75, pm_oF_s, hg_85, pm_oO_s, List.getElem?_cons_succ, List.getElem?_cons_zero, pm_oK_s, true_and]
theorem pf_114_51_85 {x : Int32} (hb : pm_fit 1 (.int x) = true) : pm_WL fqP d 114 pc ((.putfield 51, n) :: r) L (.int x :: .ref 85 :: S) (mk h) Q = pm_WL fqP d 114 (pc + n) r L S (mk (up h 85 [gd (h 85) 0, gd (h 85) 1, gd (h 85) 2, gd (h 85) 3, gd (h 85) 4, x, gd (h 85) 6, gd (h 85) 7, gd (h 85) 8, gd (h 85) 9, gd (h 85) 10, gd (h 85) 11])) Q := by
  simp only [w_putf, lg_114, lf_8_51, lt_8_8, pm_oF_s, hg_85, pm_oO_s, List.set_cons_succ, List.set_cons_zero, List.length_cons, List.length_nil, pm_fit_i, hb, Nat.reduceAdd, Nat.reduceLT, Nat.zero_add, Nat.lt_add_one, Bool.false_eq_true, false_implies, true_and, and_true, hs_85]
theorem pf_114_75_85 {x : Int32} : pm_WL fqP d 114 pc ((.putfield 75, n) :: r) L (.int x :: .ref 85 :: S) (mk h) Q = pm_WL fqP d 114 (pc + n) r L S (mk (up h 85 [gd (h 85) 0, gd (h 85) 1, gd (h 85) 2, gd (h 85) 3, gd (h 85) 4, gd (h 85) 5, x, gd (h 85) 7, gd (h 85) 8, gd (h 85) 9, gd (h 85) 10, gd (h 85) 11])) Q := by
  simp only [w_putf, lg_114, lf_8_75, lt_8_9, pm_oF_s, hg_85, pm_oO_s, List.set_cons_succ, List.set_cons_zero, List.length_cons, List.length_nil, pm_fit_i, Nat.reduceAdd, Nat.reduceLT, Nat.zero_add, Nat.lt_add_one, Bool.false_eq_true, false_implies, true_and, and_true, hs_85]
theorem gf_114_45_85 : pm_WL fqP d 114 pc ((.getfield 45, n) :: r) L (.ref 85 :: S) (mk h) Q = pm_WL fqP d 114 (pc + n) r L (.int (gd (h 85) 3) :: S) (mk h) Q := by
  simp only [w_getf, lg_114, lf_8_45, pm_oF_s, hg_85, pm_oO_s, List.getElem?_cons_succ, List.getElem?_cons_zero, pm_oK_s, true_and]
theorem pf_114_45_85 {x : Int32} : pm_WL fqP d 114 pc ((.putfield 45, n) :: r) L (.int x :: .ref 85 :: S) (mk h) Q = pm_WL fqP d 114 (pc + n) r L S (mk (up h 85 [gd (h 85) 0, gd (h 85) 1, gd (h 85) 2, x, gd (h 85) 4, gd (h 85) 5, gd (h 85) 6, gd (h 85) 7, gd (h 85) 8, gd (h 85) 9, gd (h 85) 10, gd (h 85) 11])) Q := by
  simp only [w_putf, lg_114, lf_8_45, lt_8_6, pm_oF_s, hg_85, pm_oO_s, List.set_cons_succ, List.set_cons_zero, List.length_cons, List.length_nil, pm_fit_i, Nat.reduceAdd, Nat.reduceLT, Nat.zero_add, Nat.lt_add_one, Bool.false_eq_true, false_implies, true_and, and_true, hs_85]
theorem iv_114_78_85 : pm_WL fqP d 114 pc ((.invokevirtual 78, n) :: r) L (.ref 85 :: S) (mk h) Q = (pm_okW 8 S = true ∧ pm_WC fqP d 114 [.ref 85] (mk h) (pm_kk fqP d 114 (pc + n) r L S Q)) := by
  show _ = (pm_okW 8 S = true ∧ pm_WC fqP d 114 [.ref 85] (mk h) (fun v σ' => pm_WL fqP d 114 (pc + n) r L (pm_pu v S) σ' Q))
  simp only [w_invv, lg_114, lm_8_78, pm_oM_s, pm_oP_s, pm_pop_0, pm_pop_s, pm_rcv_is, hg_85, pm_oO_s, pm_ref1_is, Nat.reduceEqDiff, Nat.zero_ne_one, Nat.succ_ne_self, true_or, or_true, or_false, false_or, or_self, false_implies, true_implies, implies_true, true_and]
theorem iv_114_81_85 {x1 : Int32} : pm_WL fqP d 114 pc ((.invokevirtual 81, n) :: r) L (.int x1 :: .ref 85 :: S) (mk h) Q = (pm_okW 8 S = true ∧ pm_WC fqP d 113 [.ref 85, .int x1] (mk h) (pm_kk fqP d 114 (pc + n) r L S Q)) := by
  show _ = (pm_okW 8 S = true ∧ pm_WC fqP d 113 [.ref 85, .int x1] (mk h) (fun v σ' => pm_WL fqP d 114 (pc + n) r L (pm_pu v S) σ' Q))
  simp only [w_invv, lg_114, lm_8_81, pm_oM_s, pm_oP_s, pm_pop_0, pm_pop_s, pm_rcv_is, hg_85, pm_oO_s, pm_ref1_is, Nat.reduceEqDiff, Nat.zero_ne_one, Nat.succ_ne_self, true_or, or_true, or_false, false_or, or_self, false_implies, true_implies, implies_true, true_and]
theorem iv_114_84_85 : pm_WL fqP d 114 pc ((.invokevirtual 84, n) :: r) L (.ref 85 :: S) (mk h) Q = (pm_okW 8 S = true ∧ pm_WC fqP d 116 [.ref 85] (mk h) (pm_kk fqP d 114 (pc + n) r L S Q)) := by
  show _ = (pm_okW 8 S = true ∧ pm_WC fqP d 116 [.ref 85] (mk h) (fun v σ' => pm_WL fqP d 114 (pc + n) r L (pm_pu v S) σ' Q))
  simp only [w_invv, lg_114, lm_8_84, pm_oM_s, pm_oP_s, pm_pop_0, pm_pop_s, pm_rcv_is, hg_85, pm_oO_s, pm_ref1_is, Nat.reduceEqDiff, Nat.zero_ne_one, Nat.succ_ne_self, true_or, or_true, or_false, false_or, or_self, false_implies, true_implies, implies_true, true_and]
theorem iv_114_68_85 {x1 : Int32} : pm_WL fqP d 114 pc ((.invokevirtual 68, n) :: r) L (.int x1 :: .ref 85 :: S) (mk h) Q = (pm_okW 8 S = true ∧ pm_WC fqP d 109 [.ref 85, .int x1] (mk h) (pm_kk fqP d 114 (pc + n) r L S Q)) := by
  show _ = (pm_okW 8 S = true ∧ pm_WC fqP d 109 [.ref 85, .int x1] (mk h) (fun v σ' => pm_WL fqP d 114 (pc + n) r L (pm_pu v S) σ' Q))
  simp only [w_invv, lg_114, lm_8_68, pm_oM_s, pm_oP_s, pm_pop_0, pm_pop_s, pm_rcv_is, hg_85, pm_oO_s, pm_ref1_is, Nat.reduceEqDiff, Nat.zero_ne_one, Nat.succ_ne_self, true_or, or_true, or_false, false_or, or_self, false_implies, true_implies, implies_true, true_and]
theorem iv_114_89_85 {x1 : Nat} : pm_WL fqP d 114 pc ((.invokevirtual 89, n) :: r) L (.ref x1 :: .ref 85 :: S) (mk h) Q = (pm_okW 8 S = true ∧ pm_WC fqP d 112 [.ref 85, .ref x1] (mk h) (pm_kk fqP d 114 (pc + n) r L S Q)) := by
  show _ = (pm_okW 8 S = true ∧ pm_WC fqP d 112 [.ref 85, .ref x1] (mk h) (fun v σ' => pm_WL fqP d 114 (pc + n) r L (pm_pu v S) σ' Q))
  simp only [w_invv, lg_114, lm_8_89, pm_oM_s, pm_oP_s, pm_pop_0, pm_pop_s, pm_rcv_is, hg_85, pm_oO_s, pm_ref1_is, Nat.reduceEqDiff, Nat.zero_ne_one, Nat.succ_ne_self, true_or, or_true, or_false, false_or, or_self, false_implies, true_implies, implies_true, true_and]
theorem iv_114_95_85 : pm_WL fqP d 114 pc ((.invokevirtual 95, n) :: r) L (.ref 85 :: S) (mk h) Q = (pm_okW 8 S = true ∧ pm_WC fqP d 111 [.ref 85] (mk h) (pm_kk fqP d 114 (pc + n) r L S Q)) := by
  show _ = (pm_okW 8 S = true ∧ pm_WC fqP d 111 [.ref 85] (mk h) (fun v σ' => pm_WL fqP d 114 (pc + n) r L (pm_pu v S) σ' Q))
  simp only [w_invv, lg_114, lm_8_95, pm_oM_s, pm_oP_s, pm_pop_0, pm_pop_s, pm_rcv_is, hg_85, pm_oO_s, pm_ref1_is, Nat.reduceEqDiff, Nat.zero_ne_one, Nat.succ_ne_self, true_or, or_true, or_false, false_or, or_self, false_implies, true_implies, implies_true, true_and]
theorem iv_115_78_85 : pm_WL fqP d 115 pc ((.invokevirtual 78, n) :: r) L (.ref 85 :: S) (mk h) Q = (pm_okW 8 S = true ∧ pm_WC fqP d 114 [.ref 85] (mk h) (pm_kk fqP d 115 (pc + n) r L S Q)) := by
  show _ = (pm_okW 8 S = true ∧ pm_WC fqP d 114 [.ref 85] (mk h) (fun v σ' => pm_WL fqP d 115 (pc + n) r L (pm_pu v S) σ' Q))
  simp only [w_invv, lg_115, lm_8_78, pm_oM_s, pm_oP_s, pm_pop_0, pm_pop_s, pm_rcv_is, hg_85, pm_oO_s, pm_ref1_is, Nat.reduceEqDiff, Nat.zero_ne_one, Nat.succ_ne_self, true_or, or_true, or_false, false_or, or_self, false_implies, true_implies, implies_true, true_and]
theorem gf_115_51_85 : pm_WL fqP d 115 pc ((.getfield 51, n) :: r) L (.ref 85 :: S) (mk h) Q = pm_WL fqP d 115 (pc + n) r L (.int (gd (h 85) 5) :: S) (mk h) Q := by
  simp only [w_getf, lg_115, lf_8_51, pm_oF_s, hg_85, pm_oO_s, List.getElem?_cons_succ, List.getElem?_cons_zero, pm_oK_s, true_and]
theorem iv_115_55_85 : pm_WL fqP d 115 pc ((.invokevirtual 55, n) :: r) L (.ref 85 :: S) (mk h) Q = (pm_okW 8 S = true ∧ pm_WC fqP d 108 [.ref 85] (mk h) (pm_kk fqP d 115 (pc + n) r L S Q)) := by
  show _ = (pm_okW 8 S = true ∧ pm_WC fqP d 108 [.ref 85] (mk h) (fun v σ' => pm_WL fqP d 115 (pc + n) r L (pm_pu v S) σ' Q))
  simp only [w_invv, lg_115, lm_8_55, pm_oM_s, pm_oP_s, pm_pop_0, pm_pop_s, pm_rcv_is, hg_85, pm_oO_s, pm_ref1_is, Nat.reduceEqDiff, Nat.zero_ne_one, Nat.succ_ne_self, true_or, or_true, or_false, false_or, or_self, false_implies, true_implies, implies_true, true_and]
theorem gf_115_45_85 : pm_WL fqP d 115 pc ((.getfield 45, n) :: r) L (.ref 85 :: S) (mk h) Q = pm_WL fqP d 115 (pc + n) r L (.int (gd (h 85) 3) :: S) (mk h) Q := by
  simp only [w_getf, lg_115, lf_8_45, pm_oF_s, hg_85, pm_oO_s, List.getElem?_cons_succ, List.getElem?_cons_zero, pm_oK_s, true_and]
theorem pf_115_45_85 {x : Int32} : pm_WL fqP d 115 pc ((.putfield 45, n) :: r) L (.int x :: .ref 85 :: S) (mk h) Q = pm_WL fqP d 115 (pc + n) r L S (mk (up h 85 [gd (h 85) 0, gd (h 85) 1, gd (h 85) 2, x, gd (h 85) 4, gd (h 85) 5, gd (h 85) 6, gd (h 85) 7, gd (h 85) 8, gd (h 85) 9, gd (h 85) 10, gd (h 85) 11])) Q := by
  simp only [w_putf, lg_115, lf_8_45, lt_8_6, pm_oF_s, hg_85, pm_oO_s, List.set_cons_succ, List.set_cons_zero, List.length_cons, List.length_nil, pm_fit_i, Nat.reduceAdd, Nat.reduceLT, Nat.zero_add, Nat.lt_add_one, Bool.false_eq_true, false_implies, true_and, and_true, hs_85]
theorem iv_115_81_85 {x1 : Int32} : pm_WL fqP d 115 pc ((.invokevirtual 81, n) :: r) L (.int x1 :: .ref 85 :: S) (mk h) Q = (pm_okW 8 S = true ∧ pm_WC fqP d 113 [.ref 85, .int x1] (mk h) (pm_kk fqP d 115 (pc + n) r L S Q)) := by
  show _ = (pm_okW 8 S = true ∧ pm_WC fqP d 113 [.ref 85, .int x1] (mk h) (fun v σ' => pm_WL fqP d 115 (pc + n) r L (pm_pu v S) σ' Q))
  simp only [w_invv, lg_115, lm_8_81, pm_oM_s, pm_oP_s, pm_pop_0, pm_pop_s, pm_rcv_is, hg_85, pm_oO_s, pm_ref1_is, Nat.reduceEqDiff, Nat.zero_ne_one, Nat.succ_ne_self, true_or, or_true, or_false, false_or, or_self, false_implies, true_implies, implies_true, true_and]
theorem iv_116_98_85 : pm_WL fqP d 116 pc ((.invokevirtual 98, n) :: r) L (.ref 85 :: S) (mk h) Q = (pm_okW 8 S = true ∧ pm_WC fqP d 115 [.ref 85] (mk h) (pm_kk fqP d 116 (pc + n) r L S Q)) := by
  show _ = (pm_okW 8 S = true ∧ pm_WC fqP d 115 [.ref 85] (mk h) (fun v σ' => pm_WL fqP d 116 (pc + n) r L (pm_pu v S) σ' Q))
  simp only [w_invv, lg_116, lm_8_98, pm_oM_s, pm_oP_s, pm_pop_0, pm_pop_s, pm_rcv_is, hg_85, pm_oO_s, pm_ref1_is, Nat.reduceEqDiff, Nat.zero_ne_one, Nat.succ_ne_self, true_or, or_true, or_false, false_or, or_self, false_implies, true_implies, implies_true, true_and]
theorem gf_116_51_85 : pm_WL fqP d 116 pc ((.getfield 51, n) :: r) L (.ref 85 :: S) (mk h) Q = pm_WL fqP d 116 (pc + n) r L (.int (gd (h 85) 5) :: S) (mk h) Q := by
  simp only [w_getf, lg_116, lf_8_51, pm_oF_s, hg_85, pm_oO_s, List.getElem?_cons_succ, List.getElem?_cons_zero, pm_oK_s, true_and]
theorem iv_116_55_85 : pm_WL fqP d 116 pc ((.invokevirtual 55, n) :: r) L (.ref 85 :: S) (mk h) Q = (pm_okW 8 S = true ∧ pm_WC fqP d 108 [.ref 85] (mk h) (pm_kk fqP d 116 (pc + n) r L S Q)) := by
  show _ = (pm_okW 8 S = true ∧ pm_WC fqP d 108 [.ref 85] (mk h) (fun v σ' => pm_WL fqP d 116 (pc + n) r L (pm_pu v S) σ' Q))
  simp only [w_invv, lg_116, lm_8_55, pm_oM_s, pm_oP_s, pm_pop_0, pm_pop_s, pm_rcv_is, hg_85, pm_oO_s, pm_ref1_is, Nat.reduceEqDiff, Nat.zero_ne_one, Nat.succ_ne_self, true_or, or_true, or_false, false_or, or_self, false_implies, true_implies, implies_true, true_and]
theorem gf_116_45_85 : pm_WL fqP d 116 pc ((.getfield 45, n) :: r) L (.ref 85 :: S) (mk h) Q = pm_WL fqP d 116 (pc + n) r L (.int (gd (h 85) 3) :: S) (mk h) Q := by
  simp only [w_getf, lg_116, lf_8_45, pm_oF_s, hg_85, pm_oO_s, List.getElem?_cons_succ, List.getElem?_cons_zero, pm_oK_s, true_and]
theorem pf_116_45_85 {x : Int32} : pm_WL fqP d 116 pc ((.putfield 45, n) :: r) L (.int x :: .ref 85 :: S) (mk h) Q = pm_WL fqP d 116 (pc + n) r L S (mk (up h 85 [gd (h 85) 0, gd (h 85) 1, gd (h 85) 2, x, gd (h 85) 4, gd (h 85) 5, gd (h 85) 6, gd (h 85) 7, gd (h 85) 8, gd (h 85) 9, gd (h 85) 10, gd (h 85) 11])) Q := by
  simp only [w_putf, lg_116, lf_8_45, lt_8_6, pm_oF_s, hg_85, pm_oO_s, List.set_cons_succ, List.set_cons_zero, List.length_cons, List.length_nil, pm_fit_i, Nat.reduceAdd, Nat.reduceLT, Nat.zero_add, Nat.lt_add_one, Bool.false_eq_true, false_implies, true_and, and_true, hs_85]
theorem iv_116_81_85 {x1 : Int32} : pm_WL fqP d 116 pc ((.invokevirtual 81, n) :: r) L (.int x1 :: .ref 85 :: S) (mk h) Q = (pm_okW 8 S = true ∧ pm_WC fqP d 113 [.ref 85, .int x1] (mk h) (pm_kk fqP d 116 (pc + n) r L S Q)) := by
  show _ = (pm_okW 8 S = true ∧ pm_WC fqP d 113 [.ref 85, .int x1] (mk h) (fun v σ' => pm_WL fqP d 116 (pc + n) r L (pm_pu v S) σ' Q))
  simp only [w_invv, lg_116, lm_8_81, pm_oM_s, pm_oP_s, pm_pop_0, pm_pop_s, pm_rcv_is, hg_85, pm_oO_s, pm_ref1_is, Nat.reduceEqDiff, Nat.zero_ne_one, Nat.succ_ne_self, true_or, or_true, or_false, false_or, or_self, false_implies, true_implies, implies_true, true_and]
theorem iv_117_101_85 {x1 : Nat} : pm_WL fqP d 117 pc ((.invokevirtual 101, n) :: r) L (.ref x1 :: .ref 85 :: S) (mk h) Q = (pm_okW 8 S = true ∧ pm_WC fqP d 110 [.ref 85, .ref x1] (mk h) (pm_kk fqP d 117 (pc + n) r L S Q)) := by
  show _ = (pm_okW 8 S = true ∧ pm_WC fqP d 110 [.ref 85, .ref x1] (mk h) (fun v σ' => pm_WL fqP d 117 (pc + n) r L (pm_pu v S) σ' Q))
  simp only [w_invv, lg_117, lm_8_101, pm_oM_s, pm_oP_s, pm_pop_0, pm_pop_s, pm_rcv_is, hg_85, pm_oO_s, pm_ref1_is, Nat.reduceEqDiff, Nat.zero_ne_one, Nat.succ_ne_self, true_or, or_true, or_false, false_or, or_self, false_implies, true_implies, implies_true, true_and]
theorem iv_117_95_85 : pm_WL fqP d 117 pc ((.invokevirtual 95, n) :: r) L (.ref 85 :: S) (mk h) Q = (pm_okW 8 S = true ∧ pm_WC fqP d 111 [.ref 85] (mk h) (pm_kk fqP d 117 (pc + n) r L S Q)) := by
  show _ = (pm_okW 8 S = true ∧ pm_WC fqP d 111 [.ref 85] (mk h) (fun v σ' => pm_WL fqP d 117 (pc + n) r L (pm_pu v S) σ' Q))
  simp only [w_invv, lg_117, lm_8_95, pm_oM_s, pm_oP_s, pm_pop_0, pm_pop_s, pm_rcv_is, hg_85, pm_oO_s, pm_ref1_is, Nat.reduceEqDiff, Nat.zero_ne_one, Nat.succ_ne_self, true_or, or_true, or_false, false_or, or_self, false_implies, true_implies, implies_true, true_and]
theorem iv_117_68_85 {x1 : Int32} : pm_WL fqP d 117 pc ((.invokevirtual 68, n) :: r) L (.int x1 :: .ref 85 :: S) (mk h) Q = (pm_okW 8 S = true ∧ pm_WC fqP d 109 [.ref 85, .int x1] (mk h) (pm_kk fqP d 117 (pc + n) r L S Q)) := by
  show _ = (pm_okW 8 S = true ∧ pm_WC fqP d 109 [.ref 85, .int x1] (mk h) (fun v σ' => pm_WL fqP d 117 (pc + n) r L (pm_pu v S) σ' Q))
  simp only [w_invv, lg_117, lm_8_68, pm_oM_s, pm_oP_s, pm_pop_0, pm_pop_s, pm_rcv_is, hg_85, pm_oO_s, pm_ref1_is, Nat.reduceEqDiff, Nat.zero_ne_one, Nat.succ_ne_self, true_or, or_true, or_false, false_or, or_self, false_implies, true_implies, implies_true, true_and]
theorem iv_117_84_85 : pm_WL fqP d 117 pc ((.invokevirtual 84, n) :: r) L (.ref 85 :: S) (mk h) Q = (pm_okW 8 S = true ∧ pm_WC fqP d 116 [.ref 85] (mk h) (pm_kk fqP d 117 (pc + n) r L S Q)) := by
  show _ = (pm_okW 8 S = true ∧ pm_WC fqP d 116 [.ref 85] (mk h) (fun v σ' => pm_WL fqP d 117 (pc + n) r L (pm_pu v S) σ' Q))
  simp only [w_invv, lg_117, lm_8_84, pm_oM_s, pm_oP_s, pm_pop_0, pm_pop_s, pm_rcv_is, hg_85, pm_oO_s, pm_ref1_is, Nat.reduceEqDiff, Nat.zero_ne_one, Nat.succ_ne_self, true_or, or_true, or_false, false_or, or_self, false_implies, true_implies, implies_true, true_and]
theorem iv_117_81_85 {x1 : Int32} : pm_WL fqP d 117 pc ((.invokevirtual 81, n) :: r) L (.int x1 :: .ref 85 :: S) (mk h) Q = (pm_okW 8 S = true ∧ pm_WC fqP d 113 [.ref 85, .int x1] (mk h) (pm_kk fqP d 117 (pc + n) r L S Q)) := by
  show _ = (pm_okW 8 S = true ∧ pm_WC fqP d 113 [.ref 85, .int x1] (mk h) (fun v σ' => pm_WL fqP d 117 (pc + n) r L (pm_pu v S) σ' Q))
  simp only [w_invv, lg_117, lm_8_81, pm_oM_s, pm_oP_s, pm_pop_0, pm_pop_s, pm_rcv_is, hg_85, pm_oO_s, pm_ref1_is, Nat.reduceEqDiff, Nat.zero_ne_one, Nat.succ_ne_self, true_or, or_true, or_false, false_or, or_self, false_implies, true_implies, implies_true, true_and]
theorem iv_118_101_85 {x1 : Nat} : pm_WL fqP d 118 pc ((.invokevirtual 101, n) :: r) L (.ref x1 :: .ref 85 :: S) (mk h) Q = (pm_okW 8 S = true ∧ pm_WC fqP d 110 [.ref 85, .ref x1] (mk h) (pm_kk fqP d 118 (pc + n) r L S Q)) := by
  show _ = (pm_okW 8 S = true ∧ pm_WC fqP d 110 [.ref 85, .ref x1] (mk h) (fun v σ' => pm_WL fqP d 118 (pc + n) r L (pm_pu v S) σ' Q))
  simp only [w_invv, lg_118, lm_8_101, pm_oM_s, pm_oP_s, pm_pop_0, pm_pop_s, pm_rcv_is, hg_85, pm_oO_s, pm_ref1_is, Nat.reduceEqDiff, Nat.zero_ne_one, Nat.succ_ne_self, true_or, or_true, or_false, false_or, or_self, false_implies, true_implies, implies_true, true_and]
theorem iv_118_95_85 : pm_WL fqP d 118 pc ((.invokevirtual 95, n) :: r) L (.ref 85 :: S) (mk h) Q = (pm_okW 8 S = true ∧ pm_WC fqP d 111 [.ref 85] (mk h) (pm_kk fqP d 118 (pc + n) r L S Q)) := by
  show _ = (pm_okW 8 S = true ∧ pm_WC fqP d 111 [.ref 85] (mk h) (fun v σ' => pm_WL fqP d 118 (pc + n) r L (pm_pu v S) σ' Q))
  simp only [w_invv, lg_118, lm_8_95, pm_oM_s, pm_oP_s, pm_pop_0, pm_pop_s, pm_rcv_is, hg_85, pm_oO_s, pm_ref1_is, Nat.reduceEqDiff, Nat.zero_ne_one, Nat.succ_ne_self, true_or, or_true, or_false, false_or, or_self, false_implies, true_implies, implies_true, true_and]
theorem gf_118_51_85 : pm_WL fqP d 118 pc ((.getfield 51, n) :: r) L (.ref 85 :: S) (mk h) Q = pm_WL fqP d 118 (pc + n) r L (.int (gd (h 85) 5) :: S) (mk h) Q := by
  simp only [w_getf, lg_118, lf_8_51, pm_oF_s, hg_85, pm_oO_s, List.getElem?_cons_succ, List.getElem?_cons_zero, pm_oK_s, true_and]
theorem gf_118_9_85 : pm_WL fqP d 118 pc ((.getfield 9, n) :: r) L (.ref 85 :: S) (mk h) Q = pm_WL fqP d 118 (pc + n) r L (.ref 86 :: S) (mk h) Q := by
  simp only [w_getf, lg_118, lf_8_9, pm_oF_s, hg_85, pm_oO_s, List.getElem?_cons_succ, List.getElem?_cons_zero, pm_oK_s, true_and]
theorem gf_118_72_85 : pm_WL fqP d 118 pc ((.getfield 72, n) :: r) L (.ref 85 :: S) (mk h) Q = pm_WL fqP d 118 (pc + n) r L (.int (gd (h 85) 2) :: S) (mk h) Q := by
  simp only [w_getf, lg_118, lf_8_72, pm_oF_s, hg_85, pm_oO_s, List.getElem?_cons_succ, List.getElem?_cons_zero, pm_oK_s, true_and]
theorem iv_119_55_85 : pm_WL fqP d 119 pc ((.invokevirtual 55, n) :: r) L (.ref 85 :: S) (mk h) Q = (pm_okW 8 S = true ∧ pm_WC fqP d 108 [.ref 85] (mk h) (pm_kk fqP d 119 (pc + n) r L S Q)) := by
  show _ = (pm_okW 8 S = true ∧ pm_WC fqP d 108 [.ref 85] (mk h) (fun v σ' => pm_WL fqP d 119 (pc + n) r L (pm_pu v S) σ' Q))
  simp only [w_invv, lg_119, lm_8_55, pm_oM_s, pm_oP_s, pm_pop_0, pm_pop_s, pm_rcv_is, hg_85, pm_oO_s, pm_ref1_is, Nat.reduceEqDiff, Nat.zero_ne_one, Nat.succ_ne_self, true_or, or_true, or_false, false_or, or_self, false_implies, true_implies, implies_true, true_and]
theorem iv_119_107_85 {x1 : Int32} {x2 : Nat} : pm_WL fqP d 119 pc ((.invokevirtual 107, n) :: r) L (.ref x2 :: .int x1 :: .ref 85 :: S) (mk h) Q = (pm_okW 8 S = true ∧ pm_WC fqP d 118 [.ref 85, .int x1, .ref x2] (mk h) (pm_kk fqP d 119 (pc + n) r L S Q)) := by
  show _ = (pm_okW 8 S = true ∧ pm_WC fqP d 118 [.ref 85, .int x1, .ref x2] (mk h) (fun v σ' => pm_WL fqP d 119 (pc + n) r L (pm_pu v S) σ' Q))
  simp only [w_invv, lg_119, lm_8_107, pm_oM_s, pm_oP_s, pm_pop_0, pm_pop_s, pm_rcv_is, hg_85, pm_oO_s, pm_ref1_is, Nat.reduceEqDiff, Nat.zero_ne_one, Nat.succ_ne_self, true_or, or_true, or_false, false_or, or_self, false_implies, true_implies, implies_true, true_and]
theorem iv_119_113_85 {x1 : Int32} {x2 : Nat} : pm_WL fqP d 119 pc ((.invokevirtual 113, n) :: r) L (.ref x2 :: .int x1 :: .ref 85 :: S) (mk h) Q = (pm_okW 8 S = true ∧ pm_WC fqP d 117 [.ref 85, .int x1, .ref x2] (mk h) (pm_kk fqP d 119 (pc + n) r L S Q)) := by
  show _ = (pm_okW 8 S = true ∧ pm_WC fqP d 117 [.ref 85, .int x1, .ref x2] (mk h) (fun v σ' => pm_WL fqP d 119 (pc + n) r L (pm_pu v S) σ' Q))
  simp only [w_invv, lg_119, lm_8_113, pm_oM_s, pm_oP_s, pm_pop_0, pm_pop_s, pm_rcv_is, hg_85, pm_oO_s, pm_ref1_is, Nat.reduceEqDiff, Nat.zero_ne_one, Nat.succ_ne_self, true_or, or_true, or_false, false_or, or_self, false_implies, true_implies, implies_true, true_and]
theorem pf_119_51_85 {x : Int32} (hb : pm_fit 1 (.int x) = true) : pm_WL fqP d 119 pc ((.putfield 51, n) :: r) L (.int x :: .ref 85 :: S) (mk h) Q = pm_WL fqP d 119 (pc + n) r L S (mk (up h 85 [gd (h 85) 0, gd (h 85) 1, gd (h 85) 2, gd (h 85) 3, gd (h 85) 4, x, gd (h 85) 6, gd (h 85) 7, gd (h 85) 8, gd (h 85) 9, gd (h 85) 10, gd (h 85) 11])) Q := by
  simp only [w_putf, lg_119, lf_8_51, lt_8_8, pm_oF_s, hg_85, pm_oO_s, List.set_cons_succ, List.set_cons_zero, List.length_cons, List.length_nil, pm_fit_i, hb, Nat.reduceAdd, Nat.reduceLT, Nat.zero_add, Nat.lt_add_one, Bool.false_eq_true, false_implies, true_and, and_true, hs_85]
theorem gf_120_9_85 : pm_WL fqP d 120 pc ((.getfield 9, n) :: r) L (.ref 85 :: S) (mk h) Q = pm_WL fqP d 120 (pc + n) r L (.ref 86 :: S) (mk h) Q := by
  simp only [w_getf, lg_120, lf_8_9, pm_oF_s, hg_85, pm_oO_s, List.getElem?_cons_succ, List.getElem?_cons_zero, pm_oK_s, true_and]
theorem pf_120_72_85 {x : Int32} : pm_WL fqP d 120 pc ((.putfield 72, n) :: r) L (.int x :: .ref 85 :: S) (mk h) Q = pm_WL fqP d 120 (pc + n) r L S (mk (up h 85 [gd (h 85) 0, gd (h 85) 1, x, gd (h 85) 3, gd (h 85) 4, gd (h 85) 5, gd (h 85) 6, gd (h 85) 7, gd (h 85) 8, gd (h 85) 9, gd (h 85) 10, gd (h 85) 11])) Q := by
  simp only [w_putf, lg_120, lf_8_72, lt_8_5, pm_oF_s, hg_85, pm_oO_s, List.set_cons_succ, List.set_cons_zero, List.length_cons, List.length_nil, pm_fit_i, Nat.reduceAdd, Nat.reduceLT, Nat.zero_add, Nat.lt_add_one, Bool.false_eq_true, false_implies, true_and, and_true, hs_85]
theorem pf_120_48_85 {x : Int32} : pm_WL fqP d 120 pc ((.putfield 48, n) :: r) L (.int x :: .ref 85 :: S) (mk h) Q = pm_WL fqP d 120 (pc + n) r L S (mk (up h 85 [gd (h 85) 0, gd (h 85) 1, gd (h 85) 2, gd (h 85) 3, x, gd (h 85) 5, gd (h 85) 6, gd (h 85) 7, gd (h 85) 8, gd (h 85) 9, gd (h 85) 10, gd (h 85) 11])) Q := by
  simp only [w_putf, lg_120, lf_8_48, lt_8_7, pm_oF_s, hg_85, pm_oO_s, List.set_cons_succ, List.set_cons_zero, List.length_cons, List.length_nil, pm_fit_i, Nat.reduceAdd, Nat.reduceLT, Nat.zero_add, Nat.lt_add_one, Bool.false_eq_true, false_implies, true_and, and_true, hs_85]
theorem gf_120_72_85 : pm_WL fqP d 120 pc ((.getfield 72, n) :: r) L (.ref 85 :: S) (mk h) Q = pm_WL fqP d 120 (pc + n) r L (.int (gd (h 85) 2) :: S) (mk h) Q := by
  simp only [w_getf, lg_120, lf_8_72, pm_oF_s, hg_85, pm_oO_s, List.getElem?_cons_succ, List.getElem?_cons_zero, pm_oK_s, true_and]
theorem pf_120_45_85 {x : Int32} : pm_WL fqP d 120 pc ((.putfield 45, n) :: r) L (.int x :: .ref 85 :: S) (mk h) Q = pm_WL fqP d 120 (pc + n) r L S (mk (up h 85 [gd (h 85) 0, gd (h 85) 1, gd (h 85) 2, x, gd (h 85) 4, gd (h 85) 5, gd (h 85) 6, gd (h 85) 7, gd (h 85) 8, gd (h 85) 9, gd (h 85) 10, gd (h 85) 11])) Q := by
  simp only [w_putf, lg_120, lf_8_45, lt_8_6, pm_oF_s, hg_85, pm_oO_s, List.set_cons_succ, List.set_cons_zero, List.length_cons, List.length_nil, pm_fit_i, Nat.reduceAdd, Nat.reduceLT, Nat.zero_add, Nat.lt_add_one, Bool.false_eq_true, false_implies, true_and, and_true, hs_85]
theorem pf_120_51_85 {x : Int32} (hb : pm_fit 1 (.int x) = true) : pm_WL fqP d 120 pc ((.putfield 51, n) :: r) L (.int x :: .ref 85 :: S) (mk h) Q = pm_WL fqP d 120 (pc + n) r L S (mk (up h 85 [gd (h 85) 0, gd (h 85) 1, gd (h 85) 2, gd (h 85) 3, gd (h 85) 4, x, gd (h 85) 6, gd (h 85) 7, gd (h 85) 8, gd (h 85) 9, gd (h 85) 10, gd (h 85) 11])) Q := by
  simp only [w_putf, lg_120, lf_8_51, lt_8_8, pm_oF_s, hg_85, pm_oO_s, List.set_cons_succ, List.set_cons_zero, List.length_cons, List.length_nil, pm_fit_i, hb, Nat.reduceAdd, Nat.reduceLT, Nat.zero_add, Nat.lt_add_one, Bool.false_eq_true, false_implies, true_and, and_true, hs_85]
theorem pf_120_75_85 {x : Int32} : pm_WL fqP d 120 pc ((.putfield 75, n) :: r) L (.int x :: .ref 85 :: S) (mk h) Q = pm_WL fqP d 120 (pc + n) r L S (mk (up h 85 [gd (h 85) 0, gd (h 85) 1, gd (h 85) 2, gd (h 85) 3, gd (h 85) 4, gd (h 85) 5, x, gd (h 85) 7, gd (h 85) 8, gd (h 85) 9, gd (h 85) 10, gd (h 85) 11])) Q := by
  simp only [w_putf, lg_120, lf_8_75, lt_8_9, pm_oF_s, hg_85, pm_oO_s, List.set_cons_succ, List.set_cons_zero, List.length_cons, List.length_nil, pm_fit_i, Nat.reduceAdd, Nat.reduceLT, Nat.zero_add, Nat.lt_add_one, Bool.false_eq_true, false_implies, true_and, and_true, hs_85]
theorem iv_120_118_85 : pm_WL fqP d 120 pc ((.invokevirtual 118, n) :: r) L (.ref 85 :: S) (mk h) Q = (pm_okW 8 S = true ∧ pm_WC fqP d 119 [.ref 85] (mk h) (pm_kk fqP d 120 (pc + n) r L S Q)) := by
  show _ = (pm_okW 8 S = true ∧ pm_WC fqP d 119 [.ref 85] (mk h) (fun v σ' => pm_WL fqP d 120 (pc + n) r L (pm_pu v S) σ' Q))
  simp only [w_invv, lg_120, lm_8_118, pm_oM_s, pm_oP_s, pm_pop_0, pm_pop_s, pm_rcv_is, hg_85, pm_oO_s, pm_ref1_is, Nat.reduceEqDiff, Nat.zero_ne_one, Nat.succ_ne_self, true_or, or_true, or_false, false_or, or_self, false_implies, true_implies, implies_true, true_and]
theorem gf_120_51_85 : pm_WL fqP d 120 pc ((.getfield 51, n) :: r) L (.ref 85 :: S) (mk h) Q = pm_WL fqP d 120 (pc + n) r L (.int (gd (h 85) 5) :: S) (mk h) Q := by
  simp only [w_getf, lg_120, lf_8_51, pm_oF_s, hg_85, pm_oO_s, List.getElem?_cons_succ, List.getElem?_cons_zero, pm_oK_s, true_and]
theorem iv_120_55_85 : pm_WL fqP d 120 pc ((.invokevirtual 55, n) :: r) L (.ref 85 :: S) (mk h) Q = (pm_okW 8 S = true ∧ pm_WC fqP d 108 [.ref 85] (mk h) (pm_kk fqP d 120 (pc + n) r L S Q)) := by
  show _ = (pm_okW 8 S = true ∧ pm_WC fqP d 108 [.ref 85] (mk h) (fun v σ' => pm_WL fqP d 120 (pc + n) r L (pm_pu v S) σ' Q))
  simp only [w_invv, lg_120, lm_8_55, pm_oM_s, pm_oP_s, pm_pop_0, pm_pop_s, pm_rcv_is, hg_85, pm_oO_s, pm_ref1_is, Nat.reduceEqDiff, Nat.zero_ne_one, Nat.succ_ne_self, true_or, or_true, or_false, false_or, or_self, false_implies, true_implies, implies_true, true_and]
theorem gf_120_45_85 : pm_WL fqP d 120 pc ((.getfield 45, n) :: r) L (.ref 85 :: S) (mk h) Q = pm_WL fqP d 120 (pc + n) r L (.int (gd (h 85) 3) :: S) (mk h) Q := by
  simp only [w_getf, lg_120, lf_8_45, pm_oF_s, hg_85, pm_oO_s, List.getElem?_cons_succ, List.getElem?_cons_zero, pm_oK_s, true_and]
theorem gf_120_48_85 : pm_WL fqP d 120 pc ((.getfield 48, n) :: r) L (.ref 85 :: S) (mk h) Q = pm_WL fqP d 120 (pc + n) r L (.int (gd (h 85) 4) :: S) (mk h) Q := by
  simp only [w_getf, lg_120, lf_8_48, pm_oF_s, hg_85, pm_oO_s, List.getElem?_cons_succ, List.getElem?_cons_zero, pm_oK_s, true_and]
theorem gf_121_9_85 : pm_WL fqP d 121 pc ((.getfield 9, n) :: r) L (.ref 85 :: S) (mk h) Q = pm_WL fqP d 121 (pc + n) r L (.ref 86 :: S) (mk h) Q := by
  simp only [w_getf, lg_121, lf_8_9, pm_oF_s, hg_85, pm_oO_s, List.getElem?_cons_succ, List.getElem?_cons_zero, pm_oK_s, true_and]
theorem gf_122_9_85 : pm_WL fqP d 122 pc ((.getfield 9, n) :: r) L (.ref 85 :: S) (mk h) Q = pm_WL fqP d 122 (pc + n) r L (.ref 86 :: S) (mk h) Q := by
  simp only [w_getf, lg_122, lf_8_9, pm_oF_s, hg_85, pm_oO_s, List.getElem?_cons_succ, List.getElem?_cons_zero, pm_oK_s, true_and]
theorem gf_123_21_85 : pm_WL fqP d 123 pc ((.getfield 21, n) :: r) L (.ref 85 :: S) (mk h) Q = pm_WL fqP d 123 (pc + n) r L (.ref 89 :: S) (mk h) Q := by
  simp only [w_getf, lg_123, lf_8_21, pm_oF_s, hg_85, pm_oO_s, List.getElem?_cons_succ, List.getElem?_cons_zero, pm_oK_s, true_and]
theorem gf_123_9_85 : pm_WL fqP d 123 pc ((.getfield 9, n) :: r) L (.ref 85 :: S) (mk h) Q = pm_WL fqP d 123 (pc + n) r L (.ref 86 :: S) (mk h) Q := by
  simp only [w_getf, lg_123, lf_8_9, pm_oF_s, hg_85, pm_oO_s, List.getElem?_cons_succ, List.getElem?_cons_zero, pm_oK_s, true_and]
theorem iv_123_121_85 : pm_WL fqP d 123 pc ((.invokevirtual 121, n) :: r) L (.ref 85 :: S) (mk h) Q = (pm_okW 8 S = true ∧ pm_WC fqP d 122 [.ref 85] (mk h) (pm_kk fqP d 123 (pc + n) r L S Q)) := by
  show _ = (pm_okW 8 S = true ∧ pm_WC fqP d 122 [.ref 85] (mk h) (fun v σ' => pm_WL fqP d 123 (pc + n) r L (pm_pu v S) σ' Q))
  simp only [w_invv, lg_123, lm_8_121, pm_oM_s, pm_oP_s, pm_pop_0, pm_pop_s, pm_rcv_is, hg_85, pm_oO_s, pm_ref1_is, Nat.reduceEqDiff, Nat.zero_ne_one, Nat.succ_ne_self, true_or, or_true, or_false, false_or, or_self, false_implies, true_implies, implies_true, true_and]
theorem iv_123_124_85 {x1 : Int32} {x2 : Int32} : pm_WL fqP d 123 pc ((.invokevirtual 124, n) :: r) L (.int x2 :: .int x1 :: .ref 85 :: S) (mk h) Q = (pm_okW 8 S = true ∧ pm_WC fqP d 121 [.ref 85, .int x1, .int x2] (mk h) (pm_kk fqP d 123 (pc + n) r L S Q)) := by
  show _ = (pm_okW 8 S = true ∧ pm_WC fqP d 121 [.ref 85, .int x1, .int x2] (mk h) (fun v σ' => pm_WL fqP d 123 (pc + n) r L (pm_pu v S) σ' Q))
  simp only [w_invv, lg_123, lm_8_124, pm_oM_s, pm_oP_s, pm_pop_0, pm_pop_s, pm_rcv_is, hg_85, pm_oO_s, pm_ref1_is, Nat.reduceEqDiff, Nat.zero_ne_one, Nat.succ_ne_self, true_or, or_true, or_false, false_or, or_self, false_implies, true_implies, implies_true, true_and]
theorem gf_123_24_85 : pm_WL fqP d 123 pc ((.getfield 24, n) :: r) L (.ref 85 :: S) (mk h) Q = pm_WL fqP d 123 (pc + n) r L (.ref 90 :: S) (mk h) Q := by
  simp only [w_getf, lg_123, lf_8_24, pm_oF_s, hg_85, pm_oO_s, List.getElem?_cons_succ, List.getElem?_cons_zero, pm_oK_s, true_and]
theorem iv_124_128_85 {x1 : Int32} {x2 : Int32} : pm_WL fqP d 124 pc ((.invokevirtual 128, n) :: r) L (.int x2 :: .int x1 :: .ref 85 :: S) (mk h) Q = (pm_okW 8 S = true ∧ pm_WC fqP d 123 [.ref 85, .int x1, .int x2] (mk h) (pm_kk fqP d 124 (pc + n) r L S Q)) := by
  show _ = (pm_okW 8 S = true ∧ pm_WC fqP d 123 [.ref 85, .int x1, .int x2] (mk h) (fun v σ' => pm_WL fqP d 124 (pc + n) r L (pm_pu v S) σ' Q))
  simp only [w_invv, lg_124, lm_8_128, pm_oM_s, pm_oP_s, pm_pop_0, pm_pop_s, pm_rcv_is, hg_85, pm_oO_s, pm_ref1_is, Nat.reduceEqDiff, Nat.zero_ne_one, Nat.succ_ne_self, true_or, or_true, or_false, false_or, or_self, false_implies, true_implies, implies_true, true_and]
theorem gf_124_9_85 : pm_WL fqP d 124 pc ((.getfield 9, n) :: r) L (.ref 85 :: S) (mk h) Q = pm_WL fqP d 124 (pc + n) r L (.ref 86 :: S) (mk h) Q := by
  simp only [w_getf, lg_124, lf_8_9, pm_oF_s, hg_85, pm_oO_s, List.getElem?_cons_succ, List.getElem?_cons_zero, pm_oK_s, true_and]
theorem iv_124_121_85 : pm_WL fqP d 124 pc ((.invokevirtual 121, n) :: r) L (.ref 85 :: S) (mk h) Q = (pm_okW 8 S = true ∧ pm_WC fqP d 122 [.ref 85] (mk h) (pm_kk fqP d 124 (pc + n) r L S Q)) := by
  show _ = (pm_okW 8 S = true ∧ pm_WC fqP d 122 [.ref 85] (mk h) (fun v σ' => pm_WL fqP d 124 (pc + n) r L (pm_pu v S) σ' Q))
  simp only [w_invv, lg_124, lm_8_121, pm_oM_s, pm_oP_s, pm_pop_0, pm_pop_s, pm_rcv_is, hg_85, pm_oO_s, pm_ref1_is, Nat.reduceEqDiff, Nat.zero_ne_one, Nat.succ_ne_self, true_or, or_true, or_false, false_or, or_self, false_implies, true_implies, implies_true, true_and]
theorem gf_125_9_85 : pm_WL fqP d 125 pc ((.getfield 9, n) :: r) L (.ref 85 :: S) (mk h) Q = pm_WL fqP d 125 (pc + n) r L (.ref 86 :: S) (mk h) Q := by
  simp only [w_getf, lg_125, lf_8_9, pm_oF_s, hg_85, pm_oO_s, List.getElem?_cons_succ, List.getElem?_cons_zero, pm_oK_s, true_and]
theorem gf_126_9_85 : pm_WL fqP d 126 pc ((.getfield 9, n) :: r) L (.ref 85 :: S) (mk h) Q = pm_WL fqP d 126 (pc + n) r L (.ref 86 :: S) (mk h) Q := by
  simp only [w_getf, lg_126, lf_8_9, pm_oF_s, hg_85, pm_oO_s, List.getElem?_cons_succ, List.getElem?_cons_zero, pm_oK_s, true_and]
theorem iv_126_131_85 {x1 : Int32} : pm_WL fqP d 126 pc ((.invokevirtual 131, n) :: r) L (.int x1 :: .ref 85 :: S) (mk h) Q = (pm_okW 8 S = true ∧ pm_WC fqP d 125 [.ref 85, .int x1] (mk h) (pm_kk fqP d 126 (pc + n) r L S Q)) := by
  show _ = (pm_okW 8 S = true ∧ pm_WC fqP d 125 [.ref 85, .int x1] (mk h) (fun v σ' => pm_WL fqP d 126 (pc + n) r L (pm_pu v S) σ' Q))
  simp only [w_invv, lg_126, lm_8_131, pm_oM_s, pm_oP_s, pm_pop_0, pm_pop_s, pm_rcv_is, hg_85, pm_oO_s, pm_ref1_is, Nat.reduceEqDiff, Nat.zero_ne_one, Nat.succ_ne_self, true_or, or_true, or_false, false_or, or_self, false_implies, true_implies, implies_true, true_and]
theorem gf_128_9_85 : pm_WL fqP d 128 pc ((.getfield 9, n) :: r) L (.ref 85 :: S) (mk h) Q = pm_WL fqP d 128 (pc + n) r L (.ref 86 :: S) (mk h) Q := by
  simp only [w_getf, lg_128, lf_8_9, pm_oF_s, hg_85, pm_oO_s, List.getElem?_cons_succ, List.getElem?_cons_zero, pm_oK_s, true_and]
theorem gf_129_9_85 : pm_WL fqP d 129 pc ((.getfield 9, n) :: r) L (.ref 85 :: S) (mk h) Q = pm_WL fqP d 129 (pc + n) r L (.ref 86 :: S) (mk h) Q := by
  simp only [w_getf, lg_129, lf_8_9, pm_oF_s, hg_85, pm_oO_s, List.getElem?_cons_succ, List.getElem?_cons_zero, pm_oK_s, true_and]
theorem iv_130_41 {x0 : Int32} {x1 : Int32} {x2 : Int32} : pm_WL fqP d 130 pc ((.invokestatic 41, n) :: r) L (.int x2 :: .int x1 :: .int x0 :: S) σ Q = (pm_okW 8 S = true ∧ pm_WC fqP d 101 [.int x0, .int x1, .int x2] σ (pm_kk fqP d 130 (pc + n) r L S Q)) := by
  show _ = (pm_okW 8 S = true ∧ pm_WC fqP d 101 [.int x0, .int x1, .int x2] σ (fun v σ' => pm_WL fqP d 130 (pc + n) r L (pm_pu v S) σ' Q))
  simp only [w_invs, lg_130, lm_8_41, pm_oM_s, pm_oP_s, pm_pop_0, pm_pop_s, pm_ref1_is, Nat.reduceEqDiff, Nat.zero_ne_one, Nat.succ_ne_self, true_or, or_true, or_false, false_or, or_self, false_implies, true_implies, implies_true, true_and]
theorem iv_130_135 {x0 : Int32} : pm_WL fqP d 130 pc ((.invokestatic 135, n) :: r) L (.int x0 :: S) σ Q = (pm_okW 8 S = true ∧ pm_WC fqP d 102 [.int x0] σ (pm_kk fqP d 130 (pc + n) r L S Q)) := by
  show _ = (pm_okW 8 S = true ∧ pm_WC fqP d 102 [.int x0] σ (fun v σ' => pm_WL fqP d 130 (pc + n) r L (pm_pu v S) σ' Q))
  simp only [w_invs, lg_130, lm_8_135, pm_oM_s, pm_oP_s, pm_pop_0, pm_pop_s, pm_ref1_is, Nat.reduceEqDiff, Nat.zero_ne_one, Nat.succ_ne_self, true_or, or_true, or_false, false_or, or_self, false_implies, true_implies, implies_true, true_and]
theorem gf_130_9_85 : pm_WL fqP d 130 pc ((.getfield 9, n) :: r) L (.ref 85 :: S) (mk h) Q = pm_WL fqP d 130 (pc + n) r L (.ref 86 :: S) (mk h) Q := by
  simp only [w_getf, lg_130, lf_8_9, pm_oF_s, hg_85, pm_oO_s, List.getElem?_cons_succ, List.getElem?_cons_zero, pm_oK_s, true_and]
theorem iv_131_138_85 {x1 : Int32} : pm_WL fqP d 131 pc ((.invokevirtual 138, n) :: r) L (.int x1 :: .ref 85 :: S) (mk h) Q = (pm_okW 8 S = true ∧ pm_WC fqP d 104 [.ref 85, .int x1] (mk h) (pm_kk fqP d 131 (pc + n) r L S Q)) := by
  show _ = (pm_okW 8 S = true ∧ pm_WC fqP d 104 [.ref 85, .int x1] (mk h) (fun v σ' => pm_WL fqP d 131 (pc + n) r L (pm_pu v S) σ' Q))
  simp only [w_invv, lg_131, lm_8_138, pm_oM_s, pm_oP_s, pm_pop_0, pm_pop_s, pm_rcv_is, hg_85, pm_oO_s, pm_ref1_is, Nat.reduceEqDiff, Nat.zero_ne_one, Nat.succ_ne_self, true_or, or_true, or_false, false_or, or_self, false_implies, true_implies, implies_true, true_and]
theorem gf_131_9_85 : pm_WL fqP d 131 pc ((.getfield 9, n) :: r) L (.ref 85 :: S) (mk h) Q = pm_WL fqP d 131 (pc + n) r L (.ref 86 :: S) (mk h) Q := by
  simp only [w_getf, lg_131, lf_8_9, pm_oF_s, hg_85, pm_oO_s, List.getElem?_cons_succ, List.getElem?_cons_zero, pm_oK_s, true_and]
theorem iv_131_131_85 {x1 : Int32} : pm_WL fqP d 131 pc ((.invokevirtual 131, n) :: r) L (.int x1 :: .ref 85 :: S) (mk h) Q = (pm_okW 8 S = true ∧ pm_WC fqP d 125 [.ref 85, .int x1] (mk h) (pm_kk fqP d 131 (pc + n) r L S Q)) := by
  show _ = (pm_okW 8 S = true ∧ pm_WC fqP d 125 [.ref 85, .int x1] (mk h) (fun v σ' => pm_WL fqP d 131 (pc + n) r L (pm_pu v S) σ' Q))
  simp only [w_invv, lg_131, lm_8_131, pm_oM_s, pm_oP_s, pm_pop_0, pm_pop_s, pm_rcv_is, hg_85, pm_oO_s, pm_ref1_is, Nat.reduceEqDiff, Nat.zero_ne_one, Nat.succ_ne_self, true_or, or_true, or_false, false_or, or_self, false_implies, true_implies, implies_true, true_and]
theorem iv_131_142 {x0 : Int32} : pm_WL fqP d 131 pc ((.invokestatic 142, n) :: r) L (.int x0 :: S) σ Q = (pm_okW 8 S = true ∧ pm_WC fqP d 103 [.int x0] σ (pm_kk fqP d 131 (pc + n) r L S Q)) := by
  show _ = (pm_okW 8 S = true ∧ pm_WC fqP d 103 [.int x0] σ (fun v σ' => pm_WL fqP d 131 (pc + n) r L (pm_pu v S) σ' Q))
  simp only [w_invs, lg_131, lm_8_142, pm_oM_s, pm_oP_s, pm_pop_0, pm_pop_s, pm_ref1_is, Nat.reduceEqDiff, Nat.zero_ne_one, Nat.succ_ne_self, true_or, or_true, or_false, false_or, or_self, false_implies, true_implies, implies_true, true_and]
theorem iv_131_145_85 {x1 : Int32} {x2 : Int32} : pm_WL fqP d 131 pc ((.invokevirtual 145, n) :: r) L (.int x2 :: .int x1 :: .ref 85 :: S) (mk h) Q = (pm_okW 8 S = true ∧ pm_WC fqP d 124 [.ref 85, .int x1, .int x2] (mk h) (pm_kk fqP d 131 (pc + n) r L S Q)) := by
  show _ = (pm_okW 8 S = true ∧ pm_WC fqP d 124 [.ref 85, .int x1, .int x2] (mk h) (fun v σ' => pm_WL fqP d 131 (pc + n) r L (pm_pu v S) σ' Q))
  simp only [w_invv, lg_131, lm_8_145, pm_oM_s, pm_oP_s, pm_pop_0, pm_pop_s, pm_rcv_is, hg_85, pm_oO_s, pm_ref1_is, Nat.reduceEqDiff, Nat.zero_ne_one, Nat.succ_ne_self, true_or, or_true, or_false, false_or, or_self, false_implies, true_implies, implies_true, true_and]
theorem iv_132_138_85 {x1 : Int32} : pm_WL fqP d 132 pc ((.invokevirtual 138, n) :: r) L (.int x1 :: .ref 85 :: S) (mk h) Q = (pm_okW 8 S = true ∧ pm_WC fqP d 104 [.ref 85, .int x1] (mk h) (pm_kk fqP d 132 (pc + n) r L S Q)) := by
  show _ = (pm_okW 8 S = true ∧ pm_WC fqP d 104 [.ref 85, .int x1] (mk h) (fun v σ' => pm_WL fqP d 132 (pc + n) r L (pm_pu v S) σ' Q))
  simp only [w_invv, lg_132, lm_8_138, pm_oM_s, pm_oP_s, pm_pop_0, pm_pop_s, pm_rcv_is, hg_85, pm_oO_s, pm_ref1_is, Nat.reduceEqDiff, Nat.zero_ne_one, Nat.succ_ne_self, true_or, or_true, or_false, false_or, or_self, false_implies, true_implies, implies_true, true_and]
theorem iv_132_41 {x0 : Int32} {x1 : Int32} {x2 : Int32} : pm_WL fqP d 132 pc ((.invokestatic 41, n) :: r) L (.int x2 :: .int x1 :: .int x0 :: S) σ Q = (pm_okW 8 S = true ∧ pm_WC fqP d 101 [.int x0, .int x1, .int x2] σ (pm_kk fqP d 132 (pc + n) r L S Q)) := by
  show _ = (pm_okW 8 S = true ∧ pm_WC fqP d 101 [.int x0, .int x1, .int x2] σ (fun v σ' => pm_WL fqP d 132 (pc + n) r L (pm_pu v S) σ' Q))
  simp only [w_invs, lg_132, lm_8_41, pm_oM_s, pm_oP_s, pm_pop_0, pm_pop_s, pm_ref1_is, Nat.reduceEqDiff, Nat.zero_ne_one, Nat.succ_ne_self, true_or, or_true, or_false, false_or, or_self, false_implies, true_implies, implies_true, true_and]
theorem iv_132_135 {x0 : Int32} : pm_WL fqP d 132 pc ((.invokestatic 135, n) :: r) L (.int x0 :: S) σ Q = (pm_okW 8 S = true ∧ pm_WC fqP d 102 [.int x0] σ (pm_kk fqP d 132 (pc + n) r L S Q)) := by
  show _ = (pm_okW 8 S = true ∧ pm_WC fqP d 102 [.int x0] σ (fun v σ' => pm_WL fqP d 132 (pc + n) r L (pm_pu v S) σ' Q))
  simp only [w_invs, lg_132, lm_8_135, pm_oM_s, pm_oP_s, pm_pop_0, pm_pop_s, pm_ref1_is, Nat.reduceEqDiff, Nat.zero_ne_one, Nat.succ_ne_self, true_or, or_true, or_false, false_or, or_self, false_implies, true_implies, implies_true, true_and]
theorem gf_132_9_85 : pm_WL fqP d 132 pc ((.getfield 9, n) :: r) L (.ref 85 :: S) (mk h) Q = pm_WL fqP d 132 (pc + n) r L (.ref 86 :: S) (mk h) Q := by
  simp only [w_getf, lg_132, lf_8_9, pm_oF_s, hg_85, pm_oO_s, List.getElem?_cons_succ, List.getElem?_cons_zero, pm_oK_s, true_and]
theorem iv_132_148_85 {x1 : Int32} {x2 : Int32} : pm_WL fqP d 132 pc ((.invokevirtual 148, n) :: r) L (.int x2 :: .int x1 :: .ref 85 :: S) (mk h) Q = (pm_okW 8 S = true ∧ pm_WC fqP d 129 [.ref 85, .int x1, .int x2] (mk h) (pm_kk fqP d 132 (pc + n) r L S Q)) := by
  show _ = (pm_okW 8 S = true ∧ pm_WC fqP d 129 [.ref 85, .int x1, .int x2] (mk h) (fun v σ' => pm_WL fqP d 132 (pc + n) r L (pm_pu v S) σ' Q))
  simp only [w_invv, lg_132, lm_8_148, pm_oM_s, pm_oP_s, pm_pop_0, pm_pop_s, pm_rcv_is, hg_85, pm_oO_s, pm_ref1_is, Nat.reduceEqDiff, Nat.zero_ne_one, Nat.succ_ne_self, true_or, or_true, or_false, false_or, or_self, false_implies, true_implies, implies_true, true_and]
theorem iv_133_138_85 {x1 : Int32} : pm_WL fqP d 133 pc ((.invokevirtual 138, n) :: r) L (.int x1 :: .ref 85 :: S) (mk h) Q = (pm_okW 8 S = true ∧ pm_WC fqP d 104 [.ref 85, .int x1] (mk h) (pm_kk fqP d 133 (pc + n) r L S Q)) := by
  show _ = (pm_okW 8 S = true ∧ pm_WC fqP d 104 [.ref 85, .int x1] (mk h) (fun v σ' => pm_WL fqP d 133 (pc + n) r L (pm_pu v S) σ' Q))
  simp only [w_invv, lg_133, lm_8_138, pm_oM_s, pm_oP_s, pm_pop_0, pm_pop_s, pm_rcv_is, hg_85, pm_oO_s, pm_ref1_is, Nat.reduceEqDiff, Nat.zero_ne_one, Nat.succ_ne_self, true_or, or_true, or_false, false_or, or_self, false_implies, true_implies, implies_true, true_and]
theorem iv_133_41 {x0 : Int32} {x1 : Int32} {x2 : Int32} : pm_WL fqP d 133 pc ((.invokestatic 41, n) :: r) L (.int x2 :: .int x1 :: .int x0 :: S) σ Q = (pm_okW 8 S = true ∧ pm_WC fqP d 101 [.int x0, .int x1, .int x2] σ (pm_kk fqP d 133 (pc + n) r L S Q)) := by
  show _ = (pm_okW 8 S = true ∧ pm_WC fqP d 101 [.int x0, .int x1, .int x2] σ (fun v σ' => pm_WL fqP d 133 (pc + n) r L (pm_pu v S) σ' Q))
  simp only [w_invs, lg_133, lm_8_41, pm_oM_s, pm_oP_s, pm_pop_0, pm_pop_s, pm_ref1_is, Nat.reduceEqDiff, Nat.zero_ne_one, Nat.succ_ne_self, true_or, or_true, or_false, false_or, or_self, false_implies, true_implies, implies_true, true_and]
theorem iv_133_135 {x0 : Int32} : pm_WL fqP d 133 pc ((.invokestatic 135, n) :: r) L (.int x0 :: S) σ Q = (pm_okW 8 S = true ∧ pm_WC fqP d 102 [.int x0] σ (pm_kk fqP d 133 (pc + n) r L S Q)) := by
  show _ = (pm_okW 8 S = true ∧ pm_WC fqP d 102 [.int x0] σ (fun v σ' => pm_WL fqP d 133 (pc + n) r L (pm_pu v S) σ' Q))
  simp only [w_invs, lg_133, lm_8_135, pm_oM_s, pm_oP_s, pm_pop_0, pm_pop_s, pm_ref1_is, Nat.reduceEqDiff, Nat.zero_ne_one, Nat.succ_ne_self, true_or, or_true, or_false, false_or, or_self, false_implies, true_implies, implies_true, true_and]
theorem iv_133_148_85 {x1 : Int32} {x2 : Int32} : pm_WL fqP d 133 pc ((.invokevirtual 148, n) :: r) L (.int x2 :: .int x1 :: .ref 85 :: S) (mk h) Q = (pm_okW 8 S = true ∧ pm_WC fqP d 129 [.ref 85, .int x1, .int x2] (mk h) (pm_kk fqP d 133 (pc + n) r L S Q)) := by
  show _ = (pm_okW 8 S = true ∧ pm_WC fqP d 129 [.ref 85, .int x1, .int x2] (mk h) (fun v σ' => pm_WL fqP d 133 (pc + n) r L (pm_pu v S) σ' Q))
  simp only [w_invv, lg_133, lm_8_148, pm_oM_s, pm_oP_s, pm_pop_0, pm_pop_s, pm_rcv_is, hg_85, pm_oO_s, pm_ref1_is, Nat.reduceEqDiff, Nat.zero_ne_one, Nat.succ_ne_self, true_or, or_true, or_false, false_or, or_self, false_implies, true_implies, implies_true, true_and]
theorem iv_134_138_85 {x1 : Int32} : pm_WL fqP d 134 pc ((.invokevirtual 138, n) :: r) L (.int x1 :: .ref 85 :: S) (mk h) Q = (pm_okW 8 S = true ∧ pm_WC fqP d 104 [.ref 85, .int x1] (mk h) (pm_kk fqP d 134 (pc + n) r L S Q)) := by
  show _ = (pm_okW 8 S = true ∧ pm_WC fqP d 104 [.ref 85, .int x1] (mk h) (fun v σ' => pm_WL fqP d 134 (pc + n) r L (pm_pu v S) σ' Q))
  simp only [w_invv, lg_134, lm_8_138, pm_oM_s, pm_oP_s, pm_pop_0, pm_pop_s, pm_rcv_is, hg_85, pm_oO_s, pm_ref1_is, Nat.reduceEqDiff, Nat.zero_ne_one, Nat.succ_ne_self, true_or, or_true, or_false, false_or, or_self, false_implies, true_implies, implies_true, true_and]
theorem iv_134_148_85 {x1 : Int32} {x2 : Int32} : pm_WL fqP d 134 pc ((.invokevirtual 148, n) :: r) L (.int x2 :: .int x1 :: .ref 85 :: S) (mk h) Q = (pm_okW 8 S = true ∧ pm_WC fqP d 129 [.ref 85, .int x1, .int x2] (mk h) (pm_kk fqP d 134 (pc + n) r L S Q)) := by
  show _ = (pm_okW 8 S = true ∧ pm_WC fqP d 129 [.ref 85, .int x1, .int x2] (mk h) (fun v σ' => pm_WL fqP d 134 (pc + n) r L (pm_pu v S) σ' Q))
  simp only [w_invv, lg_134, lm_8_148, pm_oM_s, pm_oP_s, pm_pop_0, pm_pop_s, pm_rcv_is, hg_85, pm_oO_s, pm_ref1_is, Nat.reduceEqDiff, Nat.zero_ne_one, Nat.succ_ne_self, true_or, or_true, or_false, false_or, or_self, false_implies, true_implies, implies_true, true_and]
theorem iv_135_41 {x0 : Int32} {x1 : Int32} {x2 : Int32} : pm_WL fqP d 135 pc ((.invokestatic 41, n) :: r) L (.int x2 :: .int x1 :: .int x0 :: S) σ Q = (pm_okW 8 S = true ∧ pm_WC fqP d 101 [.int x0, .int x1, .int x2] σ (pm_kk fqP d 135 (pc + n) r L S Q)) := by
  show _ = (pm_okW 8 S = true ∧ pm_WC fqP d 101 [.int x0, .int x1, .int x2] σ (fun v σ' => pm_WL fqP d 135 (pc + n) r L (pm_pu v S) σ' Q))
  simp only [w_invs, lg_135, lm_8_41, pm_oM_s, pm_oP_s, pm_pop_0, pm_pop_s, pm_ref1_is, Nat.reduceEqDiff, Nat.zero_ne_one, Nat.succ_ne_self, true_or, or_true, or_false, false_or, or_self, false_implies, true_implies, implies_true, true_and]
theorem iv_135_135 {x0 : Int32} : pm_WL fqP d 135 pc ((.invokestatic 135, n) :: r) L (.int x0 :: S) σ Q = (pm_okW 8 S = true ∧ pm_WC fqP d 102 [.int x0] σ (pm_kk fqP d 135 (pc + n) r L S Q)) := by
  show _ = (pm_okW 8 S = true ∧ pm_WC fqP d 102 [.int x0] σ (fun v σ' => pm_WL fqP d 135 (pc + n) r L (pm_pu v S) σ' Q))
  simp only [w_invs, lg_135, lm_8_135, pm_oM_s, pm_oP_s, pm_pop_0, pm_pop_s, pm_ref1_is, Nat.reduceEqDiff, Nat.zero_ne_one, Nat.succ_ne_self, true_or, or_true, or_false, false_or, or_self, false_implies, true_implies, implies_true, true_and]
theorem iv_135_148_85 {x1 : Int32} {x2 : Int32} : pm_WL fqP d 135 pc ((.invokevirtual 148, n) :: r) L (.int x2 :: .int x1 :: .ref 85 :: S) (mk h) Q = (pm_okW 8 S = true ∧ pm_WC fqP d 129 [.ref 85, .int x1, .int x2] (mk h) (pm_kk fqP d 135 (pc + n) r L S Q)) := by
  show _ = (pm_okW 8 S = true ∧ pm_WC fqP d 129 [.ref 85, .int x1, .int x2] (mk h) (fun v σ' => pm_WL fqP d 135 (pc + n) r L (pm_pu v S) σ' Q))
  simp only [w_invv, lg_135, lm_8_148, pm_oM_s, pm_oP_s, pm_pop_0, pm_pop_s, pm_rcv_is, hg_85, pm_oO_s, pm_ref1_is, Nat.reduceEqDiff, Nat.zero_ne_one, Nat.succ_ne_self, true_or, or_true, or_false, false_or, or_self, false_implies, true_implies, implies_true, true_and]
theorem gf_136_9_85 : pm_WL fqP d 136 pc ((.getfield 9, n) :: r) L (.ref 85 :: S) (mk h) Q = pm_WL fqP d 136 (pc + n) r L (.ref 86 :: S) (mk h) Q := by
  simp only [w_getf, lg_136, lf_8_9, pm_oF_s, hg_85, pm_oO_s, List.getElem?_cons_succ, List.getElem?_cons_zero, pm_oK_s, true_and]
theorem gf_137_9_85 : pm_WL fqP d 137 pc ((.getfield 9, n) :: r) L (.ref 85 :: S) (mk h) Q = pm_WL fqP d 137 (pc + n) r L (.ref 86 :: S) (mk h) Q := by
  simp only [w_getf, lg_137, lf_8_9, pm_oF_s, hg_85, pm_oO_s, List.getElem?_cons_succ, List.getElem?_cons_zero, pm_oK_s, true_and]
theorem iv_137_142 {x0 : Int32} : pm_WL fqP d 137 pc ((.invokestatic 142, n) :: r) L (.int x0 :: S) σ Q = (pm_okW 8 S = true ∧ pm_WC fqP d 103 [.int x0] σ (pm_kk fqP d 137 (pc + n) r L S Q)) := by
  show _ = (pm_okW 8 S = true ∧ pm_WC fqP d 103 [.int x0] σ (fun v σ' => pm_WL fqP d 137 (pc + n) r L (pm_pu v S) σ' Q))
  simp only [w_invs, lg_137, lm_8_142, pm_oM_s, pm_oP_s, pm_pop_0, pm_pop_s, pm_ref1_is, Nat.reduceEqDiff, Nat.zero_ne_one, Nat.succ_ne_self, true_or, or_true, or_false, false_or, or_self, false_implies, true_implies, implies_true, true_and]
theorem iv_137_151_85 {x1 : Int32} : pm_WL fqP d 137 pc ((.invokevirtual 151, n) :: r) L (.int x1 :: .ref 85 :: S) (mk h) Q = (pm_okW 8 S = true ∧ pm_WC fqP d 136 [.ref 85, .int x1] (mk h) (pm_kk fqP d 137 (pc + n) r L S Q)) := by
  show _ = (pm_okW 8 S = true ∧ pm_WC fqP d 136 [.ref 85, .int x1] (mk h) (fun v σ' => pm_WL fqP d 137 (pc + n) r L (pm_pu v S) σ' Q))
  simp only [w_invv, lg_137, lm_8_151, pm_oM_s, pm_oP_s, pm_pop_0, pm_pop_s, pm_rcv_is, hg_85, pm_oO_s, pm_ref1_is, Nat.reduceEqDiff, Nat.zero_ne_one, Nat.succ_ne_self, true_or, or_true, or_false, false_or, or_self, false_implies, true_implies, implies_true, true_and]
theorem iv_138_142 {x0 : Int32} : pm_WL fqP d 138 pc ((.invokestatic 142, n) :: r) L (.int x0 :: S) σ Q = (pm_okW 8 S = true ∧ pm_WC fqP d 103 [.int x0] σ (pm_kk fqP d 138 (pc + n) r L S Q)) := by
  show _ = (pm_okW 8 S = true ∧ pm_WC fqP d 103 [.int x0] σ (fun v σ' => pm_WL fqP d 138 (pc + n) r L (pm_pu v S) σ' Q))
  simp only [w_invs, lg_138, lm_8_142, pm_oM_s, pm_oP_s, pm_pop_0, pm_pop_s, pm_ref1_is, Nat.reduceEqDiff, Nat.zero_ne_one, Nat.succ_ne_self, true_or, or_true, or_false, false_or, or_self, false_implies, true_implies, implies_true, true_and]
theorem iv_138_148_85 {x1 : Int32} {x2 : Int32} : pm_WL fqP d 138 pc ((.invokevirtual 148, n) :: r) L (.int x2 :: .int x1 :: .ref 85 :: S) (mk h) Q = (pm_okW 8 S = true ∧ pm_WC fqP d 129 [.ref 85, .int x1, .int x2] (mk h) (pm_kk fqP d 138 (pc + n) r L S Q)) := by
  show _ = (pm_okW 8 S = true ∧ pm_WC fqP d 129 [.ref 85, .int x1, .int x2] (mk h) (fun v σ' => pm_WL fqP d 138 (pc + n) r L (pm_pu v S) σ' Q))
  simp only [w_invv, lg_138, lm_8_148, pm_oM_s, pm_oP_s, pm_pop_0, pm_pop_s, pm_rcv_is, hg_85, pm_oO_s, pm_ref1_is, Nat.reduceEqDiff, Nat.zero_ne_one, Nat.succ_ne_self, true_or, or_true, or_false, false_or, or_self, false_implies, true_implies, implies_true, true_and]
theorem gf_139_9_85 : pm_WL fqP d 139 pc ((.getfield 9, n) :: r) L (.ref 85 :: S) (mk h) Q = pm_WL fqP d 139 (pc + n) r L (.ref 86 :: S) (mk h) Q := by
  simp only [w_getf, lg_139, lf_8_9, pm_oF_s, hg_85, pm_oO_s, List.getElem?_cons_succ, List.getElem?_cons_zero, pm_oK_s, true_and]
theorem iv_139_145_85 {x1 : Int32} {x2 : Int32} : pm_WL fqP d 139 pc ((.invokevirtual 145, n) :: r) L (.int x2 :: .int x1 :: .ref 85 :: S) (mk h) Q = (pm_okW 8 S = true ∧ pm_WC fqP d 124 [.ref 85, .int x1, .int x2] (mk h) (pm_kk fqP d 139 (pc + n) r L S Q)) := by
  show _ = (pm_okW 8 S = true ∧ pm_WC fqP d 124 [.ref 85, .int x1, .int x2] (mk h) (fun v σ' => pm_WL fqP d 139 (pc + n) r L (pm_pu v S) σ' Q))
  simp only [w_invv, lg_139, lm_8_145, pm_oM_s, pm_oP_s, pm_pop_0, pm_pop_s, pm_rcv_is, hg_85, pm_oO_s, pm_ref1_is, Nat.reduceEqDiff, Nat.zero_ne_one, Nat.succ_ne_self, true_or, or_true, or_false, false_or, or_self, false_implies, true_implies, implies_true, true_and]
theorem iv_140_154_85 : pm_WL fqP d 140 pc ((.invokevirtual 154, n) :: r) L (.ref 85 :: S) (mk h) Q = (pm_okW 8 S = true ∧ pm_WC fqP d 126 [.ref 85] (mk h) (pm_kk fqP d 140 (pc + n) r L S Q)) := by
  show _ = (pm_okW 8 S = true ∧ pm_WC fqP d 126 [.ref 85] (mk h) (fun v σ' => pm_WL fqP d 140 (pc + n) r L (pm_pu v S) σ' Q))
  simp only [w_invv, lg_140, lm_8_154, pm_oM_s, pm_oP_s, pm_pop_0, pm_pop_s, pm_rcv_is, hg_85, pm_oO_s, pm_ref1_is, Nat.reduceEqDiff, Nat.zero_ne_one, Nat.succ_ne_self, true_or, or_true, or_false, false_or, or_self, false_implies, true_implies, implies_true, true_and]
theorem gf_140_9_85 : pm_WL fqP d 140 pc ((.getfield 9, n) :: r) L (.ref 85 :: S) (mk h) Q = pm_WL fqP d 140 (pc + n) r L (.ref 86 :: S) (mk h) Q := by
  simp only [w_getf, lg_140, lf_8_9, pm_oF_s, hg_85, pm_oO_s, List.getElem?_cons_succ, List.getElem?_cons_zero, pm_oK_s, true_and]
theorem iv_140_157 {x0 : Int32} : pm_WL fqP d 140 pc ((.invokestatic 157, n) :: r) L (.int x0 :: S) σ Q = (pm_okW 8 S = true ∧ pm_WC fqP d 127 [.int x0] σ (pm_kk fqP d 140 (pc + n) r L S Q)) := by
  show _ = (pm_okW 8 S = true ∧ pm_WC fqP d 127 [.int x0] σ (fun v σ' => pm_WL fqP d 140 (pc + n) r L (pm_pu v S) σ' Q))
  simp only [w_invs, lg_140, lm_8_157, pm_oM_s, pm_oP_s, pm_pop_0, pm_pop_s, pm_ref1_is, Nat.reduceEqDiff, Nat.zero_ne_one, Nat.succ_ne_self, true_or, or_true, or_false, false_or, or_self, false_implies, true_implies, implies_true, true_and]
theorem iv_140_124_85 {x1 : Int32} {x2 : Int32} : pm_WL fqP d 140 pc ((.invokevirtual 124, n) :: r) L (.int x2 :: .int x1 :: .ref 85 :: S) (mk h) Q = (pm_okW 8 S = true ∧ pm_WC fqP d 121 [.ref 85, .int x1, .int x2] (mk h) (pm_kk fqP d 140 (pc + n) r L S Q)) := by
  show _ = (pm_okW 8 S = true ∧ pm_WC fqP d 121 [.ref 85, .int x1, .int x2] (mk h) (fun v σ' => pm_WL fqP d 140 (pc + n) r L (pm_pu v S) σ' Q))
  simp only [w_invv, lg_140, lm_8_124, pm_oM_s, pm_oP_s, pm_pop_0, pm_pop_s, pm_rcv_is, hg_85, pm_oO_s, pm_ref1_is, Nat.reduceEqDiff, Nat.zero_ne_one, Nat.succ_ne_self, true_or, or_true, or_false, false_or, or_self, false_implies, true_implies, implies_true, true_and]
theorem iv_140_161_85 {x1 : Int32} {x2 : Int32} : pm_WL fqP d 140 pc ((.invokevirtual 161, n) :: r) L (.int x2 :: .int x1 :: .ref 85 :: S) (mk h) Q = (pm_okW 8 S = true ∧ pm_WC fqP d 139 [.ref 85, .int x1, .int x2] (mk h) (pm_kk fqP d 140 (pc + n) r L S Q)) := by
  show _ = (pm_okW 8 S = true ∧ pm_WC fqP d 139 [.ref 85, .int x1, .int x2] (mk h) (fun v σ' => pm_WL fqP d 140 (pc + n) r L (pm_pu v S) σ' Q))
  simp only [w_invv, lg_140, lm_8_161, pm_oM_s, pm_oP_s, pm_pop_0, pm_pop_s, pm_rcv_is, hg_85, pm_oO_s, pm_ref1_is, Nat.reduceEqDiff, Nat.zero_ne_one, Nat.succ_ne_self, true_or, or_true, or_false, false_or, or_self, false_implies, true_implies, implies_true, true_and]
theorem iv_141_154_85 : pm_WL fqP d 141 pc ((.invokevirtual 154, n) :: r) L (.ref 85 :: S) (mk h) Q = (pm_okW 8 S = true ∧ pm_WC fqP d 126 [.ref 85] (mk h) (pm_kk fqP d 141 (pc + n) r L S Q)) := by
  show _ = (pm_okW 8 S = true ∧ pm_WC fqP d 126 [.ref 85] (mk h) (fun v σ' => pm_WL fqP d 141 (pc + n) r L (pm_pu v S) σ' Q))
  simp only [w_invv, lg_141, lm_8_154, pm_oM_s, pm_oP_s, pm_pop_0, pm_pop_s, pm_rcv_is, hg_85, pm_oO_s, pm_ref1_is, Nat.reduceEqDiff, Nat.zero_ne_one, Nat.succ_ne_self, true_or, or_true, or_false, false_or, or_self, false_implies, true_implies, implies_true, true_and]
theorem iv_141_157 {x0 : Int32} : pm_WL fqP d 141 pc ((.invokestatic 157, n) :: r) L (.int x0 :: S) σ Q = (pm_okW 8 S = true ∧ pm_WC fqP d 127 [.int x0] σ (pm_kk fqP d 141 (pc + n) r L S Q)) := by
  show _ = (pm_okW 8 S = true ∧ pm_WC fqP d 127 [.int x0] σ (fun v σ' => pm_WL fqP d 141 (pc + n) r L (pm_pu v S) σ' Q))
  simp only [w_invs, lg_141, lm_8_157, pm_oM_s, pm_oP_s, pm_pop_0, pm_pop_s, pm_ref1_is, Nat.reduceEqDiff, Nat.zero_ne_one, Nat.succ_ne_self, true_or, or_true, or_false, false_or, or_self, false_implies, true_implies, implies_true, true_and]
theorem iv_141_124_85 {x1 : Int32} {x2 : Int32} : pm_WL fqP d 141 pc ((.invokevirtual 124, n) :: r) L (.int x2 :: .int x1 :: .ref 85 :: S) (mk h) Q = (pm_okW 8 S = true ∧ pm_WC fqP d 121 [.ref 85, .int x1, .int x2] (mk h) (pm_kk fqP d 141 (pc + n) r L S Q)) := by
  show _ = (pm_okW 8 S = true ∧ pm_WC fqP d 121 [.ref 85, .int x1, .int x2] (mk h) (fun v σ' => pm_WL fqP d 141 (pc + n) r L (pm_pu v S) σ' Q))
  simp only [w_invv, lg_141, lm_8_124, pm_oM_s, pm_oP_s, pm_pop_0, pm_pop_s, pm_rcv_is, hg_85, pm_oO_s, pm_ref1_is, Nat.reduceEqDiff, Nat.zero_ne_one, Nat.succ_ne_self, true_or, or_true, or_false, false_or, or_self, false_implies, true_implies, implies_true, true_and]
theorem gf_141_28_85 : pm_WL fqP d 141 pc ((.getfield 28, n) :: r) L (.ref 85 :: S) (mk h) Q = pm_WL fqP d 141 (pc + n) r L (.ref 91 :: S) (mk h) Q := by
  simp only [w_getf, lg_141, lf_8_28, pm_oF_s, hg_85, pm_oO_s, List.getElem?_cons_succ, List.getElem?_cons_zero, pm_oK_s, true_and]
theorem iv_141_161_85 {x1 : Int32} {x2 : Int32} : pm_WL fqP d 141 pc ((.invokevirtual 161, n) :: r) L (.int x2 :: .int x1 :: .ref 85 :: S) (mk h) Q = (pm_okW 8 S = true ∧ pm_WC fqP d 139 [.ref 85, .int x1, .int x2] (mk h) (pm_kk fqP d 141 (pc + n) r L S Q)) := by
  show _ = (pm_okW 8 S = true ∧ pm_WC fqP d 139 [.ref 85, .int x1, .int x2] (mk h) (fun v σ' => pm_WL fqP d 141 (pc + n) r L (pm_pu v S) σ' Q))
  simp only [w_invv, lg_141, lm_8_161, pm_oM_s, pm_oP_s, pm_pop_0, pm_pop_s, pm_rcv_is, hg_85, pm_oO_s, pm_ref1_is, Nat.reduceEqDiff, Nat.zero_ne_one, Nat.succ_ne_self, true_or, or_true, or_false, false_or, or_self, false_implies, true_implies, implies_true, true_and]
theorem gf_141_9_85 : pm_WL fqP d 141 pc ((.getfield 9, n) :: r) L (.ref 85 :: S) (mk h) Q = pm_WL fqP d 141 (pc + n) r L (.ref 86 :: S) (mk h) Q := by
  simp only [w_getf, lg_141, lf_8_9, pm_oF_s, hg_85, pm_oO_s, List.getElem?_cons_succ, List.getElem?_cons_zero, pm_oK_s, true_and]
theorem iv_142_165_85 : pm_WL fqP d 142 pc ((.invokevirtual 165, n) :: r) L (.ref 85 :: S) (mk h) Q = (pm_okW 8 S = true ∧ pm_WC fqP d 140 [.ref 85] (mk h) (pm_kk fqP d 142 (pc + n) r L S Q)) := by
  show _ = (pm_okW 8 S = true ∧ pm_WC fqP d 140 [.ref 85] (mk h) (fun v σ' => pm_WL fqP d 142 (pc + n) r L (pm_pu v S) σ' Q))
  simp only [w_invv, lg_142, lm_8_165, pm_oM_s, pm_oP_s, pm_pop_0, pm_pop_s, pm_rcv_is, hg_85, pm_oO_s, pm_ref1_is, Nat.reduceEqDiff, Nat.zero_ne_one, Nat.succ_ne_self, true_or, or_true, or_false, false_or, or_self, false_implies, true_implies, implies_true, true_and]
theorem iv_143_41 {x0 : Int32} {x1 : Int32} {x2 : Int32} : pm_WL fqP d 143 pc ((.invokestatic 41, n) :: r) L (.int x2 :: .int x1 :: .int x0 :: S) σ Q = (pm_okW 8 S = true ∧ pm_WC fqP d 101 [.int x0, .int x1, .int x2] σ (pm_kk fqP d 143 (pc + n) r L S Q)) := by
  show _ = (pm_okW 8 S = true ∧ pm_WC fqP d 101 [.int x0, .int x1, .int x2] σ (fun v σ' => pm_WL fqP d 143 (pc + n) r L (pm_pu v S) σ' Q))
  simp only [w_invs, lg_143, lm_8_41, pm_oM_s, pm_oP_s, pm_pop_0, pm_pop_s, pm_ref1_is, Nat.reduceEqDiff, Nat.zero_ne_one, Nat.succ_ne_self, true_or, or_true, or_false, false_or, or_self, false_implies, true_implies, implies_true, true_and]
theorem gf_143_9_85 : pm_WL fqP d 143 pc ((.getfield 9, n) :: r) L (.ref 85 :: S) (mk h) Q = pm_WL fqP d 143 (pc + n) r L (.ref 86 :: S) (mk h) Q := by
  simp only [w_getf, lg_143, lf_8_9, pm_oF_s, hg_85, pm_oO_s, List.getElem?_cons_succ, List.getElem?_cons_zero, pm_oK_s, true_and]
theorem iv_143_168_85 {x1 : Int32} : pm_WL fqP d 143 pc ((.invokevirtual 168, n) :: r) L (.int x1 :: .ref 85 :: S) (mk h) Q = (pm_okW 8 S = true ∧ pm_WC fqP d 142 [.ref 85, .int x1] (mk h) (pm_kk fqP d 143 (pc + n) r L S Q)) := by
  show _ = (pm_okW 8 S = true ∧ pm_WC fqP d 142 [.ref 85, .int x1] (mk h) (fun v σ' => pm_WL fqP d 143 (pc + n) r L (pm_pu v S) σ' Q))
  simp only [w_invv, lg_143, lm_8_168, pm_oM_s, pm_oP_s, pm_pop_0, pm_pop_s, pm_rcv_is, hg_85, pm_oO_s, pm_ref1_is, Nat.reduceEqDiff, Nat.zero_ne_one, Nat.succ_ne_self, true_or, or_true, or_false, false_or, or_self, false_implies, true_implies, implies_true, true_and]
theorem iv_144_41 {x0 : Int32} {x1 : Int32} {x2 : Int32} : pm_WL fqP d 144 pc ((.invokestatic 41, n) :: r) L (.int x2 :: .int x1 :: .int x0 :: S) σ Q = (pm_okW 8 S = true ∧ pm_WC fqP d 101 [.int x0, .int x1, .int x2] σ (pm_kk fqP d 144 (pc + n) r L S Q)) := by
  show _ = (pm_okW 8 S = true ∧ pm_WC fqP d 101 [.int x0, .int x1, .int x2] σ (fun v σ' => pm_WL fqP d 144 (pc + n) r L (pm_pu v S) σ' Q))
  simp only [w_invs, lg_144, lm_8_41, pm_oM_s, pm_oP_s, pm_pop_0, pm_pop_s, pm_ref1_is, Nat.reduceEqDiff, Nat.zero_ne_one, Nat.succ_ne_self, true_or, or_true, or_false, false_or, or_self, false_implies, true_implies, implies_true, true_and]
theorem iv_144_171_85 : pm_WL fqP d 144 pc ((.invokevirtual 171, n) :: r) L (.ref 85 :: S) (mk h) Q = (pm_okW 8 S = true ∧ pm_WC fqP d 105 [.ref 85] (mk h) (pm_kk fqP d 144 (pc + n) r L S Q)) := by
  show _ = (pm_okW 8 S = true ∧ pm_WC fqP d 105 [.ref 85] (mk h) (fun v σ' => pm_WL fqP d 144 (pc + n) r L (pm_pu v S) σ' Q))
  simp only [w_invv, lg_144, lm_8_171, pm_oM_s, pm_oP_s, pm_pop_0, pm_pop_s, pm_rcv_is, hg_85, pm_oO_s, pm_ref1_is, Nat.reduceEqDiff, Nat.zero_ne_one, Nat.succ_ne_self, true_or, or_true, or_false, false_or, or_self, false_implies, true_implies, implies_true, true_and]
theorem iv_144_168_85 {x1 : Int32} : pm_WL fqP d 144 pc ((.invokevirtual 168, n) :: r) L (.int x1 :: .ref 85 :: S) (mk h) Q = (pm_okW 8 S = true ∧ pm_WC fqP d 142 [.ref 85, .int x1] (mk h) (pm_kk fqP d 144 (pc + n) r L S Q)) := by
  show _ = (pm_okW 8 S = true ∧ pm_WC fqP d 142 [.ref 85, .int x1] (mk h) (fun v σ' => pm_WL fqP d 144 (pc + n) r L (pm_pu v S) σ' Q))
  simp only [w_invv, lg_144, lm_8_168, pm_oM_s, pm_oP_s, pm_pop_0, pm_pop_s, pm_rcv_is, hg_85, pm_oO_s, pm_ref1_is, Nat.reduceEqDiff, Nat.zero_ne_one, Nat.succ_ne_self, true_or, or_true, or_false, false_or, or_self, false_implies, true_implies, implies_true, true_and]
theorem iv_144_174_85 : pm_WL fqP d 144 pc ((.invokevirtual 174, n) :: r) L (.ref 85 :: S) (mk h) Q = (pm_okW 8 S = true ∧ pm_WC fqP d 128 [.ref 85] (mk h) (pm_kk fqP d 144 (pc + n) r L S Q)) := by
  show _ = (pm_okW 8 S = true ∧ pm_WC fqP d 128 [.ref 85] (mk h) (fun v σ' => pm_WL fqP d 144 (pc + n) r L (pm_pu v S) σ' Q))
  simp only [w_invv, lg_144, lm_8_174, pm_oM_s, pm_oP_s, pm_pop_0, pm_pop_s, pm_rcv_is, hg_85, pm_oO_s, pm_ref1_is, Nat.reduceEqDiff, Nat.zero_ne_one, Nat.succ_ne_self, true_or, or_true, or_false, false_or, or_self, false_implies, true_implies, implies_true, true_and]
theorem iv_144_154_85 : pm_WL fqP d 144 pc ((.invokevirtual 154, n) :: r) L (.ref 85 :: S) (mk h) Q = (pm_okW 8 S = true ∧ pm_WC fqP d 126 [.ref 85] (mk h) (pm_kk fqP d 144 (pc + n) r L S Q)) := by
  show _ = (pm_okW 8 S = true ∧ pm_WC fqP d 126 [.ref 85] (mk h) (fun v σ' => pm_WL fqP d 144 (pc + n) r L (pm_pu v S) σ' Q))
  simp only [w_invv, lg_144, lm_8_154, pm_oM_s, pm_oP_s, pm_pop_0, pm_pop_s, pm_rcv_is, hg_85, pm_oO_s, pm_ref1_is, Nat.reduceEqDiff, Nat.zero_ne_one, Nat.succ_ne_self, true_or, or_true, or_false, false_or, or_self, false_implies, true_implies, implies_true, true_and]
theorem iv_144_177_85 : pm_WL fqP d 144 pc ((.invokevirtual 177, n) :: r) L (.ref 85 :: S) (mk h) Q = (pm_okW 8 S = true ∧ pm_WC fqP d 106 [.ref 85] (mk h) (pm_kk fqP d 144 (pc + n) r L S Q)) := by
  show _ = (pm_okW 8 S = true ∧ pm_WC fqP d 106 [.ref 85] (mk h) (fun v σ' => pm_WL fqP d 144 (pc + n) r L (pm_pu v S) σ' Q))
  simp only [w_invv, lg_144, lm_8_177, pm_oM_s, pm_oP_s, pm_pop_0, pm_pop_s, pm_rcv_is, hg_85, pm_oO_s, pm_ref1_is, Nat.reduceEqDiff, Nat.zero_ne_one, Nat.succ_ne_self, true_or, or_true, or_false, false_or, or_self, false_implies, true_implies, implies_true, true_and]
theorem iv_145_142 {x0 : Int32} : pm_WL fqP d 145 pc ((.invokestatic 142, n) :: r) L (.int x0 :: S) σ Q = (pm_okW 8 S = true ∧ pm_WC fqP d 103 [.int x0] σ (pm_kk fqP d 145 (pc + n) r L S Q)) := by
  show _ = (pm_okW 8 S = true ∧ pm_WC fqP d 103 [.int x0] σ (fun v σ' => pm_WL fqP d 145 (pc + n) r L (pm_pu v S) σ' Q))
  simp only [w_invs, lg_145, lm_8_142, pm_oM_s, pm_oP_s, pm_pop_0, pm_pop_s, pm_ref1_is, Nat.reduceEqDiff, Nat.zero_ne_one, Nat.succ_ne_self, true_or, or_true, or_false, false_or, or_self, false_implies, true_implies, implies_true, true_and]
theorem iv_145_171_85 : pm_WL fqP d 145 pc ((.invokevirtual 171, n) :: r) L (.ref 85 :: S) (mk h) Q = (pm_okW 8 S = true ∧ pm_WC fqP d 105 [.ref 85] (mk h) (pm_kk fqP d 145 (pc + n) r L S Q)) := by
  show _ = (pm_okW 8 S = true ∧ pm_WC fqP d 105 [.ref 85] (mk h) (fun v σ' => pm_WL fqP d 145 (pc + n) r L (pm_pu v S) σ' Q))
  simp only [w_invv, lg_145, lm_8_171, pm_oM_s, pm_oP_s, pm_pop_0, pm_pop_s, pm_rcv_is, hg_85, pm_oO_s, pm_ref1_is, Nat.reduceEqDiff, Nat.zero_ne_one, Nat.succ_ne_self, true_or, or_true, or_false, false_or, or_self, false_implies, true_implies, implies_true, true_and]
theorem gf_145_9_85 : pm_WL fqP d 145 pc ((.getfield 9, n) :: r) L (.ref 85 :: S) (mk h) Q = pm_WL fqP d 145 (pc + n) r L (.ref 86 :: S) (mk h) Q := by
  simp only [w_getf, lg_145, lf_8_9, pm_oF_s, hg_85, pm_oO_s, List.getElem?_cons_succ, List.getElem?_cons_zero, pm_oK_s, true_and]
theorem iv_145_165_85 : pm_WL fqP d 145 pc ((.invokevirtual 165, n) :: r) L (.ref 85 :: S) (mk h) Q = (pm_okW 8 S = true ∧ pm_WC fqP d 140 [.ref 85] (mk h) (pm_kk fqP d 145 (pc + n) r L S Q)) := by
  show _ = (pm_okW 8 S = true ∧ pm_WC fqP d 140 [.ref 85] (mk h) (fun v σ' => pm_WL fqP d 145 (pc + n) r L (pm_pu v S) σ' Q))
  simp only [w_invv, lg_145, lm_8_165, pm_oM_s, pm_oP_s, pm_pop_0, pm_pop_s, pm_rcv_is, hg_85, pm_oO_s, pm_ref1_is, Nat.reduceEqDiff, Nat.zero_ne_one, Nat.succ_ne_self, true_or, or_true, or_false, false_or, or_self, false_implies, true_implies, implies_true, true_and]
theorem iv_145_177_85 : pm_WL fqP d 145 pc ((.invokevirtual 177, n) :: r) L (.ref 85 :: S) (mk h) Q = (pm_okW 8 S = true ∧ pm_WC fqP d 106 [.ref 85] (mk h) (pm_kk fqP d 145 (pc + n) r L S Q)) := by
  show _ = (pm_okW 8 S = true ∧ pm_WC fqP d 106 [.ref 85] (mk h) (fun v σ' => pm_WL fqP d 145 (pc + n) r L (pm_pu v S) σ' Q))
  simp only [w_invv, lg_145, lm_8_177, pm_oM_s, pm_oP_s, pm_pop_0, pm_pop_s, pm_rcv_is, hg_85, pm_oO_s, pm_ref1_is, Nat.reduceEqDiff, Nat.zero_ne_one, Nat.succ_ne_self, true_or, or_true, or_false, false_or, or_self, false_implies, true_implies, implies_true, true_and]
theorem iv_146_171_85 : pm_WL fqP d 146 pc ((.invokevirtual 171, n) :: r) L (.ref 85 :: S) (mk h) Q = (pm_okW 8 S = true ∧ pm_WC fqP d 105 [.ref 85] (mk h) (pm_kk fqP d 146 (pc + n) r L S Q)) := by
  show _ = (pm_okW 8 S = true ∧ pm_WC fqP d 105 [.ref 85] (mk h) (fun v σ' => pm_WL fqP d 146 (pc + n) r L (pm_pu v S) σ' Q))
  simp only [w_invv, lg_146, lm_8_171, pm_oM_s, pm_oP_s, pm_pop_0, pm_pop_s, pm_rcv_is, hg_85, pm_oO_s, pm_ref1_is, Nat.reduceEqDiff, Nat.zero_ne_one, Nat.succ_ne_self, true_or, or_true, or_false, false_or, or_self, false_implies, true_implies, implies_true, true_and]
theorem iv_146_174_85 : pm_WL fqP d 146 pc ((.invokevirtual 174, n) :: r) L (.ref 85 :: S) (mk h) Q = (pm_okW 8 S = true ∧ pm_WC fqP d 128 [.ref 85] (mk h) (pm_kk fqP d 146 (pc + n) r L S Q)) := by
  show _ = (pm_okW 8 S = true ∧ pm_WC fqP d 128 [.ref 85] (mk h) (fun v σ' => pm_WL fqP d 146 (pc + n) r L (pm_pu v S) σ' Q))
  simp only [w_invv, lg_146, lm_8_174, pm_oM_s, pm_oP_s, pm_pop_0, pm_pop_s, pm_rcv_is, hg_85, pm_oO_s, pm_ref1_is, Nat.reduceEqDiff, Nat.zero_ne_one, Nat.succ_ne_self, true_or, or_true, or_false, false_or, or_self, false_implies, true_implies, implies_true, true_and]
theorem iv_146_165_85 : pm_WL fqP d 146 pc ((.invokevirtual 165, n) :: r) L (.ref 85 :: S) (mk h) Q = (pm_okW 8 S = true ∧ pm_WC fqP d 140 [.ref 85] (mk h) (pm_kk fqP d 146 (pc + n) r L S Q)) := by
  show _ = (pm_okW 8 S = true ∧ pm_WC fqP d 140 [.ref 85] (mk h) (fun v σ' => pm_WL fqP d 146 (pc + n) r L (pm_pu v S) σ' Q))
  simp only [w_invv, lg_146, lm_8_165, pm_oM_s, pm_oP_s, pm_pop_0, pm_pop_s, pm_rcv_is, hg_85, pm_oO_s, pm_ref1_is, Nat.reduceEqDiff, Nat.zero_ne_one, Nat.succ_ne_self, true_or, or_true, or_false, false_or, or_self, false_implies, true_implies, implies_true, true_and]
theorem iv_146_177_85 : pm_WL fqP d 146 pc ((.invokevirtual 177, n) :: r) L (.ref 85 :: S) (mk h) Q = (pm_okW 8 S = true ∧ pm_WC fqP d 106 [.ref 85] (mk h) (pm_kk fqP d 146 (pc + n) r L S Q)) := by
  show _ = (pm_okW 8 S = true ∧ pm_WC fqP d 106 [.ref 85] (mk h) (fun v σ' => pm_WL fqP d 146 (pc + n) r L (pm_pu v S) σ' Q))
  simp only [w_invv, lg_146, lm_8_177, pm_oM_s, pm_oP_s, pm_pop_0, pm_pop_s, pm_rcv_is, hg_85, pm_oO_s, pm_ref1_is, Nat.reduceEqDiff, Nat.zero_ne_one, Nat.succ_ne_self, true_or, or_true, or_false, false_or, or_self, false_implies, true_implies, implies_true, true_and]
theorem gf_147_9_85 : pm_WL fqP d 147 pc ((.getfield 9, n) :: r) L (.ref 85 :: S) (mk h) Q = pm_WL fqP d 147 (pc + n) r L (.ref 86 :: S) (mk h) Q := by
  simp only [w_getf, lg_147, lf_8_9, pm_oF_s, hg_85, pm_oO_s, List.getElem?_cons_succ, List.getElem?_cons_zero, pm_oK_s, true_and]
theorem iv_147_124_85 {x1 : Int32} {x2 : Int32} : pm_WL fqP d 147 pc ((.invokevirtual 124, n) :: r) L (.int x2 :: .int x1 :: .ref 85 :: S) (mk h) Q = (pm_okW 8 S = true ∧ pm_WC fqP d 121 [.ref 85, .int x1, .int x2] (mk h) (pm_kk fqP d 147 (pc + n) r L S Q)) := by
  show _ = (pm_okW 8 S = true ∧ pm_WC fqP d 121 [.ref 85, .int x1, .int x2] (mk h) (fun v σ' => pm_WL fqP d 147 (pc + n) r L (pm_pu v S) σ' Q))
  simp only [w_invv, lg_147, lm_8_124, pm_oM_s, pm_oP_s, pm_pop_0, pm_pop_s, pm_rcv_is, hg_85, pm_oO_s, pm_ref1_is, Nat.reduceEqDiff, Nat.zero_ne_one, Nat.succ_ne_self, true_or, or_true, or_false, false_or, or_self, false_implies, true_implies, implies_true, true_and]
theorem iv_147_174_85 : pm_WL fqP d 147 pc ((.invokevirtual 174, n) :: r) L (.ref 85 :: S) (mk h) Q = (pm_okW 8 S = true ∧ pm_WC fqP d 128 [.ref 85] (mk h) (pm_kk fqP d 147 (pc + n) r L S Q)) := by
  show _ = (pm_okW 8 S = true ∧ pm_WC fqP d 128 [.ref 85] (mk h) (fun v σ' => pm_WL fqP d 147 (pc + n) r L (pm_pu v S) σ' Q))
  simp only [w_invv, lg_147, lm_8_174, pm_oM_s, pm_oP_s, pm_pop_0, pm_pop_s, pm_rcv_is, hg_85, pm_oO_s, pm_ref1_is, Nat.reduceEqDiff, Nat.zero_ne_one, Nat.succ_ne_self, true_or, or_true, or_false, false_or, or_self, false_implies, true_implies, implies_true, true_and]
theorem iv_147_154_85 : pm_WL fqP d 147 pc ((.invokevirtual 154, n) :: r) L (.ref 85 :: S) (mk h) Q = (pm_okW 8 S = true ∧ pm_WC fqP d 126 [.ref 85] (mk h) (pm_kk fqP d 147 (pc + n) r L S Q)) := by
  show _ = (pm_okW 8 S = true ∧ pm_WC fqP d 126 [.ref 85] (mk h) (fun v σ' => pm_WL fqP d 147 (pc + n) r L (pm_pu v S) σ' Q))
  simp only [w_invv, lg_147, lm_8_154, pm_oM_s, pm_oP_s, pm_pop_0, pm_pop_s, pm_rcv_is, hg_85, pm_oO_s, pm_ref1_is, Nat.reduceEqDiff, Nat.zero_ne_one, Nat.succ_ne_self, true_or, or_true, or_false, false_or, or_self, false_implies, true_implies, implies_true, true_and]
theorem iv_147_180_85 : pm_WL fqP d 147 pc ((.invokevirtual 180, n) :: r) L (.ref 85 :: S) (mk h) Q = (pm_okW 8 S = true ∧ pm_WC fqP d 146 [.ref 85] (mk h) (pm_kk fqP d 147 (pc + n) r L S Q)) := by
  show _ = (pm_okW 8 S = true ∧ pm_WC fqP d 146 [.ref 85] (mk h) (fun v σ' => pm_WL fqP d 147 (pc + n) r L (pm_pu v S) σ' Q))
  simp only [w_invv, lg_147, lm_8_180, pm_oM_s, pm_oP_s, pm_pop_0, pm_pop_s, pm_rcv_is, hg_85, pm_oO_s, pm_ref1_is, Nat.reduceEqDiff, Nat.zero_ne_one, Nat.succ_ne_self, true_or, or_true, or_false, false_or, or_self, false_implies, true_implies, implies_true, true_and]
theorem iv_147_41 {x0 : Int32} {x1 : Int32} {x2 : Int32} : pm_WL fqP d 147 pc ((.invokestatic 41, n) :: r) L (.int x2 :: .int x1 :: .int x0 :: S) σ Q = (pm_okW 8 S = true ∧ pm_WC fqP d 101 [.int x0, .int x1, .int x2] σ (pm_kk fqP d 147 (pc + n) r L S Q)) := by
  show _ = (pm_okW 8 S = true ∧ pm_WC fqP d 101 [.int x0, .int x1, .int x2] σ (fun v σ' => pm_WL fqP d 147 (pc + n) r L (pm_pu v S) σ' Q))
  simp only [w_invs, lg_147, lm_8_41, pm_oM_s, pm_oP_s, pm_pop_0, pm_pop_s, pm_ref1_is, Nat.reduceEqDiff, Nat.zero_ne_one, Nat.succ_ne_self, true_or, or_true, or_false, false_or, or_self, false_implies, true_implies, implies_true, true_and]
theorem iv_148_171_85 : pm_WL fqP d 148 pc ((.invokevirtual 171, n) :: r) L (.ref 85 :: S) (mk h) Q = (pm_okW 8 S = true ∧ pm_WC fqP d 105 [.ref 85] (mk h) (pm_kk fqP d 148 (pc + n) r L S Q)) := by
  show _ = (pm_okW 8 S = true ∧ pm_WC fqP d 105 [.ref 85] (mk h) (fun v σ' => pm_WL fqP d 148 (pc + n) r L (pm_pu v S) σ' Q))
  simp only [w_invv, lg_148, lm_8_171, pm_oM_s, pm_oP_s, pm_pop_0, pm_pop_s, pm_rcv_is, hg_85, pm_oO_s, pm_ref1_is, Nat.reduceEqDiff, Nat.zero_ne_one, Nat.succ_ne_self, true_or, or_true, or_false, false_or, or_self, false_implies, true_implies, implies_true, true_and]
theorem iv_148_183_85 : pm_WL fqP d 148 pc ((.invokevirtual 183, n) :: r) L (.ref 85 :: S) (mk h) Q = (pm_okW 8 S = true ∧ pm_WC fqP d 141 [.ref 85] (mk h) (pm_kk fqP d 148 (pc + n) r L S Q)) := by
  show _ = (pm_okW 8 S = true ∧ pm_WC fqP d 141 [.ref 85] (mk h) (fun v σ' => pm_WL fqP d 148 (pc + n) r L (pm_pu v S) σ' Q))
  simp only [w_invv, lg_148, lm_8_183, pm_oM_s, pm_oP_s, pm_pop_0, pm_pop_s, pm_rcv_is, hg_85, pm_oO_s, pm_ref1_is, Nat.reduceEqDiff, Nat.zero_ne_one, Nat.succ_ne_self, true_or, or_true, or_false, false_or, or_self, false_implies, true_implies, implies_true, true_and]
theorem gf_148_9_85 : pm_WL fqP d 148 pc ((.getfield 9, n) :: r) L (.ref 85 :: S) (mk h) Q = pm_WL fqP d 148 (pc + n) r L (.ref 86 :: S) (mk h) Q := by
  simp only [w_getf, lg_148, lf_8_9, pm_oF_s, hg_85, pm_oO_s, List.getElem?_cons_succ, List.getElem?_cons_zero, pm_oK_s, true_and]
theorem iv_148_177_85 : pm_WL fqP d 148 pc ((.invokevirtual 177, n) :: r) L (.ref 85 :: S) (mk h) Q = (pm_okW 8 S = true ∧ pm_WC fqP d 106 [.ref 85] (mk h) (pm_kk fqP d 148 (pc + n) r L S Q)) := by
  show _ = (pm_okW 8 S = true ∧ pm_WC fqP d 106 [.ref 85] (mk h) (fun v σ' => pm_WL fqP d 148 (pc + n) r L (pm_pu v S) σ' Q))
  simp only [w_invv, lg_148, lm_8_177, pm_oM_s, pm_oP_s, pm_pop_0, pm_pop_s, pm_rcv_is, hg_85, pm_oO_s, pm_ref1_is, Nat.reduceEqDiff, Nat.zero_ne_one, Nat.succ_ne_self, true_or, or_true, or_false, false_or, or_self, false_implies, true_implies, implies_true, true_and]
theorem gf_148_186_85 : pm_WL fqP d 148 pc ((.getfield 186, n) :: r) L (.ref 85 :: S) (mk h) Q = pm_WL fqP d 148 (pc + n) r L (.int (gd (h 85) 7) :: S) (mk h) Q := by
  simp only [w_getf, lg_148, lf_8_186, pm_oF_s, hg_85, pm_oO_s, List.getElem?_cons_succ, List.getElem?_cons_zero, pm_oK_s, true_and]
theorem pf_148_186_85 {x : Int32} : pm_WL fqP d 148 pc ((.putfield 186, n) :: r) L (.int x :: .ref 85 :: S) (mk h) Q = pm_WL fqP d 148 (pc + n) r L S (mk (up h 85 [gd (h 85) 0, gd (h 85) 1, gd (h 85) 2, gd (h 85) 3, gd (h 85) 4, gd (h 85) 5, gd (h 85) 6, x, gd (h 85) 8, gd (h 85) 9, gd (h 85) 10, gd (h 85) 11])) Q := by
  simp only [w_putf, lg_148, lf_8_186, lt_8_14, pm_oF_s, hg_85, pm_oO_s, List.set_cons_succ, List.set_cons_zero, List.length_cons, List.length_nil, pm_fit_i, Nat.reduceAdd, Nat.reduceLT, Nat.zero_add, Nat.lt_add_one, Bool.false_eq_true, false_implies, true_and, and_true, hs_85]
theorem gf_148_31_85 : pm_WL fqP d 148 pc ((.getfield 31, n) :: r) L (.ref 85 :: S) (mk h) Q = pm_WL fqP d 148 (pc + n) r L (.ref 92 :: S) (mk h) Q := by
  simp only [w_getf, lg_148, lf_8_31, pm_oF_s, hg_85, pm_oO_s, List.getElem?_cons_succ, List.getElem?_cons_zero, pm_oK_s, true_and]
theorem gf_148_28_85 : pm_WL fqP d 148 pc ((.getfield 28, n) :: r) L (.ref 85 :: S) (mk h) Q = pm_WL fqP d 148 (pc + n) r L (.ref 91 :: S) (mk h) Q := by
  simp only [w_getf, lg_148, lf_8_28, pm_oF_s, hg_85, pm_oO_s, List.getElem?_cons_succ, List.getElem?_cons_zero, pm_oK_s, true_and]
theorem iv_149_189_85 {x1 : Int32} : pm_WL fqP d 149 pc ((.invokevirtual 189, n) :: r) L (.int x1 :: .ref 85 :: S) (mk h) Q = (pm_okW 8 S = true ∧ pm_WC fqP d 148 [.ref 85, .int x1] (mk h) (pm_kk fqP d 149 (pc + n) r L S Q)) := by
  show _ = (pm_okW 8 S = true ∧ pm_WC fqP d 148 [.ref 85, .int x1] (mk h) (fun v σ' => pm_WL fqP d 149 (pc + n) r L (pm_pu v S) σ' Q))
  simp only [w_invv, lg_149, lm_8_189, pm_oM_s, pm_oP_s, pm_pop_0, pm_pop_s, pm_rcv_is, hg_85, pm_oO_s, pm_ref1_is, Nat.reduceEqDiff, Nat.zero_ne_one, Nat.succ_ne_self, true_or, or_true, or_false, false_or, or_self, false_implies, true_implies, implies_true, true_and]
theorem gf_149_28_85 : pm_WL fqP d 149 pc ((.getfield 28, n) :: r) L (.ref 85 :: S) (mk h) Q = pm_WL fqP d 149 (pc + n) r L (.ref 91 :: S) (mk h) Q := by
  simp only [w_getf, lg_149, lf_8_28, pm_oF_s, hg_85, pm_oO_s, List.getElem?_cons_succ, List.getElem?_cons_zero, pm_oK_s, true_and]
theorem iv_149_192_85 {x1 : Int32} {x2 : Int32} {x3 : Int32} : pm_WL fqP d 149 pc ((.invokevirtual 192, n) :: r) L (.int x3 :: .int x2 :: .int x1 :: .ref 85 :: S) (mk h) Q = (pm_okW 8 S = true ∧ pm_WC fqP d 149 [.ref 85, .int x1, .int x2, .int x3] (mk h) (pm_kk fqP d 149 (pc + n) r L S Q)) := by
  show _ = (pm_okW 8 S = true ∧ pm_WC fqP d 149 [.ref 85, .int x1, .int x2, .int x3] (mk h) (fun v σ' => pm_WL fqP d 149 (pc + n) r L (pm_pu v S) σ' Q))
  simp only [w_invv, lg_149, lm_8_192, pm_oM_s, pm_oP_s, pm_pop_0, pm_pop_s, pm_rcv_is, hg_85, pm_oO_s, pm_ref1_is, Nat.reduceEqDiff, Nat.zero_ne_one, Nat.succ_ne_self, true_or, or_true, or_false, false_or, or_self, false_implies, true_implies, implies_true, true_and]
theorem iv_150_41 {x0 : Int32} {x1 : Int32} {x2 : Int32} : pm_WL fqP d 150 pc ((.invokestatic 41, n) :: r) L (.int x2 :: .int x1 :: .int x0 :: S) σ Q = (pm_okW 8 S = true ∧ pm_WC fqP d 101 [.int x0, .int x1, .int x2] σ (pm_kk fqP d 150 (pc + n) r L S Q)) := by
  show _ = (pm_okW 8 S = true ∧ pm_WC fqP d 101 [.int x0, .int x1, .int x2] σ (fun v σ' => pm_WL fqP d 150 (pc + n) r L (pm_pu v S) σ' Q))
  simp only [w_invs, lg_150, lm_8_41, pm_oM_s, pm_oP_s, pm_pop_0, pm_pop_s, pm_ref1_is, Nat.reduceEqDiff, Nat.zero_ne_one, Nat.succ_ne_self, true_or, or_true, or_false, false_or, or_self, false_implies, true_implies, implies_true, true_and]
theorem pf_150_186_85 {x : Int32} : pm_WL fqP d 150 pc ((.putfield 186, n) :: r) L (.int x :: .ref 85 :: S) (mk h) Q = pm_WL fqP d 150 (pc + n) r L S (mk (up h 85 [gd (h 85) 0, gd (h 85) 1, gd (h 85) 2, gd (h 85) 3, gd (h 85) 4, gd (h 85) 5, gd (h 85) 6, x, gd (h 85) 8, gd (h 85) 9, gd (h 85) 10, gd (h 85) 11])) Q := by
  simp only [w_putf, lg_150, lf_8_186, lt_8_14, pm_oF_s, hg_85, pm_oO_s, List.set_cons_succ, List.set_cons_zero, List.length_cons, List.length_nil, pm_fit_i, Nat.reduceAdd, Nat.reduceLT, Nat.zero_add, Nat.lt_add_one, Bool.false_eq_true, false_implies, true_and, and_true, hs_85]
theorem iv_150_192_85 {x1 : Int32} {x2 : Int32} {x3 : Int32} : pm_WL fqP d 150 pc ((.invokevirtual 192, n) :: r) L (.int x3 :: .int x2 :: .int x1 :: .ref 85 :: S) (mk h) Q = (pm_okW 8 S = true ∧ pm_WC fqP d 149 [.ref 85, .int x1, .int x2, .int x3] (mk h) (pm_kk fqP d 150 (pc + n) r L S Q)) := by
  show _ = (pm_okW 8 S = true ∧ pm_WC fqP d 149 [.ref 85, .int x1, .int x2, .int x3] (mk h) (fun v σ' => pm_WL fqP d 150 (pc + n) r L (pm_pu v S) σ' Q))
  simp only [w_invv, lg_150, lm_8_192, pm_oM_s, pm_oP_s, pm_pop_0, pm_pop_s, pm_rcv_is, hg_85, pm_oO_s, pm_ref1_is, Nat.reduceEqDiff, Nat.zero_ne_one, Nat.succ_ne_self, true_or, or_true, or_false, false_or, or_self, false_implies, true_implies, implies_true, true_and]
theorem gf_150_186_85 : pm_WL fqP d 150 pc ((.getfield 186, n) :: r) L (.ref 85 :: S) (mk h) Q = pm_WL fqP d 150 (pc + n) r L (.int (gd (h 85) 7) :: S) (mk h) Q := by
  simp only [w_getf, lg_150, lf_8_186, pm_oF_s, hg_85, pm_oO_s, List.getElem?_cons_succ, List.getElem?_cons_zero, pm_oK_s, true_and]
theorem gf_150_31_85 : pm_WL fqP d 150 pc ((.getfield 31, n) :: r) L (.ref 85 :: S) (mk h) Q = pm_WL fqP d 150 (pc + n) r L (.ref 92 :: S) (mk h) Q := by
  simp only [w_getf, lg_150, lf_8_31, pm_oF_s, hg_85, pm_oO_s, List.getElem?_cons_succ, List.getElem?_cons_zero, pm_oK_s, true_and]
theorem iv_151_165_85 : pm_WL fqP d 151 pc ((.invokevirtual 165, n) :: r) L (.ref 85 :: S) (mk h) Q = (pm_okW 8 S = true ∧ pm_WC fqP d 140 [.ref 85] (mk h) (pm_kk fqP d 151 (pc + n) r L S Q)) := by
  show _ = (pm_okW 8 S = true ∧ pm_WC fqP d 140 [.ref 85] (mk h) (fun v σ' => pm_WL fqP d 151 (pc + n) r L (pm_pu v S) σ' Q))
  simp only [w_invv, lg_151, lm_8_165, pm_oM_s, pm_oP_s, pm_pop_0, pm_pop_s, pm_rcv_is, hg_85, pm_oO_s, pm_ref1_is, Nat.reduceEqDiff, Nat.zero_ne_one, Nat.succ_ne_self, true_or, or_true, or_false, false_or, or_self, false_implies, true_implies, implies_true, true_and]
theorem gf_151_9_85 : pm_WL fqP d 151 pc ((.getfield 9, n) :: r) L (.ref 85 :: S) (mk h) Q = pm_WL fqP d 151 (pc + n) r L (.ref 86 :: S) (mk h) Q := by
  simp only [w_getf, lg_151, lf_8_9, pm_oF_s, hg_85, pm_oO_s, List.getElem?_cons_succ, List.getElem?_cons_zero, pm_oK_s, true_and]
theorem iv_151_177_85 : pm_WL fqP d 151 pc ((.invokevirtual 177, n) :: r) L (.ref 85 :: S) (mk h) Q = (pm_okW 8 S = true ∧ pm_WC fqP d 106 [.ref 85] (mk h) (pm_kk fqP d 151 (pc + n) r L S Q)) := by
  show _ = (pm_okW 8 S = true ∧ pm_WC fqP d 106 [.ref 85] (mk h) (fun v σ' => pm_WL fqP d 151 (pc + n) r L (pm_pu v S) σ' Q))
  simp only [w_invv, lg_151, lm_8_177, pm_oM_s, pm_oP_s, pm_pop_0, pm_pop_s, pm_rcv_is, hg_85, pm_oO_s, pm_ref1_is, Nat.reduceEqDiff, Nat.zero_ne_one, Nat.succ_ne_self, true_or, or_true, or_false, false_or, or_self, false_implies, true_implies, implies_true, true_and]
theorem iv_152_171_85 : pm_WL fqP d 152 pc ((.invokevirtual 171, n) :: r) L (.ref 85 :: S) (mk h) Q = (pm_okW 8 S = true ∧ pm_WC fqP d 105 [.ref 85] (mk h) (pm_kk fqP d 152 (pc + n) r L S Q)) := by
  show _ = (pm_okW 8 S = true ∧ pm_WC fqP d 105 [.ref 85] (mk h) (fun v σ' => pm_WL fqP d 152 (pc + n) r L (pm_pu v S) σ' Q))
  simp only [w_invv, lg_152, lm_8_171, pm_oM_s, pm_oP_s, pm_pop_0, pm_pop_s, pm_rcv_is, hg_85, pm_oO_s, pm_ref1_is, Nat.reduceEqDiff, Nat.zero_ne_one, Nat.succ_ne_self, true_or, or_true, or_false, false_or, or_self, false_implies, true_implies, implies_true, true_and]
theorem gf_152_9_85 : pm_WL fqP d 152 pc ((.getfield 9, n) :: r) L (.ref 85 :: S) (mk h) Q = pm_WL fqP d 152 (pc + n) r L (.ref 86 :: S) (mk h) Q := by
  simp only [w_getf, lg_152, lf_8_9, pm_oF_s, hg_85, pm_oO_s, List.getElem?_cons_succ, List.getElem?_cons_zero, pm_oK_s, true_and]
theorem iv_152_196_85 {x1 : Int32} : pm_WL fqP d 152 pc ((.invokevirtual 196, n) :: r) L (.int x1 :: .ref 85 :: S) (mk h) Q = (pm_okW 8 S = true ∧ pm_WC fqP d 151 [.ref 85, .int x1] (mk h) (pm_kk fqP d 152 (pc + n) r L S Q)) := by
  show _ = (pm_okW 8 S = true ∧ pm_WC fqP d 151 [.ref 85, .int x1] (mk h) (fun v σ' => pm_WL fqP d 152 (pc + n) r L (pm_pu v S) σ' Q))
  simp only [w_invv, lg_152, lm_8_196, pm_oM_s, pm_oP_s, pm_pop_0, pm_pop_s, pm_rcv_is, hg_85, pm_oO_s, pm_ref1_is, Nat.reduceEqDiff, Nat.zero_ne_one, Nat.succ_ne_self, true_or, or_true, or_false, false_or, or_self, false_implies, true_implies, implies_true, true_and]
theorem iv_153_142 {x0 : Int32} : pm_WL fqP d 153 pc ((.invokestatic 142, n) :: r) L (.int x0 :: S) σ Q = (pm_okW 8 S = true ∧ pm_WC fqP d 103 [.int x0] σ (pm_kk fqP d 153 (pc + n) r L S Q)) := by
  show _ = (pm_okW 8 S = true ∧ pm_WC fqP d 103 [.int x0] σ (fun v σ' => pm_WL fqP d 153 (pc + n) r L (pm_pu v S) σ' Q))
  simp only [w_invs, lg_153, lm_8_142, pm_oM_s, pm_oP_s, pm_pop_0, pm_pop_s, pm_ref1_is, Nat.reduceEqDiff, Nat.zero_ne_one, Nat.succ_ne_self, true_or, or_true, or_false, false_or, or_self, false_implies, true_implies, implies_true, true_and]
theorem iv_153_199_85 {x1 : Int32} : pm_WL fqP d 153 pc ((.invokevirtual 199, n) :: r) L (.int x1 :: .ref 85 :: S) (mk h) Q = (pm_okW 8 S = true ∧ pm_WC fqP d 152 [.ref 85, .int x1] (mk h) (pm_kk fqP d 153 (pc + n) r L S Q)) := by
  show _ = (pm_okW 8 S = true ∧ pm_WC fqP d 152 [.ref 85, .int x1] (mk h) (fun v σ' => pm_WL fqP d 153 (pc + n) r L (pm_pu v S) σ' Q))
  simp only [w_invv, lg_153, lm_8_199, pm_oM_s, pm_oP_s, pm_pop_0, pm_pop_s, pm_rcv_is, hg_85, pm_oO_s, pm_ref1_is, Nat.reduceEqDiff, Nat.zero_ne_one, Nat.succ_ne_self, true_or, or_true, or_false, false_or, or_self, false_implies, true_implies, implies_true, true_and]
theorem iv_154_142 {x0 : Int32} : pm_WL fqP d 154 pc ((.invokestatic 142, n) :: r) L (.int x0 :: S) σ Q = (pm_okW 8 S = true ∧ pm_WC fqP d 103 [.int x0] σ (pm_kk fqP d 154 (pc + n) r L S Q)) := by
  show _ = (pm_okW 8 S = true ∧ pm_WC fqP d 103 [.int x0] σ (fun v σ' => pm_WL fqP d 154 (pc + n) r L (pm_pu v S) σ' Q))
  simp only [w_invs, lg_154, lm_8_142, pm_oM_s, pm_oP_s, pm_pop_0, pm_pop_s, pm_ref1_is, Nat.reduceEqDiff, Nat.zero_ne_one, Nat.succ_ne_self, true_or, or_true, or_false, false_or, or_self, false_implies, true_implies, implies_true, true_and]
theorem gf_154_9_85 : pm_WL fqP d 154 pc ((.getfield 9, n) :: r) L (.ref 85 :: S) (mk h) Q = pm_WL fqP d 154 (pc + n) r L (.ref 86 :: S) (mk h) Q := by
  simp only [w_getf, lg_154, lf_8_9, pm_oF_s, hg_85, pm_oO_s, List.getElem?_cons_succ, List.getElem?_cons_zero, pm_oK_s, true_and]
theorem iv_154_157 {x0 : Int32} : pm_WL fqP d 154 pc ((.invokestatic 157, n) :: r) L (.int x0 :: S) σ Q = (pm_okW 8 S = true ∧ pm_WC fqP d 127 [.int x0] σ (pm_kk fqP d 154 (pc + n) r L S Q)) := by
  show _ = (pm_okW 8 S = true ∧ pm_WC fqP d 127 [.int x0] σ (fun v σ' => pm_WL fqP d 154 (pc + n) r L (pm_pu v S) σ' Q))
  simp only [w_invs, lg_154, lm_8_157, pm_oM_s, pm_oP_s, pm_pop_0, pm_pop_s, pm_ref1_is, Nat.reduceEqDiff, Nat.zero_ne_one, Nat.succ_ne_self, true_or, or_true, or_false, false_or, or_self, false_implies, true_implies, implies_true, true_and]
theorem iv_154_171_85 : pm_WL fqP d 154 pc ((.invokevirtual 171, n) :: r) L (.ref 85 :: S) (mk h) Q = (pm_okW 8 S = true ∧ pm_WC fqP d 105 [.ref 85] (mk h) (pm_kk fqP d 154 (pc + n) r L S Q)) := by
  show _ = (pm_okW 8 S = true ∧ pm_WC fqP d 105 [.ref 85] (mk h) (fun v σ' => pm_WL fqP d 154 (pc + n) r L (pm_pu v S) σ' Q))
  simp only [w_invv, lg_154, lm_8_171, pm_oM_s, pm_oP_s, pm_pop_0, pm_pop_s, pm_rcv_is, hg_85, pm_oO_s, pm_ref1_is, Nat.reduceEqDiff, Nat.zero_ne_one, Nat.succ_ne_self, true_or, or_true, or_false, false_or, or_self, false_implies, true_implies, implies_true, true_and]
theorem iv_154_196_85 {x1 : Int32} : pm_WL fqP d 154 pc ((.invokevirtual 196, n) :: r) L (.int x1 :: .ref 85 :: S) (mk h) Q = (pm_okW 8 S = true ∧ pm_WC fqP d 151 [.ref 85, .int x1] (mk h) (pm_kk fqP d 154 (pc + n) r L S Q)) := by
  show _ = (pm_okW 8 S = true ∧ pm_WC fqP d 151 [.ref 85, .int x1] (mk h) (fun v σ' => pm_WL fqP d 154 (pc + n) r L (pm_pu v S) σ' Q))
  simp only [w_invv, lg_154, lm_8_196, pm_oM_s, pm_oP_s, pm_pop_0, pm_pop_s, pm_rcv_is, hg_85, pm_oO_s, pm_ref1_is, Nat.reduceEqDiff, Nat.zero_ne_one, Nat.succ_ne_self, true_or, or_true, or_false, false_or, or_self, false_implies, true_implies, implies_true, true_and]
theorem gf_155_9_85 : pm_WL fqP d 155 pc ((.getfield 9, n) :: r) L (.ref 85 :: S) (mk h) Q = pm_WL fqP d 155 (pc + n) r L (.ref 86 :: S) (mk h) Q := by
  simp only [w_getf, lg_155, lf_8_9, pm_oF_s, hg_85, pm_oO_s, List.getElem?_cons_succ, List.getElem?_cons_zero, pm_oK_s, true_and]
theorem iv_155_142 {x0 : Int32} : pm_WL fqP d 155 pc ((.invokestatic 142, n) :: r) L (.int x0 :: S) σ Q = (pm_okW 8 S = true ∧ pm_WC fqP d 103 [.int x0] σ (pm_kk fqP d 155 (pc + n) r L S Q)) := by
  show _ = (pm_okW 8 S = true ∧ pm_WC fqP d 103 [.int x0] σ (fun v σ' => pm_WL fqP d 155 (pc + n) r L (pm_pu v S) σ' Q))
  simp only [w_invs, lg_155, lm_8_142, pm_oM_s, pm_oP_s, pm_pop_0, pm_pop_s, pm_ref1_is, Nat.reduceEqDiff, Nat.zero_ne_one, Nat.succ_ne_self, true_or, or_true, or_false, false_or, or_self, false_implies, true_implies, implies_true, true_and]
theorem iv_155_41 {x0 : Int32} {x1 : Int32} {x2 : Int32} : pm_WL fqP d 155 pc ((.invokestatic 41, n) :: r) L (.int x2 :: .int x1 :: .int x0 :: S) σ Q = (pm_okW 8 S = true ∧ pm_WC fqP d 101 [.int x0, .int x1, .int x2] σ (pm_kk fqP d 155 (pc + n) r L S Q)) := by
  show _ = (pm_okW 8 S = true ∧ pm_WC fqP d 101 [.int x0, .int x1, .int x2] σ (fun v σ' => pm_WL fqP d 155 (pc + n) r L (pm_pu v S) σ' Q))
  simp only [w_invs, lg_155, lm_8_41, pm_oM_s, pm_oP_s, pm_pop_0, pm_pop_s, pm_ref1_is, Nat.reduceEqDiff, Nat.zero_ne_one, Nat.succ_ne_self, true_or, or_true, or_false, false_or, or_self, false_implies, true_implies, implies_true, true_and]
theorem gf_156_9_85 : pm_WL fqP d 156 pc ((.getfield 9, n) :: r) L (.ref 85 :: S) (mk h) Q = pm_WL fqP d 156 (pc + n) r L (.ref 86 :: S) (mk h) Q := by
  simp only [w_getf, lg_156, lf_8_9, pm_oF_s, hg_85, pm_oO_s, List.getElem?_cons_succ, List.getElem?_cons_zero, pm_oK_s, true_and]
theorem iv_157_202_85 {x1 : Int32} : pm_WL fqP d 157 pc ((.invokevirtual 202, n) :: r) L (.int x1 :: .ref 85 :: S) (mk h) Q = (pm_okW 8 S = true ∧ pm_WC fqP d 156 [.ref 85, .int x1] (mk h) (pm_kk fqP d 157 (pc + n) r L S Q)) := by
  show _ = (pm_okW 8 S = true ∧ pm_WC fqP d 156 [.ref 85, .int x1] (mk h) (fun v σ' => pm_WL fqP d 157 (pc + n) r L (pm_pu v S) σ' Q))
  simp only [w_invv, lg_157, lm_8_202, pm_oM_s, pm_oP_s, pm_pop_0, pm_pop_s, pm_rcv_is, hg_85, pm_oO_s, pm_ref1_is, Nat.reduceEqDiff, Nat.zero_ne_one, Nat.succ_ne_self, true_or, or_true, or_false, false_or, or_self, false_implies, true_implies, implies_true, true_and]
theorem iv_157_165_85 : pm_WL fqP d 157 pc ((.invokevirtual 165, n) :: r) L (.ref 85 :: S) (mk h) Q = (pm_okW 8 S = true ∧ pm_WC fqP d 140 [.ref 85] (mk h) (pm_kk fqP d 157 (pc + n) r L S Q)) := by
  show _ = (pm_okW 8 S = true ∧ pm_WC fqP d 140 [.ref 85] (mk h) (fun v σ' => pm_WL fqP d 157 (pc + n) r L (pm_pu v S) σ' Q))
  simp only [w_invv, lg_157, lm_8_165, pm_oM_s, pm_oP_s, pm_pop_0, pm_pop_s, pm_rcv_is, hg_85, pm_oO_s, pm_ref1_is, Nat.reduceEqDiff, Nat.zero_ne_one, Nat.succ_ne_self, true_or, or_true, or_false, false_or, or_self, false_implies, true_implies, implies_true, true_and]
theorem iv_157_177_85 : pm_WL fqP d 157 pc ((.invokevirtual 177, n) :: r) L (.ref 85 :: S) (mk h) Q = (pm_okW 8 S = true ∧ pm_WC fqP d 106 [.ref 85] (mk h) (pm_kk fqP d 157 (pc + n) r L S Q)) := by
  show _ = (pm_okW 8 S = true ∧ pm_WC fqP d 106 [.ref 85] (mk h) (fun v σ' => pm_WL fqP d 157 (pc + n) r L (pm_pu v S) σ' Q))
  simp only [w_invv, lg_157, lm_8_177, pm_oM_s, pm_oP_s, pm_pop_0, pm_pop_s, pm_rcv_is, hg_85, pm_oO_s, pm_ref1_is, Nat.reduceEqDiff, Nat.zero_ne_one, Nat.succ_ne_self, true_or, or_true, or_false, false_or, or_self, false_implies, true_implies, implies_true, true_and]
theorem iv_158_138_85 {x1 : Int32} : pm_WL fqP d 158 pc ((.invokevirtual 138, n) :: r) L (.int x1 :: .ref 85 :: S) (mk h) Q = (pm_okW 8 S = true ∧ pm_WC fqP d 104 [.ref 85, .int x1] (mk h) (pm_kk fqP d 158 (pc + n) r L S Q)) := by
  show _ = (pm_okW 8 S = true ∧ pm_WC fqP d 104 [.ref 85, .int x1] (mk h) (fun v σ' => pm_WL fqP d 158 (pc + n) r L (pm_pu v S) σ' Q))
  simp only [w_invv, lg_158, lm_8_138, pm_oM_s, pm_oP_s, pm_pop_0, pm_pop_s, pm_rcv_is, hg_85, pm_oO_s, pm_ref1_is, Nat.reduceEqDiff, Nat.zero_ne_one, Nat.succ_ne_self, true_or, or_true, or_false, false_or, or_self, false_implies, true_implies, implies_true, true_and]
theorem iv_158_171_85 : pm_WL fqP d 158 pc ((.invokevirtual 171, n) :: r) L (.ref 85 :: S) (mk h) Q = (pm_okW 8 S = true ∧ pm_WC fqP d 105 [.ref 85] (mk h) (pm_kk fqP d 158 (pc + n) r L S Q)) := by
  show _ = (pm_okW 8 S = true ∧ pm_WC fqP d 105 [.ref 85] (mk h) (fun v σ' => pm_WL fqP d 158 (pc + n) r L (pm_pu v S) σ' Q))
  simp only [w_invv, lg_158, lm_8_171, pm_oM_s, pm_oP_s, pm_pop_0, pm_pop_s, pm_rcv_is, hg_85, pm_oO_s, pm_ref1_is, Nat.reduceEqDiff, Nat.zero_ne_one, Nat.succ_ne_self, true_or, or_true, or_false, false_or, or_self, false_implies, true_implies, implies_true, true_and]
theorem gf_158_9_85 : pm_WL fqP d 158 pc ((.getfield 9, n) :: r) L (.ref 85 :: S) (mk h) Q = pm_WL fqP d 158 (pc + n) r L (.ref 86 :: S) (mk h) Q := by
  simp only [w_getf, lg_158, lf_8_9, pm_oF_s, hg_85, pm_oO_s, List.getElem?_cons_succ, List.getElem?_cons_zero, pm_oK_s, true_and]
theorem iv_158_205_85 : pm_WL fqP d 158 pc ((.invokevirtual 205, n) :: r) L (.ref 85 :: S) (mk h) Q = (pm_okW 8 S = true ∧ pm_WC fqP d 157 [.ref 85] (mk h) (pm_kk fqP d 158 (pc + n) r L S Q)) := by
  show _ = (pm_okW 8 S = true ∧ pm_WC fqP d 157 [.ref 85] (mk h) (fun v σ' => pm_WL fqP d 158 (pc + n) r L (pm_pu v S) σ' Q))
  simp only [w_invv, lg_158, lm_8_205, pm_oM_s, pm_oP_s, pm_pop_0, pm_pop_s, pm_rcv_is, hg_85, pm_oO_s, pm_ref1_is, Nat.reduceEqDiff, Nat.zero_ne_one, Nat.succ_ne_self, true_or, or_true, or_false, false_or, or_self, false_implies, true_implies, implies_true, true_and]
theorem iv_159_138_85 {x1 : Int32} : pm_WL fqP d 159 pc ((.invokevirtual 138, n) :: r) L (.int x1 :: .ref 85 :: S) (mk h) Q = (pm_okW 8 S = true ∧ pm_WC fqP d 104 [.ref 85, .int x1] (mk h) (pm_kk fqP d 159 (pc + n) r L S Q)) := by
  show _ = (pm_okW 8 S = true ∧ pm_WC fqP d 104 [.ref 85, .int x1] (mk h) (fun v σ' => pm_WL fqP d 159 (pc + n) r L (pm_pu v S) σ' Q))
  simp only [w_invv, lg_159, lm_8_138, pm_oM_s, pm_oP_s, pm_pop_0, pm_pop_s, pm_rcv_is, hg_85, pm_oO_s, pm_ref1_is, Nat.reduceEqDiff, Nat.zero_ne_one, Nat.succ_ne_self, true_or, or_true, or_false, false_or, or_self, false_implies, true_implies, implies_true, true_and]
theorem iv_159_41 {x0 : Int32} {x1 : Int32} {x2 : Int32} : pm_WL fqP d 159 pc ((.invokestatic 41, n) :: r) L (.int x2 :: .int x1 :: .int x0 :: S) σ Q = (pm_okW 8 S = true ∧ pm_WC fqP d 101 [.int x0, .int x1, .int x2] σ (pm_kk fqP d 159 (pc + n) r L S Q)) := by
  show _ = (pm_okW 8 S = true ∧ pm_WC fqP d 101 [.int x0, .int x1, .int x2] σ (fun v σ' => pm_WL fqP d 159 (pc + n) r L (pm_pu v S) σ' Q))
  simp only [w_invs, lg_159, lm_8_41, pm_oM_s, pm_oP_s, pm_pop_0, pm_pop_s, pm_ref1_is, Nat.reduceEqDiff, Nat.zero_ne_one, Nat.succ_ne_self, true_or, or_true, or_false, false_or, or_self, false_implies, true_implies, implies_true, true_and]
theorem gf_159_9_85 : pm_WL fqP d 159 pc ((.getfield 9, n) :: r) L (.ref 85 :: S) (mk h) Q = pm_WL fqP d 159 (pc + n) r L (.ref 86 :: S) (mk h) Q := by
  simp only [w_getf, lg_159, lf_8_9, pm_oF_s, hg_85, pm_oO_s, List.getElem?_cons_succ, List.getElem?_cons_zero, pm_oK_s, true_and]
theorem iv_159_171_85 : pm_WL fqP d 159 pc ((.invokevirtual 171, n) :: r) L (.ref 85 :: S) (mk h) Q = (pm_okW 8 S = true ∧ pm_WC fqP d 105 [.ref 85] (mk h) (pm_kk fqP d 159 (pc + n) r L S Q)) := by
  show _ = (pm_okW 8 S = true ∧ pm_WC fqP d 105 [.ref 85] (mk h) (fun v σ' => pm_WL fqP d 159 (pc + n) r L (pm_pu v S) σ' Q))
  simp only [w_invv, lg_159, lm_8_171, pm_oM_s, pm_oP_s, pm_pop_0, pm_pop_s, pm_rcv_is, hg_85, pm_oO_s, pm_ref1_is, Nat.reduceEqDiff, Nat.zero_ne_one, Nat.succ_ne_self, true_or, or_true, or_false, false_or, or_self, false_implies, true_implies, implies_true, true_and]
theorem iv_159_205_85 : pm_WL fqP d 159 pc ((.invokevirtual 205, n) :: r) L (.ref 85 :: S) (mk h) Q = (pm_okW 8 S = true ∧ pm_WC fqP d 157 [.ref 85] (mk h) (pm_kk fqP d 159 (pc + n) r L S Q)) := by
  show _ = (pm_okW 8 S = true ∧ pm_WC fqP d 157 [.ref 85] (mk h) (fun v σ' => pm_WL fqP d 159 (pc + n) r L (pm_pu v S) σ' Q))
  simp only [w_invv, lg_159, lm_8_205, pm_oM_s, pm_oP_s, pm_pop_0, pm_pop_s, pm_rcv_is, hg_85, pm_oO_s, pm_ref1_is, Nat.reduceEqDiff, Nat.zero_ne_one, Nat.succ_ne_self, true_or, or_true, or_false, false_or, or_self, false_implies, true_implies, implies_true, true_and]
theorem gf_162_9_85 : pm_WL fqP d 162 pc ((.getfield 9, n) :: r) L (.ref 85 :: S) (mk h) Q = pm_WL fqP d 162 (pc + n) r L (.ref 86 :: S) (mk h) Q := by
  simp only [w_getf, lg_162, lf_8_9, pm_oF_s, hg_85, pm_oO_s, List.getElem?_cons_succ, List.getElem?_cons_zero, pm_oK_s, true_and]
theorem iv_163_138_85 {x1 : Int32} : pm_WL fqP d 163 pc ((.invokevirtual 138, n) :: r) L (.int x1 :: .ref 85 :: S) (mk h) Q = (pm_okW 8 S = true ∧ pm_WC fqP d 104 [.ref 85, .int x1] (mk h) (pm_kk fqP d 163 (pc + n) r L S Q)) := by
  show _ = (pm_okW 8 S = true ∧ pm_WC fqP d 104 [.ref 85, .int x1] (mk h) (fun v σ' => pm_WL fqP d 163 (pc + n) r L (pm_pu v S) σ' Q))
  simp only [w_invv, lg_163, lm_8_138, pm_oM_s, pm_oP_s, pm_pop_0, pm_pop_s, pm_rcv_is, hg_85, pm_oO_s, pm_ref1_is, Nat.reduceEqDiff, Nat.zero_ne_one, Nat.succ_ne_self, true_or, or_true, or_false, false_or, or_self, false_implies, true_implies, implies_true, true_and]
theorem iv_163_41 {x0 : Int32} {x1 : Int32} {x2 : Int32} : pm_WL fqP d 163 pc ((.invokestatic 41, n) :: r) L (.int x2 :: .int x1 :: .int x0 :: S) σ Q = (pm_okW 8 S = true ∧ pm_WC fqP d 101 [.int x0, .int x1, .int x2] σ (pm_kk fqP d 163 (pc + n) r L S Q)) := by
  show _ = (pm_okW 8 S = true ∧ pm_WC fqP d 101 [.int x0, .int x1, .int x2] σ (fun v σ' => pm_WL fqP d 163 (pc + n) r L (pm_pu v S) σ' Q))
  simp only [w_invs, lg_163, lm_8_41, pm_oM_s, pm_oP_s, pm_pop_0, pm_pop_s, pm_ref1_is, Nat.reduceEqDiff, Nat.zero_ne_one, Nat.succ_ne_self, true_or, or_true, or_false, false_or, or_self, false_implies, true_implies, implies_true, true_and]
theorem iv_163_154_85 : pm_WL fqP d 163 pc ((.invokevirtual 154, n) :: r) L (.ref 85 :: S) (mk h) Q = (pm_okW 8 S = true ∧ pm_WC fqP d 126 [.ref 85] (mk h) (pm_kk fqP d 163 (pc + n) r L S Q)) := by
  show _ = (pm_okW 8 S = true ∧ pm_WC fqP d 126 [.ref 85] (mk h) (fun v σ' => pm_WL fqP d 163 (pc + n) r L (pm_pu v S) σ' Q))
  simp only [w_invv, lg_163, lm_8_154, pm_oM_s, pm_oP_s, pm_pop_0, pm_pop_s, pm_rcv_is, hg_85, pm_oO_s, pm_ref1_is, Nat.reduceEqDiff, Nat.zero_ne_one, Nat.succ_ne_self, true_or, or_true, or_false, false_or, or_self, false_implies, true_implies, implies_true, true_and]
theorem iv_163_157 {x0 : Int32} : pm_WL fqP d 163 pc ((.invokestatic 157, n) :: r) L (.int x0 :: S) σ Q = (pm_okW 8 S = true ∧ pm_WC fqP d 127 [.int x0] σ (pm_kk fqP d 163 (pc + n) r L S Q)) := by
  show _ = (pm_okW 8 S = true ∧ pm_WC fqP d 127 [.int x0] σ (fun v σ' => pm_WL fqP d 163 (pc + n) r L (pm_pu v S) σ' Q))
  simp only [w_invs, lg_163, lm_8_157, pm_oM_s, pm_oP_s, pm_pop_0, pm_pop_s, pm_ref1_is, Nat.reduceEqDiff, Nat.zero_ne_one, Nat.succ_ne_self, true_or, or_true, or_false, false_or, or_self, false_implies, true_implies, implies_true, true_and]
theorem iv_163_211_85 {x1 : Int32} : pm_WL fqP d 163 pc ((.invokevirtual 211, n) :: r) L (.int x1 :: .ref 85 :: S) (mk h) Q = (pm_okW 8 S = true ∧ pm_WC fqP d 162 [.ref 85, .int x1] (mk h) (pm_kk fqP d 163 (pc + n) r L S Q)) := by
  show _ = (pm_okW 8 S = true ∧ pm_WC fqP d 162 [.ref 85, .int x1] (mk h) (fun v σ' => pm_WL fqP d 163 (pc + n) r L (pm_pu v S) σ' Q))
  simp only [w_invv, lg_163, lm_8_211, pm_oM_s, pm_oP_s, pm_pop_0, pm_pop_s, pm_rcv_is, hg_85, pm_oO_s, pm_ref1_is, Nat.reduceEqDiff, Nat.zero_ne_one, Nat.succ_ne_self, true_or, or_true, or_false, false_or, or_self, false_implies, true_implies, implies_true, true_and]
theorem iv_163_214 {x0 : Int32} : pm_WL fqP d 163 pc ((.invokestatic 214, n) :: r) L (.int x0 :: S) σ Q = (pm_okW 8 S = true ∧ pm_WC fqP d 161 [.int x0] σ (pm_kk fqP d 163 (pc + n) r L S Q)) := by
  show _ = (pm_okW 8 S = true ∧ pm_WC fqP d 161 [.int x0] σ (fun v σ' => pm_WL fqP d 163 (pc + n) r L (pm_pu v S) σ' Q))
  simp only [w_invs, lg_163, lm_8_214, pm_oM_s, pm_oP_s, pm_pop_0, pm_pop_s, pm_ref1_is, Nat.reduceEqDiff, Nat.zero_ne_one, Nat.succ_ne_self, true_or, or_true, or_false, false_or, or_self, false_implies, true_implies, implies_true, true_and]
theorem iv_163_218 {x0 : Int64} {x1 : Int64} {x2 : Int32} : pm_WL fqP d 163 pc ((.invokestatic 218, n) :: r) L (.int x2 :: .long x1 :: .long x0 :: S) σ Q = (pm_okW 8 S = true ∧ pm_WC fqP d 160 [.long x0, .long x1, .int x2] σ (pm_kk fqP d 163 (pc + n) r L S Q)) := by
  show _ = (pm_okW 8 S = true ∧ pm_WC fqP d 160 [.long x0, .long x1, .int x2] σ (fun v σ' => pm_WL fqP d 163 (pc + n) r L (pm_pu v S) σ' Q))
  simp only [w_invs, lg_163, lm_8_218, pm_oM_s, pm_oP_s, pm_pop_0, pm_pop_s, pm_ref1_is, Nat.reduceEqDiff, Nat.zero_ne_one, Nat.succ_ne_self, true_or, or_true, or_false, false_or, or_self, false_implies, true_implies, implies_true, true_and]
theorem iv_164_142 {x0 : Int32} : pm_WL fqP d 164 pc ((.invokestatic 142, n) :: r) L (.int x0 :: S) σ Q = (pm_okW 8 S = true ∧ pm_WC fqP d 103 [.int x0] σ (pm_kk fqP d 164 (pc + n) r L S Q)) := by
  show _ = (pm_okW 8 S = true ∧ pm_WC fqP d 103 [.int x0] σ (fun v σ' => pm_WL fqP d 164 (pc + n) r L (pm_pu v S) σ' Q))
  simp only [w_invs, lg_164, lm_8_142, pm_oM_s, pm_oP_s, pm_pop_0, pm_pop_s, pm_ref1_is, Nat.reduceEqDiff, Nat.zero_ne_one, Nat.succ_ne_self, true_or, or_true, or_false, false_or, or_self, false_implies, true_implies, implies_true, true_and]
theorem iv_164_41 {x0 : Int32} {x1 : Int32} {x2 : Int32} : pm_WL fqP d 164 pc ((.invokestatic 41, n) :: r) L (.int x2 :: .int x1 :: .int x0 :: S) σ Q = (pm_okW 8 S = true ∧ pm_WC fqP d 101 [.int x0, .int x1, .int x2] σ (pm_kk fqP d 164 (pc + n) r L S Q)) := by
  show _ = (pm_okW 8 S = true ∧ pm_WC fqP d 101 [.int x0, .int x1, .int x2] σ (fun v σ' => pm_WL fqP d 164 (pc + n) r L (pm_pu v S) σ' Q))
  simp only [w_invs, lg_164, lm_8_41, pm_oM_s, pm_oP_s, pm_pop_0, pm_pop_s, pm_ref1_is, Nat.reduceEqDiff, Nat.zero_ne_one, Nat.succ_ne_self, true_or, or_true, or_false, false_or, or_self, false_implies, true_implies, implies_true, true_and]
theorem iv_164_199_85 {x1 : Int32} : pm_WL fqP d 164 pc ((.invokevirtual 199, n) :: r) L (.int x1 :: .ref 85 :: S) (mk h) Q = (pm_okW 8 S = true ∧ pm_WC fqP d 152 [.ref 85, .int x1] (mk h) (pm_kk fqP d 164 (pc + n) r L S Q)) := by
  show _ = (pm_okW 8 S = true ∧ pm_WC fqP d 152 [.ref 85, .int x1] (mk h) (fun v σ' => pm_WL fqP d 164 (pc + n) r L (pm_pu v S) σ' Q))
  simp only [w_invv, lg_164, lm_8_199, pm_oM_s, pm_oP_s, pm_pop_0, pm_pop_s, pm_rcv_is, hg_85, pm_oO_s, pm_ref1_is, Nat.reduceEqDiff, Nat.zero_ne_one, Nat.succ_ne_self, true_or, or_true, or_false, false_or, or_self, false_implies, true_implies, implies_true, true_and]
theorem iv_164_218 {x0 : Int64} {x1 : Int64} {x2 : Int32} : pm_WL fqP d 164 pc ((.invokestatic 218, n) :: r) L (.int x2 :: .long x1 :: .long x0 :: S) σ Q = (pm_okW 8 S = true ∧ pm_WC fqP d 160 [.long x0, .long x1, .int x2] σ (pm_kk fqP d 164 (pc + n) r L S Q)) := by
  show _ = (pm_okW 8 S = true ∧ pm_WC fqP d 160 [.long x0, .long x1, .int x2] σ (fun v σ' => pm_WL fqP d 164 (pc + n) r L (pm_pu v S) σ' Q))
  simp only [w_invs, lg_164, lm_8_218, pm_oM_s, pm_oP_s, pm_pop_0, pm_pop_s, pm_ref1_is, Nat.reduceEqDiff, Nat.zero_ne_one, Nat.succ_ne_self, true_or, or_true, or_false, false_or, or_self, false_implies, true_implies, implies_true, true_and]
theorem iv_165_154_85 : pm_WL fqP d 165 pc ((.invokevirtual 154, n) :: r) L (.ref 85 :: S) (mk h) Q = (pm_okW 8 S = true ∧ pm_WC fqP d 126 [.ref 85] (mk h) (pm_kk fqP d 165 (pc + n) r L S Q)) := by
  show _ = (pm_okW 8 S = true ∧ pm_WC fqP d 126 [.ref 85] (mk h) (fun v σ' => pm_WL fqP d 165 (pc + n) r L (pm_pu v S) σ' Q))
  simp only [w_invv, lg_165, lm_8_154, pm_oM_s, pm_oP_s, pm_pop_0, pm_pop_s, pm_rcv_is, hg_85, pm_oO_s, pm_ref1_is, Nat.reduceEqDiff, Nat.zero_ne_one, Nat.succ_ne_self, true_or, or_true, or_false, false_or, or_self, false_implies, true_implies, implies_true, true_and]
theorem iv_165_41 {x0 : Int32} {x1 : Int32} {x2 : Int32} : pm_WL fqP d 165 pc ((.invokestatic 41, n) :: r) L (.int x2 :: .int x1 :: .int x0 :: S) σ Q = (pm_okW 8 S = true ∧ pm_WC fqP d 101 [.int x0, .int x1, .int x2] σ (pm_kk fqP d 165 (pc + n) r L S Q)) := by
  show _ = (pm_okW 8 S = true ∧ pm_WC fqP d 101 [.int x0, .int x1, .int x2] σ (fun v σ' => pm_WL fqP d 165 (pc + n) r L (pm_pu v S) σ' Q))
  simp only [w_invs, lg_165, lm_8_41, pm_oM_s, pm_oP_s, pm_pop_0, pm_pop_s, pm_ref1_is, Nat.reduceEqDiff, Nat.zero_ne_one, Nat.succ_ne_self, true_or, or_true, or_false, false_or, or_self, false_implies, true_implies, implies_true, true_and]
theorem iv_165_211_85 {x1 : Int32} : pm_WL fqP d 165 pc ((.invokevirtual 211, n) :: r) L (.int x1 :: .ref 85 :: S) (mk h) Q = (pm_okW 8 S = true ∧ pm_WC fqP d 162 [.ref 85, .int x1] (mk h) (pm_kk fqP d 165 (pc + n) r L S Q)) := by
  show _ = (pm_okW 8 S = true ∧ pm_WC fqP d 162 [.ref 85, .int x1] (mk h) (fun v σ' => pm_WL fqP d 165 (pc + n) r L (pm_pu v S) σ' Q))
  simp only [w_invv, lg_165, lm_8_211, pm_oM_s, pm_oP_s, pm_pop_0, pm_pop_s, pm_rcv_is, hg_85, pm_oO_s, pm_ref1_is, Nat.reduceEqDiff, Nat.zero_ne_one, Nat.succ_ne_self, true_or, or_true, or_false, false_or, or_self, false_implies, true_implies, implies_true, true_and]
theorem iv_165_157 {x0 : Int32} : pm_WL fqP d 165 pc ((.invokestatic 157, n) :: r) L (.int x0 :: S) σ Q = (pm_okW 8 S = true ∧ pm_WC fqP d 127 [.int x0] σ (pm_kk fqP d 165 (pc + n) r L S Q)) := by
  show _ = (pm_okW 8 S = true ∧ pm_WC fqP d 127 [.int x0] σ (fun v σ' => pm_WL fqP d 165 (pc + n) r L (pm_pu v S) σ' Q))
  simp only [w_invs, lg_165, lm_8_157, pm_oM_s, pm_oP_s, pm_pop_0, pm_pop_s, pm_ref1_is, Nat.reduceEqDiff, Nat.zero_ne_one, Nat.succ_ne_self, true_or, or_true, or_false, false_or, or_self, false_implies, true_implies, implies_true, true_and]
theorem iv_165_218 {x0 : Int64} {x1 : Int64} {x2 : Int32} : pm_WL fqP d 165 pc ((.invokestatic 218, n) :: r) L (.int x2 :: .long x1 :: .long x0 :: S) σ Q = (pm_okW 8 S = true ∧ pm_WC fqP d 160 [.long x0, .long x1, .int x2] σ (pm_kk fqP d 165 (pc + n) r L S Q)) := by
  show _ = (pm_okW 8 S = true ∧ pm_WC fqP d 160 [.long x0, .long x1, .int x2] σ (fun v σ' => pm_WL fqP d 165 (pc + n) r L (pm_pu v S) σ' Q))
  simp only [w_invs, lg_165, lm_8_218, pm_oM_s, pm_oP_s, pm_pop_0, pm_pop_s, pm_ref1_is, Nat.reduceEqDiff, Nat.zero_ne_one, Nat.succ_ne_self, true_or, or_true, or_false, false_or, or_self, false_implies, true_implies, implies_true, true_and]
theorem gf_166_9_85 : pm_WL fqP d 166 pc ((.getfield 9, n) :: r) L (.ref 85 :: S) (mk h) Q = pm_WL fqP d 166 (pc + n) r L (.ref 86 :: S) (mk h) Q := by
  simp only [w_getf, lg_166, lf_8_9, pm_oF_s, hg_85, pm_oO_s, List.getElem?_cons_succ, List.getElem?_cons_zero, pm_oK_s, true_and]
theorem iv_166_41 {x0 : Int32} {x1 : Int32} {x2 : Int32} : pm_WL fqP d 166 pc ((.invokestatic 41, n) :: r) L (.int x2 :: .int x1 :: .int x0 :: S) σ Q = (pm_okW 8 S = true ∧ pm_WC fqP d 101 [.int x0, .int x1, .int x2] σ (pm_kk fqP d 166 (pc + n) r L S Q)) := by
  show _ = (pm_okW 8 S = true ∧ pm_WC fqP d 101 [.int x0, .int x1, .int x2] σ (fun v σ' => pm_WL fqP d 166 (pc + n) r L (pm_pu v S) σ' Q))
  simp only [w_invs, lg_166, lm_8_41, pm_oM_s, pm_oP_s, pm_pop_0, pm_pop_s, pm_ref1_is, Nat.reduceEqDiff, Nat.zero_ne_one, Nat.succ_ne_self, true_or, or_true, or_false, false_or, or_self, false_implies, true_implies, implies_true, true_and]
theorem iv_166_138_85 {x1 : Int32} : pm_WL fqP d 166 pc ((.invokevirtual 138, n) :: r) L (.int x1 :: .ref 85 :: S) (mk h) Q = (pm_okW 8 S = true ∧ pm_WC fqP d 104 [.ref 85, .int x1] (mk h) (pm_kk fqP d 166 (pc + n) r L S Q)) := by
  show _ = (pm_okW 8 S = true ∧ pm_WC fqP d 104 [.ref 85, .int x1] (mk h) (fun v σ' => pm_WL fqP d 166 (pc + n) r L (pm_pu v S) σ' Q))
  simp only [w_invv, lg_166, lm_8_138, pm_oM_s, pm_oP_s, pm_pop_0, pm_pop_s, pm_rcv_is, hg_85, pm_oO_s, pm_ref1_is, Nat.reduceEqDiff, Nat.zero_ne_one, Nat.succ_ne_self, true_or, or_true, or_false, false_or, or_self, false_implies, true_implies, implies_true, true_and]
theorem iv_166_142 {x0 : Int32} : pm_WL fqP d 166 pc ((.invokestatic 142, n) :: r) L (.int x0 :: S) σ Q = (pm_okW 8 S = true ∧ pm_WC fqP d 103 [.int x0] σ (pm_kk fqP d 166 (pc + n) r L S Q)) := by
  show _ = (pm_okW 8 S = true ∧ pm_WC fqP d 103 [.int x0] σ (fun v σ' => pm_WL fqP d 166 (pc + n) r L (pm_pu v S) σ' Q))
  simp only [w_invs, lg_166, lm_8_142, pm_oM_s, pm_oP_s, pm_pop_0, pm_pop_s, pm_ref1_is, Nat.reduceEqDiff, Nat.zero_ne_one, Nat.succ_ne_self, true_or, or_true, or_false, false_or, or_self, false_implies, true_implies, implies_true, true_and]
theorem iv_167_165_85 : pm_WL fqP d 167 pc ((.invokevirtual 165, n) :: r) L (.ref 85 :: S) (mk h) Q = (pm_okW 8 S = true ∧ pm_WC fqP d 140 [.ref 85] (mk h) (pm_kk fqP d 167 (pc + n) r L S Q)) := by
  show _ = (pm_okW 8 S = true ∧ pm_WC fqP d 140 [.ref 85] (mk h) (fun v σ' => pm_WL fqP d 167 (pc + n) r L (pm_pu v S) σ' Q))
  simp only [w_invv, lg_167, lm_8_165, pm_oM_s, pm_oP_s, pm_pop_0, pm_pop_s, pm_rcv_is, hg_85, pm_oO_s, pm_ref1_is, Nat.reduceEqDiff, Nat.zero_ne_one, Nat.succ_ne_self, true_or, or_true, or_false, false_or, or_self, false_implies, true_implies, implies_true, true_and]
theorem gf_167_9_85 : pm_WL fqP d 167 pc ((.getfield 9, n) :: r) L (.ref 85 :: S) (mk h) Q = pm_WL fqP d 167 (pc + n) r L (.ref 86 :: S) (mk h) Q := by
  simp only [w_getf, lg_167, lf_8_9, pm_oF_s, hg_85, pm_oO_s, List.getElem?_cons_succ, List.getElem?_cons_zero, pm_oK_s, true_and]
theorem iv_168_41 {x0 : Int32} {x1 : Int32} {x2 : Int32} : pm_WL fqP d 168 pc ((.invokestatic 41, n) :: r) L (.int x2 :: .int x1 :: .int x0 :: S) σ Q = (pm_okW 8 S = true ∧ pm_WC fqP d 101 [.int x0, .int x1, .int x2] σ (pm_kk fqP d 168 (pc + n) r L S Q)) := by
  show _ = (pm_okW 8 S = true ∧ pm_WC fqP d 101 [.int x0, .int x1, .int x2] σ (fun v σ' => pm_WL fqP d 168 (pc + n) r L (pm_pu v S) σ' Q))
  simp only [w_invs, lg_168, lm_8_41, pm_oM_s, pm_oP_s, pm_pop_0, pm_pop_s, pm_ref1_is, Nat.reduceEqDiff, Nat.zero_ne_one, Nat.succ_ne_self, true_or, or_true, or_false, false_or, or_self, false_implies, true_implies, implies_true, true_and]
theorem iv_168_171_85 : pm_WL fqP d 168 pc ((.invokevirtual 171, n) :: r) L (.ref 85 :: S) (mk h) Q = (pm_okW 8 S = true ∧ pm_WC fqP d 105 [.ref 85] (mk h) (pm_kk fqP d 168 (pc + n) r L S Q)) := by
  show _ = (pm_okW 8 S = true ∧ pm_WC fqP d 105 [.ref 85] (mk h) (fun v σ' => pm_WL fqP d 168 (pc + n) r L (pm_pu v S) σ' Q))
  simp only [w_invv, lg_168, lm_8_171, pm_oM_s, pm_oP_s, pm_pop_0, pm_pop_s, pm_rcv_is, hg_85, pm_oO_s, pm_ref1_is, Nat.reduceEqDiff, Nat.zero_ne_one, Nat.succ_ne_self, true_or, or_true, or_false, false_or, or_self, false_implies, true_implies, implies_true, true_and]
theorem gf_168_9_85 : pm_WL fqP d 168 pc ((.getfield 9, n) :: r) L (.ref 85 :: S) (mk h) Q = pm_WL fqP d 168 (pc + n) r L (.ref 86 :: S) (mk h) Q := by
  simp only [w_getf, lg_168, lf_8_9, pm_oF_s, hg_85, pm_oO_s, List.getElem?_cons_succ, List.getElem?_cons_zero, pm_oK_s, true_and]
theorem iv_168_224_85 {x1 : Int32} {x2 : Int32} : pm_WL fqP d 168 pc ((.invokevirtual 224, n) :: r) L (.int x2 :: .int x1 :: .ref 85 :: S) (mk h) Q = (pm_okW 8 S = true ∧ pm_WC fqP d 167 [.ref 85, .int x1, .int x2] (mk h) (pm_kk fqP d 168 (pc + n) r L S Q)) := by
  show _ = (pm_okW 8 S = true ∧ pm_WC fqP d 167 [.ref 85, .int x1, .int x2] (mk h) (fun v σ' => pm_WL fqP d 168 (pc + n) r L (pm_pu v S) σ' Q))
  simp only [w_invv, lg_168, lm_8_224, pm_oM_s, pm_oP_s, pm_pop_0, pm_pop_s, pm_rcv_is, hg_85, pm_oO_s, pm_ref1_is, Nat.reduceEqDiff, Nat.zero_ne_one, Nat.succ_ne_self, true_or, or_true, or_false, false_or, or_self, false_implies, true_implies, implies_true, true_and]
theorem iv_168_174_85 : pm_WL fqP d 168 pc ((.invokevirtual 174, n) :: r) L (.ref 85 :: S) (mk h) Q = (pm_okW 8 S = true ∧ pm_WC fqP d 128 [.ref 85] (mk h) (pm_kk fqP d 168 (pc + n) r L S Q)) := by
  show _ = (pm_okW 8 S = true ∧ pm_WC fqP d 128 [.ref 85] (mk h) (fun v σ' => pm_WL fqP d 168 (pc + n) r L (pm_pu v S) σ' Q))
  simp only [w_invv, lg_168, lm_8_174, pm_oM_s, pm_oP_s, pm_pop_0, pm_pop_s, pm_rcv_is, hg_85, pm_oO_s, pm_ref1_is, Nat.reduceEqDiff, Nat.zero_ne_one, Nat.succ_ne_self, true_or, or_true, or_false, false_or, or_self, false_implies, true_implies, implies_true, true_and]
theorem iv_168_154_85 : pm_WL fqP d 168 pc ((.invokevirtual 154, n) :: r) L (.ref 85 :: S) (mk h) Q = (pm_okW 8 S = true ∧ pm_WC fqP d 126 [.ref 85] (mk h) (pm_kk fqP d 168 (pc + n) r L S Q)) := by
  show _ = (pm_okW 8 S = true ∧ pm_WC fqP d 126 [.ref 85] (mk h) (fun v σ' => pm_WL fqP d 168 (pc + n) r L (pm_pu v S) σ' Q))
  simp only [w_invv, lg_168, lm_8_154, pm_oM_s, pm_oP_s, pm_pop_0, pm_pop_s, pm_rcv_is, hg_85, pm_oO_s, pm_ref1_is, Nat.reduceEqDiff, Nat.zero_ne_one, Nat.succ_ne_self, true_or, or_true, or_false, false_or, or_self, false_implies, true_implies, implies_true, true_and]
theorem iv_168_177_85 : pm_WL fqP d 168 pc ((.invokevirtual 177, n) :: r) L (.ref 85 :: S) (mk h) Q = (pm_okW 8 S = true ∧ pm_WC fqP d 106 [.ref 85] (mk h) (pm_kk fqP d 168 (pc + n) r L S Q)) := by
  show _ = (pm_okW 8 S = true ∧ pm_WC fqP d 106 [.ref 85] (mk h) (fun v σ' => pm_WL fqP d 168 (pc + n) r L (pm_pu v S) σ' Q))
  simp only [w_invv, lg_168, lm_8_177, pm_oM_s, pm_oP_s, pm_pop_0, pm_pop_s, pm_rcv_is, hg_85, pm_oO_s, pm_ref1_is, Nat.reduceEqDiff, Nat.zero_ne_one, Nat.succ_ne_self, true_or, or_true, or_false, false_or, or_self, false_implies, true_implies, implies_true, true_and]
theorem gf_169_9_85 : pm_WL fqP d 169 pc ((.getfield 9, n) :: r) L (.ref 85 :: S) (mk h) Q = pm_WL fqP d 169 (pc + n) r L (.ref 86 :: S) (mk h) Q := by
  simp only [w_getf, lg_169, lf_8_9, pm_oF_s, hg_85, pm_oO_s, List.getElem?_cons_succ, List.getElem?_cons_zero, pm_oK_s, true_and]
theorem iv_169_138_85 {x1 : Int32} : pm_WL fqP d 169 pc ((.invokevirtual 138, n) :: r) L (.int x1 :: .ref 85 :: S) (mk h) Q = (pm_okW 8 S = true ∧ pm_WC fqP d 104 [.ref 85, .int x1] (mk h) (pm_kk fqP d 169 (pc + n) r L S Q)) := by
  show _ = (pm_okW 8 S = true ∧ pm_WC fqP d 104 [.ref 85, .int x1] (mk h) (fun v σ' => pm_WL fqP d 169 (pc + n) r L (pm_pu v S) σ' Q))
  simp only [w_invv, lg_169, lm_8_138, pm_oM_s, pm_oP_s, pm_pop_0, pm_pop_s, pm_rcv_is, hg_85, pm_oO_s, pm_ref1_is, Nat.reduceEqDiff, Nat.zero_ne_one, Nat.succ_ne_self, true_or, or_true, or_false, false_or, or_self, false_implies, true_implies, implies_true, true_and]
theorem iv_169_135 {x0 : Int32} : pm_WL fqP d 169 pc ((.invokestatic 135, n) :: r) L (.int x0 :: S) σ Q = (pm_okW 8 S = true ∧ pm_WC fqP d 102 [.int x0] σ (pm_kk fqP d 169 (pc + n) r L S Q)) := by
  show _ = (pm_okW 8 S = true ∧ pm_WC fqP d 102 [.int x0] σ (fun v σ' => pm_WL fqP d 169 (pc + n) r L (pm_pu v S) σ' Q))
  simp only [w_invs, lg_169, lm_8_135, pm_oM_s, pm_oP_s, pm_pop_0, pm_pop_s, pm_ref1_is, Nat.reduceEqDiff, Nat.zero_ne_one, Nat.succ_ne_self, true_or, or_true, or_false, false_or, or_self, false_implies, true_implies, implies_true, true_and]
theorem gf_170_9_85 : pm_WL fqP d 170 pc ((.getfield 9, n) :: r) L (.ref 85 :: S) (mk h) Q = pm_WL fqP d 170 (pc + n) r L (.ref 86 :: S) (mk h) Q := by
  simp only [w_getf, lg_170, lf_8_9, pm_oF_s, hg_85, pm_oO_s, List.getElem?_cons_succ, List.getElem?_cons_zero, pm_oK_s, true_and]
theorem gf_171_227_85 : pm_WL fqP d 171 pc ((.getfield 227, n) :: r) L (.ref 85 :: S) (mk h) Q = pm_WL fqP d 171 (pc + n) r L (.int (gd (h 85) 8) :: S) (mk h) Q := by
  simp only [w_getf, lg_171, lf_8_227, pm_oF_s, hg_85, pm_oO_s, List.getElem?_cons_succ, List.getElem?_cons_zero, pm_oK_s, true_and]
theorem gf_171_34_85 : pm_WL fqP d 171 pc ((.getfield 34, n) :: r) L (.ref 85 :: S) (mk h) Q = pm_WL fqP d 171 (pc + n) r L (.ref 93 :: S) (mk h) Q := by
  simp only [w_getf, lg_171, lf_8_34, pm_oF_s, hg_85, pm_oO_s, List.getElem?_cons_succ, List.getElem?_cons_zero, pm_oK_s, true_and]
theorem pf_171_227_85 {x : Int32} : pm_WL fqP d 171 pc ((.putfield 227, n) :: r) L (.int x :: .ref 85 :: S) (mk h) Q = pm_WL fqP d 171 (pc + n) r L S (mk (up h 85 [gd (h 85) 0, gd (h 85) 1, gd (h 85) 2, gd (h 85) 3, gd (h 85) 4, gd (h 85) 5, gd (h 85) 6, gd (h 85) 7, x, gd (h 85) 9, gd (h 85) 10, gd (h 85) 11])) Q := by
  simp only [w_putf, lg_171, lf_8_227, lt_8_16, pm_oF_s, hg_85, pm_oO_s, List.set_cons_succ, List.set_cons_zero, List.length_cons, List.length_nil, pm_fit_i, Nat.reduceAdd, Nat.reduceLT, Nat.zero_add, Nat.lt_add_one, Bool.false_eq_true, false_implies, true_and, and_true, hs_85]
theorem iv_173_230_85 {x1 : Int32} : pm_WL fqP d 173 pc ((.invokevirtual 230, n) :: r) L (.int x1 :: .ref 85 :: S) (mk h) Q = (pm_okW 8 S = true ∧ pm_WC fqP d 171 [.ref 85, .int x1] (mk h) (pm_kk fqP d 173 (pc + n) r L S Q)) := by
  show _ = (pm_okW 8 S = true ∧ pm_WC fqP d 171 [.ref 85, .int x1] (mk h) (fun v σ' => pm_WL fqP d 173 (pc + n) r L (pm_pu v S) σ' Q))
  simp only [w_invv, lg_173, lm_8_230, pm_oM_s, pm_oP_s, pm_pop_0, pm_pop_s, pm_rcv_is, hg_85, pm_oO_s, pm_ref1_is, Nat.reduceEqDiff, Nat.zero_ne_one, Nat.succ_ne_self, true_or, or_true, or_false, false_or, or_self, false_implies, true_implies, implies_true, true_and]
theorem gf_173_233_85 : pm_WL fqP d 173 pc ((.getfield 233, n) :: r) L (.ref 85 :: S) (mk h) Q = pm_WL fqP d 173 (pc + n) r L (.int (gd (h 85) 10) :: S) (mk h) Q := by
  simp only [w_getf, lg_173, lf_8_233, pm_oF_s, hg_85, pm_oO_s, List.getElem?_cons_succ, List.getElem?_cons_zero, pm_oK_s, true_and]
theorem gf_174_236_85 : pm_WL fqP d 174 pc ((.getfield 236, n) :: r) L (.ref 85 :: S) (mk h) Q = pm_WL fqP d 174 (pc + n) r L (.int (gd (h 85) 9) :: S) (mk h) Q := by
  simp only [w_getf, lg_174, lf_8_236, pm_oF_s, hg_85, pm_oO_s, List.getElem?_cons_succ, List.getElem?_cons_zero, pm_oK_s, true_and]
theorem iv_174_239 {x0 : Int32} {x1 : Int32} : pm_WL fqP d 174 pc ((.invokestatic 239, n) :: r) L (.int x1 :: .int x0 :: S) σ Q = (pm_okW 8 S = true ∧ pm_WC fqP d 172 [.int x0, .int x1] σ (pm_kk fqP d 174 (pc + n) r L S Q)) := by
  show _ = (pm_okW 8 S = true ∧ pm_WC fqP d 172 [.int x0, .int x1] σ (fun v σ' => pm_WL fqP d 174 (pc + n) r L (pm_pu v S) σ' Q))
  simp only [w_invs, lg_174, lm_8_239, pm_oM_s, pm_oP_s, pm_pop_0, pm_pop_s, pm_ref1_is, Nat.reduceEqDiff, Nat.zero_ne_one, Nat.succ_ne_self, true_or, or_true, or_false, false_or, or_self, false_implies, true_implies, implies_true, true_and]
theorem iv_174_230_85 {x1 : Int32} : pm_WL fqP d 174 pc ((.invokevirtual 230, n) :: r) L (.int x1 :: .ref 85 :: S) (mk h) Q = (pm_okW 8 S = true ∧ pm_WC fqP d 171 [.ref 85, .int x1] (mk h) (pm_kk fqP d 174 (pc + n) r L S Q)) := by
  show _ = (pm_okW 8 S = true ∧ pm_WC fqP d 171 [.ref 85, .int x1] (mk h) (fun v σ' => pm_WL fqP d 174 (pc + n) r L (pm_pu v S) σ' Q))
  simp only [w_invv, lg_174, lm_8_230, pm_oM_s, pm_oP_s, pm_pop_0, pm_pop_s, pm_rcv_is, hg_85, pm_oO_s, pm_ref1_is, Nat.reduceEqDiff, Nat.zero_ne_one, Nat.succ_ne_self, true_or, or_true, or_false, false_or, or_self, false_implies, true_implies, implies_true, true_and]
theorem iv_174_243_85 {x1 : Int32} : pm_WL fqP d 174 pc ((.invokevirtual 243, n) :: r) L (.int x1 :: .ref 85 :: S) (mk h) Q = (pm_okW 8 S = true ∧ pm_WC fqP d 173 [.ref 85, .int x1] (mk h) (pm_kk fqP d 174 (pc + n) r L S Q)) := by
  show _ = (pm_okW 8 S = true ∧ pm_WC fqP d 173 [.ref 85, .int x1] (mk h) (fun v σ' => pm_WL fqP d 174 (pc + n) r L (pm_pu v S) σ' Q))
  simp only [w_invv, lg_174, lm_8_243, pm_oM_s, pm_oP_s, pm_pop_0, pm_pop_s, pm_rcv_is, hg_85, pm_oO_s, pm_ref1_is, Nat.reduceEqDiff, Nat.zero_ne_one, Nat.succ_ne_self, true_or, or_true, or_false, false_or, or_self, false_implies, true_implies, implies_true, true_and]
theorem gf_174_233_85 : pm_WL fqP d 174 pc ((.getfield 233, n) :: r) L (.ref 85 :: S) (mk h) Q = pm_WL fqP d 174 (pc + n) r L (.int (gd (h 85) 10) :: S) (mk h) Q := by
  simp only [w_getf, lg_174, lf_8_233, pm_oF_s, hg_85, pm_oO_s, List.getElem?_cons_succ, List.getElem?_cons_zero, pm_oK_s, true_and]
theorem iv_175_230_85 {x1 : Int32} : pm_WL fqP d 175 pc ((.invokevirtual 230, n) :: r) L (.int x1 :: .ref 85 :: S) (mk h) Q = (pm_okW 8 S = true ∧ pm_WC fqP d 171 [.ref 85, .int x1] (mk h) (pm_kk fqP d 175 (pc + n) r L S Q)) := by
  show _ = (pm_okW 8 S = true ∧ pm_WC fqP d 171 [.ref 85, .int x1] (mk h) (fun v σ' => pm_WL fqP d 175 (pc + n) r L (pm_pu v S) σ' Q))
  simp only [w_invv, lg_175, lm_8_230, pm_oM_s, pm_oP_s, pm_pop_0, pm_pop_s, pm_rcv_is, hg_85, pm_oO_s, pm_ref1_is, Nat.reduceEqDiff, Nat.zero_ne_one, Nat.succ_ne_self, true_or, or_true, or_false, false_or, or_self, false_implies, true_implies, implies_true, true_and]
theorem iv_175_246_85 {x1 : Int32} : pm_WL fqP d 175 pc ((.invokevirtual 246, n) :: r) L (.int x1 :: .ref 85 :: S) (mk h) Q = (pm_okW 8 S = true ∧ pm_WC fqP d 174 [.ref 85, .int x1] (mk h) (pm_kk fqP d 175 (pc + n) r L S Q)) := by
  show _ = (pm_okW 8 S = true ∧ pm_WC fqP d 174 [.ref 85, .int x1] (mk h) (fun v σ' => pm_WL fqP d 175 (pc + n) r L (pm_pu v S) σ' Q))
  simp only [w_invv, lg_175, lm_8_246, pm_oM_s, pm_oP_s, pm_pop_0, pm_pop_s, pm_rcv_is, hg_85, pm_oO_s, pm_ref1_is, Nat.reduceEqDiff, Nat.zero_ne_one, Nat.succ_ne_self, true_or, or_true, or_false, false_or, or_self, false_implies, true_implies, implies_true, true_and]
theorem gf_175_249_85 : pm_WL fqP d 175 pc ((.getfield 249, n) :: r) L (.ref 85 :: S) (mk h) Q = pm_WL fqP d 175 (pc + n) r L (.int (gd (h 85) 11) :: S) (mk h) Q := by
  simp only [w_getf, lg_175, lf_8_249, pm_oF_s, hg_85, pm_oO_s, List.getElem?_cons_succ, List.getElem?_cons_zero, pm_oK_s, true_and]
theorem gf_176_236_85 : pm_WL fqP d 176 pc ((.getfield 236, n) :: r) L (.ref 85 :: S) (mk h) Q = pm_WL fqP d 176 (pc + n) r L (.int (gd (h 85) 9) :: S) (mk h) Q := by
  simp only [w_getf, lg_176, lf_8_236, pm_oF_s, hg_85, pm_oO_s, List.getElem?_cons_succ, List.getElem?_cons_zero, pm_oK_s, true_and]
theorem iv_176_239 {x0 : Int32} {x1 : Int32} : pm_WL fqP d 176 pc ((.invokestatic 239, n) :: r) L (.int x1 :: .int x0 :: S) σ Q = (pm_okW 8 S = true ∧ pm_WC fqP d 172 [.int x0, .int x1] σ (pm_kk fqP d 176 (pc + n) r L S Q)) := by
  show _ = (pm_okW 8 S = true ∧ pm_WC fqP d 172 [.int x0, .int x1] σ (fun v σ' => pm_WL fqP d 176 (pc + n) r L (pm_pu v S) σ' Q))
  simp only [w_invs, lg_176, lm_8_239, pm_oM_s, pm_oP_s, pm_pop_0, pm_pop_s, pm_ref1_is, Nat.reduceEqDiff, Nat.zero_ne_one, Nat.succ_ne_self, true_or, or_true, or_false, false_or, or_self, false_implies, true_implies, implies_true, true_and]
theorem iv_176_230_85 {x1 : Int32} : pm_WL fqP d 176 pc ((.invokevirtual 230, n) :: r) L (.int x1 :: .ref 85 :: S) (mk h) Q = (pm_okW 8 S = true ∧ pm_WC fqP d 171 [.ref 85, .int x1] (mk h) (pm_kk fqP d 176 (pc + n) r L S Q)) := by
  show _ = (pm_okW 8 S = true ∧ pm_WC fqP d 171 [.ref 85, .int x1] (mk h) (fun v σ' => pm_WL fqP d 176 (pc + n) r L (pm_pu v S) σ' Q))
  simp only [w_invv, lg_176, lm_8_230, pm_oM_s, pm_oP_s, pm_pop_0, pm_pop_s, pm_rcv_is, hg_85, pm_oO_s, pm_ref1_is, Nat.reduceEqDiff, Nat.zero_ne_one, Nat.succ_ne_self, true_or, or_true, or_false, false_or, or_self, false_implies, true_implies, implies_true, true_and]
theorem iv_176_252_85 {x1 : Int32} : pm_WL fqP d 176 pc ((.invokevirtual 252, n) :: r) L (.int x1 :: .ref 85 :: S) (mk h) Q = (pm_okW 8 S = true ∧ pm_WC fqP d 175 [.ref 85, .int x1] (mk h) (pm_kk fqP d 176 (pc + n) r L S Q)) := by
  show _ = (pm_okW 8 S = true ∧ pm_WC fqP d 175 [.ref 85, .int x1] (mk h) (fun v σ' => pm_WL fqP d 176 (pc + n) r L (pm_pu v S) σ' Q))
  simp only [w_invv, lg_176, lm_8_252, pm_oM_s, pm_oP_s, pm_pop_0, pm_pop_s, pm_rcv_is, hg_85, pm_oO_s, pm_ref1_is, Nat.reduceEqDiff, Nat.zero_ne_one, Nat.succ_ne_self, true_or, or_true, or_false, false_or, or_self, false_implies, true_implies, implies_true, true_and]
theorem gf_176_249_85 : pm_WL fqP d 176 pc ((.getfield 249, n) :: r) L (.ref 85 :: S) (mk h) Q = pm_WL fqP d 176 (pc + n) r L (.int (gd (h 85) 11) :: S) (mk h) Q := by
  simp only [w_getf, lg_176, lf_8_249, pm_oF_s, hg_85, pm_oO_s, List.getElem?_cons_succ, List.getElem?_cons_zero, pm_oK_s, true_and]
theorem iv_177_230_85 {x1 : Int32} : pm_WL fqP d 177 pc ((.invokevirtual 230, n) :: r) L (.int x1 :: .ref 85 :: S) (mk h) Q = (pm_okW 8 S = true ∧ pm_WC fqP d 171 [.ref 85, .int x1] (mk h) (pm_kk fqP d 177 (pc + n) r L S Q)) := by
  show _ = (pm_okW 8 S = true ∧ pm_WC fqP d 171 [.ref 85, .int x1] (mk h) (fun v σ' => pm_WL fqP d 177 (pc + n) r L (pm_pu v S) σ' Q))
  simp only [w_invv, lg_177, lm_8_230, pm_oM_s, pm_oP_s, pm_pop_0, pm_pop_s, pm_rcv_is, hg_85, pm_oO_s, pm_ref1_is, Nat.reduceEqDiff, Nat.zero_ne_one, Nat.succ_ne_self, true_or, or_true, or_false, false_or, or_self, false_implies, true_implies, implies_true, true_and]
theorem iv_177_255_85 {x1 : Int32} : pm_WL fqP d 177 pc ((.invokevirtual 255, n) :: r) L (.int x1 :: .ref 85 :: S) (mk h) Q = (pm_okW 8 S = true ∧ pm_WC fqP d 176 [.ref 85, .int x1] (mk h) (pm_kk fqP d 177 (pc + n) r L S Q)) := by
  show _ = (pm_okW 8 S = true ∧ pm_WC fqP d 176 [.ref 85, .int x1] (mk h) (fun v σ' => pm_WL fqP d 177 (pc + n) r L (pm_pu v S) σ' Q))
  simp only [w_invv, lg_177, lm_8_255, pm_oM_s, pm_oP_s, pm_pop_0, pm_pop_s, pm_rcv_is, hg_85, pm_oO_s, pm_ref1_is, Nat.reduceEqDiff, Nat.zero_ne_one, Nat.succ_ne_self, true_or, or_true, or_false, false_or, or_self, false_implies, true_implies, implies_true, true_and]
theorem gf_178_236_85 : pm_WL fqP d 178 pc ((.getfield 236, n) :: r) L (.ref 85 :: S) (mk h) Q = pm_WL fqP d 178 (pc + n) r L (.int (gd (h 85) 9) :: S) (mk h) Q := by
  simp only [w_getf, lg_178, lf_8_236, pm_oF_s, hg_85, pm_oO_s, List.getElem?_cons_succ, List.getElem?_cons_zero, pm_oK_s, true_and]
theorem iv_178_239 {x0 : Int32} {x1 : Int32} : pm_WL fqP d 178 pc ((.invokestatic 239, n) :: r) L (.int x1 :: .int x0 :: S) σ Q = (pm_okW 8 S = true ∧ pm_WC fqP d 172 [.int x0, .int x1] σ (pm_kk fqP d 178 (pc + n) r L S Q)) := by
  show _ = (pm_okW 8 S = true ∧ pm_WC fqP d 172 [.int x0, .int x1] σ (fun v σ' => pm_WL fqP d 178 (pc + n) r L (pm_pu v S) σ' Q))
  simp only [w_invs, lg_178, lm_8_239, pm_oM_s, pm_oP_s, pm_pop_0, pm_pop_s, pm_ref1_is, Nat.reduceEqDiff, Nat.zero_ne_one, Nat.succ_ne_self, true_or, or_true, or_false, false_or, or_self, false_implies, true_implies, implies_true, true_and]
theorem iv_178_230_85 {x1 : Int32} : pm_WL fqP d 178 pc ((.invokevirtual 230, n) :: r) L (.int x1 :: .ref 85 :: S) (mk h) Q = (pm_okW 8 S = true ∧ pm_WC fqP d 171 [.ref 85, .int x1] (mk h) (pm_kk fqP d 178 (pc + n) r L S Q)) := by
  show _ = (pm_okW 8 S = true ∧ pm_WC fqP d 171 [.ref 85, .int x1] (mk h) (fun v σ' => pm_WL fqP d 178 (pc + n) r L (pm_pu v S) σ' Q))
  simp only [w_invv, lg_178, lm_8_230, pm_oM_s, pm_oP_s, pm_pop_0, pm_pop_s, pm_rcv_is, hg_85, pm_oO_s, pm_ref1_is, Nat.reduceEqDiff, Nat.zero_ne_one, Nat.succ_ne_self, true_or, or_true, or_false, false_or, or_self, false_implies, true_implies, implies_true, true_and]
theorem iv_178_258_85 {x1 : Int32} : pm_WL fqP d 178 pc ((.invokevirtual 258, n) :: r) L (.int x1 :: .ref 85 :: S) (mk h) Q = (pm_okW 8 S = true ∧ pm_WC fqP d 177 [.ref 85, .int x1] (mk h) (pm_kk fqP d 178 (pc + n) r L S Q)) := by
  show _ = (pm_okW 8 S = true ∧ pm_WC fqP d 177 [.ref 85, .int x1] (mk h) (fun v σ' => pm_WL fqP d 178 (pc + n) r L (pm_pu v S) σ' Q))
  simp only [w_invv, lg_178, lm_8_258, pm_oM_s, pm_oP_s, pm_pop_0, pm_pop_s, pm_rcv_is, hg_85, pm_oO_s, pm_ref1_is, Nat.reduceEqDiff, Nat.zero_ne_one, Nat.succ_ne_self, true_or, or_true, or_false, false_or, or_self, false_implies, true_implies, implies_true, true_and]
theorem iv_178_246_85 {x1 : Int32} : pm_WL fqP d 178 pc ((.invokevirtual 246, n) :: r) L (.int x1 :: .ref 85 :: S) (mk h) Q = (pm_okW 8 S = true ∧ pm_WC fqP d 174 [.ref 85, .int x1] (mk h) (pm_kk fqP d 178 (pc + n) r L S Q)) := by
  show _ = (pm_okW 8 S = true ∧ pm_WC fqP d 174 [.ref 85, .int x1] (mk h) (fun v σ' => pm_WL fqP d 178 (pc + n) r L (pm_pu v S) σ' Q))
  simp only [w_invv, lg_178, lm_8_246, pm_oM_s, pm_oP_s, pm_pop_0, pm_pop_s, pm_rcv_is, hg_85, pm_oO_s, pm_ref1_is, Nat.reduceEqDiff, Nat.zero_ne_one, Nat.succ_ne_self, true_or, or_true, or_false, false_or, or_self, false_implies, true_implies, implies_true, true_and]
theorem pf_179_227_85 {x : Int32} : pm_WL fqP d 179 pc ((.putfield 227, n) :: r) L (.int x :: .ref 85 :: S) (mk h) Q = pm_WL fqP d 179 (pc + n) r L S (mk (up h 85 [gd (h 85) 0, gd (h 85) 1, gd (h 85) 2, gd (h 85) 3, gd (h 85) 4, gd (h 85) 5, gd (h 85) 6, gd (h 85) 7, x, gd (h 85) 9, gd (h 85) 10, gd (h 85) 11])) Q := by
  simp only [w_putf, lg_179, lf_8_227, lt_8_16, pm_oF_s, hg_85, pm_oO_s, List.set_cons_succ, List.set_cons_zero, List.length_cons, List.length_nil, pm_fit_i, Nat.reduceAdd, Nat.reduceLT, Nat.zero_add, Nat.lt_add_one, Bool.false_eq_true, false_implies, true_and, and_true, hs_85]
theorem iv_179_138_85 {x1 : Int32} : pm_WL fqP d 179 pc ((.invokevirtual 138, n) :: r) L (.int x1 :: .ref 85 :: S) (mk h) Q = (pm_okW 8 S = true ∧ pm_WC fqP d 104 [.ref 85, .int x1] (mk h) (pm_kk fqP d 179 (pc + n) r L S Q)) := by
  show _ = (pm_okW 8 S = true ∧ pm_WC fqP d 104 [.ref 85, .int x1] (mk h) (fun v σ' => pm_WL fqP d 179 (pc + n) r L (pm_pu v S) σ' Q))
  simp only [w_invv, lg_179, lm_8_138, pm_oM_s, pm_oP_s, pm_pop_0, pm_pop_s, pm_rcv_is, hg_85, pm_oO_s, pm_ref1_is, Nat.reduceEqDiff, Nat.zero_ne_one, Nat.succ_ne_self, true_or, or_true, or_false, false_or, or_self, false_implies, true_implies, implies_true, true_and]
theorem iv_179_41 {x0 : Int32} {x1 : Int32} {x2 : Int32} : pm_WL fqP d 179 pc ((.invokestatic 41, n) :: r) L (.int x2 :: .int x1 :: .int x0 :: S) σ Q = (pm_okW 8 S = true ∧ pm_WC fqP d 101 [.int x0, .int x1, .int x2] σ (pm_kk fqP d 179 (pc + n) r L S Q)) := by
  show _ = (pm_okW 8 S = true ∧ pm_WC fqP d 101 [.int x0, .int x1, .int x2] σ (fun v σ' => pm_WL fqP d 179 (pc + n) r L (pm_pu v S) σ' Q))
  simp only [w_invs, lg_179, lm_8_41, pm_oM_s, pm_oP_s, pm_pop_0, pm_pop_s, pm_ref1_is, Nat.reduceEqDiff, Nat.zero_ne_one, Nat.succ_ne_self, true_or, or_true, or_false, false_or, or_self, false_implies, true_implies, implies_true, true_and]
theorem gf_179_9_85 : pm_WL fqP d 179 pc ((.getfield 9, n) :: r) L (.ref 85 :: S) (mk h) Q = pm_WL fqP d 179 (pc + n) r L (.ref 86 :: S) (mk h) Q := by
  simp only [w_getf, lg_179, lf_8_9, pm_oF_s, hg_85, pm_oO_s, List.getElem?_cons_succ, List.getElem?_cons_zero, pm_oK_s, true_and]
theorem pf_179_236_85 {x : Int32} : pm_WL fqP d 179 pc ((.putfield 236, n) :: r) L (.int x :: .ref 85 :: S) (mk h) Q = pm_WL fqP d 179 (pc + n) r L S (mk (up h 85 [gd (h 85) 0, gd (h 85) 1, gd (h 85) 2, gd (h 85) 3, gd (h 85) 4, gd (h 85) 5, gd (h 85) 6, gd (h 85) 7, gd (h 85) 8, x, gd (h 85) 10, gd (h 85) 11])) Q := by
  simp only [w_putf, lg_179, lf_8_236, lt_8_17, pm_oF_s, hg_85, pm_oO_s, List.set_cons_succ, List.set_cons_zero, List.length_cons, List.length_nil, pm_fit_i, Nat.reduceAdd, Nat.reduceLT, Nat.zero_add, Nat.lt_add_one, Bool.false_eq_true, false_implies, true_and, and_true, hs_85]
theorem pf_179_233_85 {x : Int32} : pm_WL fqP d 179 pc ((.putfield 233, n) :: r) L (.int x :: .ref 85 :: S) (mk h) Q = pm_WL fqP d 179 (pc + n) r L S (mk (up h 85 [gd (h 85) 0, gd (h 85) 1, gd (h 85) 2, gd (h 85) 3, gd (h 85) 4, gd (h 85) 5, gd (h 85) 6, gd (h 85) 7, gd (h 85) 8, gd (h 85) 9, x, gd (h 85) 11])) Q := by
  simp only [w_putf, lg_179, lf_8_233, lt_8_18, pm_oF_s, hg_85, pm_oO_s, List.set_cons_succ, List.set_cons_zero, List.length_cons, List.length_nil, pm_fit_i, Nat.reduceAdd, Nat.reduceLT, Nat.zero_add, Nat.lt_add_one, Bool.false_eq_true, false_implies, true_and, and_true, hs_85]
theorem pf_179_249_85 {x : Int32} : pm_WL fqP d 179 pc ((.putfield 249, n) :: r) L (.int x :: .ref 85 :: S) (mk h) Q = pm_WL fqP d 179 (pc + n) r L S (mk (up h 85 [gd (h 85) 0, gd (h 85) 1, gd (h 85) 2, gd (h 85) 3, gd (h 85) 4, gd (h 85) 5, gd (h 85) 6, gd (h 85) 7, gd (h 85) 8, gd (h 85) 9, gd (h 85) 10, x])) Q := by
  simp only [w_putf, lg_179, lf_8_249, lt_8_19, pm_oF_s, hg_85, pm_oO_s, List.set_cons_succ, List.set_cons_zero, List.length_cons, List.length_nil, pm_fit_i, Nat.reduceAdd, Nat.reduceLT, Nat.zero_add, Nat.lt_add_one, Bool.false_eq_true, false_implies, true_and, and_true, hs_85]
theorem iv_179_246_85 {x1 : Int32} : pm_WL fqP d 179 pc ((.invokevirtual 246, n) :: r) L (.int x1 :: .ref 85 :: S) (mk h) Q = (pm_okW 8 S = true ∧ pm_WC fqP d 174 [.ref 85, .int x1] (mk h) (pm_kk fqP d 179 (pc + n) r L S Q)) := by
  show _ = (pm_okW 8 S = true ∧ pm_WC fqP d 174 [.ref 85, .int x1] (mk h) (fun v σ' => pm_WL fqP d 179 (pc + n) r L (pm_pu v S) σ' Q))
  simp only [w_invv, lg_179, lm_8_246, pm_oM_s, pm_oP_s, pm_pop_0, pm_pop_s, pm_rcv_is, hg_85, pm_oO_s, pm_ref1_is, Nat.reduceEqDiff, Nat.zero_ne_one, Nat.succ_ne_self, true_or, or_true, or_false, false_or, or_self, false_implies, true_implies, implies_true, true_and]
theorem iv_179_255_85 {x1 : Int32} : pm_WL fqP d 179 pc ((.invokevirtual 255, n) :: r) L (.int x1 :: .ref 85 :: S) (mk h) Q = (pm_okW 8 S = true ∧ pm_WC fqP d 176 [.ref 85, .int x1] (mk h) (pm_kk fqP d 179 (pc + n) r L S Q)) := by
  show _ = (pm_okW 8 S = true ∧ pm_WC fqP d 176 [.ref 85, .int x1] (mk h) (fun v σ' => pm_WL fqP d 179 (pc + n) r L (pm_pu v S) σ' Q))
  simp only [w_invv, lg_179, lm_8_255, pm_oM_s, pm_oP_s, pm_pop_0, pm_pop_s, pm_rcv_is, hg_85, pm_oO_s, pm_ref1_is, Nat.reduceEqDiff, Nat.zero_ne_one, Nat.succ_ne_self, true_or, or_true, or_false, false_or, or_self, false_implies, true_implies, implies_true, true_and]
theorem iv_179_261_85 {x1 : Int32} : pm_WL fqP d 179 pc ((.invokevirtual 261, n) :: r) L (.int x1 :: .ref 85 :: S) (mk h) Q = (pm_okW 8 S = true ∧ pm_WC fqP d 178 [.ref 85, .int x1] (mk h) (pm_kk fqP d 179 (pc + n) r L S Q)) := by
  show _ = (pm_okW 8 S = true ∧ pm_WC fqP d 178 [.ref 85, .int x1] (mk h) (fun v σ' => pm_WL fqP d 179 (pc + n) r L (pm_pu v S) σ' Q))
  simp only [w_invv, lg_179, lm_8_261, pm_oM_s, pm_oP_s, pm_pop_0, pm_pop_s, pm_rcv_is, hg_85, pm_oO_s, pm_ref1_is, Nat.reduceEqDiff, Nat.zero_ne_one, Nat.succ_ne_self, true_or, or_true, or_false, false_or, or_self, false_implies, true_implies, implies_true, true_and]
theorem gf_180_227_85 : pm_WL fqP d 180 pc ((.getfield 227, n) :: r) L (.ref 85 :: S) (mk h) Q = pm_WL fqP d 180 (pc + n) r L (.int (gd (h 85) 8) :: S) (mk h) Q := by
  simp only [w_getf, lg_180, lf_8_227, pm_oF_s, hg_85, pm_oO_s, List.getElem?_cons_succ, List.getElem?_cons_zero, pm_oK_s, true_and]
theorem iv_180_41 {x0 : Int32} {x1 : Int32} {x2 : Int32} : pm_WL fqP d 180 pc ((.invokestatic 41, n) :: r) L (.int x2 :: .int x1 :: .int x0 :: S) σ Q = (pm_okW 8 S = true ∧ pm_WC fqP d 101 [.int x0, .int x1, .int x2] σ (pm_kk fqP d 180 (pc + n) r L S Q)) := by
  show _ = (pm_okW 8 S = true ∧ pm_WC fqP d 101 [.int x0, .int x1, .int x2] σ (fun v σ' => pm_WL fqP d 180 (pc + n) r L (pm_pu v S) σ' Q))
  simp only [w_invs, lg_180, lm_8_41, pm_oM_s, pm_oP_s, pm_pop_0, pm_pop_s, pm_ref1_is, Nat.reduceEqDiff, Nat.zero_ne_one, Nat.succ_ne_self, true_or, or_true, or_false, false_or, or_self, false_implies, true_implies, implies_true, true_and]
theorem gf_180_34_85 : pm_WL fqP d 180 pc ((.getfield 34, n) :: r) L (.ref 85 :: S) (mk h) Q = pm_WL fqP d 180 (pc + n) r L (.ref 93 :: S) (mk h) Q := by
  simp only [w_getf, lg_180, lf_8_34, pm_oF_s, hg_85, pm_oO_s, List.getElem?_cons_succ, List.getElem?_cons_zero, pm_oK_s, true_and]
theorem iv_181_138_85 {x1 : Int32} : pm_WL fqP d 181 pc ((.invokevirtual 138, n) :: r) L (.int x1 :: .ref 85 :: S) (mk h) Q = (pm_okW 8 S = true ∧ pm_WC fqP d 104 [.ref 85, .int x1] (mk h) (pm_kk fqP d 181 (pc + n) r L S Q)) := by
  show _ = (pm_okW 8 S = true ∧ pm_WC fqP d 104 [.ref 85, .int x1] (mk h) (fun v σ' => pm_WL fqP d 181 (pc + n) r L (pm_pu v S) σ' Q))
  simp only [w_invv, lg_181, lm_8_138, pm_oM_s, pm_oP_s, pm_pop_0, pm_pop_s, pm_rcv_is, hg_85, pm_oO_s, pm_ref1_is, Nat.reduceEqDiff, Nat.zero_ne_one, Nat.succ_ne_self, true_or, or_true, or_false, false_or, or_self, false_implies, true_implies, implies_true, true_and]
theorem iv_181_41 {x0 : Int32} {x1 : Int32} {x2 : Int32} : pm_WL fqP d 181 pc ((.invokestatic 41, n) :: r) L (.int x2 :: .int x1 :: .int x0 :: S) σ Q = (pm_okW 8 S = true ∧ pm_WC fqP d 101 [.int x0, .int x1, .int x2] σ (pm_kk fqP d 181 (pc + n) r L S Q)) := by
  show _ = (pm_okW 8 S = true ∧ pm_WC fqP d 101 [.int x0, .int x1, .int x2] σ (fun v σ' => pm_WL fqP d 181 (pc + n) r L (pm_pu v S) σ' Q))
  simp only [w_invs, lg_181, lm_8_41, pm_oM_s, pm_oP_s, pm_pop_0, pm_pop_s, pm_ref1_is, Nat.reduceEqDiff, Nat.zero_ne_one, Nat.succ_ne_self, true_or, or_true, or_false, false_or, or_self, false_implies, true_implies, implies_true, true_and]
theorem gf_181_9_85 : pm_WL fqP d 181 pc ((.getfield 9, n) :: r) L (.ref 85 :: S) (mk h) Q = pm_WL fqP d 181 (pc + n) r L (.ref 86 :: S) (mk h) Q := by
  simp only [w_getf, lg_181, lf_8_9, pm_oF_s, hg_85, pm_oO_s, List.getElem?_cons_succ, List.getElem?_cons_zero, pm_oK_s, true_and]
theorem iv_181_239 {x0 : Int32} {x1 : Int32} : pm_WL fqP d 181 pc ((.invokestatic 239, n) :: r) L (.int x1 :: .int x0 :: S) σ Q = (pm_okW 8 S = true ∧ pm_WC fqP d 172 [.int x0, .int x1] σ (pm_kk fqP d 181 (pc + n) r L S Q)) := by
  show _ = (pm_okW 8 S = true ∧ pm_WC fqP d 172 [.int x0, .int x1] σ (fun v σ' => pm_WL fqP d 181 (pc + n) r L (pm_pu v S) σ' Q))
  simp only [w_invs, lg_181, lm_8_239, pm_oM_s, pm_oP_s, pm_pop_0, pm_pop_s, pm_ref1_is, Nat.reduceEqDiff, Nat.zero_ne_one, Nat.succ_ne_self, true_or, or_true, or_false, false_or, or_self, false_implies, true_implies, implies_true, true_and]
theorem gf_182_15_85 : pm_WL fqP d 182 pc ((.getfield 15, n) :: r) L (.ref 85 :: S) (mk h) Q = pm_WL fqP d 182 (pc + n) r L (.ref 87 :: S) (mk h) Q := by
  simp only [w_getf, lg_182, lf_8_15, pm_oF_s, hg_85, pm_oO_s, List.getElem?_cons_succ, List.getElem?_cons_zero, pm_oK_s, true_and]
theorem gf_182_9_85 : pm_WL fqP d 182 pc ((.getfield 9, n) :: r) L (.ref 85 :: S) (mk h) Q = pm_WL fqP d 182 (pc + n) r L (.ref 86 :: S) (mk h) Q := by
  simp only [w_getf, lg_182, lf_8_9, pm_oF_s, hg_85, pm_oO_s, List.getElem?_cons_succ, List.getElem?_cons_zero, pm_oK_s, true_and]
theorem pf_182_264_85 {x : Int32} (hb : pm_fit 1 (.int x) = true) : pm_WL fqP d 182 pc ((.putfield 264, n) :: r) L (.int x :: .ref 85 :: S) (mk h) Q = pm_WL fqP d 182 (pc + n) r L S (mk (up h 85 [gd (h 85) 0, x, gd (h 85) 2, gd (h 85) 3, gd (h 85) 4, gd (h 85) 5, gd (h 85) 6, gd (h 85) 7, gd (h 85) 8, gd (h 85) 9, gd (h 85) 10, gd (h 85) 11])) Q := by
  simp only [w_putf, lg_182, lf_8_264, lt_8_4, pm_oF_s, hg_85, pm_oO_s, List.set_cons_succ, List.set_cons_zero, List.length_cons, List.length_nil, pm_fit_i, hb, Nat.reduceAdd, Nat.reduceLT, Nat.zero_add, Nat.lt_add_one, Bool.false_eq_true, false_implies, true_and, and_true, hs_85]
theorem gf_183_264_85 : pm_WL fqP d 183 pc ((.getfield 264, n) :: r) L (.ref 85 :: S) (mk h) Q = pm_WL fqP d 183 (pc + n) r L (.int (gd (h 85) 1) :: S) (mk h) Q := by
  simp only [w_getf, lg_183, lf_8_264, pm_oF_s, hg_85, pm_oO_s, List.getElem?_cons_succ, List.getElem?_cons_zero, pm_oK_s, true_and]
theorem gf_183_9_85 : pm_WL fqP d 183 pc ((.getfield 9, n) :: r) L (.ref 85 :: S) (mk h) Q = pm_WL fqP d 183 (pc + n) r L (.ref 86 :: S) (mk h) Q := by
  simp only [w_getf, lg_183, lf_8_9, pm_oF_s, hg_85, pm_oO_s, List.getElem?_cons_succ, List.getElem?_cons_zero, pm_oK_s, true_and]
theorem gf_183_15_85 : pm_WL fqP d 183 pc ((.getfield 15, n) :: r) L (.ref 85 :: S) (mk h) Q = pm_WL fqP d 183 (pc + n) r L (.ref 87 :: S) (mk h) Q := by
  simp only [w_getf, lg_183, lf_8_15, pm_oF_s, hg_85, pm_oO_s, List.getElem?_cons_succ, List.getElem?_cons_zero, pm_oK_s, true_and]
theorem gf_184_227_85 : pm_WL fqP d 184 pc ((.getfield 227, n) :: r) L (.ref 85 :: S) (mk h) Q = pm_WL fqP d 184 (pc + n) r L (.int (gd (h 85) 8) :: S) (mk h) Q := by
  simp only [w_getf, lg_184, lf_8_227, pm_oF_s, hg_85, pm_oO_s, List.getElem?_cons_succ, List.getElem?_cons_zero, pm_oK_s, true_and]
theorem iv_184_41 {x0 : Int32} {x1 : Int32} {x2 : Int32} : pm_WL fqP d 184 pc ((.invokestatic 41, n) :: r) L (.int x2 :: .int x1 :: .int x0 :: S) σ Q = (pm_okW 8 S = true ∧ pm_WC fqP d 101 [.int x0, .int x1, .int x2] σ (pm_kk fqP d 184 (pc + n) r L S Q)) := by
  show _ = (pm_okW 8 S = true ∧ pm_WC fqP d 101 [.int x0, .int x1, .int x2] σ (fun v σ' => pm_WL fqP d 184 (pc + n) r L (pm_pu v S) σ' Q))
  simp only [w_invs, lg_184, lm_8_41, pm_oM_s, pm_oP_s, pm_pop_0, pm_pop_s, pm_ref1_is, Nat.reduceEqDiff, Nat.zero_ne_one, Nat.succ_ne_self, true_or, or_true, or_false, false_or, or_self, false_implies, true_implies, implies_true, true_and]
theorem gf_184_9_85 : pm_WL fqP d 184 pc ((.getfield 9, n) :: r) L (.ref 85 :: S) (mk h) Q = pm_WL fqP d 184 (pc + n) r L (.ref 86 :: S) (mk h) Q := by
  simp only [w_getf, lg_184, lf_8_9, pm_oF_s, hg_85, pm_oO_s, List.getElem?_cons_succ, List.getElem?_cons_zero, pm_oK_s, true_and]
end FF
