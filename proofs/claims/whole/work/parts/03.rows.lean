/-! rows: an instruction each -/
def pm_oI (o : Option Value) (K : Int32 → Prop) : Prop := match o with
  | some (.int x) => K x
  | _ => False
def pm_oA (o : Option Value) (K : Nat → Prop) : Prop := match o with
  | some (.ref x) => K x
  | _ => False
def pm_oJ (o : Option Value) (K : Int64 → Prop) : Prop := match o with
  | some (.long x) => K x
  | _ => False
def pm_oK (o : Option Value) (K : Value → Prop) : Prop := match o with
  | some v => K v
  | none => False
def pm_oR (o : Option pm_C) (K : Nat → List Int32 → Prop) : Prop := match o with
  | some (.inr (t, xs)) => K t xs
  | _ => False
def pm_oO (o : Option pm_C) (K : Nat → List Value → Prop) : Prop := match o with
  | some (.inl (c, fs)) => K c fs
  | _ => False
def pm_oN (o : Option Nat) (K : Nat → Prop) : Prop := match o with
  | some v => K v
  | none => False
def pm_oF (o : Option (Nat × Nat)) (K : Nat → Nat → Prop) : Prop := match o with
  | some (c, j) => K c j
  | none => False
def pm_oM (o : Option (Nat × Nat × Nat × Nat)) (K : Nat → Nat → Nat → Nat → Prop) : Prop := match o with
  | some (w, z, n, c) => K w z n c
  | none => False
def pm_oP (o : Option (List Value × List Value)) (K : List Value → List Value → Prop) : Prop := match o with
  | some (a, b) => K a b
  | none => False
def pm_rcv (σ : pm_S) (as : List Value) (ci : Nat) : Prop := match as with
  | .ref k :: _ => (match pm_hg σ k with
    | some (.inl (c, _)) => c = ci
    | _ => False)
  | _ => False
def pm_ref1 (as : List Value) : Prop := match as with
  | .ref _ :: _ => True
  | _ => False
theorem pm_oI_s (x : Int32) (K : Int32 → Prop) : pm_oI (some (.int x)) K = K x := rfl
theorem pm_oA_s (x : Nat) (K : Nat → Prop) : pm_oA (some (.ref x)) K = K x := rfl
theorem pm_oJ_s (x : Int64) (K : Int64 → Prop) : pm_oJ (some (.long x)) K = K x := rfl
theorem pm_oK_s (x : Value) (K : Value → Prop) : pm_oK (some x) K = K x := rfl
theorem pm_oR_s (t : Nat) (xs : List Int32) (K : Nat → List Int32 → Prop) : pm_oR (some (.inr (t, xs))) K = K t xs := rfl
theorem pm_oO_s (t : Nat) (xs : List Value) (K : Nat → List Value → Prop) : pm_oO (some (.inl (t, xs))) K = K t xs := rfl
theorem pm_oN_s (t : Nat) (K : Nat → Prop) : pm_oN (some t) K = K t := rfl
theorem pm_oF_s (t j : Nat) (K : Nat → Nat → Prop) : pm_oF (some (t, j)) K = K t j := rfl
theorem pm_oM_s (w z n c : Nat) (K : Nat → Nat → Nat → Nat → Prop) : pm_oM (some (w, z, n, c)) K = K w z n c := rfl
theorem pm_oP_s (a b : List Value) (K : List Value → List Value → Prop) : pm_oP (some (a, b)) K = K a b := rfl
section RR
variable {P : pm_T} {d y pc n : Nat} {r : List pm_I} {L : pm_L} {S : List Value} {σ : pm_S} {Q : Option Value → pm_S → Prop}
theorem pm_stepN {i : Instr} {L' : pm_L} {S S' : List Value} {σ' : pm_S} (h : pm_stp P y i n pc L S σ = some (.inl (pc + n, L', S', σ'))) (hj : pm_isJ i = false) : pm_WL P d y pc ((i, n) :: r) L S σ Q = pm_WL P d y (pc + n) r L' S' σ' Q := by
  rw [pm_WL, h]
  simp only [hj, and_self, if_true]
theorem pm_stepF {i : Instr} {S : List Value} (h : pm_stp P y i n pc L S σ = none) : pm_WL P d y pc ((i, n) :: r) L S σ Q = False := by
  rw [pm_WL, h]
theorem pm_stepE {i : Instr} {S : List Value} {v : Option Value} (h : pm_stp P y i n pc L S σ = some (.inr (.inr v))) : pm_WL P d y pc ((i, n) :: r) L S σ Q = Q v σ := by
  rw [pm_WL, h]
theorem pm_stepJ {i : Instr} {L' : pm_L} {S S' : List Value} {σ' : pm_S} {pc' : Nat} (h : pm_stp P y i n pc L S σ = some (.inl (pc', L', S', σ'))) (hj : pm_isJ i = true) : pm_WL P d y pc ((i, n) :: r) L S σ Q = pm_W P d y pc' L' S' σ' Q := by
  rw [pm_WL, h]
  simp only [hj, Bool.true_eq_false, false_and, if_false]
theorem pm_stepC {i : Instr} {S S' as : List Value} {z : Nat} (h : pm_stp P y i n pc L S σ = some (.inr (.inl (z, as, S')))) : pm_WL P d y pc ((i, n) :: r) L S σ Q = pm_WC P d z as σ (fun v σ' => pm_WL P d y (pc + n) r L (pm_pu v S') σ' Q) := by
  rw [pm_WL, h]
theorem w_iconst {v : Int} : pm_WL P d y pc ((.iconst v, n) :: r) L (S) σ Q = (pm_WL P d y (pc + n) r L (.int (Int32.ofInt v) :: S) σ Q) := pm_stepN rfl rfl
theorem w_bipush {v : Int} : pm_WL P d y pc ((.bipush v, n) :: r) L (S) σ Q = (pm_WL P d y (pc + n) r L (.int (Int8.ofInt v).toInt32 :: S) σ Q) := pm_stepN rfl rfl
theorem w_sipush {v : Int} : pm_WL P d y pc ((.sipush v, n) :: r) L (S) σ Q = (pm_WL P d y (pc + n) r L (.int (Int16.ofInt v).toInt32 :: S) σ Q) := pm_stepN rfl rfl
theorem w_lconst0 : pm_WL P d y pc ((.lconst 0, n) :: r) L (S) σ Q = (pm_WL P d y (pc + n) r L (.long 0 :: S) σ Q) := pm_stepN rfl rfl
theorem w_lconst1 : pm_WL P d y pc ((.lconst 1, n) :: r) L (S) σ Q = (pm_WL P d y (pc + n) r L (.long 1 :: S) σ Q) := pm_stepN rfl rfl
theorem w_iload {k : Nat} : pm_WL P d y pc ((.iload k, n) :: r) L (S) σ Q = (pm_oI (pm_lget L k) fun x => pm_WL P d y (pc + n) r L (.int x :: S) σ Q) := by
  cases h : pm_lget L k with
  | none => exact pm_stepF (i := .iload k) (show pm_ldI (pc + n) L S σ k = none by unfold pm_ldI; rw [h])
  | some v => cases v <;> first | exact pm_stepN (i := .iload k) (show pm_ldI (pc + n) L S σ k = _ by unfold pm_ldI; rw [h]; rfl) rfl | exact pm_stepF (i := .iload k) (show pm_ldI (pc + n) L S σ k = none by unfold pm_ldI; rw [h])
theorem w_iload0 : pm_WL P d y pc ((.iload_n 0, n) :: r) L (S) σ Q = (pm_oI (pm_lget L 0) fun x => pm_WL P d y (pc + n) r L (.int x :: S) σ Q) := by
  cases h : pm_lget L 0 with
  | none => exact pm_stepF (i := .iload_n 0) (show pm_ldI (pc + n) L S σ 0 = none by unfold pm_ldI; rw [h])
  | some v => cases v <;> first | exact pm_stepN (i := .iload_n 0) (show pm_ldI (pc + n) L S σ 0 = _ by unfold pm_ldI; rw [h]; rfl) rfl | exact pm_stepF (i := .iload_n 0) (show pm_ldI (pc + n) L S σ 0 = none by unfold pm_ldI; rw [h])
theorem w_iload1 : pm_WL P d y pc ((.iload_n 1, n) :: r) L (S) σ Q = (pm_oI (pm_lget L 1) fun x => pm_WL P d y (pc + n) r L (.int x :: S) σ Q) := by
  cases h : pm_lget L 1 with
  | none => exact pm_stepF (i := .iload_n 1) (show pm_ldI (pc + n) L S σ 1 = none by unfold pm_ldI; rw [h])
  | some v => cases v <;> first | exact pm_stepN (i := .iload_n 1) (show pm_ldI (pc + n) L S σ 1 = _ by unfold pm_ldI; rw [h]; rfl) rfl | exact pm_stepF (i := .iload_n 1) (show pm_ldI (pc + n) L S σ 1 = none by unfold pm_ldI; rw [h])
theorem w_iload2 : pm_WL P d y pc ((.iload_n 2, n) :: r) L (S) σ Q = (pm_oI (pm_lget L 2) fun x => pm_WL P d y (pc + n) r L (.int x :: S) σ Q) := by
  cases h : pm_lget L 2 with
  | none => exact pm_stepF (i := .iload_n 2) (show pm_ldI (pc + n) L S σ 2 = none by unfold pm_ldI; rw [h])
  | some v => cases v <;> first | exact pm_stepN (i := .iload_n 2) (show pm_ldI (pc + n) L S σ 2 = _ by unfold pm_ldI; rw [h]; rfl) rfl | exact pm_stepF (i := .iload_n 2) (show pm_ldI (pc + n) L S σ 2 = none by unfold pm_ldI; rw [h])
theorem w_iload3 : pm_WL P d y pc ((.iload_n 3, n) :: r) L (S) σ Q = (pm_oI (pm_lget L 3) fun x => pm_WL P d y (pc + n) r L (.int x :: S) σ Q) := by
  cases h : pm_lget L 3 with
  | none => exact pm_stepF (i := .iload_n 3) (show pm_ldI (pc + n) L S σ 3 = none by unfold pm_ldI; rw [h])
  | some v => cases v <;> first | exact pm_stepN (i := .iload_n 3) (show pm_ldI (pc + n) L S σ 3 = _ by unfold pm_ldI; rw [h]; rfl) rfl | exact pm_stepF (i := .iload_n 3) (show pm_ldI (pc + n) L S σ 3 = none by unfold pm_ldI; rw [h])
theorem w_aload {k : Nat} : pm_WL P d y pc ((.aload k, n) :: r) L (S) σ Q = (pm_oA (pm_lget L k) fun x => pm_WL P d y (pc + n) r L (.ref x :: S) σ Q) := by
  cases h : pm_lget L k with
  | none => exact pm_stepF (i := .aload k) (show pm_ldA (pc + n) L S σ k = none by unfold pm_ldA; rw [h])
  | some v => cases v <;> first | exact pm_stepN (i := .aload k) (show pm_ldA (pc + n) L S σ k = _ by unfold pm_ldA; rw [h]; rfl) rfl | exact pm_stepF (i := .aload k) (show pm_ldA (pc + n) L S σ k = none by unfold pm_ldA; rw [h])
theorem w_aload0 : pm_WL P d y pc ((.aload_n 0, n) :: r) L (S) σ Q = (pm_oA (pm_lget L 0) fun x => pm_WL P d y (pc + n) r L (.ref x :: S) σ Q) := by
  cases h : pm_lget L 0 with
  | none => exact pm_stepF (i := .aload_n 0) (show pm_ldA (pc + n) L S σ 0 = none by unfold pm_ldA; rw [h])
  | some v => cases v <;> first | exact pm_stepN (i := .aload_n 0) (show pm_ldA (pc + n) L S σ 0 = _ by unfold pm_ldA; rw [h]; rfl) rfl | exact pm_stepF (i := .aload_n 0) (show pm_ldA (pc + n) L S σ 0 = none by unfold pm_ldA; rw [h])
theorem w_aload1 : pm_WL P d y pc ((.aload_n 1, n) :: r) L (S) σ Q = (pm_oA (pm_lget L 1) fun x => pm_WL P d y (pc + n) r L (.ref x :: S) σ Q) := by
  cases h : pm_lget L 1 with
  | none => exact pm_stepF (i := .aload_n 1) (show pm_ldA (pc + n) L S σ 1 = none by unfold pm_ldA; rw [h])
  | some v => cases v <;> first | exact pm_stepN (i := .aload_n 1) (show pm_ldA (pc + n) L S σ 1 = _ by unfold pm_ldA; rw [h]; rfl) rfl | exact pm_stepF (i := .aload_n 1) (show pm_ldA (pc + n) L S σ 1 = none by unfold pm_ldA; rw [h])
theorem w_aload2 : pm_WL P d y pc ((.aload_n 2, n) :: r) L (S) σ Q = (pm_oA (pm_lget L 2) fun x => pm_WL P d y (pc + n) r L (.ref x :: S) σ Q) := by
  cases h : pm_lget L 2 with
  | none => exact pm_stepF (i := .aload_n 2) (show pm_ldA (pc + n) L S σ 2 = none by unfold pm_ldA; rw [h])
  | some v => cases v <;> first | exact pm_stepN (i := .aload_n 2) (show pm_ldA (pc + n) L S σ 2 = _ by unfold pm_ldA; rw [h]; rfl) rfl | exact pm_stepF (i := .aload_n 2) (show pm_ldA (pc + n) L S σ 2 = none by unfold pm_ldA; rw [h])
theorem w_aload3 : pm_WL P d y pc ((.aload_n 3, n) :: r) L (S) σ Q = (pm_oA (pm_lget L 3) fun x => pm_WL P d y (pc + n) r L (.ref x :: S) σ Q) := by
  cases h : pm_lget L 3 with
  | none => exact pm_stepF (i := .aload_n 3) (show pm_ldA (pc + n) L S σ 3 = none by unfold pm_ldA; rw [h])
  | some v => cases v <;> first | exact pm_stepN (i := .aload_n 3) (show pm_ldA (pc + n) L S σ 3 = _ by unfold pm_ldA; rw [h]; rfl) rfl | exact pm_stepF (i := .aload_n 3) (show pm_ldA (pc + n) L S σ 3 = none by unfold pm_ldA; rw [h])
theorem w_lload {k : Nat} : pm_WL P d y pc ((.lload k, n) :: r) L (S) σ Q = (pm_oJ (pm_lget L k) fun x => pm_WL P d y (pc + n) r L (.long x :: S) σ Q) := by
  cases h : pm_lget L k with
  | none => exact pm_stepF (i := .lload k) (show pm_ldL (pc + n) L S σ k = none by unfold pm_ldL; rw [h])
  | some v => cases v <;> first | exact pm_stepN (i := .lload k) (show pm_ldL (pc + n) L S σ k = _ by unfold pm_ldL; rw [h]; rfl) rfl | exact pm_stepF (i := .lload k) (show pm_ldL (pc + n) L S σ k = none by unfold pm_ldL; rw [h])
theorem w_lload0 : pm_WL P d y pc ((.lload_n 0, n) :: r) L (S) σ Q = (pm_oJ (pm_lget L 0) fun x => pm_WL P d y (pc + n) r L (.long x :: S) σ Q) := by
  cases h : pm_lget L 0 with
  | none => exact pm_stepF (i := .lload_n 0) (show pm_ldL (pc + n) L S σ 0 = none by unfold pm_ldL; rw [h])
  | some v => cases v <;> first | exact pm_stepN (i := .lload_n 0) (show pm_ldL (pc + n) L S σ 0 = _ by unfold pm_ldL; rw [h]; rfl) rfl | exact pm_stepF (i := .lload_n 0) (show pm_ldL (pc + n) L S σ 0 = none by unfold pm_ldL; rw [h])
theorem w_lload1 : pm_WL P d y pc ((.lload_n 1, n) :: r) L (S) σ Q = (pm_oJ (pm_lget L 1) fun x => pm_WL P d y (pc + n) r L (.long x :: S) σ Q) := by
  cases h : pm_lget L 1 with
  | none => exact pm_stepF (i := .lload_n 1) (show pm_ldL (pc + n) L S σ 1 = none by unfold pm_ldL; rw [h])
  | some v => cases v <;> first | exact pm_stepN (i := .lload_n 1) (show pm_ldL (pc + n) L S σ 1 = _ by unfold pm_ldL; rw [h]; rfl) rfl | exact pm_stepF (i := .lload_n 1) (show pm_ldL (pc + n) L S σ 1 = none by unfold pm_ldL; rw [h])
theorem w_lload2 : pm_WL P d y pc ((.lload_n 2, n) :: r) L (S) σ Q = (pm_oJ (pm_lget L 2) fun x => pm_WL P d y (pc + n) r L (.long x :: S) σ Q) := by
  cases h : pm_lget L 2 with
  | none => exact pm_stepF (i := .lload_n 2) (show pm_ldL (pc + n) L S σ 2 = none by unfold pm_ldL; rw [h])
  | some v => cases v <;> first | exact pm_stepN (i := .lload_n 2) (show pm_ldL (pc + n) L S σ 2 = _ by unfold pm_ldL; rw [h]; rfl) rfl | exact pm_stepF (i := .lload_n 2) (show pm_ldL (pc + n) L S σ 2 = none by unfold pm_ldL; rw [h])
theorem w_lload3 : pm_WL P d y pc ((.lload_n 3, n) :: r) L (S) σ Q = (pm_oJ (pm_lget L 3) fun x => pm_WL P d y (pc + n) r L (.long x :: S) σ Q) := by
  cases h : pm_lget L 3 with
  | none => exact pm_stepF (i := .lload_n 3) (show pm_ldL (pc + n) L S σ 3 = none by unfold pm_ldL; rw [h])
  | some v => cases v <;> first | exact pm_stepN (i := .lload_n 3) (show pm_ldL (pc + n) L S σ 3 = _ by unfold pm_ldL; rw [h]; rfl) rfl | exact pm_stepF (i := .lload_n 3) (show pm_ldL (pc + n) L S σ 3 = none by unfold pm_ldL; rw [h])
theorem w_istore {k : Nat} {x : Int32} : pm_WL P d y pc ((.istore k, n) :: r) L (.int x :: S) σ Q = (k < L.length ∧ pm_WL P d y (pc + n) r (pm_lset L k (.int x)) S σ Q) := by
  by_cases h : k < L.length
  · have e : pm_stp P y (.istore k) n pc L (.int x :: S) σ = some (.inl (pc + n, pm_lset L k (.int x), S, σ)) := (show pm_stI (pc + n) L (.int x :: S) σ k = some (.inl (pc + n, pm_lset L k (.int x), S, σ)) from if_pos h)
    rw [pm_stepN e rfl]; simp only [h, true_and]
  · have e : pm_stp P y (.istore k) n pc L (.int x :: S) σ = none := (show pm_stI (pc + n) L (.int x :: S) σ k = none from if_neg h)
    rw [pm_stepF e]; simp only [h, false_and]
theorem w_istore0 {x : Int32} : pm_WL P d y pc ((.istore_n 0, n) :: r) L (.int x :: S) σ Q = (0 < L.length ∧ pm_WL P d y (pc + n) r (pm_lset L 0 (.int x)) S σ Q) := by
  by_cases h : 0 < L.length
  · have e : pm_stp P y (.istore_n 0) n pc L (.int x :: S) σ = some (.inl (pc + n, pm_lset L 0 (.int x), S, σ)) := (show pm_stI (pc + n) L (.int x :: S) σ 0 = some (.inl (pc + n, pm_lset L 0 (.int x), S, σ)) from if_pos h)
    rw [pm_stepN e rfl]; simp only [h, true_and]
  · have e : pm_stp P y (.istore_n 0) n pc L (.int x :: S) σ = none := (show pm_stI (pc + n) L (.int x :: S) σ 0 = none from if_neg h)
    rw [pm_stepF e]; simp only [h, false_and]
theorem w_istore1 {x : Int32} : pm_WL P d y pc ((.istore_n 1, n) :: r) L (.int x :: S) σ Q = (1 < L.length ∧ pm_WL P d y (pc + n) r (pm_lset L 1 (.int x)) S σ Q) := by
  by_cases h : 1 < L.length
  · have e : pm_stp P y (.istore_n 1) n pc L (.int x :: S) σ = some (.inl (pc + n, pm_lset L 1 (.int x), S, σ)) := (show pm_stI (pc + n) L (.int x :: S) σ 1 = some (.inl (pc + n, pm_lset L 1 (.int x), S, σ)) from if_pos h)
    rw [pm_stepN e rfl]; simp only [h, true_and]
  · have e : pm_stp P y (.istore_n 1) n pc L (.int x :: S) σ = none := (show pm_stI (pc + n) L (.int x :: S) σ 1 = none from if_neg h)
    rw [pm_stepF e]; simp only [h, false_and]
theorem w_istore2 {x : Int32} : pm_WL P d y pc ((.istore_n 2, n) :: r) L (.int x :: S) σ Q = (2 < L.length ∧ pm_WL P d y (pc + n) r (pm_lset L 2 (.int x)) S σ Q) := by
  by_cases h : 2 < L.length
  · have e : pm_stp P y (.istore_n 2) n pc L (.int x :: S) σ = some (.inl (pc + n, pm_lset L 2 (.int x), S, σ)) := (show pm_stI (pc + n) L (.int x :: S) σ 2 = some (.inl (pc + n, pm_lset L 2 (.int x), S, σ)) from if_pos h)
    rw [pm_stepN e rfl]; simp only [h, true_and]
  · have e : pm_stp P y (.istore_n 2) n pc L (.int x :: S) σ = none := (show pm_stI (pc + n) L (.int x :: S) σ 2 = none from if_neg h)
    rw [pm_stepF e]; simp only [h, false_and]
theorem w_istore3 {x : Int32} : pm_WL P d y pc ((.istore_n 3, n) :: r) L (.int x :: S) σ Q = (3 < L.length ∧ pm_WL P d y (pc + n) r (pm_lset L 3 (.int x)) S σ Q) := by
  by_cases h : 3 < L.length
  · have e : pm_stp P y (.istore_n 3) n pc L (.int x :: S) σ = some (.inl (pc + n, pm_lset L 3 (.int x), S, σ)) := (show pm_stI (pc + n) L (.int x :: S) σ 3 = some (.inl (pc + n, pm_lset L 3 (.int x), S, σ)) from if_pos h)
    rw [pm_stepN e rfl]; simp only [h, true_and]
  · have e : pm_stp P y (.istore_n 3) n pc L (.int x :: S) σ = none := (show pm_stI (pc + n) L (.int x :: S) σ 3 = none from if_neg h)
    rw [pm_stepF e]; simp only [h, false_and]
theorem w_astore {k : Nat} {x : Nat} : pm_WL P d y pc ((.astore k, n) :: r) L (.ref x :: S) σ Q = (k < L.length ∧ pm_WL P d y (pc + n) r (pm_lset L k (.ref x)) S σ Q) := by
  by_cases h : k < L.length
  · have e : pm_stp P y (.astore k) n pc L (.ref x :: S) σ = some (.inl (pc + n, pm_lset L k (.ref x), S, σ)) := (show pm_stA (pc + n) L (.ref x :: S) σ k = some (.inl (pc + n, pm_lset L k (.ref x), S, σ)) from if_pos h)
    rw [pm_stepN e rfl]; simp only [h, true_and]
  · have e : pm_stp P y (.astore k) n pc L (.ref x :: S) σ = none := (show pm_stA (pc + n) L (.ref x :: S) σ k = none from if_neg h)
    rw [pm_stepF e]; simp only [h, false_and]
theorem w_astore0 {x : Nat} : pm_WL P d y pc ((.astore_n 0, n) :: r) L (.ref x :: S) σ Q = (0 < L.length ∧ pm_WL P d y (pc + n) r (pm_lset L 0 (.ref x)) S σ Q) := by
  by_cases h : 0 < L.length
  · have e : pm_stp P y (.astore_n 0) n pc L (.ref x :: S) σ = some (.inl (pc + n, pm_lset L 0 (.ref x), S, σ)) := (show pm_stA (pc + n) L (.ref x :: S) σ 0 = some (.inl (pc + n, pm_lset L 0 (.ref x), S, σ)) from if_pos h)
    rw [pm_stepN e rfl]; simp only [h, true_and]
  · have e : pm_stp P y (.astore_n 0) n pc L (.ref x :: S) σ = none := (show pm_stA (pc + n) L (.ref x :: S) σ 0 = none from if_neg h)
    rw [pm_stepF e]; simp only [h, false_and]
theorem w_astore1 {x : Nat} : pm_WL P d y pc ((.astore_n 1, n) :: r) L (.ref x :: S) σ Q = (1 < L.length ∧ pm_WL P d y (pc + n) r (pm_lset L 1 (.ref x)) S σ Q) := by
  by_cases h : 1 < L.length
  · have e : pm_stp P y (.astore_n 1) n pc L (.ref x :: S) σ = some (.inl (pc + n, pm_lset L 1 (.ref x), S, σ)) := (show pm_stA (pc + n) L (.ref x :: S) σ 1 = some (.inl (pc + n, pm_lset L 1 (.ref x), S, σ)) from if_pos h)
    rw [pm_stepN e rfl]; simp only [h, true_and]
  · have e : pm_stp P y (.astore_n 1) n pc L (.ref x :: S) σ = none := (show pm_stA (pc + n) L (.ref x :: S) σ 1 = none from if_neg h)
    rw [pm_stepF e]; simp only [h, false_and]
theorem w_astore2 {x : Nat} : pm_WL P d y pc ((.astore_n 2, n) :: r) L (.ref x :: S) σ Q = (2 < L.length ∧ pm_WL P d y (pc + n) r (pm_lset L 2 (.ref x)) S σ Q) := by
  by_cases h : 2 < L.length
  · have e : pm_stp P y (.astore_n 2) n pc L (.ref x :: S) σ = some (.inl (pc + n, pm_lset L 2 (.ref x), S, σ)) := (show pm_stA (pc + n) L (.ref x :: S) σ 2 = some (.inl (pc + n, pm_lset L 2 (.ref x), S, σ)) from if_pos h)
    rw [pm_stepN e rfl]; simp only [h, true_and]
  · have e : pm_stp P y (.astore_n 2) n pc L (.ref x :: S) σ = none := (show pm_stA (pc + n) L (.ref x :: S) σ 2 = none from if_neg h)
    rw [pm_stepF e]; simp only [h, false_and]
theorem w_astore3 {x : Nat} : pm_WL P d y pc ((.astore_n 3, n) :: r) L (.ref x :: S) σ Q = (3 < L.length ∧ pm_WL P d y (pc + n) r (pm_lset L 3 (.ref x)) S σ Q) := by
  by_cases h : 3 < L.length
  · have e : pm_stp P y (.astore_n 3) n pc L (.ref x :: S) σ = some (.inl (pc + n, pm_lset L 3 (.ref x), S, σ)) := (show pm_stA (pc + n) L (.ref x :: S) σ 3 = some (.inl (pc + n, pm_lset L 3 (.ref x), S, σ)) from if_pos h)
    rw [pm_stepN e rfl]; simp only [h, true_and]
  · have e : pm_stp P y (.astore_n 3) n pc L (.ref x :: S) σ = none := (show pm_stA (pc + n) L (.ref x :: S) σ 3 = none from if_neg h)
    rw [pm_stepF e]; simp only [h, false_and]
theorem w_lstore {k : Nat} {x : Int64} : pm_WL P d y pc ((.lstore k, n) :: r) L (.long x :: S) σ Q = (k + 1 < L.length ∧ pm_WL P d y (pc + n) r (pm_lset2 L k (.long x)) S σ Q) := by
  by_cases h : k + 1 < L.length
  · have e : pm_stp P y (.lstore k) n pc L (.long x :: S) σ = some (.inl (pc + n, pm_lset2 L k (.long x), S, σ)) := (show pm_stL (pc + n) L (.long x :: S) σ k = some (.inl (pc + n, pm_lset2 L k (.long x), S, σ)) from if_pos h)
    rw [pm_stepN e rfl]; simp only [h, true_and]
  · have e : pm_stp P y (.lstore k) n pc L (.long x :: S) σ = none := (show pm_stL (pc + n) L (.long x :: S) σ k = none from if_neg h)
    rw [pm_stepF e]; simp only [h, false_and]
theorem w_lstore0 {x : Int64} : pm_WL P d y pc ((.lstore_n 0, n) :: r) L (.long x :: S) σ Q = (0 + 1 < L.length ∧ pm_WL P d y (pc + n) r (pm_lset2 L 0 (.long x)) S σ Q) := by
  by_cases h : 0 + 1 < L.length
  · have e : pm_stp P y (.lstore_n 0) n pc L (.long x :: S) σ = some (.inl (pc + n, pm_lset2 L 0 (.long x), S, σ)) := (show pm_stL (pc + n) L (.long x :: S) σ 0 = some (.inl (pc + n, pm_lset2 L 0 (.long x), S, σ)) from if_pos h)
    rw [pm_stepN e rfl]; simp only [h, true_and]
  · have e : pm_stp P y (.lstore_n 0) n pc L (.long x :: S) σ = none := (show pm_stL (pc + n) L (.long x :: S) σ 0 = none from if_neg h)
    rw [pm_stepF e]; simp only [h, false_and]
theorem w_lstore1 {x : Int64} : pm_WL P d y pc ((.lstore_n 1, n) :: r) L (.long x :: S) σ Q = (1 + 1 < L.length ∧ pm_WL P d y (pc + n) r (pm_lset2 L 1 (.long x)) S σ Q) := by
  by_cases h : 1 + 1 < L.length
  · have e : pm_stp P y (.lstore_n 1) n pc L (.long x :: S) σ = some (.inl (pc + n, pm_lset2 L 1 (.long x), S, σ)) := (show pm_stL (pc + n) L (.long x :: S) σ 1 = some (.inl (pc + n, pm_lset2 L 1 (.long x), S, σ)) from if_pos h)
    rw [pm_stepN e rfl]; simp only [h, true_and]
  · have e : pm_stp P y (.lstore_n 1) n pc L (.long x :: S) σ = none := (show pm_stL (pc + n) L (.long x :: S) σ 1 = none from if_neg h)
    rw [pm_stepF e]; simp only [h, false_and]
theorem w_lstore2 {x : Int64} : pm_WL P d y pc ((.lstore_n 2, n) :: r) L (.long x :: S) σ Q = (2 + 1 < L.length ∧ pm_WL P d y (pc + n) r (pm_lset2 L 2 (.long x)) S σ Q) := by
  by_cases h : 2 + 1 < L.length
  · have e : pm_stp P y (.lstore_n 2) n pc L (.long x :: S) σ = some (.inl (pc + n, pm_lset2 L 2 (.long x), S, σ)) := (show pm_stL (pc + n) L (.long x :: S) σ 2 = some (.inl (pc + n, pm_lset2 L 2 (.long x), S, σ)) from if_pos h)
    rw [pm_stepN e rfl]; simp only [h, true_and]
  · have e : pm_stp P y (.lstore_n 2) n pc L (.long x :: S) σ = none := (show pm_stL (pc + n) L (.long x :: S) σ 2 = none from if_neg h)
    rw [pm_stepF e]; simp only [h, false_and]
theorem w_lstore3 {x : Int64} : pm_WL P d y pc ((.lstore_n 3, n) :: r) L (.long x :: S) σ Q = (3 + 1 < L.length ∧ pm_WL P d y (pc + n) r (pm_lset2 L 3 (.long x)) S σ Q) := by
  by_cases h : 3 + 1 < L.length
  · have e : pm_stp P y (.lstore_n 3) n pc L (.long x :: S) σ = some (.inl (pc + n, pm_lset2 L 3 (.long x), S, σ)) := (show pm_stL (pc + n) L (.long x :: S) σ 3 = some (.inl (pc + n, pm_lset2 L 3 (.long x), S, σ)) from if_pos h)
    rw [pm_stepN e rfl]; simp only [h, true_and]
  · have e : pm_stp P y (.lstore_n 3) n pc L (.long x :: S) σ = none := (show pm_stL (pc + n) L (.long x :: S) σ 3 = none from if_neg h)
    rw [pm_stepF e]; simp only [h, false_and]
theorem w_iinc {k : Nat} {v : Int} : pm_WL P d y pc ((.iinc k v, n) :: r) L (S) σ Q = (pm_oI (pm_lget L k) fun x => k < L.length ∧ pm_WL P d y (pc + n) r (pm_lset L k (.int (x + Int32.ofInt v))) S σ Q) := by
  cases h : pm_lget L k with
  | none => exact pm_stepF (i := .iinc k v) (show (match pm_lget L k with | some (.int x) => _ | _ => none) = none by rw [h])
  | some w =>
    cases w with
    | int x =>
      rw [pm_oI_s]
      by_cases hk : k < L.length
      · have e : pm_stp P y (.iinc k v) n pc L (S) σ = some (.inl (pc + n, pm_lset L k (.int (x + Int32.ofInt v)), S, σ)) := (show (match pm_lget L k with | some (.int x) => if k < L.length then pm_nx (pc + n) (pm_lset L k (.int (x + Int32.ofInt v))) S σ else none | _ => none) = some (.inl (pc + n, pm_lset L k (.int (x + Int32.ofInt v)), S, σ)) by rw [h]; exact if_pos hk)
        rw [pm_stepN e rfl]; simp only [hk, true_and]
      · have e : pm_stp P y (.iinc k v) n pc L (S) σ = none := (show (match pm_lget L k with | some (.int x) => if k < L.length then pm_nx (pc + n) (pm_lset L k (.int (x + Int32.ofInt v))) S σ else none | _ => none) = none by rw [h]; exact if_neg hk)
        rw [pm_stepF e]; simp only [hk, false_and]
    | _ => exact pm_stepF (i := .iinc k v) (show (match pm_lget L k with | some (.int x) => _ | _ => none) = none by rw [h])
theorem w_iadd {x z : Int32} : pm_WL P d y pc ((.iadd, n) :: r) L (.int z :: .int x :: S) σ Q = (pm_WL P d y (pc + n) r L (.int (x + z) :: S) σ Q) := pm_stepN rfl rfl
theorem w_isub {x z : Int32} : pm_WL P d y pc ((.isub, n) :: r) L (.int z :: .int x :: S) σ Q = (pm_WL P d y (pc + n) r L (.int (x - z) :: S) σ Q) := pm_stepN rfl rfl
theorem w_imul {x z : Int32} : pm_WL P d y pc ((.imul, n) :: r) L (.int z :: .int x :: S) σ Q = (pm_WL P d y (pc + n) r L (.int (x * z) :: S) σ Q) := pm_stepN rfl rfl
theorem w_iand {x z : Int32} : pm_WL P d y pc ((.iand, n) :: r) L (.int z :: .int x :: S) σ Q = (pm_WL P d y (pc + n) r L (.int (x &&& z) :: S) σ Q) := pm_stepN rfl rfl
theorem w_ior {x z : Int32} : pm_WL P d y pc ((.ior, n) :: r) L (.int z :: .int x :: S) σ Q = (pm_WL P d y (pc + n) r L (.int (x ||| z) :: S) σ Q) := pm_stepN rfl rfl
theorem w_ixor {x z : Int32} : pm_WL P d y pc ((.ixor, n) :: r) L (.int z :: .int x :: S) σ Q = (pm_WL P d y (pc + n) r L (.int (x ^^^ z) :: S) σ Q) := pm_stepN rfl rfl
theorem w_ishl {x z : Int32} : pm_WL P d y pc ((.ishl, n) :: r) L (.int z :: .int x :: S) σ Q = (pm_WL P d y (pc + n) r L (.int (x <<< (z &&& 31)) :: S) σ Q) := pm_stepN rfl rfl
theorem w_ishr {x z : Int32} : pm_WL P d y pc ((.ishr, n) :: r) L (.int z :: .int x :: S) σ Q = (pm_WL P d y (pc + n) r L (.int (x >>> (z &&& 31)) :: S) σ Q) := pm_stepN rfl rfl
theorem w_iushr {x z : Int32} : pm_WL P d y pc ((.iushr, n) :: r) L (.int z :: .int x :: S) σ Q = (pm_WL P d y (pc + n) r L (.int ((x.toUInt32 >>> (z.toUInt32 &&& Int32.toUInt32 31)).toInt32) :: S) σ Q) := pm_stepN rfl rfl
theorem w_ladd {x z : Int64} : pm_WL P d y pc ((.ladd, n) :: r) L (.long z :: .long x :: S) σ Q = (pm_WL P d y (pc + n) r L (.long (x + z) :: S) σ Q) := pm_stepN rfl rfl
theorem w_lmul {x z : Int64} : pm_WL P d y pc ((.lmul, n) :: r) L (.long z :: .long x :: S) σ Q = (pm_WL P d y (pc + n) r L (.long (x * z) :: S) σ Q) := pm_stepN rfl rfl
theorem w_idiv {x z : Int32} : pm_WL P d y pc ((.idiv, n) :: r) L (.int z :: .int x :: S) σ Q = (¬ z = 0 ∧ pm_WL P d y (pc + n) r L (.int (x / z) :: S) σ Q) := by
  by_cases h : ¬ z = 0
  · have e : pm_stp P y (.idiv) n pc L (.int z :: .int x :: S) σ = some (.inl (pc + n, L, .int (x / z) :: S, σ)) := (show (if ¬ z = 0 then pm_nx (pc + n) L (.int (x / z) :: S) σ else none) = some (.inl (pc + n, L, .int (x / z) :: S, σ)) from if_pos h)
    rw [pm_stepN e rfl]; simp only [h, not_false_eq_true, true_and]
  · have e : pm_stp P y (.idiv) n pc L (.int z :: .int x :: S) σ = none := (show (if ¬ z = 0 then pm_nx (pc + n) L (.int (x / z) :: S) σ else none) = none from if_neg h)
    rw [pm_stepF e]; simp only [h, false_and]
theorem w_irem {x z : Int32} : pm_WL P d y pc ((.irem, n) :: r) L (.int z :: .int x :: S) σ Q = (¬ z = 0 ∧ pm_WL P d y (pc + n) r L (.int (x - x / z * z) :: S) σ Q) := by
  by_cases h : ¬ z = 0
  · have e : pm_stp P y (.irem) n pc L (.int z :: .int x :: S) σ = some (.inl (pc + n, L, .int (x - x / z * z) :: S, σ)) := (show (if ¬ z = 0 then pm_nx (pc + n) L (.int (x - x / z * z) :: S) σ else none) = some (.inl (pc + n, L, .int (x - x / z * z) :: S, σ)) from if_pos h)
    rw [pm_stepN e rfl]; simp only [h, not_false_eq_true, true_and]
  · have e : pm_stp P y (.irem) n pc L (.int z :: .int x :: S) σ = none := (show (if ¬ z = 0 then pm_nx (pc + n) L (.int (x - x / z * z) :: S) σ else none) = none from if_neg h)
    rw [pm_stepF e]; simp only [h, false_and]
theorem w_ldiv {x z : Int64} : pm_WL P d y pc ((.ldiv, n) :: r) L (.long z :: .long x :: S) σ Q = (¬ z = 0 ∧ pm_WL P d y (pc + n) r L (.long (x / z) :: S) σ Q) := by
  by_cases h : ¬ z = 0
  · have e : pm_stp P y (.ldiv) n pc L (.long z :: .long x :: S) σ = some (.inl (pc + n, L, .long (x / z) :: S, σ)) := (show (if ¬ z = 0 then pm_nx (pc + n) L (.long (x / z) :: S) σ else none) = some (.inl (pc + n, L, .long (x / z) :: S, σ)) from if_pos h)
    rw [pm_stepN e rfl]; simp only [h, not_false_eq_true, true_and]
  · have e : pm_stp P y (.ldiv) n pc L (.long z :: .long x :: S) σ = none := (show (if ¬ z = 0 then pm_nx (pc + n) L (.long (x / z) :: S) σ else none) = none from if_neg h)
    rw [pm_stepF e]; simp only [h, false_and]
theorem w_lrem {x z : Int64} : pm_WL P d y pc ((.lrem, n) :: r) L (.long z :: .long x :: S) σ Q = (¬ z = 0 ∧ pm_WL P d y (pc + n) r L (.long (x - x / z * z) :: S) σ Q) := by
  by_cases h : ¬ z = 0
  · have e : pm_stp P y (.lrem) n pc L (.long z :: .long x :: S) σ = some (.inl (pc + n, L, .long (x - x / z * z) :: S, σ)) := (show (if ¬ z = 0 then pm_nx (pc + n) L (.long (x - x / z * z) :: S) σ else none) = some (.inl (pc + n, L, .long (x - x / z * z) :: S, σ)) from if_pos h)
    rw [pm_stepN e rfl]; simp only [h, not_false_eq_true, true_and]
  · have e : pm_stp P y (.lrem) n pc L (.long z :: .long x :: S) σ = none := (show (if ¬ z = 0 then pm_nx (pc + n) L (.long (x - x / z * z) :: S) σ else none) = none from if_neg h)
    rw [pm_stepF e]; simp only [h, false_and]
theorem w_ineg {x : Int32} : pm_WL P d y pc ((.ineg, n) :: r) L (.int x :: S) σ Q = (pm_WL P d y (pc + n) r L (.int (-x) :: S) σ Q) := pm_stepN rfl rfl
theorem w_lneg {x : Int64} : pm_WL P d y pc ((.lneg, n) :: r) L (.long x :: S) σ Q = (pm_WL P d y (pc + n) r L (.long (-x) :: S) σ Q) := pm_stepN rfl rfl
theorem w_i2l {x : Int32} : pm_WL P d y pc ((.i2l, n) :: r) L (.int x :: S) σ Q = (pm_WL P d y (pc + n) r L (.long x.toInt64 :: S) σ Q) := pm_stepN rfl rfl
theorem w_lcmp {x z : Int64} : pm_WL P d y pc ((.lcmp, n) :: r) L (.long z :: .long x :: S) σ Q = (pm_WL P d y (pc + n) r L (.int (lg_cmp x z) :: S) σ Q) := pm_stepN rfl rfl
theorem w_dupi {x : Int32} : pm_WL P d y pc ((.dup, n) :: r) L (.int x :: S) σ Q = (pm_WL P d y (pc + n) r L (.int x :: .int x :: S) σ Q) := pm_stepN rfl rfl
theorem w_dupa {x : Nat} : pm_WL P d y pc ((.dup, n) :: r) L (.ref x :: S) σ Q = (pm_WL P d y (pc + n) r L (.ref x :: .ref x :: S) σ Q) := pm_stepN rfl rfl
theorem w_dup2i {x z : Int32} : pm_WL P d y pc ((.dup2, n) :: r) L (.int x :: .int z :: S) σ Q = (pm_WL P d y (pc + n) r L (.int x :: .int z :: .int x :: .int z :: S) σ Q) := pm_stepN rfl rfl
theorem w_dup2a {x : Int32} {z : Nat} : pm_WL P d y pc ((.dup2, n) :: r) L (.int x :: .ref z :: S) σ Q = (pm_WL P d y (pc + n) r L (.int x :: .ref z :: .int x :: .ref z :: S) σ Q) := pm_stepN rfl rfl
theorem w_popi {x : Int32} : pm_WL P d y pc ((.pop, n) :: r) L (.int x :: S) σ Q = (pm_WL P d y (pc + n) r L (S) σ Q) := pm_stepN rfl rfl
theorem w_popa {x : Nat} : pm_WL P d y pc ((.pop, n) :: r) L (.ref x :: S) σ Q = (pm_WL P d y (pc + n) r L (S) σ Q) := pm_stepN rfl rfl
theorem w_goto {o : Int} : pm_WL P d y pc ((.goto o, n) :: r) L (S) σ Q = (0 ≤ (pc : Int) + o ∧ pm_W P d y (pm_tgt pc o) L S σ Q) := by
  by_cases h : 0 ≤ (pc : Int) + o
  · have e : pm_stp P y (.goto o) n pc L (S) σ = some (.inl (pm_tgt pc o, L, S, σ)) := (show (if 0 ≤ (pc : Int) + o then pm_nx (pm_tgt pc o) L S σ else none) = some (.inl (pm_tgt pc o, L, S, σ)) from if_pos h)
    rw [pm_stepJ e rfl]; simp only [h, true_and]
  · have e : pm_stp P y (.goto o) n pc L (S) σ = none := (show (if 0 ≤ (pc : Int) + o then pm_nx (pm_tgt pc o) L S σ else none) = none from if_neg h)
    rw [pm_stepF e]; simp only [h, false_and]
theorem w_if_eq {o : Int} {x : Int32} : pm_WL P d y pc ((.ifCond .eq o, n) :: r) L (.int x :: S) σ Q = (0 ≤ (pc : Int) + o ∧ (if x = 0 then pm_W P d y (pm_tgt pc o) L S σ Q else pm_W P d y (pc + n) L S σ Q)) := by
  by_cases h : 0 ≤ (pc : Int) + o
  · by_cases hc : x = 0
    · have e : pm_stp P y (.ifCond .eq o) n pc L (.int x :: S) σ = some (.inl (pm_tgt pc o, L, S, σ)) := by show (if 0 ≤ (pc : Int) + o then (if pm_cnd .eq x 0 = true then pm_nx (pm_tgt pc o) L S σ else pm_nx (pc + n) L S σ) else none) = _; rw [if_pos h, if_pos (show pm_cnd .eq x 0 = true from decide_eq_true hc)]; rfl
      rw [pm_stepJ e rfl, if_pos hc]; simp only [h, true_and]
    · have e : pm_stp P y (.ifCond .eq o) n pc L (.int x :: S) σ = some (.inl (pc + n, L, S, σ)) := by show (if 0 ≤ (pc : Int) + o then (if pm_cnd .eq x 0 = true then pm_nx (pm_tgt pc o) L S σ else pm_nx (pc + n) L S σ) else none) = _; rw [if_pos h, if_neg (show ¬ pm_cnd .eq x 0 = true from fun q => hc (of_decide_eq_true q))]; rfl
      rw [pm_stepJ e rfl, if_neg hc]; simp only [h, true_and]
  · have e : pm_stp P y (.ifCond .eq o) n pc L (.int x :: S) σ = none := by show (if 0 ≤ (pc : Int) + o then (if pm_cnd .eq x 0 = true then pm_nx (pm_tgt pc o) L S σ else pm_nx (pc + n) L S σ) else none) = _; exact if_neg h
    rw [pm_stepF e]; simp only [h, false_and]
theorem w_icmp_eq {o : Int} {x z : Int32} : pm_WL P d y pc ((.if_icmp .eq o, n) :: r) L (.int z :: .int x :: S) σ Q = (0 ≤ (pc : Int) + o ∧ (if x = z then pm_W P d y (pm_tgt pc o) L S σ Q else pm_W P d y (pc + n) L S σ Q)) := by
  by_cases h : 0 ≤ (pc : Int) + o
  · by_cases hc : x = z
    · have e : pm_stp P y (.if_icmp .eq o) n pc L (.int z :: .int x :: S) σ = some (.inl (pm_tgt pc o, L, S, σ)) := by show (if 0 ≤ (pc : Int) + o then (if pm_cnd .eq x z = true then pm_nx (pm_tgt pc o) L S σ else pm_nx (pc + n) L S σ) else none) = _; rw [if_pos h, if_pos (show pm_cnd .eq x z = true from decide_eq_true hc)]; rfl
      rw [pm_stepJ e rfl, if_pos hc]; simp only [h, true_and]
    · have e : pm_stp P y (.if_icmp .eq o) n pc L (.int z :: .int x :: S) σ = some (.inl (pc + n, L, S, σ)) := by show (if 0 ≤ (pc : Int) + o then (if pm_cnd .eq x z = true then pm_nx (pm_tgt pc o) L S σ else pm_nx (pc + n) L S σ) else none) = _; rw [if_pos h, if_neg (show ¬ pm_cnd .eq x z = true from fun q => hc (of_decide_eq_true q))]; rfl
      rw [pm_stepJ e rfl, if_neg hc]; simp only [h, true_and]
  · have e : pm_stp P y (.if_icmp .eq o) n pc L (.int z :: .int x :: S) σ = none := by show (if 0 ≤ (pc : Int) + o then (if pm_cnd .eq x z = true then pm_nx (pm_tgt pc o) L S σ else pm_nx (pc + n) L S σ) else none) = _; exact if_neg h
    rw [pm_stepF e]; simp only [h, false_and]
theorem w_if_ne {o : Int} {x : Int32} : pm_WL P d y pc ((.ifCond .ne o, n) :: r) L (.int x :: S) σ Q = (0 ≤ (pc : Int) + o ∧ (if ¬ x = 0 then pm_W P d y (pm_tgt pc o) L S σ Q else pm_W P d y (pc + n) L S σ Q)) := by
  by_cases h : 0 ≤ (pc : Int) + o
  · by_cases hc : ¬ x = 0
    · have e : pm_stp P y (.ifCond .ne o) n pc L (.int x :: S) σ = some (.inl (pm_tgt pc o, L, S, σ)) := by show (if 0 ≤ (pc : Int) + o then (if pm_cnd .ne x 0 = true then pm_nx (pm_tgt pc o) L S σ else pm_nx (pc + n) L S σ) else none) = _; rw [if_pos h, if_pos (show pm_cnd .ne x 0 = true from decide_eq_true hc)]; rfl
      rw [pm_stepJ e rfl, if_pos hc]; simp only [h, true_and]
    · have e : pm_stp P y (.ifCond .ne o) n pc L (.int x :: S) σ = some (.inl (pc + n, L, S, σ)) := by show (if 0 ≤ (pc : Int) + o then (if pm_cnd .ne x 0 = true then pm_nx (pm_tgt pc o) L S σ else pm_nx (pc + n) L S σ) else none) = _; rw [if_pos h, if_neg (show ¬ pm_cnd .ne x 0 = true from fun q => hc (of_decide_eq_true q))]; rfl
      rw [pm_stepJ e rfl, if_neg hc]; simp only [h, true_and]
  · have e : pm_stp P y (.ifCond .ne o) n pc L (.int x :: S) σ = none := by show (if 0 ≤ (pc : Int) + o then (if pm_cnd .ne x 0 = true then pm_nx (pm_tgt pc o) L S σ else pm_nx (pc + n) L S σ) else none) = _; exact if_neg h
    rw [pm_stepF e]; simp only [h, false_and]
theorem w_icmp_ne {o : Int} {x z : Int32} : pm_WL P d y pc ((.if_icmp .ne o, n) :: r) L (.int z :: .int x :: S) σ Q = (0 ≤ (pc : Int) + o ∧ (if ¬ x = z then pm_W P d y (pm_tgt pc o) L S σ Q else pm_W P d y (pc + n) L S σ Q)) := by
  by_cases h : 0 ≤ (pc : Int) + o
  · by_cases hc : ¬ x = z
    · have e : pm_stp P y (.if_icmp .ne o) n pc L (.int z :: .int x :: S) σ = some (.inl (pm_tgt pc o, L, S, σ)) := by show (if 0 ≤ (pc : Int) + o then (if pm_cnd .ne x z = true then pm_nx (pm_tgt pc o) L S σ else pm_nx (pc + n) L S σ) else none) = _; rw [if_pos h, if_pos (show pm_cnd .ne x z = true from decide_eq_true hc)]; rfl
      rw [pm_stepJ e rfl, if_pos hc]; simp only [h, true_and]
    · have e : pm_stp P y (.if_icmp .ne o) n pc L (.int z :: .int x :: S) σ = some (.inl (pc + n, L, S, σ)) := by show (if 0 ≤ (pc : Int) + o then (if pm_cnd .ne x z = true then pm_nx (pm_tgt pc o) L S σ else pm_nx (pc + n) L S σ) else none) = _; rw [if_pos h, if_neg (show ¬ pm_cnd .ne x z = true from fun q => hc (of_decide_eq_true q))]; rfl
      rw [pm_stepJ e rfl, if_neg hc]; simp only [h, true_and]
  · have e : pm_stp P y (.if_icmp .ne o) n pc L (.int z :: .int x :: S) σ = none := by show (if 0 ≤ (pc : Int) + o then (if pm_cnd .ne x z = true then pm_nx (pm_tgt pc o) L S σ else pm_nx (pc + n) L S σ) else none) = _; exact if_neg h
    rw [pm_stepF e]; simp only [h, false_and]
theorem w_if_lt {o : Int} {x : Int32} : pm_WL P d y pc ((.ifCond .lt o, n) :: r) L (.int x :: S) σ Q = (0 ≤ (pc : Int) + o ∧ (if x < 0 then pm_W P d y (pm_tgt pc o) L S σ Q else pm_W P d y (pc + n) L S σ Q)) := by
  by_cases h : 0 ≤ (pc : Int) + o
  · by_cases hc : x < 0
    · have e : pm_stp P y (.ifCond .lt o) n pc L (.int x :: S) σ = some (.inl (pm_tgt pc o, L, S, σ)) := by show (if 0 ≤ (pc : Int) + o then (if pm_cnd .lt x 0 = true then pm_nx (pm_tgt pc o) L S σ else pm_nx (pc + n) L S σ) else none) = _; rw [if_pos h, if_pos (show pm_cnd .lt x 0 = true from decide_eq_true hc)]; rfl
      rw [pm_stepJ e rfl, if_pos hc]; simp only [h, true_and]
    · have e : pm_stp P y (.ifCond .lt o) n pc L (.int x :: S) σ = some (.inl (pc + n, L, S, σ)) := by show (if 0 ≤ (pc : Int) + o then (if pm_cnd .lt x 0 = true then pm_nx (pm_tgt pc o) L S σ else pm_nx (pc + n) L S σ) else none) = _; rw [if_pos h, if_neg (show ¬ pm_cnd .lt x 0 = true from fun q => hc (of_decide_eq_true q))]; rfl
      rw [pm_stepJ e rfl, if_neg hc]; simp only [h, true_and]
  · have e : pm_stp P y (.ifCond .lt o) n pc L (.int x :: S) σ = none := by show (if 0 ≤ (pc : Int) + o then (if pm_cnd .lt x 0 = true then pm_nx (pm_tgt pc o) L S σ else pm_nx (pc + n) L S σ) else none) = _; exact if_neg h
    rw [pm_stepF e]; simp only [h, false_and]
theorem w_icmp_lt {o : Int} {x z : Int32} : pm_WL P d y pc ((.if_icmp .lt o, n) :: r) L (.int z :: .int x :: S) σ Q = (0 ≤ (pc : Int) + o ∧ (if x < z then pm_W P d y (pm_tgt pc o) L S σ Q else pm_W P d y (pc + n) L S σ Q)) := by
  by_cases h : 0 ≤ (pc : Int) + o
  · by_cases hc : x < z
    · have e : pm_stp P y (.if_icmp .lt o) n pc L (.int z :: .int x :: S) σ = some (.inl (pm_tgt pc o, L, S, σ)) := by show (if 0 ≤ (pc : Int) + o then (if pm_cnd .lt x z = true then pm_nx (pm_tgt pc o) L S σ else pm_nx (pc + n) L S σ) else none) = _; rw [if_pos h, if_pos (show pm_cnd .lt x z = true from decide_eq_true hc)]; rfl
      rw [pm_stepJ e rfl, if_pos hc]; simp only [h, true_and]
    · have e : pm_stp P y (.if_icmp .lt o) n pc L (.int z :: .int x :: S) σ = some (.inl (pc + n, L, S, σ)) := by show (if 0 ≤ (pc : Int) + o then (if pm_cnd .lt x z = true then pm_nx (pm_tgt pc o) L S σ else pm_nx (pc + n) L S σ) else none) = _; rw [if_pos h, if_neg (show ¬ pm_cnd .lt x z = true from fun q => hc (of_decide_eq_true q))]; rfl
      rw [pm_stepJ e rfl, if_neg hc]; simp only [h, true_and]
  · have e : pm_stp P y (.if_icmp .lt o) n pc L (.int z :: .int x :: S) σ = none := by show (if 0 ≤ (pc : Int) + o then (if pm_cnd .lt x z = true then pm_nx (pm_tgt pc o) L S σ else pm_nx (pc + n) L S σ) else none) = _; exact if_neg h
    rw [pm_stepF e]; simp only [h, false_and]
theorem w_if_ge {o : Int} {x : Int32} : pm_WL P d y pc ((.ifCond .ge o, n) :: r) L (.int x :: S) σ Q = (0 ≤ (pc : Int) + o ∧ (if 0 ≤ x then pm_W P d y (pm_tgt pc o) L S σ Q else pm_W P d y (pc + n) L S σ Q)) := by
  by_cases h : 0 ≤ (pc : Int) + o
  · by_cases hc : 0 ≤ x
    · have e : pm_stp P y (.ifCond .ge o) n pc L (.int x :: S) σ = some (.inl (pm_tgt pc o, L, S, σ)) := by show (if 0 ≤ (pc : Int) + o then (if pm_cnd .ge x 0 = true then pm_nx (pm_tgt pc o) L S σ else pm_nx (pc + n) L S σ) else none) = _; rw [if_pos h, if_pos (show pm_cnd .ge x 0 = true from decide_eq_true hc)]; rfl
      rw [pm_stepJ e rfl, if_pos hc]; simp only [h, true_and]
    · have e : pm_stp P y (.ifCond .ge o) n pc L (.int x :: S) σ = some (.inl (pc + n, L, S, σ)) := by show (if 0 ≤ (pc : Int) + o then (if pm_cnd .ge x 0 = true then pm_nx (pm_tgt pc o) L S σ else pm_nx (pc + n) L S σ) else none) = _; rw [if_pos h, if_neg (show ¬ pm_cnd .ge x 0 = true from fun q => hc (of_decide_eq_true q))]; rfl
      rw [pm_stepJ e rfl, if_neg hc]; simp only [h, true_and]
  · have e : pm_stp P y (.ifCond .ge o) n pc L (.int x :: S) σ = none := by show (if 0 ≤ (pc : Int) + o then (if pm_cnd .ge x 0 = true then pm_nx (pm_tgt pc o) L S σ else pm_nx (pc + n) L S σ) else none) = _; exact if_neg h
    rw [pm_stepF e]; simp only [h, false_and]
theorem w_icmp_ge {o : Int} {x z : Int32} : pm_WL P d y pc ((.if_icmp .ge o, n) :: r) L (.int z :: .int x :: S) σ Q = (0 ≤ (pc : Int) + o ∧ (if z ≤ x then pm_W P d y (pm_tgt pc o) L S σ Q else pm_W P d y (pc + n) L S σ Q)) := by
  by_cases h : 0 ≤ (pc : Int) + o
  · by_cases hc : z ≤ x
    · have e : pm_stp P y (.if_icmp .ge o) n pc L (.int z :: .int x :: S) σ = some (.inl (pm_tgt pc o, L, S, σ)) := by show (if 0 ≤ (pc : Int) + o then (if pm_cnd .ge x z = true then pm_nx (pm_tgt pc o) L S σ else pm_nx (pc + n) L S σ) else none) = _; rw [if_pos h, if_pos (show pm_cnd .ge x z = true from decide_eq_true hc)]; rfl
      rw [pm_stepJ e rfl, if_pos hc]; simp only [h, true_and]
    · have e : pm_stp P y (.if_icmp .ge o) n pc L (.int z :: .int x :: S) σ = some (.inl (pc + n, L, S, σ)) := by show (if 0 ≤ (pc : Int) + o then (if pm_cnd .ge x z = true then pm_nx (pm_tgt pc o) L S σ else pm_nx (pc + n) L S σ) else none) = _; rw [if_pos h, if_neg (show ¬ pm_cnd .ge x z = true from fun q => hc (of_decide_eq_true q))]; rfl
      rw [pm_stepJ e rfl, if_neg hc]; simp only [h, true_and]
  · have e : pm_stp P y (.if_icmp .ge o) n pc L (.int z :: .int x :: S) σ = none := by show (if 0 ≤ (pc : Int) + o then (if pm_cnd .ge x z = true then pm_nx (pm_tgt pc o) L S σ else pm_nx (pc + n) L S σ) else none) = _; exact if_neg h
    rw [pm_stepF e]; simp only [h, false_and]
theorem w_if_gt {o : Int} {x : Int32} : pm_WL P d y pc ((.ifCond .gt o, n) :: r) L (.int x :: S) σ Q = (0 ≤ (pc : Int) + o ∧ (if 0 < x then pm_W P d y (pm_tgt pc o) L S σ Q else pm_W P d y (pc + n) L S σ Q)) := by
  by_cases h : 0 ≤ (pc : Int) + o
  · by_cases hc : 0 < x
    · have e : pm_stp P y (.ifCond .gt o) n pc L (.int x :: S) σ = some (.inl (pm_tgt pc o, L, S, σ)) := by show (if 0 ≤ (pc : Int) + o then (if pm_cnd .gt x 0 = true then pm_nx (pm_tgt pc o) L S σ else pm_nx (pc + n) L S σ) else none) = _; rw [if_pos h, if_pos (show pm_cnd .gt x 0 = true from decide_eq_true hc)]; rfl
      rw [pm_stepJ e rfl, if_pos hc]; simp only [h, true_and]
    · have e : pm_stp P y (.ifCond .gt o) n pc L (.int x :: S) σ = some (.inl (pc + n, L, S, σ)) := by show (if 0 ≤ (pc : Int) + o then (if pm_cnd .gt x 0 = true then pm_nx (pm_tgt pc o) L S σ else pm_nx (pc + n) L S σ) else none) = _; rw [if_pos h, if_neg (show ¬ pm_cnd .gt x 0 = true from fun q => hc (of_decide_eq_true q))]; rfl
      rw [pm_stepJ e rfl, if_neg hc]; simp only [h, true_and]
  · have e : pm_stp P y (.ifCond .gt o) n pc L (.int x :: S) σ = none := by show (if 0 ≤ (pc : Int) + o then (if pm_cnd .gt x 0 = true then pm_nx (pm_tgt pc o) L S σ else pm_nx (pc + n) L S σ) else none) = _; exact if_neg h
    rw [pm_stepF e]; simp only [h, false_and]
theorem w_icmp_gt {o : Int} {x z : Int32} : pm_WL P d y pc ((.if_icmp .gt o, n) :: r) L (.int z :: .int x :: S) σ Q = (0 ≤ (pc : Int) + o ∧ (if z < x then pm_W P d y (pm_tgt pc o) L S σ Q else pm_W P d y (pc + n) L S σ Q)) := by
  by_cases h : 0 ≤ (pc : Int) + o
  · by_cases hc : z < x
    · have e : pm_stp P y (.if_icmp .gt o) n pc L (.int z :: .int x :: S) σ = some (.inl (pm_tgt pc o, L, S, σ)) := by show (if 0 ≤ (pc : Int) + o then (if pm_cnd .gt x z = true then pm_nx (pm_tgt pc o) L S σ else pm_nx (pc + n) L S σ) else none) = _; rw [if_pos h, if_pos (show pm_cnd .gt x z = true from decide_eq_true hc)]; rfl
      rw [pm_stepJ e rfl, if_pos hc]; simp only [h, true_and]
    · have e : pm_stp P y (.if_icmp .gt o) n pc L (.int z :: .int x :: S) σ = some (.inl (pc + n, L, S, σ)) := by show (if 0 ≤ (pc : Int) + o then (if pm_cnd .gt x z = true then pm_nx (pm_tgt pc o) L S σ else pm_nx (pc + n) L S σ) else none) = _; rw [if_pos h, if_neg (show ¬ pm_cnd .gt x z = true from fun q => hc (of_decide_eq_true q))]; rfl
      rw [pm_stepJ e rfl, if_neg hc]; simp only [h, true_and]
  · have e : pm_stp P y (.if_icmp .gt o) n pc L (.int z :: .int x :: S) σ = none := by show (if 0 ≤ (pc : Int) + o then (if pm_cnd .gt x z = true then pm_nx (pm_tgt pc o) L S σ else pm_nx (pc + n) L S σ) else none) = _; exact if_neg h
    rw [pm_stepF e]; simp only [h, false_and]
theorem w_if_le {o : Int} {x : Int32} : pm_WL P d y pc ((.ifCond .le o, n) :: r) L (.int x :: S) σ Q = (0 ≤ (pc : Int) + o ∧ (if x ≤ 0 then pm_W P d y (pm_tgt pc o) L S σ Q else pm_W P d y (pc + n) L S σ Q)) := by
  by_cases h : 0 ≤ (pc : Int) + o
  · by_cases hc : x ≤ 0
    · have e : pm_stp P y (.ifCond .le o) n pc L (.int x :: S) σ = some (.inl (pm_tgt pc o, L, S, σ)) := by show (if 0 ≤ (pc : Int) + o then (if pm_cnd .le x 0 = true then pm_nx (pm_tgt pc o) L S σ else pm_nx (pc + n) L S σ) else none) = _; rw [if_pos h, if_pos (show pm_cnd .le x 0 = true from decide_eq_true hc)]; rfl
      rw [pm_stepJ e rfl, if_pos hc]; simp only [h, true_and]
    · have e : pm_stp P y (.ifCond .le o) n pc L (.int x :: S) σ = some (.inl (pc + n, L, S, σ)) := by show (if 0 ≤ (pc : Int) + o then (if pm_cnd .le x 0 = true then pm_nx (pm_tgt pc o) L S σ else pm_nx (pc + n) L S σ) else none) = _; rw [if_pos h, if_neg (show ¬ pm_cnd .le x 0 = true from fun q => hc (of_decide_eq_true q))]; rfl
      rw [pm_stepJ e rfl, if_neg hc]; simp only [h, true_and]
  · have e : pm_stp P y (.ifCond .le o) n pc L (.int x :: S) σ = none := by show (if 0 ≤ (pc : Int) + o then (if pm_cnd .le x 0 = true then pm_nx (pm_tgt pc o) L S σ else pm_nx (pc + n) L S σ) else none) = _; exact if_neg h
    rw [pm_stepF e]; simp only [h, false_and]
theorem w_icmp_le {o : Int} {x z : Int32} : pm_WL P d y pc ((.if_icmp .le o, n) :: r) L (.int z :: .int x :: S) σ Q = (0 ≤ (pc : Int) + o ∧ (if x ≤ z then pm_W P d y (pm_tgt pc o) L S σ Q else pm_W P d y (pc + n) L S σ Q)) := by
  by_cases h : 0 ≤ (pc : Int) + o
  · by_cases hc : x ≤ z
    · have e : pm_stp P y (.if_icmp .le o) n pc L (.int z :: .int x :: S) σ = some (.inl (pm_tgt pc o, L, S, σ)) := by show (if 0 ≤ (pc : Int) + o then (if pm_cnd .le x z = true then pm_nx (pm_tgt pc o) L S σ else pm_nx (pc + n) L S σ) else none) = _; rw [if_pos h, if_pos (show pm_cnd .le x z = true from decide_eq_true hc)]; rfl
      rw [pm_stepJ e rfl, if_pos hc]; simp only [h, true_and]
    · have e : pm_stp P y (.if_icmp .le o) n pc L (.int z :: .int x :: S) σ = some (.inl (pc + n, L, S, σ)) := by show (if 0 ≤ (pc : Int) + o then (if pm_cnd .le x z = true then pm_nx (pm_tgt pc o) L S σ else pm_nx (pc + n) L S σ) else none) = _; rw [if_pos h, if_neg (show ¬ pm_cnd .le x z = true from fun q => hc (of_decide_eq_true q))]; rfl
      rw [pm_stepJ e rfl, if_neg hc]; simp only [h, true_and]
  · have e : pm_stp P y (.if_icmp .le o) n pc L (.int z :: .int x :: S) σ = none := by show (if 0 ≤ (pc : Int) + o then (if pm_cnd .le x z = true then pm_nx (pm_tgt pc o) L S σ else pm_nx (pc + n) L S σ) else none) = _; exact if_neg h
    rw [pm_stepF e]; simp only [h, false_and]
theorem w_iaload {i : Int32} {k : Nat} : pm_WL P d y pc ((.iaload, n) :: r) L (.int i :: .ref k :: S) σ Q = (pm_oR (pm_hg σ k) fun t xs => (t ≠ 1 ∧ pm_inR i xs.length) ∧ pm_WL P d y (pc + n) r L (.int (pm_rd xs i) :: S) σ Q) := by
  cases hk : pm_hg σ k with
  | none => exact pm_stepF (show (match pm_hg σ k with | some (.inr (t, xs)) => if t ≠ 1 ∧ pm_inR i xs.length then pm_nx (pc + n) L (.int (pm_rd xs i) :: S) σ else none | _ => none) = none by rw [hk])
  | some q =>
    rcases q with q | ⟨t, xs⟩
    · exact pm_stepF (show (match pm_hg σ k with | some (.inr (t, xs)) => if t ≠ 1 ∧ pm_inR i xs.length then pm_nx (pc + n) L (.int (pm_rd xs i) :: S) σ else none | _ => none) = none by rw [hk])
    · rw [pm_oR_s]
      by_cases h : t ≠ 1 ∧ pm_inR i xs.length
      · have e : pm_stp P y (.iaload) n pc L (.int i :: .ref k :: S) σ = pm_nx (pc + n) L (.int (pm_rd xs i) :: S) σ := by show (match pm_hg σ k with | some (.inr (t, xs)) => if t ≠ 1 ∧ pm_inR i xs.length then pm_nx (pc + n) L (.int (pm_rd xs i) :: S) σ else none | _ => none) = _; rw [hk]; exact if_pos h
        rw [pm_stepN e rfl]; exact propext ⟨fun q => ⟨h, q⟩, fun q => q.2⟩
      · have e : pm_stp P y (.iaload) n pc L (.int i :: .ref k :: S) σ = none := by show (match pm_hg σ k with | some (.inr (t, xs)) => if t ≠ 1 ∧ pm_inR i xs.length then pm_nx (pc + n) L (.int (pm_rd xs i) :: S) σ else none | _ => none) = _; rw [hk]; exact if_neg h
        rw [pm_stepF e]; exact propext ⟨fun q => q.elim, fun q => h q.1⟩
theorem w_baload {i : Int32} {k : Nat} : pm_WL P d y pc ((.baload, n) :: r) L (.int i :: .ref k :: S) σ Q = (pm_oR (pm_hg σ k) fun t xs => (t = 1 ∧ pm_inR i xs.length) ∧ pm_WL P d y (pc + n) r L (.int (pm_rd xs i) :: S) σ Q) := by
  cases hk : pm_hg σ k with
  | none => exact pm_stepF (show (match pm_hg σ k with | some (.inr (t, xs)) => if t = 1 ∧ pm_inR i xs.length then pm_nx (pc + n) L (.int (pm_rd xs i) :: S) σ else none | _ => none) = none by rw [hk])
  | some q =>
    rcases q with q | ⟨t, xs⟩
    · exact pm_stepF (show (match pm_hg σ k with | some (.inr (t, xs)) => if t = 1 ∧ pm_inR i xs.length then pm_nx (pc + n) L (.int (pm_rd xs i) :: S) σ else none | _ => none) = none by rw [hk])
    · rw [pm_oR_s]
      by_cases h : t = 1 ∧ pm_inR i xs.length
      · have e : pm_stp P y (.baload) n pc L (.int i :: .ref k :: S) σ = pm_nx (pc + n) L (.int (pm_rd xs i) :: S) σ := by show (match pm_hg σ k with | some (.inr (t, xs)) => if t = 1 ∧ pm_inR i xs.length then pm_nx (pc + n) L (.int (pm_rd xs i) :: S) σ else none | _ => none) = _; rw [hk]; exact if_pos h
        rw [pm_stepN e rfl]; exact propext ⟨fun q => ⟨h, q⟩, fun q => q.2⟩
      · have e : pm_stp P y (.baload) n pc L (.int i :: .ref k :: S) σ = none := by show (match pm_hg σ k with | some (.inr (t, xs)) => if t = 1 ∧ pm_inR i xs.length then pm_nx (pc + n) L (.int (pm_rd xs i) :: S) σ else none | _ => none) = _; rw [hk]; exact if_neg h
        rw [pm_stepF e]; exact propext ⟨fun q => q.elim, fun q => h q.1⟩
theorem w_iastore {i x : Int32} {k : Nat} : pm_WL P d y pc ((.iastore, n) :: r) L (.int x :: .int i :: .ref k :: S) σ Q = (pm_oR (pm_hg σ k) fun t xs => (t = 0 ∧ pm_inR i xs.length) ∧ pm_WL P d y (pc + n) r L S (pm_hs σ k (.inr (0, pm_wr xs i x))) Q) := by
  cases hk : pm_hg σ k with
  | none => exact pm_stepF (show (match pm_hg σ k with | some (.inr (t, xs)) => if t = 0 ∧ pm_inR i xs.length then pm_nx (pc + n) L S (pm_hs σ k (.inr (0, pm_wr xs i x))) else none | _ => none) = none by rw [hk])
  | some q =>
    rcases q with q | ⟨t, xs⟩
    · exact pm_stepF (show (match pm_hg σ k with | some (.inr (t, xs)) => if t = 0 ∧ pm_inR i xs.length then pm_nx (pc + n) L S (pm_hs σ k (.inr (0, pm_wr xs i x))) else none | _ => none) = none by rw [hk])
    · rw [pm_oR_s]
      by_cases h : t = 0 ∧ pm_inR i xs.length
      · have e : pm_stp P y (.iastore) n pc L (.int x :: .int i :: .ref k :: S) σ = pm_nx (pc + n) L S (pm_hs σ k (.inr (0, pm_wr xs i x))) := by show (match pm_hg σ k with | some (.inr (t, xs)) => if t = 0 ∧ pm_inR i xs.length then pm_nx (pc + n) L S (pm_hs σ k (.inr (0, pm_wr xs i x))) else none | _ => none) = _; rw [hk]; exact if_pos h
        rw [pm_stepN e rfl]; exact propext ⟨fun q => ⟨h, q⟩, fun q => q.2⟩
      · have e : pm_stp P y (.iastore) n pc L (.int x :: .int i :: .ref k :: S) σ = none := by show (match pm_hg σ k with | some (.inr (t, xs)) => if t = 0 ∧ pm_inR i xs.length then pm_nx (pc + n) L S (pm_hs σ k (.inr (0, pm_wr xs i x))) else none | _ => none) = _; rw [hk]; exact if_neg h
        rw [pm_stepF e]; exact propext ⟨fun q => q.elim, fun q => h q.1⟩
theorem w_bastore {i x : Int32} {k : Nat} : pm_WL P d y pc ((.bastore, n) :: r) L (.int x :: .int i :: .ref k :: S) σ Q = (pm_oR (pm_hg σ k) fun t xs => (t = 1 ∧ pm_inR i xs.length ∧ pm_fit 1 (.int x) = true) ∧ pm_WL P d y (pc + n) r L S (pm_hs σ k (.inr (1, pm_wr xs i x))) Q) := by
  cases hk : pm_hg σ k with
  | none => exact pm_stepF (show (match pm_hg σ k with | some (.inr (t, xs)) => if t = 1 ∧ pm_inR i xs.length ∧ pm_fit 1 (.int x) = true then pm_nx (pc + n) L S (pm_hs σ k (.inr (1, pm_wr xs i x))) else none | _ => none) = none by rw [hk])
  | some q =>
    rcases q with q | ⟨t, xs⟩
    · exact pm_stepF (show (match pm_hg σ k with | some (.inr (t, xs)) => if t = 1 ∧ pm_inR i xs.length ∧ pm_fit 1 (.int x) = true then pm_nx (pc + n) L S (pm_hs σ k (.inr (1, pm_wr xs i x))) else none | _ => none) = none by rw [hk])
    · rw [pm_oR_s]
      by_cases h : t = 1 ∧ pm_inR i xs.length ∧ pm_fit 1 (.int x) = true
      · have e : pm_stp P y (.bastore) n pc L (.int x :: .int i :: .ref k :: S) σ = pm_nx (pc + n) L S (pm_hs σ k (.inr (1, pm_wr xs i x))) := by show (match pm_hg σ k with | some (.inr (t, xs)) => if t = 1 ∧ pm_inR i xs.length ∧ pm_fit 1 (.int x) = true then pm_nx (pc + n) L S (pm_hs σ k (.inr (1, pm_wr xs i x))) else none | _ => none) = _; rw [hk]; exact if_pos h
        rw [pm_stepN e rfl]; exact propext ⟨fun q => ⟨h, q⟩, fun q => q.2⟩
      · have e : pm_stp P y (.bastore) n pc L (.int x :: .int i :: .ref k :: S) σ = none := by show (match pm_hg σ k with | some (.inr (t, xs)) => if t = 1 ∧ pm_inR i xs.length ∧ pm_fit 1 (.int x) = true then pm_nx (pc + n) L S (pm_hs σ k (.inr (1, pm_wr xs i x))) else none | _ => none) = _; rw [hk]; exact if_neg h
        rw [pm_stepF e]; exact propext ⟨fun q => q.elim, fun q => h q.1⟩
theorem w_alen {k : Nat} : pm_WL P d y pc ((.arraylength, n) :: r) L (.ref k :: S) σ Q = (pm_oR (pm_hg σ k) fun _ xs => pm_WL P d y (pc + n) r L (.int (nI xs.length) :: S) σ Q) := by
  cases hk : pm_hg σ k with
  | none => exact pm_stepF (show (match pm_hg σ k with | some (.inr (_, xs)) => pm_nx (pc + n) L (.int (nI xs.length) :: S) σ | _ => none) = none by rw [hk])
  | some q =>
    rcases q with q | ⟨t, xs⟩
    · exact pm_stepF (show (match pm_hg σ k with | some (.inr (_, xs)) => pm_nx (pc + n) L (.int (nI xs.length) :: S) σ | _ => none) = none by rw [hk])
    · rw [pm_oR_s]
      have e : pm_stp P y (.arraylength) n pc L (.ref k :: S) σ = some (.inl (pc + n, L, .int (nI xs.length) :: S, σ)) := by show (match pm_hg σ k with | some (.inr (_, xs)) => pm_nx (pc + n) L (.int (nI xs.length) :: S) σ | _ => none) = _; rw [hk]; rfl
      exact pm_stepN e rfl
theorem w_newI {x : Int32} : pm_WL P d y pc ((.newarray .int, n) :: r) L (.int x :: S) σ Q = ((0 ≤ x.toInt ∧ x.toInt ≤ 1000) ∧ pm_WL P d y (pc + n) r L (.ref σ.length :: S) (σ ++ [.inr (0, List.replicate x.toNatClampNeg 0)]) Q) := by
  by_cases h : 0 ≤ x.toInt ∧ x.toInt ≤ 1000
  · have e : pm_stp P y (.newarray .int) n pc L (.int x :: S) σ = some (.inl (pc + n, L, .ref σ.length :: S, σ ++ [.inr (0, List.replicate x.toNatClampNeg 0)])) := if_pos h
    rw [pm_stepN e rfl]; exact propext ⟨fun q => ⟨h, q⟩, fun q => q.2⟩
  · have e : pm_stp P y (.newarray .int) n pc L (.int x :: S) σ = none := if_neg h
    rw [pm_stepF e]; exact propext ⟨fun q => q.elim, fun q => h q.1⟩
theorem w_newZ {x : Int32} : pm_WL P d y pc ((.newarray .boolean, n) :: r) L (.int x :: S) σ Q = ((0 ≤ x.toInt ∧ x.toInt ≤ 1000) ∧ pm_WL P d y (pc + n) r L (.ref σ.length :: S) (σ ++ [.inr (1, List.replicate x.toNatClampNeg 0)]) Q) := by
  by_cases h : 0 ≤ x.toInt ∧ x.toInt ≤ 1000
  · have e : pm_stp P y (.newarray .boolean) n pc L (.int x :: S) σ = some (.inl (pc + n, L, .ref σ.length :: S, σ ++ [.inr (1, List.replicate x.toNatClampNeg 0)])) := if_pos h
    rw [pm_stepN e rfl]; exact propext ⟨fun q => ⟨h, q⟩, fun q => q.2⟩
  · have e : pm_stp P y (.newarray .boolean) n pc L (.int x :: S) σ = none := if_neg h
    rw [pm_stepF e]; exact propext ⟨fun q => q.elim, fun q => h q.1⟩
theorem w_new {k : Nat} : pm_WL P d y pc ((.new k, n) :: r) L S σ Q = (pm_oN (pm_cls P (pm_met P y).1 k) fun c => pm_WL P d y (pc + n) r L (.ref σ.length :: S) (σ ++ [.inl (c, pm_dfl P c)]) Q) := by
  cases h : pm_cls P (pm_met P y).1 k with
  | none => exact pm_stepF (show (match pm_cls P (pm_met P y).1 k with | some c => pm_nx (pc + n) L (.ref σ.length :: S) (σ ++ [.inl (c, pm_dfl P c)]) | none => none) = none by rw [h])
  | some c =>
    have e : pm_stp P y (.new k) n pc L S σ = some (.inl (pc + n, L, .ref σ.length :: S, σ ++ [.inl (c, pm_dfl P c)])) := by show (match pm_cls P (pm_met P y).1 k with | some c => pm_nx (pc + n) L (.ref σ.length :: S) (σ ++ [Sum.inl (c, pm_dfl P c)]) | none => none) = _; rw [h]; rfl
    exact pm_stepN e rfl
theorem w_getf {k a : Nat} : pm_WL P d y pc ((.getfield k, n) :: r) L (.ref a :: S) σ Q = (pm_oF (pm_fld P (pm_met P y).1 k) fun c j => pm_oO (pm_hg σ a) fun c' fs => c = c' ∧ pm_oK fs[j]? fun v => pm_WL P d y (pc + n) r L (v :: S) σ Q) := by
  cases h : pm_fld P (pm_met P y).1 k with
  | none => exact pm_stepF (show (match pm_fld P (pm_met P y).1 k, pm_hg σ a with | some (c, j), some (.inl (c', fs)) => if c = c' then (match fs[j]? with | some v => pm_nx (pc + n) L (v :: S) σ | none => none) else none | _, _ => none) = none by rw [h])
  | some q =>
    obtain ⟨c, j⟩ := q
    rw [pm_oF_s]
    cases hk : pm_hg σ a with
    | none => exact pm_stepF (show (match pm_fld P (pm_met P y).1 k, pm_hg σ a with | some (c, j), some (.inl (c', fs)) => if c = c' then (match fs[j]? with | some v => pm_nx (pc + n) L (v :: S) σ | none => none) else none | _, _ => none) = none by rw [h, hk])
    | some q =>
      rcases q with ⟨c', fs⟩ | q
      · rw [pm_oO_s]
        have e0 : pm_stp P y (.getfield k) n pc L (.ref a :: S) σ = if c = c' then (match fs[j]? with | some v => pm_nx (pc + n) L (v :: S) σ | none => none) else none := by show (match pm_fld P (pm_met P y).1 k, pm_hg σ a with | some (c, j), some (.inl (c', fs)) => if c = c' then (match fs[j]? with | some v => pm_nx (pc + n) L (v :: S) σ | none => none) else none | _, _ => none) = _; rw [h, hk]
        by_cases hc : c = c'
        · rw [if_pos hc] at e0
          cases hv : fs[j]? with
          | none => rw [hv] at e0; rw [pm_stepF e0]; exact propext ⟨fun q => q.elim, fun q => q.2.elim⟩
          | some v => rw [hv] at e0; rw [pm_stepN (show _ = some (Sum.inl (pc + n, L, v :: S, σ)) from e0) rfl]; exact propext ⟨fun q => ⟨hc, q⟩, fun q => q.2⟩
        · rw [if_neg hc] at e0; rw [pm_stepF e0]; exact propext ⟨fun q => q.elim, fun q => hc q.1⟩
      · exact pm_stepF (show (match pm_fld P (pm_met P y).1 k, pm_hg σ a with | some (c, j), some (.inl (c', fs)) => if c = c' then (match fs[j]? with | some v => pm_nx (pc + n) L (v :: S) σ | none => none) else none | _, _ => none) = none by rw [h, hk])
theorem w_putf {k a : Nat} {v : Value} : pm_WL P d y pc ((.putfield k, n) :: r) L (v :: .ref a :: S) σ Q = (pm_oF (pm_fld P (pm_met P y).1 k) fun c j => pm_oO (pm_hg σ a) fun c' fs => (c = c' ∧ j < fs.length ∧ pm_fit (pm_fty P c j).1 v = true ∧ ((pm_fty P c j).2 = true → (pm_met P y).2.2.2 = true ∧ (pm_met P y).1 = c)) ∧ pm_WL P d y (pc + n) r L S (pm_hs σ a (.inl (c, fs.set j v))) Q) := by
  cases h : pm_fld P (pm_met P y).1 k with
  | none => exact pm_stepF (show (match pm_fld P (pm_met P y).1 k, pm_hg σ a with | some (c, j), some (.inl (c', fs)) => if c = c' ∧ j < fs.length ∧ pm_fit (pm_fty P c j).1 v = true ∧ ((pm_fty P c j).2 = true → (pm_met P y).2.2.2 = true ∧ (pm_met P y).1 = c) then pm_nx (pc + n) L S (pm_hs σ a (.inl (c, fs.set j v))) else none | _, _ => none) = none by rw [h])
  | some q =>
    obtain ⟨c, j⟩ := q
    rw [pm_oF_s]
    cases hk : pm_hg σ a with
    | none => exact pm_stepF (show (match pm_fld P (pm_met P y).1 k, pm_hg σ a with | some (c, j), some (.inl (c', fs)) => if c = c' ∧ j < fs.length ∧ pm_fit (pm_fty P c j).1 v = true ∧ ((pm_fty P c j).2 = true → (pm_met P y).2.2.2 = true ∧ (pm_met P y).1 = c) then pm_nx (pc + n) L S (pm_hs σ a (.inl (c, fs.set j v))) else none | _, _ => none) = none by rw [h, hk])
    | some q =>
      rcases q with ⟨c', fs⟩ | q
      · rw [pm_oO_s]
        have e0 : pm_stp P y (.putfield k) n pc L (v :: .ref a :: S) σ = if c = c' ∧ j < fs.length ∧ pm_fit (pm_fty P c j).1 v = true ∧ ((pm_fty P c j).2 = true → (pm_met P y).2.2.2 = true ∧ (pm_met P y).1 = c) then pm_nx (pc + n) L S (pm_hs σ a (.inl (c, fs.set j v))) else none := by show (match pm_fld P (pm_met P y).1 k, pm_hg σ a with | some (c, j), some (.inl (c', fs)) => if c = c' ∧ j < fs.length ∧ pm_fit (pm_fty P c j).1 v = true ∧ ((pm_fty P c j).2 = true → (pm_met P y).2.2.2 = true ∧ (pm_met P y).1 = c) then pm_nx (pc + n) L S (pm_hs σ a (.inl (c, fs.set j v))) else none | _, _ => none) = _; rw [h, hk]
        by_cases hc : c = c' ∧ j < fs.length ∧ pm_fit (pm_fty P c j).1 v = true ∧ ((pm_fty P c j).2 = true → (pm_met P y).2.2.2 = true ∧ (pm_met P y).1 = c)
        · rw [if_pos hc] at e0
          rw [pm_stepN (show _ = some (Sum.inl (pc + n, L, S, pm_hs σ a (Sum.inl (c, fs.set j v)))) from e0) rfl]; exact propext ⟨fun q => ⟨hc, q⟩, fun q => q.2⟩
        · rw [if_neg hc] at e0; rw [pm_stepF e0]; exact propext ⟨fun q => q.elim, fun q => hc q.1⟩
      · exact pm_stepF (show (match pm_fld P (pm_met P y).1 k, pm_hg σ a with | some (c, j), some (.inl (c', fs)) => if c = c' ∧ j < fs.length ∧ pm_fit (pm_fty P c j).1 v = true ∧ ((pm_fty P c j).2 = true → (pm_met P y).2.2.2 = true ∧ (pm_met P y).1 = c) then pm_nx (pc + n) L S (pm_hs σ a (.inl (c, fs.set j v))) else none | _, _ => none) = none by rw [h, hk])
theorem w_gets {k : Nat} : pm_WL P d y pc ((.getstatic k, n) :: r) L S σ Q = (pm_oN (pm_sta P (pm_met P y).1 k) fun a => pm_WL P d y (pc + n) r L (.ref a :: S) σ Q) := by
  cases h : pm_sta P (pm_met P y).1 k with
  | none => exact pm_stepF (show (match pm_sta P (pm_met P y).1 k with | some a => pm_nx (pc + n) L (.ref a :: S) σ | none => none) = none by rw [h])
  | some a =>
    have e : pm_stp P y (.getstatic k) n pc L S σ = some (.inl (pc + n, L, .ref a :: S, σ)) := by show (match pm_sta P (pm_met P y).1 k with | some a => pm_nx (pc + n) L (.ref a :: S) σ | none => none) = _; rw [h]; rfl
    exact pm_stepN e rfl
/-- what an entry of the pool gives -/
def pm_oC (o : Option Value) (f : Int32 → Prop) (g : Nat → Prop) : Prop := match o with
  | some (.int v) => f v
  | some (.ref v) => g v
  | _ => False
theorem pm_oC_i (x : Int32) (f : Int32 → Prop) (g : Nat → Prop) : pm_oC (some (.int x)) f g = f x := rfl
theorem pm_oC_r (x : Nat) (f : Int32 → Prop) (g : Nat → Prop) : pm_oC (some (.ref x)) f g = g x := rfl
theorem w_ldc {k : Nat} : pm_WL P d y pc ((.ldc k, n) :: r) L S σ Q = (pm_oC (pm_kon P (pm_met P y).1 k) (fun v => pm_WL P d y (pc + n) r L (.int v :: S) σ Q) fun v => pm_WL P d y (pc + n) r L (.ref v :: S) σ Q) := by
  have e0 : pm_stp P y (.ldc k) n pc L S σ = (match pm_kon P (pm_met P y).1 k with | some (.int v) => pm_nx (pc + n) L (.int v :: S) σ | some (.ref v) => pm_nx (pc + n) L (.ref v :: S) σ | _ => none) := rfl
  cases h : pm_kon P (pm_met P y).1 k with
  | none => rw [h] at e0; exact pm_stepF e0
  | some v => cases v <;> (rw [h] at e0; first | exact pm_stepN e0 rfl | exact pm_stepF e0)
theorem w_ldcw {k : Nat} : pm_WL P d y pc ((.ldc_w k, n) :: r) L S σ Q = (pm_oI (pm_kon P (pm_met P y).1 k) fun v => pm_WL P d y (pc + n) r L (.int v :: S) σ Q) := by
  have e0 : pm_stp P y (.ldc_w k) n pc L S σ = (match pm_kon P (pm_met P y).1 k with | some (.int v) => pm_nx (pc + n) L (.int v :: S) σ | _ => none) := rfl
  cases h : pm_kon P (pm_met P y).1 k with
  | none => rw [h] at e0; exact pm_stepF e0
  | some v => cases v <;> (rw [h] at e0; first | exact pm_stepN e0 rfl | exact pm_stepF e0)
theorem w_ldc2 {k : Nat} : pm_WL P d y pc ((.ldc2_w k, n) :: r) L S σ Q = (pm_oJ (pm_kon P (pm_met P y).1 k) fun v => pm_WL P d y (pc + n) r L (.long v :: S) σ Q) := by
  have e0 : pm_stp P y (.ldc2_w k) n pc L S σ = (match pm_kon P (pm_met P y).1 k with | some (.long v) => pm_nx (pc + n) L (.long v :: S) σ | _ => none) := rfl
  cases h : pm_kon P (pm_met P y).1 k with
  | none => rw [h] at e0; exact pm_stepF e0
  | some v => cases v <;> (rw [h] at e0; first | exact pm_stepN e0 rfl | exact pm_stepF e0)
theorem w_ret : pm_WL P d y pc ((.return_, n) :: r) L S σ Q = Q none σ := pm_stepE rfl
theorem w_lret {x : Int64} : pm_WL P d y pc ((.lreturn, n) :: r) L [.long x] σ Q = Q (some (.long x)) σ := pm_stepE rfl
theorem w_iret {x : Int32} : pm_WL P d y pc ((.ireturn, n) :: r) L [.int x] σ Q = (((pm_met P y).2.2.1 = true → pm_fit 1 (.int x) = true) ∧ Q (some (.int x)) σ) := by
  by_cases h : (pm_met P y).2.2.1 = true → pm_fit 1 (.int x) = true
  · have e : pm_stp P y (.ireturn) n pc L [.int x] σ = some (.inr (.inr (some (.int x)))) := if_pos h
    rw [pm_stepE e]; exact propext ⟨fun q => ⟨h, q⟩, fun q => q.2⟩
  · have e : pm_stp P y (.ireturn) n pc L [.int x] σ = none := if_neg h
    rw [pm_stepF e]; exact propext ⟨fun q => q.elim, fun q => h q.1⟩
theorem pm_cgo_is (σ : pm_S) (z ci : Nat) (S' : List Value) {w : Nat} (hw : w < 4) (as : List Value) : ∃ g : Bool, (g = true ↔ ((w = 1 → pm_rcv σ as ci) ∧ (w = 2 ∨ w = 3 → pm_ref1 as))) ∧ pm_cgo σ z ci S' w as = (if g = true then some (.inr (.inl (z, as, S'))) else none) := by
  rcases (by omega : w = 0 ∨ w = 1 ∨ w = 2 ∨ w = 3) with rfl | rfl | rfl | rfl
  · exact ⟨true, ⟨fun _ => ⟨fun q => absurd q (by decide), fun q => absurd q (by decide)⟩, fun _ => rfl⟩, rfl⟩
  · cases as with
    | nil => exact ⟨false, ⟨fun q => absurd q (by decide), fun q => (q.1 rfl).elim⟩, rfl⟩
    | cons v t =>
      cases v with
      | ref b =>
        cases hb : pm_hg σ b with
        | none => exact ⟨false, ⟨fun q => absurd q (by decide), fun q => by have := q.1 rfl; simp [pm_rcv, hb] at this⟩, by simp [pm_cgo, hb]⟩
        | some cc =>
          rcases cc with ⟨c, fs⟩ | cc
          · by_cases hcc : c = ci
            · exact ⟨true, ⟨fun _ => ⟨fun _ => by simp [pm_rcv, hb, hcc], fun q => absurd q (by decide)⟩, fun _ => rfl⟩, by simp [pm_cgo, hb, hcc]⟩
            · exact ⟨false, ⟨fun q => absurd q (by decide), fun q => by have := q.1 rfl; simp [pm_rcv, hb, hcc] at this⟩, by simp [pm_cgo, hb, hcc]⟩
          · exact ⟨false, ⟨fun q => absurd q (by decide), fun q => by have := q.1 rfl; simp [pm_rcv, hb] at this⟩, by simp [pm_cgo, hb]⟩
      | _ => exact ⟨false, ⟨fun q => absurd q (by decide), fun q => (q.1 rfl).elim⟩, rfl⟩
  · cases as with
    | nil => exact ⟨false, ⟨fun q => absurd q (by decide), fun q => (q.2 (Or.inl rfl)).elim⟩, rfl⟩
    | cons v t =>
      cases v with
      | ref b => exact ⟨true, ⟨fun _ => ⟨fun q => absurd q (by decide), fun _ => trivial⟩, fun _ => rfl⟩, rfl⟩
      | _ => exact ⟨false, ⟨fun q => absurd q (by decide), fun q => (q.2 (Or.inl rfl)).elim⟩, rfl⟩
  · cases as with
    | nil => exact ⟨false, ⟨fun q => absurd q (by decide), fun q => (q.2 (Or.inr rfl)).elim⟩, rfl⟩
    | cons v t =>
      cases v with
      | ref b => exact ⟨true, ⟨fun _ => ⟨fun q => absurd q (by decide), fun _ => trivial⟩, fun _ => rfl⟩, rfl⟩
      | _ => exact ⟨false, ⟨fun q => absurd q (by decide), fun q => (q.2 (Or.inr rfl)).elim⟩, rfl⟩
theorem w_call {i : Instr} {way k : Nat} (hi : pm_stp P y i n pc L S σ = pm_call P y k way S σ) (hw : way < 4) : pm_WL P d y pc ((i, n) :: r) L S σ Q = (pm_oM (pm_mth P (pm_met P y).1 k) fun w z q ci => w = way ∧ pm_oP (pm_pop q [] S) fun as S' => pm_okW 8 S' = true ∧ (w = 1 → pm_rcv σ as ci) ∧ (w = 2 ∨ w = 3 → pm_ref1 as) ∧ pm_WC P d z as σ fun v σ' => pm_WL P d y (pc + n) r L (pm_pu v S') σ' Q) := by
  unfold pm_call at hi
  cases h : pm_mth P (pm_met P y).1 k with
  | none => rw [h] at hi; exact pm_stepF hi
  | some q =>
    obtain ⟨w, z, q, ci⟩ := q
    rw [h] at hi
    rw [pm_oM_s]
    simp only at hi
    by_cases hw2 : w = way
    · subst hw2
      rw [if_pos rfl] at hi
      cases hp : pm_pop q [] S with
      | none =>
        rw [hp] at hi
        rw [pm_stepF hi]
        exact propext ⟨fun q => q.elim, fun q => q.2.elim⟩
      | some q =>
        obtain ⟨as, S'⟩ := q
        rw [hp] at hi
        simp only at hi
        rw [pm_oP_s]
        by_cases ho : pm_okW 8 S' = true
        · rw [if_pos ho] at hi
          obtain ⟨g, hg, he⟩ := pm_cgo_is σ z ci S' hw as
          rw [he] at hi
          cases g with
          | true => rw [pm_stepC (hi.trans (if_pos rfl))]; exact propext ⟨fun q => ⟨rfl, ho, (hg.mp rfl).1, (hg.mp rfl).2, q⟩, fun q => q.2.2.2.2⟩
          | false => rw [pm_stepF (hi.trans (if_neg (by decide)))]; exact propext ⟨fun q => q.elim, fun q => Bool.false_ne_true (hg.mpr ⟨q.2.2.1, q.2.2.2.1⟩)⟩
        · rw [if_neg ho] at hi
          rw [pm_stepF hi]
          exact propext ⟨fun q => q.elim, fun q => ho q.2.1⟩
    · rw [if_neg hw2] at hi
      rw [pm_stepF hi]
      exact propext ⟨fun q => q.elim, fun q => hw2 q.1⟩
theorem w_invs {k : Nat} : pm_WL P d y pc ((.invokestatic k, n) :: r) L S σ Q = (pm_oM (pm_mth P (pm_met P y).1 k) fun w z q ci => w = 0 ∧ pm_oP (pm_pop q [] S) fun as S' => pm_okW 8 S' = true ∧ (w = 1 → pm_rcv σ as ci) ∧ (w = 2 ∨ w = 3 → pm_ref1 as) ∧ pm_WC P d z as σ fun v σ' => pm_WL P d y (pc + n) r L (pm_pu v S') σ' Q) := w_call (way := 0) rfl (by decide)
theorem w_invi {k : Nat} : pm_WL P d y pc ((.invokespecial k, n) :: r) L S σ Q = (pm_oM (pm_mth P (pm_met P y).1 k) fun w z q ci => w = 2 ∧ pm_oP (pm_pop q [] S) fun as S' => pm_okW 8 S' = true ∧ (w = 1 → pm_rcv σ as ci) ∧ (w = 2 ∨ w = 3 → pm_ref1 as) ∧ pm_WC P d z as σ fun v σ' => pm_WL P d y (pc + n) r L (pm_pu v S') σ' Q) := w_call (way := 2) rfl (by decide)
theorem w_invv {k : Nat} : pm_WL P d y pc ((.invokevirtual k, n) :: r) L S σ Q = (pm_oM (pm_mth P (pm_met P y).1 k) fun w z q ci => (w = 1 ∨ w = 3) ∧ pm_oP (pm_pop q [] S) fun as S' => pm_okW 8 S' = true ∧ (w = 1 → pm_rcv σ as ci) ∧ (w = 2 ∨ w = 3 → pm_ref1 as) ∧ pm_WC P d z as σ fun v σ' => pm_WL P d y (pc + n) r L (pm_pu v S') σ' Q) := by
  have e0 : pm_stp P y (.invokevirtual k) n pc L S σ = (match pm_mth P (pm_met P y).1 k with | some (3, _) => pm_call P y k 3 S σ | _ => pm_call P y k 1 S σ) := rfl
  cases h : pm_mth P (pm_met P y).1 k with
  | none =>
    rw [h] at e0
    rw [w_call (way := 1) (k := k) e0 (by decide), h]
    rfl
  | some q =>
    obtain ⟨w, z, q, ci⟩ := q
    by_cases hw : w = 3
    · subst hw
      rw [h] at e0
      rw [w_call (way := 3) (k := k) e0 (by decide), h]
      simp only [pm_oM_s, or_true]
    · have e1 : pm_stp P y (.invokevirtual k) n pc L S σ = pm_call P y k 1 S σ := by rw [e0, h]; split <;> simp_all
      rw [w_call (way := 1) (k := k) e1 (by decide), h]
      simp only [pm_oM_s, hw, or_false]
theorem w_tab {df lo hi : Int} {os : Array Int} {x : Int32} : pm_WL P d y pc ((.tableswitch df lo hi os, n) :: r) L (.int x :: S) σ Q = (if x.toInt < lo ∨ hi < x.toInt then 0 ≤ (pc : Int) + df ∧ pm_W P d y (pm_tgt pc df) L S σ Q else (match os[(x.toInt - lo).toNat]? with
    | some o => 0 ≤ (pc : Int) + o ∧ pm_W P d y (pm_tgt pc o) L S σ Q
    | none => False)) := by
  have e0 : pm_stp P y (.tableswitch df lo hi os) n pc L (.int x :: S) σ = (if x.toInt < lo ∨ hi < x.toInt then (if 0 ≤ (pc : Int) + df then pm_nx (pm_tgt pc df) L S σ else none) else
      (match os[(x.toInt - lo).toNat]? with
      | some o => if 0 ≤ (pc : Int) + o then pm_nx (pm_tgt pc o) L S σ else none
      | none => none)) := rfl
  by_cases h : x.toInt < lo ∨ hi < x.toInt
  · rw [if_pos h] at e0 ⊢
    by_cases hd : 0 ≤ (pc : Int) + df
    · rw [if_pos hd] at e0; rw [pm_stepJ e0 rfl]; exact propext ⟨fun q => ⟨hd, q⟩, fun q => q.2⟩
    · rw [if_neg hd] at e0; rw [pm_stepF e0]; exact propext ⟨fun q => q.elim, fun q => hd q.1⟩
  · rw [if_neg h] at e0 ⊢
    cases ho : os[(x.toInt - lo).toNat]? with
    | none => rw [ho] at e0; exact pm_stepF e0
    | some o =>
      rw [ho] at e0
      simp only at e0 ⊢
      by_cases hd : 0 ≤ (pc : Int) + o
      · rw [if_pos hd] at e0; rw [pm_stepJ e0 rfl]; exact propext ⟨fun q => ⟨hd, q⟩, fun q => q.2⟩
      · rw [if_neg hd] at e0; rw [pm_stepF e0]; exact propext ⟨fun q => q.elim, fun q => hd q.1⟩
theorem w_look {df : Int} {ps : Array (Int × Int)} {x : Int32} : pm_WL P d y pc ((.lookupswitch df ps, n) :: r) L (.int x :: S) σ Q = (((ps.toList.zip (ps.toList.drop 1)).all (fun (a, next) => a.1 < next.1) = true ∧ 0 ≤ (pc : Int) + Op.lookupswitch.offset ps.toList df x.toInt) ∧ pm_W P d y (pm_tgt pc (Op.lookupswitch.offset ps.toList df x.toInt)) L S σ Q) := by
  by_cases h : (ps.toList.zip (ps.toList.drop 1)).all (fun (a, next) => a.1 < next.1) = true ∧ 0 ≤ (pc : Int) + Op.lookupswitch.offset ps.toList df x.toInt
  · have e : pm_stp P y (.lookupswitch df ps) n pc L (.int x :: S) σ = some (.inl (pm_tgt pc (Op.lookupswitch.offset ps.toList df x.toInt), L, S, σ)) := if_pos h
    rw [pm_stepJ e rfl]; exact propext ⟨fun q => ⟨h, q⟩, fun q => q.2⟩
  · have e : pm_stp P y (.lookupswitch df ps) n pc L (.int x :: S) σ = none := if_neg h
    rw [pm_stepF e]; exact propext ⟨fun q => q.elim, fun q => h q.1⟩
end RR
