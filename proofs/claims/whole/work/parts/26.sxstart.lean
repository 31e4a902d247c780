/-! THE LAW'S ENTRY: what the Statement gives of the start is what the pure machine's store means -/
theorem sx_inst_all : ∀ ci, ci < 9 → Cond.instantiable (sx_clR ci).1 (sx_clR ci).2.2 ∈ sx_big := by
  intro ci h
  match ci, h with
  | 0, _ => exact sx_mem 224 (by decide +kernel) rfl
  | 1, _ => exact sx_mem 38 (by decide +kernel) rfl
  | 2, _ => exact sx_mem 26 (by decide +kernel) rfl
  | 3, _ => exact sx_mem 198 (by decide +kernel) rfl
  | 4, _ => exact sx_mem 141 (by decide +kernel) rfl
  | 5, _ => exact sx_mem 32 (by decide +kernel) rfl
  | 6, _ => exact sx_mem 67 (by decide +kernel) rfl
  | 7, _ => exact sx_mem 18 (by decide +kernel) rfl
  | 8, _ => exact sx_mem 732 (by decide +kernel) rfl
  | k + 9, h => exact absurd h (by omega)
theorem sx_ls_ABOVE : Cond.laysStatic "FlotsamQuorum" "ABOVE" "[I" ∈ tables_1 := List.mem_of_getElem? (i := 693) (by decide +kernel)
theorem sx_ls_BODIES : Cond.laysStatic "FlotsamQuorum" "BODIES" "[I" ∈ tables_1 := List.mem_of_getElem? (i := 690) (by decide +kernel)
theorem sx_ls_FACTORIALS : Cond.laysStatic "FlotsamQuorum" "FACTORIALS" "[I" ∈ tables_1 := List.mem_of_getElem? (i := 649) (by decide +kernel)
theorem sx_ls_CS : Cond.laysStatic "java/lang/String" "COMPACT_STRINGS" "Z" ∈ tables_1 := List.mem_of_getElem? (i := 327) (by decide +kernel)
theorem sx_ls_SF : Cond.laysStatic "jdk/internal/util/Preconditions" "SIOOBE_FORMATTER" "Ljava/util/function/BiFunction;" ∈ tables_1 := List.mem_of_getElem? (i := 343) (by decide +kernel)
theorem sx_in_X : Cond.initialized "FlotsamQuorum" ∈ tables_1 := List.mem_of_getElem? (i := 1) (by decide +kernel)
def sx_above : List Int32 := [-1, 0, 0, 0, 1, 2, 3]
def sx_bodies : List Int32 := [1, 11, 0, 0, 0, 51, 0, 2, 0, 21, 0, 0, 0, 61, 3, 0, 0, 31, 41, 0, 0]
def sx_facts : List Int32 := [1, 1, 2, 6, 24, 120, 720]
def sx_ro (scr : List Int32) : Nat → List Int32
  | 0 => scr
  | 1 => sx_above
  | 2 => sx_bodies
  | _ => sx_facts
abbrev sx_nar : List Cond := flatC (Jvm.Cond.and given_1 narrow_1)
theorem sx_n_ABOVE : Cond.arrayOf (.static "FlotsamQuorum" "ABOVE" "[I") .int ∈ sx_nar ∧ Cond.eq (.length (.static "FlotsamQuorum" "ABOVE" "[I")) (.int (Int32.ofNat sx_above.length)) ∈ sx_nar ∧ ∀ j, j < sx_above.length → Cond.eq (.elem (.static "FlotsamQuorum" "ABOVE" "[I") (.int (Int32.ofNat j))) (.int (sx_above.getD j 0)) ∈ sx_nar := by decide +kernel
theorem sx_n_BODIES : Cond.arrayOf (.static "FlotsamQuorum" "BODIES" "[I") .int ∈ sx_nar ∧ Cond.eq (.length (.static "FlotsamQuorum" "BODIES" "[I")) (.int (Int32.ofNat sx_bodies.length)) ∈ sx_nar ∧ ∀ j, j < sx_bodies.length → Cond.eq (.elem (.static "FlotsamQuorum" "BODIES" "[I") (.int (Int32.ofNat j))) (.int (sx_bodies.getD j 0)) ∈ sx_nar := by decide +kernel
theorem sx_n_FACTORIALS : Cond.arrayOf (.static "FlotsamQuorum" "FACTORIALS" "[I") .int ∈ sx_nar ∧ Cond.eq (.length (.static "FlotsamQuorum" "FACTORIALS" "[I")) (.int (Int32.ofNat sx_facts.length)) ∈ sx_nar ∧ ∀ j, j < sx_facts.length → Cond.eq (.elem (.static "FlotsamQuorum" "FACTORIALS" "[I") (.int (Int32.ofNat j))) (.int (sx_facts.getD j 0)) ∈ sx_nar := by decide +kernel
def sx_tm (i : Nat) : Term := .string "FlotsamQuorum$Reader" ([48, 50, 52, 87, 93].getD i 0)
theorem sx_n_1 : ∀ i, i < 5 → Cond.exactly (sx_tm i) "java/lang/String" ∈ sx_nar ∧ Cond.eq (.field (sx_tm i) "java/lang/String" "coder" "B") (.int 0) ∈ sx_nar ∧ Cond.arrayOf (.field (sx_tm i) "java/lang/String" "value" "[B") .byte ∈ sx_nar ∧ Cond.eq (.length (.field (sx_tm i) "java/lang/String" "value" "[B")) (.int (Int32.ofNat (sx_len.getD i 0))) ∈ sx_nar := by decide +kernel
theorem sx_n_2 : ∀ i, i < 5 → ∀ j, j < sx_len.getD i 0 → Cond.eq (.elem (.field (sx_tm i) "java/lang/String" "value" "[B") (.int (Int32.ofNat j))) (.int ((sx_byt.getD i []).getD j 0)) ∈ sx_nar := by decide +kernel
theorem sx_n_3 : ∀ i, i < 5 → ∀ j, j < 5 → i ≠ j → Cond.not (Cond.eq (sx_tm i) (sx_tm j)) ∈ sx_nar ∨ Cond.not (Cond.eq (sx_tm j) (sx_tm i)) ∈ sx_nar := by decide +kernel
theorem sx_n_4 : ∀ q, q ∈ sx_sr → (Term.string (sx_own q.1) q.2.1 = sx_tm q.2.2 ∨ Cond.eq (sx_tm q.2.2) (Term.string (sx_own q.1) q.2.1) ∈ sx_nar) ∧ q.2.2 < 5 := by decide +kernel
theorem sx_n_5 : Cond.eq (.static "java/lang/String" "COMPACT_STRINGS" "Z") (.int 1) ∈ sx_nar ∧ Cond.isRef (.static "jdk/internal/util/Preconditions" "SIOOBE_FORMATTER" "Ljava/util/function/BiFunction;") ∈ sx_nar := by decide +kernel
def sx_srw : List Nat := [311, 312, 313, 391, 396, 817, 836, 857, 862, 863]
theorem sx_sr_mem : ∀ q, q ∈ sx_sr → Cond.stringRef (sx_own q.1) q.2.1 (sx_tx q.2.2) ∈ tables_1 := by
  have h : (sx_sr.zip sx_srw).all (fun e => decide (tables_1[e.2]? = some (Cond.stringRef (sx_own e.1.1) e.1.2.1 (sx_tx e.1.2.2)))) = true := by decide +kernel
  intro q hq
  obtain ⟨i, hi⟩ := List.getElem?_of_mem hq
  have hl : sx_sr.length = sx_srw.length := by decide
  have hi2 : i < sx_srw.length := by rw [← hl]; exact (List.getElem?_eq_some_iff.mp hi).1
  have := List.all_eq_true.mp h (q, sx_srw[i]) (List.mem_of_getElem? (i := i) (by rw [List.getElem?_zip_eq_some]; exact ⟨hi, List.getElem?_eq_getElem hi2⟩))
  exact List.mem_of_getElem? (of_decide_eq_true this)

