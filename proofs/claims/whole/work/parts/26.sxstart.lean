/-! THE LAW'S ENTRY: what the Statement gives of the start is what the pure machine's store means -/
theorem sx_inst_all : ∀ ci, ci < 9 → Cond.instantiable (sx_clR ci).1 (sx_clR ci).2.2 ∈ sx_big := by
  intro ci h
  match ci, h with
  | 0, _ => exact sx_mem 224 (by decide +kernel) rfl
  | 1, _ => exact sx_mem 38 (by decide +kernel) rfl
  | 2, _ => exact sx_mem 26 (by decide +kernel) rfl
  | 3, _ => exact sx_mem 198 (by decide +kernel) rfl
  | 4, _ => exact sx_mem 141 (by decide +kernel) rfl
  | 5, _ => exact sx_mem 32 (by decide +kernel) rfl
  | 6, _ => exact sx_mem 67 (by decide +kernel) rfl
  | 7, _ => exact sx_mem 18 (by decide +kernel) rfl
  | 8, _ => exact sx_mem 732 (by decide +kernel) rfl
  | k + 9, h => exact absurd h (by omega)
theorem sx_ls_ABOVE : Cond.laysStatic "FlotsamQuorum" "ABOVE" "[I" ∈ tables_1 := List.mem_of_getElem? (i := 693) (by decide +kernel)
theorem sx_ls_BODIES : Cond.laysStatic "FlotsamQuorum" "BODIES" "[I" ∈ tables_1 := List.mem_of_getElem? (i := 690) (by decide +kernel)
theorem sx_ls_FACTORIALS : Cond.laysStatic "FlotsamQuorum" "FACTORIALS" "[I" ∈ tables_1 := List.mem_of_getElem? (i := 649) (by decide +kernel)
theorem sx_ls_CS : Cond.laysStatic "java/lang/String" "COMPACT_STRINGS" "Z" ∈ tables_1 := List.mem_of_getElem? (i := 327) (by decide +kernel)
theorem sx_ls_SF : Cond.laysStatic "jdk/internal/util/Preconditions" "SIOOBE_FORMATTER" "Ljava/util/function/BiFunction;" ∈ tables_1 := List.mem_of_getElem? (i := 343) (by decide +kernel)
theorem sx_in_X : Cond.initialized "FlotsamQuorum" ∈ tables_1 := List.mem_of_getElem? (i := 1) (by decide +kernel)
def sx_above : List Int32 := [-1, 0, 0, 0, 1, 2, 3]
def sx_bodies : List Int32 := [1, 11, 0, 0, 0, 51, 0, 2, 0, 21, 0, 0, 0, 61, 3, 0, 0, 31, 41, 0, 0]
def sx_facts : List Int32 := [1, 1, 2, 6, 24, 120, 720]
def sx_ro (scr : List Int32) : Nat → List Int32
  | 0 => scr
  | 1 => sx_above
  | 2 => sx_bodies
  | _ => sx_facts
abbrev sx_nar : List Cond := flatC (Jvm.Cond.and given_1 narrow_1)
theorem sx_n_ABOVE : Cond.arrayOf (.static "FlotsamQuorum" "ABOVE" "[I") .int ∈ sx_nar ∧ Cond.eq (.length (.static "FlotsamQuorum" "ABOVE" "[I")) (.int (Int32.ofNat sx_above.length)) ∈ sx_nar ∧ ∀ j, j < sx_above.length → Cond.eq (.elem (.static "FlotsamQuorum" "ABOVE" "[I") (.int (Int32.ofNat j))) (.int (sx_above.getD j 0)) ∈ sx_nar := by decide +kernel
theorem sx_n_BODIES : Cond.arrayOf (.static "FlotsamQuorum" "BODIES" "[I") .int ∈ sx_nar ∧ Cond.eq (.length (.static "FlotsamQuorum" "BODIES" "[I")) (.int (Int32.ofNat sx_bodies.length)) ∈ sx_nar ∧ ∀ j, j < sx_bodies.length → Cond.eq (.elem (.static "FlotsamQuorum" "BODIES" "[I") (.int (Int32.ofNat j))) (.int (sx_bodies.getD j 0)) ∈ sx_nar := by decide +kernel
theorem sx_n_FACTORIALS : Cond.arrayOf (.static "FlotsamQuorum" "FACTORIALS" "[I") .int ∈ sx_nar ∧ Cond.eq (.length (.static "FlotsamQuorum" "FACTORIALS" "[I")) (.int (Int32.ofNat sx_facts.length)) ∈ sx_nar ∧ ∀ j, j < sx_facts.length → Cond.eq (.elem (.static "FlotsamQuorum" "FACTORIALS" "[I") (.int (Int32.ofNat j))) (.int (sx_facts.getD j 0)) ∈ sx_nar := by decide +kernel
def sx_tm (i : Nat) : Term := .string "FlotsamQuorum$Reader" ([48, 50, 52, 87, 93].getD i 0)
theorem sx_n_1 : ∀ i, i < 5 → Cond.exactly (sx_tm i) "java/lang/String" ∈ sx_nar ∧ Cond.eq (.field (sx_tm i) "java/lang/String" "coder" "B") (.int 0) ∈ sx_nar ∧ Cond.arrayOf (.field (sx_tm i) "java/lang/String" "value" "[B") .byte ∈ sx_nar ∧ Cond.eq (.length (.field (sx_tm i) "java/lang/String" "value" "[B")) (.int (Int32.ofNat (sx_len.getD i 0))) ∈ sx_nar := by decide +kernel
theorem sx_n_2 : ∀ i, i < 5 → ∀ j, j < sx_len.getD i 0 → Cond.eq (.elem (.field (sx_tm i) "java/lang/String" "value" "[B") (.int (Int32.ofNat j))) (.int ((sx_byt.getD i []).getD j 0)) ∈ sx_nar := by decide +kernel
theorem sx_n_3 : ∀ i, i < 5 → ∀ j, j < 5 → i ≠ j → Cond.not (Cond.eq (sx_tm i) (sx_tm j)) ∈ sx_nar ∨ Cond.not (Cond.eq (sx_tm j) (sx_tm i)) ∈ sx_nar := by decide +kernel
theorem sx_n_4 : ∀ q, q ∈ sx_sr → (Term.string (sx_own q.1) q.2.1 = sx_tm q.2.2 ∨ Cond.eq (sx_tm q.2.2) (Term.string (sx_own q.1) q.2.1) ∈ sx_nar) ∧ q.2.2 < 5 := by decide +kernel
theorem sx_n_5 : Cond.eq (.static "java/lang/String" "COMPACT_STRINGS" "Z") (.int 1) ∈ sx_nar ∧ Cond.isRef (.static "jdk/internal/util/Preconditions" "SIOOBE_FORMATTER" "Ljava/util/function/BiFunction;") ∈ sx_nar := by decide +kernel
def sx_srw : List Nat := [311, 312, 313, 391, 396, 817, 836, 857, 862, 863]
theorem sx_sr_mem : ∀ q, q ∈ sx_sr → Cond.stringRef (sx_own q.1) q.2.1 (sx_tx q.2.2) ∈ tables_1 := by
  have h : (sx_sr.zip sx_srw).all (fun e => decide (tables_1[e.2]? = some (Cond.stringRef (sx_own e.1.1) e.1.2.1 (sx_tx e.1.2.2)))) = true := by decide +kernel
  intro q hq
  obtain ⟨i, hi⟩ := List.getElem?_of_mem hq
  have hl : sx_sr.length = sx_srw.length := by decide
  have hi2 : i < sx_srw.length := by rw [← hl]; exact (List.getElem?_eq_some_iff.mp hi).1
  have := List.all_eq_true.mp h (q, sx_srw[i]) (List.mem_of_getElem? (i := i) (by rw [List.getElem?_zip_eq_some]; exact ⟨hi, List.getElem?_eq_getElem hi2⟩))
  exact List.mem_of_getElem? (of_decide_eq_true this)
theorem sx_arrK {s : State} {args : Array Value} {ty : FieldType} (hne : ∀ C, ty ≠ .object C) (h : (Cond.arrayClass ty).before args s = true) : ∃ cA, ArrOfT s cA ty ∧ va_RA s cA ty := by
  obtain ⟨c, k, comp, h1, h2, h3⟩ := Cond.arrayClass_spec h
  refine ⟨c, fun n z => ⟨fun k h => (by cases h), k, h2, comp, h3⟩, ?_⟩
  cases ty with
  | object C => exact absurd rfl (hne C)
  | _ => exact h1
theorem sx_start {s : State} {b L : Nat} {xs : Nat → Int32} (hts : ∀ w ∈ lw_tbl, w.before #[Value.ref b] s = true) (hgv : (Jvm.Cond.and given_1 narrow_1).before #[Value.ref b] s = true) (hX : va_X b L xs s s.heap) (hbl : b < s.heap.size) :
    ∃ (ad : Nat → Nat) (D : va_G) (cI cZ : ClassId) (adV : Nat → Nat), sx_ad s.heap.size ad ∧ ad 0 = b ∧ sx_P s.heap.size ad D cI cZ (sx_ro ((List.range L).map xs)) adV s := by
  have hs := flat_of_before _ hgv
  have ht1 : ∀ w ∈ tables_1, w.before #[Value.ref b] s = true := fun w hw => hts w (List.mem_append_right _ hw)
  have hbig : ∀ w ∈ sx_big, w.before #[Value.ref b] s = true := fun w hw => hts w (List.mem_filter.mp hw).1
  have hA : ∀ a : Nat, a < s.heap.size → ¬ sx_A s.heap.size a := fun a h q => Nat.not_le.mpr h q
  have stat : ∀ (n : String) (row : List Int32), row.length < 2 ^ 31 → (Cond.arrayOf (.static "FlotsamQuorum" n "[I") .int ∈ sx_nar ∧ Cond.eq (.length (.static "FlotsamQuorum" n "[I")) (.int (Int32.ofNat row.length)) ∈ sx_nar ∧ ∀ j, j < row.length → Cond.eq (.elem (.static "FlotsamQuorum" n "[I") (.int (Int32.ofNat j))) (.int (row.getD j 0)) ∈ sx_nar) → Cond.laysStatic "FlotsamQuorum" n "[I" ∈ tables_1 →
      ∃ t : Nat, va_T .int t row.length (fun j => .int (row.getD j 0)) (sx_A s.heap.size) s s.heap ∧ va_Z "FlotsamQuorum" n "[I" (.ref t) (sx_A s.heap.size) s s.heap := by
    intro n row hN h hl
    obtain ⟨t, h1, h2⟩ := va_Tof (f := fun j => .int (row.getD j 0)) (A := sx_A s.heap.size) hN (hs _ h.1) (va_eqt (hs _ h.2.1)) (fun j hj => va_eqt (hs _ (h.2.2 j hj))) hA
    exact ⟨t, h2, va_Zof (ht1 _ hl) (ht1 _ sx_in_X) h1 hA⟩
  obtain ⟨tA, hA1, hA2⟩ := stat "ABOVE" sx_above (by decide) sx_n_ABOVE sx_ls_ABOVE
  obtain ⟨tB, hB1, hB2⟩ := stat "BODIES" sx_bodies (by decide) sx_n_BODIES sx_ls_BODIES
  obtain ⟨tF, hF1, hF2⟩ := stat "FACTORIALS" sx_facts (by decide) sx_n_FACTORIALS sx_ls_FACTORIALS
  obtain ⟨adK, adV, hK1, hK2⟩ := vk_Sof (args := #[Value.ref b]) (s := s) (N := 5) (tm := sx_tm) (len := sx_len) (byt := sx_byt) (A := sx_A s.heap.size) (fun i hi => by have := (sj_lens i hi).2; omega) (fun i hi => hs _ (sx_n_1 i hi).1) (fun i hi => hs _ (sx_n_1 i hi).2.1) (fun i hi => hs _ (sx_n_1 i hi).2.2.1) (fun i hi => hs _ (sx_n_1 i hi).2.2.2) (fun i hi j hj => hs _ (sx_n_2 i hi j hj))
    (fun i j hi hj hij => (sx_n_3 i hi j hj hij).elim (fun q => Or.inl (hs _ q)) (fun q => Or.inr (hs _ q))) hA
  have hcl : ∀ ci : Nat, ∃ q : ClassId × (Nat → Nat), ci < 9 → u_Kn s (sx_clR ci).1 (sx_clR ci).2.1 (sx_clR ci).2.2 q.1 q.2 := by
    intro ci
    by_cases h : ci < 9
    · obtain ⟨cC, iS, hk⟩ := u_known hbig (sx_in_all ci h) (hbig _ (sx_inst_all ci h))
      exact ⟨(cC, iS), fun _ => hk⟩
    · exact ⟨(0, fun _ => 0), fun q => absurd q h⟩
  obtain ⟨fD, hfD⟩ := Classical.axiomOfChoice hcl
  obtain ⟨cI, hI1, hI2⟩ := sx_arrK (ty := .int) (fun C h => by cases h) (hbig _ sx_wI)
  obtain ⟨cZ, hZ1, hZ2⟩ := sx_arrK (ty := .boolean) (fun C h => by cases h) (hbig _ sx_wZ)
  let ad : Nat → Nat := fun k => if k = 0 then b else if k = 1 then tA else if k = 2 then tB else if k = 3 then tF else if k < 1000 then s.heap.size + (k - 4) else adK (k - 1000)
  have e1000 : (fun i => ad (1000 + i)) = adK := by
    funext i
    show (if 1000 + i = 0 then b else if 1000 + i = 1 then tA else if 1000 + i = 2 then tB else if 1000 + i = 3 then tF else if 1000 + i < 1000 then s.heap.size + (1000 + i - 4) else adK (1000 + i - 1000)) = adK i
    rw [if_neg (by omega), if_neg (by omega), if_neg (by omega), if_neg (by omega), if_neg (by omega), Nat.add_sub_cancel_left]
  refine ⟨ad, (fun k => (fD k).1, fun k => (fD k).2), cI, cZ, adV, ?_, rfl, ?_, ?_, ?_, ?_⟩
  · intro k h4 h1000
    show (if k = 0 then b else if k = 1 then tA else if k = 2 then tB else if k = 3 then tF else if k < 1000 then s.heap.size + (k - 4) else adK (k - 1000)) = _
    rw [if_neg (by omega), if_neg (by omega), if_neg (by omega), if_neg (by omega), if_pos h1000]
  · refine ⟨fun c q hq => ?_, fun k q hq => ?_⟩
    · have hc : c < 9 := (List.getElem?_eq_some_iff.mp hq).1
      rw [sx_cl_get c hc] at hq
      cases hq
      exact hfD c hc
    · match k, hq with
      | 0, hq => cases hq; exact ⟨hI1, hI2⟩
      | 1, hq => cases hq; exact ⟨hZ1, hZ2⟩
      | k + 2, hq => simp at hq
  · intro w hw
    have hb := ht1 w (List.mem_filter.mp hw).1
    rcases sx_nest_is hw with ⟨a, i, x, q, rfl⟩ | ⟨a, i, b', n, d, q, rfl⟩
    · exact va_Nw.of rfl hb
    · exact va_Nw.of rfl hb
  · intro q hq
    obtain ⟨h1, h2⟩ := sx_n_4 q hq
    have ev : (Term.string (sx_own q.1) q.2.1).eval #[Value.ref b] s none [] s = some (.ref (adK q.2.2)) := by
      rcases h1 with h1 | h1
      · rw [h1]; exact hK2 _ h2
      · exact va_eqR (hs _ h1) (hK2 _ h2)
    have := vk_R.of (ht1 _ (sx_sr_mem q hq)) ev
    rw [← congrFun e1000 q.2.2] at this
    exact this
  · refine ⟨fun k hk => ?_, fun k h1 hk => ?_, ?_, ?_, ?_⟩
    · match k, hk with
      | 0, _ =>
        obtain ⟨scr, x1, x2, x3, x4, x5⟩ := hX
        have hlen : (sx_ro ((List.range L).map xs) 0).length = L := by show ((List.range L).map xs).length = L; simp
        refine ⟨scr, x1, x2, x3, by rw [hlen, x4]; exact Nat.le_refl _, by rw [hlen, x4], fun j hj => ?_, hA _ hbl⟩
        rw [hlen] at hj
        rw [x5 j hj]
        show _ = some (Value.int (((List.range L).map xs).getD j 0))
        rw [List.getD_eq_getElem?_getD, List.getElem?_map, List.getElem?_range hj]
        rfl
      | 1, _ => exact hA1
      | 2, _ => exact hB1
      | 3, _ => exact hF1
      | k + 4, hk => exact absurd hk (by omega)
    · match k, h1, hk with
      | 1, _, _ => exact hA2
      | 2, _, _ => exact hB2
      | 3, _, _ => exact hF2
      | k + 4, _, hk => exact absurd hk (by omega)
    · rw [e1000]; exact hK1
    · exact va_Zof (ht1 _ sx_ls_CS) (hbig _ ji_S) (va_eqi (hs _ sx_n_5.1)) hA
    · obtain ⟨v, hv, hr⟩ := Cond.isRef_spec (hs _ sx_n_5.2)
      have hz := va_Zof (A := sx_A s.heap.size) (ht1 _ sx_ls_SF) (hbig _ ji_P) hv hA
      cases v with
      | null => exact Or.inl hz
      | ref t => exact Or.inr ⟨t, hz⟩
      | _ => cases hr
/-- the store with which the law begins -/
def sx_st0 (scr : List Int32) : pm_S := [.inr (2, scr), .inr (2, sx_above), .inr (2, sx_bodies), .inr (2, sx_facts)]

