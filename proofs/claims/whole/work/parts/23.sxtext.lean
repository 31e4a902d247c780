/-! SOUNDNESS: texts. The JDK's own members over the constants -/
def jy_len : MethodName := ⟨"java/lang/String", "length", "()I"⟩
abbrev jb_len : ByteArray := prog_13_method_54_code
theorem jw_len : Cond.code jy_len jb_len 1 (some .int) ∈ sx_big := sx_mem 321 (by decide +kernel) rfl
theorem jv_len : Cond.instanceMethod jy_len ∈ sx_big := sx_mem 319 (by decide +kernel) rfl
theorem js_len : Cond.selects "java/lang/String" jy_len jy_len ∈ sx_big := sx_mem 320 (by decide +kernel) rfl
theorem jd_len_0 : decode jb_len 0 = .ok (.aload_n 0, 1) := by decide +kernel
theorem jd_len_1 : decode jb_len 1 = .ok (.getfield 9, 3) := by decide +kernel
theorem jd_len_4 : decode jb_len 4 = .ok (.arraylength, 1) := by decide +kernel
theorem jd_len_5 : decode jb_len 5 = .ok (.aload_n 0, 1) := by decide +kernel
theorem jd_len_6 : decode jb_len 6 = .ok (.invokevirtual 335, 3) := by decide +kernel
theorem jd_len_9 : decode jb_len 9 = .ok (.ishr, 1) := by decide +kernel
theorem jd_len_10 : decode jb_len 10 = .ok (.ireturn, 1) := by decide +kernel
def jy_cod : MethodName := ⟨"java/lang/String", "coder", "()B"⟩
abbrev jb_cod : ByteArray := prog_13_method_152_code
theorem jw_cod : Cond.code jy_cod jb_cod 1 (some .byte) ∈ sx_big := sx_mem 325 (by decide +kernel) rfl
theorem jv_cod : Cond.instanceMethod jy_cod ∈ sx_big := sx_mem 323 (by decide +kernel) rfl
theorem js_cod : Cond.selects "java/lang/String" jy_cod jy_cod ∈ sx_big := sx_mem 324 (by decide +kernel) rfl
theorem jd_cod_0 : decode jb_cod 0 = .ok (.getstatic 38, 3) := by decide +kernel
theorem jd_cod_3 : decode jb_cod 3 = .ok (.ifCond .eq 10, 3) := by decide +kernel
theorem jd_cod_6 : decode jb_cod 6 = .ok (.aload_n 0, 1) := by decide +kernel
theorem jd_cod_7 : decode jb_cod 7 = .ok (.getfield 15, 3) := by decide +kernel
theorem jd_cod_10 : decode jb_cod 10 = .ok (.goto 4, 3) := by decide +kernel
theorem jd_cod_13 : decode jb_cod 13 = .ok (.iconst 1, 1) := by decide +kernel
theorem jd_cod_14 : decode jb_cod 14 = .ok (.ireturn, 1) := by decide +kernel
def jy_chr : MethodName := ⟨"java/lang/String", "charAt", "(I)C"⟩
abbrev jb_chr : ByteArray := prog_13_method_56_code
theorem jw_chr : Cond.code jy_chr jb_chr 2 (some .char) ∈ sx_big := sx_mem 331 (by decide +kernel) rfl
theorem jv_chr : Cond.instanceMethod jy_chr ∈ sx_big := sx_mem 329 (by decide +kernel) rfl
theorem js_chr : Cond.selects "java/lang/String" jy_chr jy_chr ∈ sx_big := sx_mem 330 (by decide +kernel) rfl
theorem jd_chr_0 : decode jb_chr 0 = .ok (.aload_n 0, 1) := by decide +kernel
theorem jd_chr_1 : decode jb_chr 1 = .ok (.invokevirtual 492, 3) := by decide +kernel
theorem jd_chr_4 : decode jb_chr 4 = .ok (.ifCond .eq 12, 3) := by decide +kernel
theorem jd_chr_7 : decode jb_chr 7 = .ok (.aload_n 0, 1) := by decide +kernel
theorem jd_chr_8 : decode jb_chr 8 = .ok (.getfield 9, 3) := by decide +kernel
theorem jd_chr_11 : decode jb_chr 11 = .ok (.iload_n 1, 1) := by decide +kernel
theorem jd_chr_12 : decode jb_chr 12 = .ok (.invokestatic 495, 3) := by decide +kernel
theorem jd_chr_15 : decode jb_chr 15 = .ok (.ireturn, 1) := by decide +kernel
theorem jd_chr_16 : decode jb_chr 16 = .ok (.aload_n 0, 1) := by decide +kernel
theorem jd_chr_17 : decode jb_chr 17 = .ok (.getfield 9, 3) := by decide +kernel
theorem jd_chr_20 : decode jb_chr 20 = .ok (.iload_n 1, 1) := by decide +kernel
theorem jd_chr_21 : decode jb_chr 21 = .ok (.invokestatic 498, 3) := by decide +kernel
theorem jd_chr_24 : decode jb_chr 24 = .ok (.ireturn, 1) := by decide +kernel
def jy_lat : MethodName := ⟨"java/lang/String", "isLatin1", "()Z"⟩
abbrev jb_lat : ByteArray := prog_13_method_154_code
theorem jw_lat : Cond.code jy_lat jb_lat 1 (some .boolean) ∈ sx_big := sx_mem 335 (by decide +kernel) rfl
theorem jv_lat : Cond.instanceMethod jy_lat ∈ sx_big := sx_mem 333 (by decide +kernel) rfl
theorem js_lat : Cond.selects "java/lang/String" jy_lat jy_lat ∈ sx_big := sx_mem 334 (by decide +kernel) rfl
theorem jd_lat_0 : decode jb_lat 0 = .ok (.getstatic 38, 3) := by decide +kernel
theorem jd_lat_3 : decode jb_lat 3 = .ok (.ifCond .eq 14, 3) := by decide +kernel
theorem jd_lat_6 : decode jb_lat 6 = .ok (.aload_n 0, 1) := by decide +kernel
theorem jd_lat_7 : decode jb_lat 7 = .ok (.getfield 15, 3) := by decide +kernel
theorem jd_lat_10 : decode jb_lat 10 = .ok (.ifCond .ne 7, 3) := by decide +kernel
theorem jd_lat_13 : decode jb_lat 13 = .ok (.iconst 1, 1) := by decide +kernel
theorem jd_lat_14 : decode jb_lat 14 = .ok (.goto 4, 3) := by decide +kernel
theorem jd_lat_17 : decode jb_lat 17 = .ok (.iconst 0, 1) := by decide +kernel
theorem jd_lat_18 : decode jb_lat 18 = .ok (.ireturn, 1) := by decide +kernel
def jy_l1c : MethodName := ⟨"java/lang/StringLatin1", "charAt", "([BI)C"⟩
abbrev jb_l1c : ByteArray := prog_14_method_2_code
theorem jw_l1c : Cond.code jy_l1c jb_l1c 2 (some .char) ∈ sx_big := sx_mem 338 (by decide +kernel) rfl
theorem jv_l1c : Cond.static jy_l1c ∈ sx_big := sx_mem 337 (by decide +kernel) rfl
theorem jd_l1c_0 : decode jb_l1c 0 = .ok (.iload_n 1, 1) := by decide +kernel
theorem jd_l1c_1 : decode jb_l1c 1 = .ok (.aload_n 0, 1) := by decide +kernel
theorem jd_l1c_2 : decode jb_l1c 2 = .ok (.arraylength, 1) := by decide +kernel
theorem jd_l1c_3 : decode jb_l1c 3 = .ok (.invokestatic 9, 3) := by decide +kernel
theorem jd_l1c_6 : decode jb_l1c 6 = .ok (.aload_n 0, 1) := by decide +kernel
theorem jd_l1c_7 : decode jb_l1c 7 = .ok (.iload_n 1, 1) := by decide +kernel
theorem jd_l1c_8 : decode jb_l1c 8 = .ok (.baload, 1) := by decide +kernel
theorem jd_l1c_9 : decode jb_l1c 9 = .ok (.sipush 255, 3) := by decide +kernel
theorem jd_l1c_12 : decode jb_l1c 12 = .ok (.iand, 1) := by decide +kernel
theorem jd_l1c_13 : decode jb_l1c 13 = .ok (.i2c, 1) := by decide +kernel
theorem jd_l1c_14 : decode jb_l1c 14 = .ok (.ireturn, 1) := by decide +kernel
def jy_chk : MethodName := ⟨"java/lang/String", "checkIndex", "(II)V"⟩
abbrev jb_chk : ByteArray := prog_13_method_155_code
theorem jw_chk : Cond.code jy_chk jb_chk 2 none ∈ sx_big := sx_mem 341 (by decide +kernel) rfl
theorem jv_chk : Cond.static jy_chk ∈ sx_big := sx_mem 340 (by decide +kernel) rfl
theorem jd_chk_0 : decode jb_chk 0 = .ok (.iload_n 0, 1) := by decide +kernel
theorem jd_chk_1 : decode jb_chk 1 = .ok (.iload_n 1, 1) := by decide +kernel
theorem jd_chk_2 : decode jb_chk 2 = .ok (.getstatic 1053, 3) := by decide +kernel
theorem jd_chk_5 : decode jb_chk 5 = .ok (.invokestatic 1059, 3) := by decide +kernel
theorem jd_chk_8 : decode jb_chk 8 = .ok (.pop, 1) := by decide +kernel
theorem jd_chk_9 : decode jb_chk 9 = .ok (.return_, 1) := by decide +kernel
def jy_pre : MethodName := ⟨"jdk/internal/util/Preconditions", "checkIndex", "(IILjava/util/function/BiFunction;)I"⟩
abbrev jb_pre : ByteArray := prog_17_method_11_code
theorem jw_pre : Cond.code jy_pre jb_pre 3 (some .int) ∈ sx_big := sx_mem 346 (by decide +kernel) rfl
theorem jv_pre : Cond.static jy_pre ∈ sx_big := sx_mem 345 (by decide +kernel) rfl
theorem jd_pre_0 : decode jb_pre 0 = .ok (.iload_n 0, 1) := by decide +kernel
theorem jd_pre_1 : decode jb_pre 1 = .ok (.ifCond .lt 8, 3) := by decide +kernel
theorem jd_pre_4 : decode jb_pre 4 = .ok (.iload_n 0, 1) := by decide +kernel
theorem jd_pre_5 : decode jb_pre 5 = .ok (.iload_n 1, 1) := by decide +kernel
theorem jd_pre_6 : decode jb_pre 6 = .ok (.if_icmp .lt 10, 3) := by decide +kernel
theorem jd_pre_9 : decode jb_pre 9 = .ok (.aload_n 2, 1) := by decide +kernel
theorem jd_pre_10 : decode jb_pre 10 = .ok (.iload_n 0, 1) := by decide +kernel
theorem jd_pre_11 : decode jb_pre 11 = .ok (.iload_n 1, 1) := by decide +kernel
theorem jd_pre_12 : decode jb_pre 12 = .ok (.invokestatic 95, 3) := by decide +kernel
theorem jd_pre_15 : decode jb_pre 15 = .ok (.athrow, 1) := by decide +kernel
theorem jd_pre_16 : decode jb_pre 16 = .ok (.iload_n 0, 1) := by decide +kernel
theorem jd_pre_17 : decode jb_pre 17 = .ok (.ireturn, 1) := by decide +kernel
theorem ji_S : Cond.initialized "java/lang/String" ∈ sx_big := sx_mem 12 (by decide +kernel) rfl
theorem ji_L : Cond.initialized "java/lang/StringLatin1" ∈ sx_big := sx_mem 13 (by decide +kernel) rfl
theorem ji_P : Cond.initialized "jdk/internal/util/Preconditions" ∈ sx_big := sx_mem 14 (by decide +kernel) rfl
theorem jf_val : Cond.fieldLink "java/lang/String" 9 "java/lang/String" "value" "[B" ∈ sx_big := sx_mem 1137 (by decide +kernel) rfl
theorem jf_cod : Cond.fieldLink "java/lang/String" 15 "java/lang/String" "coder" "B" ∈ sx_big := sx_mem 1138 (by decide +kernel) rfl
theorem jf_cs : Cond.fieldLink "java/lang/String" 38 "java/lang/String" "COMPACT_STRINGS" "Z" ∈ sx_big := sx_mem 326 (by decide +kernel) rfl
theorem jf_sf : Cond.fieldLink "java/lang/String" 1053 "jdk/internal/util/Preconditions" "SIOOBE_FORMATTER" "Ljava/util/function/BiFunction;" ∈ sx_big := sx_mem 342 (by decide +kernel) rfl
theorem jm_cod : Cond.methodLink "java/lang/String" 335 jy_cod ∈ sx_big := sx_mem 322 (by decide +kernel) rfl
theorem jm_lat : Cond.methodLink "java/lang/String" 492 jy_lat ∈ sx_big := sx_mem 332 (by decide +kernel) rfl
theorem jm_l1c : Cond.methodLink "java/lang/String" 495 jy_l1c ∈ sx_big := sx_mem 336 (by decide +kernel) rfl
theorem jm_chk : Cond.methodLink "java/lang/StringLatin1" 9 jy_chk ∈ sx_big := sx_mem 339 (by decide +kernel) rfl
theorem jm_pre : Cond.methodLink "java/lang/String" 1059 jy_pre ∈ sx_big := sx_mem 344 (by decide +kernel) rfl
theorem sj_GoodIn {y : MethodName} {b : ByteArray} {mx : Nat} {rt : Option FieldType} (h : Cond.code y b mx rt ∈ sx_big) : GoodIn sx_big (Cond.code y b mx rt :: sx_big) := by
  intro w hw
  rcases List.mem_cons.mp hw with rfl | hw
  · exact ⟨h, sx_good h⟩
  · exact ⟨hw, sx_good hw⟩
theorem sj_B {R : Room} {s : State} {args : Array Value} {y : MethodName} {b : ByteArray} {mx : Nat} {rt : Option FieldType} {own : String} {idx n k : Nat} (hts : ∀ w ∈ sx_big, w.before args s = true) (h1 : Cond.code y b mx rt ∈ sx_big) (h2 : Cond.initialized y.cls ∈ sx_big) (h3 : (Cond.methodLink own idx y).before args s = true) (h4 : y.cls ≠ "java/lang/invoke/MethodHandle" ∧ y.cls ≠ "java/lang/invoke/VarHandle") (h5 : (parseMethodDescriptor y.desc).map (fun d => d.parameters.length) = some n) (hfr : k + 1 ≤ R.frames) (hlo : 8 + (mx + 11) + 40 * k ≤ R.locals) :
    CallB R s args own idx y b mx rt (Cond.code y b mx rt :: sx_big) (sx_rm k 0 0) 0 0 n :=
  ⟨rfl, rfl, hfr, hlo, pay_in hts (sj_GoodIn h1), List.mem_cons_self, hts _ h1, hts _ h2, h4, fun sig h => by rw [h] at h5; exact (Option.some.inj h5).symm, h3⟩
section ST
variable {base : Nat} {ad : Nat → Nat} {D : va_G} {cI cZ : ClassId} {ro : Nat → List Int32} {adV : Nat → Nat}
def sj_Pc (base : Nat) (ad : Nat → Nat) (D : va_G) (cI cZ : ClassId) (ro : Nat → List Int32) (adV : Nat → Nat) (as : List Value) : Array Value → State → Prop := va_Pc as fun U => sx_P base ad D cI cZ ro adV U
theorem sj_blind {as : List Value} : FrameBlind (sj_Pc base ad D cI cZ ro adV as) := fun a U g mk h => ⟨h.1, sx_P_same (u := U) (U := U.calling g mk a) rfl rfl h.2⟩
def sj_Qv : Array Value → State → Outcome → State → Prop := fun _ st o t => o = .returned none ∧ t.heap = st.heap
def sj_M (base : Nat) (ad : Nat → Nat) (D : va_G) (cI cZ : ClassId) (ro : Nat → List Int32) (adV : Nat → Nat) (l : Launch) (y : MethodName) (b : ByteArray) (mx : Nat) (rt : Option FieldType) (k : Nat) (as : List Value) (r : Int32) : Prop :=
  Met l y (Cond.code y b mx rt :: sx_big) (sx_rm k 0 0) (sj_Pc base ad D cI cZ ro adV as) (QcRead r) 0 0 (fun _ => False)
theorem sj_cod (l : Launch) {i : Nat} (hi : i < 5) : sj_M base ad D cI cZ ro adV l jy_cod jb_cod 1 (some .byte) 0 [.ref (ad (1000 + i))] 0 := by
  refine Met.ofW (cc := jb_cod) (maxL := 1) (ret := some .byte) (by decide +kernel) rfl ?_
  intro p e s m args below meth c s₁ B hml hv
  obtain ⟨rfl, hP⟩ := hv
  have hx := B.exec
  have hb := B.bytes
  have hts : ∀ w ∈ sx_big, w.before _ s = true := fun w hw => atoms_spec (ws := Cond.code jy_cod jb_cod 1 (some .byte) :: sx_big) B.pre w (List.mem_cons_of_mem _ hw)
  have hown : s.vm.findClass "java/lang/String" = some m.cls := findClass_of_methodNamed B.named
  have hS : va_S (sx_A base) s.heap s.heap [] := va_S.rf
  have hE := hP.2.2.2
  have hl := lv_entry ([.ref (ad (1000 + i))]) (n := 1) (Nat.le_of_ble_eq_true rfl)
  rw [lg_entry_eq]
  generalize (lg_sl ([.ref (ad (1000 + i))]) ++ List.replicate (1 - (lg_sl ([.ref (ad (1000 + i))])).length) Slot.unset).toArray = ls at hl ⊢
  have hl : lv_has ls 1 [(0, .ref (ad (1000 + i)))] := hl
  refine va_gets hx hb hE.2.2.2.1 hS hown (hts _ jf_cs) (fun _ q => q) jd_cod_0 ?_
  refine lv_if_eq (tgt := 13) hx hb jd_cod_3 (by decide) (fun q => absurd q (by decide)) (fun _ => ?_)
  refine lv_aload_n hx hb jd_cod_6 rfl (lv_at hl 0 rfl) ?_
  refine vk_getf hx hb (hE.2.2.1.1 i hi).2.1 hS hown (hts _ jf_cod) (fun _ q => q) jd_cod_7 ?_
  refine lv_goto (tgt := 14) hx hb jd_cod_10 (by decide) ?_
  exact W.zret hx hb B.returns rfl (fun t ht _ => ⟨rfl, ht⟩) (fun q h => by cases h) jd_cod_14 B.notSynchronized
theorem sj_lat (l : Launch) {i : Nat} (hi : i < 5) : sj_M base ad D cI cZ ro adV l jy_lat jb_lat 1 (some .boolean) 0 [.ref (ad (1000 + i))] 1 := by
  refine Met.ofW (cc := jb_lat) (maxL := 1) (ret := some .boolean) (by decide +kernel) rfl ?_
  intro p e s m args below meth c s₁ B hml hv
  obtain ⟨rfl, hP⟩ := hv
  have hx := B.exec
  have hb := B.bytes
  have hts : ∀ w ∈ sx_big, w.before _ s = true := fun w hw => atoms_spec (ws := Cond.code jy_lat jb_lat 1 (some .boolean) :: sx_big) B.pre w (List.mem_cons_of_mem _ hw)
  have hown : s.vm.findClass "java/lang/String" = some m.cls := findClass_of_methodNamed B.named
  have hS : va_S (sx_A base) s.heap s.heap [] := va_S.rf
  have hE := hP.2.2.2
  have hl := lv_entry ([.ref (ad (1000 + i))]) (n := 1) (Nat.le_of_ble_eq_true rfl)
  rw [lg_entry_eq]
  generalize (lg_sl ([.ref (ad (1000 + i))]) ++ List.replicate (1 - (lg_sl ([.ref (ad (1000 + i))])).length) Slot.unset).toArray = ls at hl ⊢
  have hl : lv_has ls 1 [(0, .ref (ad (1000 + i)))] := hl
  refine va_gets hx hb hE.2.2.2.1 hS hown (hts _ jf_cs) (fun _ q => q) jd_lat_0 ?_
  refine lv_if_eq (tgt := 17) hx hb jd_lat_3 (by decide) (fun q => absurd q (by decide)) (fun _ => ?_)
  refine lv_aload_n hx hb jd_lat_6 rfl (lv_at hl 0 rfl) ?_
  refine vk_getf hx hb (hE.2.2.1.1 i hi).2.1 hS hown (hts _ jf_cod) (fun _ q => q) jd_lat_7 ?_
  refine lv_if_ne (tgt := 17) hx hb jd_lat_10 (by decide) (fun q => absurd rfl q) (fun _ => ?_)
  refine lv_iconst (v := 1) hx hb jd_lat_13 (by decide) ?_
  refine lv_goto (tgt := 18) hx hb jd_lat_14 (by decide) ?_
  exact W.zret hx hb B.returns rfl (fun t ht _ => ⟨rfl, ht⟩) (fun q h => by cases h) jd_lat_18 B.notSynchronized
theorem sj_shr : ∀ i, i < 5 → Int32.ofNat (sx_len.getD i 0) >>> ((0 : Int32) &&& 31) = nI (sx_len.getD i 0) := by decide +kernel
theorem sj_len (l : Launch) {i : Nat} (hi : i < 5) : sj_M base ad D cI cZ ro adV l jy_len jb_len 1 (some .int) 1 [.ref (ad (1000 + i))] (nI (sx_len.getD i 0)) := by
  refine Met.ofW (cc := jb_len) (maxL := 1) (ret := some .int) (by decide +kernel) rfl ?_
  intro p e s m args below meth c s₁ B hml hv
  obtain ⟨rfl, hP⟩ := hv
  have hx := B.exec
  have hb := B.bytes
  have hts : ∀ w ∈ sx_big, w.before _ s = true := fun w hw => atoms_spec (ws := Cond.code jy_len jb_len 1 (some .int) :: sx_big) B.pre w (List.mem_cons_of_mem _ hw)
  have hown : s.vm.findClass "java/lang/String" = some m.cls := findClass_of_methodNamed B.named
  have hS : va_S (sx_A base) s.heap s.heap [] := va_S.rf
  have hE := hP.2.2.2
  have hl := lv_entry ([.ref (ad (1000 + i))]) (n := 1) (Nat.le_of_ble_eq_true rfl)
  rw [lg_entry_eq]
  generalize (lg_sl ([.ref (ad (1000 + i))]) ++ List.replicate (1 - (lg_sl ([.ref (ad (1000 + i))])).length) Slot.unset).toArray = ls at hl ⊢
  have hl : lv_has ls 1 [(0, .ref (ad (1000 + i)))] := hl
  refine lv_aload_n hx hb jd_len_0 rfl (lv_at hl 0 rfl) ?_
  refine vk_getf hx hb (hE.2.2.1.1 i hi).2.2.1 hS hown (hts _ jf_val) (fun _ q => q) jd_len_1 ?_
  refine va_tlen hx hb (hE.2.2.1.1 i hi).2.2.2 hS rfl jd_len_4 ?_
  refine lv_aload_n hx hb jd_len_5 rfl (lv_at hl 0 rfl) ?_
  refine W.callR (W.runV (n := 0) (As := []) (rest := [.int (Int32.ofNat (sx_len.getD i 0))]) (C := "java/lang/String") ⟨hx, hb, hml, hown, hts⟩ (sj_cod (base := base) (ad := ad) (D := D) (cI := cI) (cZ := cZ) (ro := ro) (adV := adV) l hi) ⟨sj_B hts jw_cod ji_S (hts _ jm_cod) ⟨by decide, by decide⟩ (by decide +kernel) (Nat.le_of_ble_eq_true rfl) (Nat.le_of_ble_eq_true rfl), hts _ jv_cod, hts _ js_cod⟩ ⟨sj_blind, vk_recv hE.2.2.1 hi hS, fun U hU hW => ⟨rfl, sx_P_warm hW (fun q _ _ => by rw [hU]) hP⟩⟩ rfl rfl hl.1 rfl (lv_room (Nat.le_of_ble_eq_true rfl)) jd_len_6 ⟨Nat.le_refl _, Nat.le_refl _⟩) ?_
  refine W.eq (g2 := F0 m 9 ls [.int 0, .int (Int32.ofNat (sx_len.getD i 0))]) rfl ?_
  refine lv_ishr hx hb jd_len_9 ?_
  rw [sj_shr i hi]
  exact W.iret hx hb B.returns (fun t ht _ => ⟨rfl, ht⟩) (fun q h => by cases h) jd_len_10 B.notSynchronized
theorem sj_pre (l : Launch) {k n : Int32} {v : Value} (hv1 : v.category = 1) (h0 : 0 ≤ k.toInt) (h1 : k.toInt < n.toInt) : sj_M base ad D cI cZ ro adV l jy_pre jb_pre 3 (some .int) 0 [.int k, .int n, v] k := by
  refine Met.ofW (cc := jb_pre) (maxL := 3) (ret := some .int) (by decide +kernel) rfl ?_
  intro p e s m args below meth c s₁ B hml hv
  obtain ⟨rfl, hP⟩ := hv
  have hx := B.exec
  have hb := B.bytes
  have hlen : (lg_sl ([.int k, .int n, v])).length ≤ 3 := by rw [sx_sl_len]; show 1 + (1 + (v.category + 0)) ≤ 3; rw [hv1]; decide
  have hl := lv_entry ([.int k, .int n, v]) (n := 3) hlen
  rw [lg_entry_eq]
  generalize (lg_sl ([.int k, .int n, v]) ++ List.replicate (3 - (lg_sl ([.int k, .int n, v])).length) Slot.unset).toArray = ls at hl ⊢
  have hl : lv_has ls 3 [(0, .int k), (1, .int n), (2, v)] := hl
  refine lv_iload_n hx hb jd_pre_0 rfl (lv_at hl 0 rfl) ?_
  refine lv_if_lt (tgt := 9) hx hb jd_pre_1 (by decide) (fun q => by have := Int32.lt_iff_toInt_lt.mp q; simp at this; omega) (fun _ => ?_)
  refine lv_iload_n hx hb jd_pre_4 rfl (lv_at hl 0 rfl) ?_
  refine lv_iload_n hx hb jd_pre_5 rfl (lv_at hl 1 rfl) ?_
  refine lv_icmp_lt (tgt := 16) hx hb jd_pre_6 (by decide) (fun _ => ?_) (fun q => absurd (Int32.lt_iff_toInt_lt.mpr h1) q)
  refine lv_iload_n hx hb jd_pre_16 rfl (lv_at hl 0 rfl) ?_
  exact W.iret hx hb B.returns (fun t ht _ => ⟨rfl, ht⟩) (fun q h => by cases h) jd_pre_17 B.notSynchronized
theorem sj_chk (l : Launch) {k n : Int32} (h0 : 0 ≤ k.toInt) (h1 : k.toInt < n.toInt) : Met l jy_chk (Cond.code jy_chk jb_chk 2 none :: sx_big) (sx_rm 1 0 0) (sj_Pc base ad D cI cZ ro adV [.int k, .int n]) sj_Qv 0 0 (fun _ => False) := by
  refine Met.ofW (cc := jb_chk) (maxL := 2) (ret := none) (by decide +kernel) rfl ?_
  intro p e s m args below meth c s₁ B hml hv
  obtain ⟨rfl, hP⟩ := hv
  have hx := B.exec
  have hb := B.bytes
  have hts : ∀ w ∈ sx_big, w.before _ s = true := fun w hw => atoms_spec (ws := Cond.code jy_chk jb_chk 2 none :: sx_big) B.pre w (List.mem_cons_of_mem _ hw)
  have hown : s.vm.findClass "java/lang/String" = some m.cls := findClass_of_methodNamed B.named
  have hS : va_S (sx_A base) s.heap s.heap [] := va_S.rf
  have hE := hP.2.2.2
  have hl := lv_entry ([.int k, .int n]) (n := 2) (Nat.le_of_ble_eq_true rfl)
  rw [lg_entry_eq]
  generalize (lg_sl ([.int k, .int n]) ++ List.replicate (2 - (lg_sl ([.int k, .int n])).length) Slot.unset).toArray = ls at hl ⊢
  have hl : lv_has ls 2 [(0, .int k), (1, .int n)] := hl
  refine lv_iload_n hx hb jd_chk_0 rfl (lv_at hl 0 rfl) ?_
  refine lv_iload_n hx hb jd_chk_1 rfl (lv_at hl 1 rfl) ?_
  have go : ∀ v : Value, v.category = 1 → va_Z "jdk/internal/util/Preconditions" "SIOOBE_FORMATTER" "Ljava/util/function/BiFunction;" v (sx_A base) s s.heap → W p l e (headSpec (Cond.code jy_chk jb_chk 2 none :: sx_big) (sx_rm 1 0 0)).room s m [Value.int k, Value.int n].toArray below meth c s.heap [] 0 0 (MQ below sj_Qv [Value.int k, Value.int n].toArray s 0 0 (fun _ => False)) (F0 m 2 ls [.int n, .int k]) := by
    intro v hv1 hZ
    refine va_gets hx hb hZ hS hown (hts _ jf_sf) (fun _ q => q) jd_chk_2 ?_
    refine W.callR (r := k) (W.runS (n := 3) (As := [.int k, .int n, v]) (rest := []) ⟨hx, hb, hml, hown, hts⟩ (sj_pre (base := base) (ad := ad) (D := D) (cI := cI) (cZ := cZ) (ro := ro) (adV := adV) l hv1 h0 h1) ⟨sj_B hts jw_pre ji_P (hts _ jm_pre) ⟨by decide, by decide⟩ (by decide +kernel) (Nat.le_of_ble_eq_true rfl) (Nat.le_of_ble_eq_true rfl), hts _ jv_pre⟩ ⟨sj_blind, fun U hU hW => ⟨rfl, sx_P_warm hW (fun q _ _ => by rw [hU]) hP⟩⟩ rfl rfl hl.1 rfl (lv_room (Nat.le_of_ble_eq_true rfl)) jd_chk_5 ⟨Nat.le_refl _, Nat.le_refl _⟩) ?_
    refine W.eq (g2 := F0 m 8 ls [.int k]) rfl ?_
    refine lv_pop hx hb jd_chk_8 rfl ?_
    exact W.vret hx hb B.returns (fun t ht _ => ⟨rfl, ht⟩) (fun q h => by cases h) jd_chk_9 B.notSynchronized
  rcases hE.2.2.2.2 with hZ | ⟨t, hZ⟩
  · exact go _ rfl hZ
  · exact go _ rfl hZ
end ST
section ST2
variable {base : Nat} {ad : Nat → Nat} {D : va_G} {cI cZ : ClassId} {ro : Nat → List Int32} {adV : Nat → Nat}
theorem sj_byte : ∀ i, i < 5 → ∀ k, k < sx_len.getD i 0 → ((((sx_byt.getD i []).getD k 0) &&& 255).toUInt32 % 65536).toInt32 = (sx_byt.getD i []).getD k 0 ∧ narrow .char (.int ((sx_byt.getD i []).getD k 0)) = .int ((sx_byt.getD i []).getD k 0) := by decide +kernel
theorem sj_lens : ∀ i, i < 5 → sx_len.getD i 0 = (sx_byt.getD i []).length ∧ sx_len.getD i 0 < 10 := by decide +kernel
theorem sj_l1c (l : Launch) {i : Nat} (hi : i < 5) {k : Nat} (hk : k < sx_len.getD i 0) : sj_M base ad D cI cZ ro adV l jy_l1c jb_l1c 2 (some .char) 2 [.ref (adV i), .int (nI k)] ((sx_byt.getD i []).getD k 0) := by
  refine Met.ofW (cc := jb_l1c) (maxL := 2) (ret := some .char) (by decide +kernel) rfl ?_
  intro p e s m args below meth c s₁ B hml hv
  obtain ⟨rfl, hP⟩ := hv
  have hx := B.exec
  have hb := B.bytes
  have hts : ∀ w ∈ sx_big, w.before _ s = true := fun w hw => atoms_spec (ws := Cond.code jy_l1c jb_l1c 2 (some .char) :: sx_big) B.pre w (List.mem_cons_of_mem _ hw)
  have hown : s.vm.findClass "java/lang/StringLatin1" = some m.cls := findClass_of_methodNamed B.named
  have hS : va_S (sx_A base) s.heap s.heap [] := va_S.rf
  have hE := hP.2.2.2
  have h10 := (sj_lens i hi).2
  have hl := lv_entry ([.ref (adV i), .int (nI k)]) (n := 2) (Nat.le_of_ble_eq_true rfl)
  rw [lg_entry_eq]
  generalize (lg_sl ([.ref (adV i), .int (nI k)]) ++ List.replicate (2 - (lg_sl ([.ref (adV i), .int (nI k)])).length) Slot.unset).toArray = ls at hl ⊢
  have hl : lv_has ls 2 [(0, .ref (adV i)), (1, .int (nI k))] := hl
  refine lv_iload_n hx hb jd_l1c_0 rfl (lv_at hl 1 rfl) ?_
  refine lv_aload_n hx hb jd_l1c_1 rfl (lv_at hl 0 rfl) ?_
  refine va_tlen hx hb (hE.2.2.1.1 i hi).2.2.2 hS rfl jd_l1c_2 ?_
  refine W.callX (free := fun _ => False) (mc := 0) (ms := 0) (W.runS (n := 2) (As := [.int (nI k), .int (nI (sx_len.getD i 0))]) (rest := []) ⟨hx, hb, hml, hown, hts⟩ (sj_chk (base := base) (ad := ad) (D := D) (cI := cI) (cZ := cZ) (ro := ro) (adV := adV) l (k := nI k) (n := nI (sx_len.getD i 0)) (by rw [nI_toInt (by omega)]; omega) (by rw [nI_toInt (by omega), nI_toInt (by omega)]; omega)) ⟨sj_B hts jw_chk ji_S (hts _ jm_chk) ⟨by decide, by decide⟩ (by decide +kernel) (Nat.le_of_ble_eq_true rfl) (Nat.le_of_ble_eq_true rfl), hts _ jv_chk⟩ ⟨sj_blind, fun U hU hW => ⟨rfl, sx_P_warm hW (fun q _ _ => by rw [hU]) hP⟩⟩ rfl rfl hl.1 rfl (lv_room (Nat.le_of_ble_eq_true rfl)) jd_l1c_3 ⟨Nat.le_refl _, Nat.le_refl _⟩) (fun _ h => h.elim) (fun v st₀ t h0 hq => ?_)
  obtain ⟨hv, hh⟩ := hq
  cases hv
  rw [hh, h0]
  refine W.eq (g2 := F0 m 6 ls []) rfl ?_
  refine lv_aload_n hx hb jd_l1c_6 rfl (lv_at hl 0 rfl) ?_
  refine lv_iload_n hx hb jd_l1c_7 rfl (lv_at hl 1 rfl) ?_
  refine va_tb hx hb (hE.2.2.1.1 i hi).2.2.2 hS (vp_in_nI hk (by omega)) (v := .int ((sx_byt.getD i []).getD k 0)) (by rw [nI_clamp (by omega)]) jd_l1c_8 ?_
  refine lv_sipush (v := 255) hx hb jd_l1c_9 (by decide) ?_
  refine lv_iand hx hb jd_l1c_12 ?_
  refine t_i2c hx hb jd_l1c_13 (sj_byte i hi k hk).1 ?_
  exact W.zret hx hb B.returns (sj_byte i hi k hk).2 (fun t ht _ => ⟨rfl, ht⟩) (fun q h => by cases h) jd_l1c_14 B.notSynchronized
theorem sj_chr (l : Launch) {i : Nat} (hi : i < 5) {k : Nat} (hk : k < sx_len.getD i 0) : sj_M base ad D cI cZ ro adV l jy_chr jb_chr 2 (some .char) 3 [.ref (ad (1000 + i)), .int (nI k)] ((sx_byt.getD i []).getD k 0) := by
  refine Met.ofW (cc := jb_chr) (maxL := 2) (ret := some .char) (by decide +kernel) rfl ?_
  intro p e s m args below meth c s₁ B hml hv
  obtain ⟨rfl, hP⟩ := hv
  have hx := B.exec
  have hb := B.bytes
  have hts : ∀ w ∈ sx_big, w.before _ s = true := fun w hw => atoms_spec (ws := Cond.code jy_chr jb_chr 2 (some .char) :: sx_big) B.pre w (List.mem_cons_of_mem _ hw)
  have hown : s.vm.findClass "java/lang/String" = some m.cls := findClass_of_methodNamed B.named
  have hS : va_S (sx_A base) s.heap s.heap [] := va_S.rf
  have hE := hP.2.2.2
  have hl := lv_entry ([.ref (ad (1000 + i)), .int (nI k)]) (n := 2) (Nat.le_of_ble_eq_true rfl)
  rw [lg_entry_eq]
  generalize (lg_sl ([.ref (ad (1000 + i)), .int (nI k)]) ++ List.replicate (2 - (lg_sl ([.ref (ad (1000 + i)), .int (nI k)])).length) Slot.unset).toArray = ls at hl ⊢
  have hl : lv_has ls 2 [(0, .ref (ad (1000 + i))), (1, .int (nI k))] := hl
  refine lv_aload_n hx hb jd_chr_0 rfl (lv_at hl 0 rfl) ?_
  refine W.callR (r := 1) (W.runV (n := 0) (As := []) (rest := []) (C := "java/lang/String") ⟨hx, hb, hml, hown, hts⟩ (sj_lat (base := base) (ad := ad) (D := D) (cI := cI) (cZ := cZ) (ro := ro) (adV := adV) l hi) ⟨sj_B hts jw_lat ji_S (hts _ jm_lat) ⟨by decide, by decide⟩ (by decide +kernel) (Nat.le_of_ble_eq_true rfl) (Nat.le_of_ble_eq_true rfl), hts _ jv_lat, hts _ js_lat⟩ ⟨sj_blind, vk_recv hE.2.2.1 hi hS, fun U hU hW => ⟨rfl, sx_P_warm hW (fun q _ _ => by rw [hU]) hP⟩⟩ rfl rfl hl.1 rfl (lv_room (Nat.le_of_ble_eq_true rfl)) jd_chr_1 ⟨Nat.le_refl _, Nat.le_refl _⟩) ?_
  refine W.eq (g2 := F0 m 4 ls [.int 1]) rfl ?_
  refine lv_if_eq (tgt := 16) hx hb jd_chr_4 (by decide) (fun q => absurd q (by decide)) (fun _ => ?_)
  refine lv_aload_n hx hb jd_chr_7 rfl (lv_at hl 0 rfl) ?_
  refine vk_getf hx hb (hE.2.2.1.1 i hi).2.2.1 hS hown (hts _ jf_val) (fun _ q => q) jd_chr_8 ?_
  refine lv_iload_n hx hb jd_chr_11 rfl (lv_at hl 1 rfl) ?_
  refine W.callR (r := (sx_byt.getD i []).getD k 0) (W.runS (n := 2) (As := [.ref (adV i), .int (nI k)]) (rest := []) ⟨hx, hb, hml, hown, hts⟩ (sj_l1c (base := base) (ad := ad) (D := D) (cI := cI) (cZ := cZ) (ro := ro) (adV := adV) l hi hk) ⟨sj_B hts jw_l1c ji_L (hts _ jm_l1c) ⟨by decide, by decide⟩ (by decide +kernel) (Nat.le_of_ble_eq_true rfl) (Nat.le_of_ble_eq_true rfl), hts _ jv_l1c⟩ ⟨sj_blind, fun U hU hW => ⟨rfl, sx_P_warm hW (fun q _ _ => by rw [hU]) hP⟩⟩ rfl rfl hl.1 rfl (lv_room (Nat.le_of_ble_eq_true rfl)) jd_chr_12 ⟨Nat.le_refl _, Nat.le_refl _⟩) ?_
  refine W.eq (g2 := F0 m 15 ls [.int ((sx_byt.getD i []).getD k 0)]) rfl ?_
  exact W.zret hx hb B.returns (sj_byte i hi k hk).2 (fun t ht _ => ⟨rfl, ht⟩) (fun q h => by cases h) jd_chr_15 B.notSynchronized
theorem sj_txt {a k : Nat} {v : Int32} (h : pm_txt fqP a (k + 1) = some v) : ∃ i, i < 5 ∧ a = 1000 + i ∧ k < sx_len.getD i 0 ∧ v = (sx_byt.getD i []).getD k 0 := by
  have h : fq_txt a (k + 1) = some v := h
  unfold fq_txt at h
  split at h
  · cases h
  next ha =>
    split at h
    next t ht =>
      have h5 := (List.getElem?_eq_some_iff.mp ht).1
      have h5 : a - 1000 < 5 := h5
      refine ⟨a - 1000, h5, by omega, ?_, ?_⟩
      · rw [(sj_lens _ h5).1]
        show k < (fq_txt_T.getD (a - 1000) []).length
        rw [List.getD_eq_getElem?_getD, ht]
        exact (List.getElem?_eq_some_iff.mp h).1
      · show v = (fq_txt_T.getD (a - 1000) []).getD k 0
        have e : fq_txt_T.getD (a - 1000) [] = t := by rw [List.getD_eq_getElem?_getD, ht]; rfl
        have h : t[k]? = some v := h
        rw [e, List.getD_eq_getElem?_getD, h]
        rfl
    next => cases h
theorem sj_txt0 {a : Nat} {v : Int32} (h : pm_txt fqP a 0 = some v) : ∃ i, i < 5 ∧ a = 1000 + i ∧ v = nI (sx_len.getD i 0) := by
  have h : fq_txt a 0 = some v := h
  unfold fq_txt at h
  split at h
  · cases h
  next ha =>
    split at h
    next t ht =>
      have h5 := (List.getElem?_eq_some_iff.mp ht).1
      have h5 : a - 1000 < 5 := h5
      refine ⟨a - 1000, h5, by omega, ?_⟩
      rw [(sj_lens _ h5).1]
      show v = nI (fq_txt_T.getD (a - 1000) []).length
      rw [List.getD_eq_getElem?_getD, ht]
      exact (Option.some.inj h).symm
    next => cases h
variable {p : Program} {l : Launch} {e : Env} {R : Room} {s : State} {m : MethodId} {args : Array Value} {below : List Frame} {meth : Method} {c : Code} {Q : State → Prop} {H : Heap} {locs : List Loc} {cells slots : Nat} {ls : Array Slot}
/-- a call that leaves the heap, from anywhere -/
theorem sj_call {r : Int32} {g : JFrame} {rest : List Value} {a : Array Value} (hr : CallRun p l e R s m args below meth c H locs cells slots 0 0 g rest (QcRead r a) (fun _ => False)) (kk : W p l e R s m args below meth c H locs cells slots Q { g with pc := g.pc + 3, stack := .int r :: rest }) : W p l e R s m args below meth c H locs cells slots Q g := W.callR hr kk
theorem sx_strlen {y k pc a : Nat} {v : Int32} {T : List Value} (X : sx_X base ad D cI cZ ro adV y p s m args meth c) (hlink : (Cond.methodLink (sx_own (fq_met y).1) k (sx_bn 902)).before args s = true) (hv : pm_txt fqP a 0 = some v) (hfr : 5 ≤ R.frames) (hlo : 200 ≤ R.locals) (hS : va_S (sx_A base) s.heap H locs) (hls : ls.size = (fq_met y).2.1) (h8 : (T.map fun v => v.category).sum ≤ 8) (hc : cells ≤ R.cells) (hs : slots ≤ R.slots) (hd : decode (sx_by y) pc = .ok (.invokevirtual k, 3))
    (kk : W p l e R s m args below meth c H locs cells slots Q (F0 m (pc + 3) ls (.int v :: T))) : W p l e R s m args below meth c H locs cells slots Q (F0 m pc ls (.ref (ad a) :: T)) := by
  obtain ⟨i, hi, rfl, rfl⟩ := sj_txt0 hv
  have hts := X.2.2.2.1
  have hP := X.2.2.2.2.2.1
  exact W.callR (W.runV (n := 0) (As := []) (rest := T) (C := "java/lang/String") (own := sx_own (fq_met y).1) ⟨X.1, X.2.1, X.2.2.2.2.2.2.2, X.2.2.1, hts⟩ (sj_len (base := base) (ad := ad) (D := D) (cI := cI) (cZ := cZ) (ro := ro) (adV := adV) l hi) ⟨sj_B hts jw_len ji_S hlink ⟨by decide, by decide⟩ (by decide +kernel) (by omega) (by omega), hts _ jv_len, hts _ js_len⟩ ⟨sj_blind, vk_recv hP.2.2.2.2.2.1 hi hS, fun U hU hW => ⟨rfl, sx_P_warm hW (fun q h1 h2 => by rw [hU]; exact hS.2.1 q h1 h2) hP⟩⟩ rfl rfl hls rfl (lv_room h8) hd ⟨hc, hs⟩) kk
theorem sx_strchar {y k pc a : Nat} {i v : Int32} {T : List Value} (X : sx_X base ad D cI cZ ro adV y p s m args meth c) (hlink : (Cond.methodLink (sx_own (fq_met y).1) k (sx_bn 903)).before args s = true) (h0 : 0 ≤ i.toInt) (hv : pm_txt fqP a (i.toNatClampNeg + 1) = some v) (hfr : 5 ≤ R.frames) (hlo : 200 ≤ R.locals) (hS : va_S (sx_A base) s.heap H locs) (hls : ls.size = (fq_met y).2.1) (h8 : (T.map fun v => v.category).sum ≤ 8) (hc : cells ≤ R.cells) (hs : slots ≤ R.slots) (hd : decode (sx_by y) pc = .ok (.invokevirtual k, 3))
    (kk : W p l e R s m args below meth c H locs cells slots Q (F0 m (pc + 3) ls (.int v :: T))) : W p l e R s m args below meth c H locs cells slots Q (F0 m pc ls (.int i :: .ref (ad a) :: T)) := by
  obtain ⟨j, hj, rfl, hk, rfl⟩ := sj_txt hv
  have hts := X.2.2.2.1
  have hP := X.2.2.2.2.2.1
  have hi2 : ¬ i < 0 := fun q => by have := Int32.lt_iff_toInt_lt.mp q; simp at this; omega
  obtain ⟨n, hn, rfl⟩ := nI_of hi2
  rw [nI_clamp hn] at hk kk
  exact W.callR (W.runV (n := 1) (As := [.int (nI n)]) (rest := T) (C := "java/lang/String") (own := sx_own (fq_met y).1) ⟨X.1, X.2.1, X.2.2.2.2.2.2.2, X.2.2.1, hts⟩ (sj_chr (base := base) (ad := ad) (D := D) (cI := cI) (cZ := cZ) (ro := ro) (adV := adV) l hj hk) ⟨sj_B hts jw_chr ji_S hlink ⟨by decide, by decide⟩ (by decide +kernel) (by omega) (by omega), hts _ jv_chr, hts _ js_chr⟩ ⟨sj_blind, vk_recv hP.2.2.2.2.2.1 hj hS, fun U hU hW => ⟨rfl, sx_P_warm hW (fun q h1 h2 => by rw [hU]; exact hS.2.1 q h1 h2) hP⟩⟩ rfl rfl hls rfl (lv_room h8) hd ⟨hc, hs⟩) kk
end ST2

