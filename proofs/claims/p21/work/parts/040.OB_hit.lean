abbrev bc_OB_hit : ByteArray := prog_1_method_26_code
abbrev y_OB_hit : MethodName := ⟨"ObjectBase", "hit", "(I)I"⟩
def ws_OB_hit : List Cond := .code y_OB_hit bc_OB_hit 2 (some .int) :: obW
theorem d_OB_hit_0 : decode bc_OB_hit 0 = .ok (.aload_n 0, 1) := by decide +kernel
theorem d_OB_hit_1 : decode bc_OB_hit 1 = .ok (.getfield 28, 3) := by decide +kernel
theorem d_OB_hit_4 : decode bc_OB_hit 4 = .ok (.getfield 84, 3) := by decide +kernel
theorem d_OB_hit_7 : decode bc_OB_hit 7 = .ok (.ifCond .eq 6, 3) := by decide +kernel
theorem d_OB_hit_10 : decode bc_OB_hit 10 = .ok (.bipush (-4), 2) := by decide +kernel
theorem d_OB_hit_12 : decode bc_OB_hit 12 = .ok (.ireturn, 1) := by decide +kernel
theorem d_OB_hit_13 : decode bc_OB_hit 13 = .ok (.aload_n 0, 1) := by decide +kernel
theorem d_OB_hit_14 : decode bc_OB_hit 14 = .ok (.getfield 80, 3) := by decide +kernel
theorem d_OB_hit_17 : decode bc_OB_hit 17 = .ok (.getfield 271, 3) := by decide +kernel
theorem d_OB_hit_20 : decode bc_OB_hit 20 = .ok (.bipush 42, 2) := by decide +kernel
theorem d_OB_hit_22 : decode bc_OB_hit 22 = .ok (.if_icmp .ne 14, 3) := by decide +kernel
theorem d_OB_hit_25 : decode bc_OB_hit 25 = .ok (.aload_n 0, 1) := by decide +kernel
theorem d_OB_hit_26 : decode bc_OB_hit 26 = .ok (.getfield 80, 3) := by decide +kernel
theorem d_OB_hit_29 : decode bc_OB_hit 29 = .ok (.iload_n 1, 1) := by decide +kernel
theorem d_OB_hit_30 : decode bc_OB_hit 30 = .ok (.invokevirtual 275, 3) := by decide +kernel
theorem d_OB_hit_33 : decode bc_OB_hit 33 = .ok (.goto 4, 3) := by decide +kernel
theorem d_OB_hit_36 : decode bc_OB_hit 36 = .ok (.iconst (-1), 1) := by decide +kernel
theorem d_OB_hit_37 : decode bc_OB_hit 37 = .ok (.ireturn, 1) := by decide +kernel
def cw_OB_hit (G : Nat → ClassId) (a_t a_disk a_latest a_schema a_indexes a_kept a_batch a_draftText a_questions a_reader a_judge : Nat) (v_questionCount : Int32) (v_idsGiven : Int32) (v_everBegun : Int32) (v_disk_written : Int32) (v_disk_armed : Int32) (v_disk_half : Int32) (v_disk_logged : Int32) (v_disk_marked : Int32) (v_disk_down : Int32) (v_latest_mode : Int32) (v_latest_fitting : Int64) (v_latest_total : Int64) (v_latest_looked : Int32) : va_W := [(a_t, .inr (0, [.ref a_schema, .ref a_indexes, .ref a_disk, .ref a_kept, .ref a_batch, .ref a_draftText, .ref a_questions, .ref a_reader, .ref a_judge, .ref a_latest, .int v_questionCount, .int v_idsGiven, .int v_everBegun])), (a_disk, .inr (3, [.int v_disk_written, .int v_disk_armed, .int v_disk_half, .int v_disk_logged, .int v_disk_marked, .int v_disk_down])), (a_latest, .inr (10, [.int v_latest_mode, .long v_latest_fitting, .long v_latest_total, .int v_latest_looked]))]
def f_OB_hit (v_disk_down : Int32) (v_latest_mode : Int32) (v_latest_fitting : Int64) (p1 : Int32) : Option (Int32) := if v_disk_down = 0 then (if v_latest_mode = 42 then ((f_Answer_idAt v_latest_fitting p1).bind fun o30 => (some o30)) else (some (-1))) else (some (-4))
set_option maxHeartbeats 4000000 in
set_option maxRecDepth 100000 in
theorem c_OB_hit (l : Launch) (D : va_G) (G : Nat → ClassId) (a_t a_disk a_latest a_schema a_indexes a_kept a_batch a_draftText a_questions a_reader a_judge : Nat) (v_questionCount : Int32) (v_idsGiven : Int32) (v_everBegun : Int32) (v_disk_written : Int32) (v_disk_armed : Int32) (v_disk_half : Int32) (v_disk_logged : Int32) (v_disk_marked : Int32) (v_disk_down : Int32) (v_latest_mode : Int32) (v_latest_fitting : Int64) (v_latest_total : Int64) (v_latest_looked : Int32) (p1 : Int32) (o : Int32) (hf : f_OB_hit v_disk_down v_latest_mode v_latest_fitting p1 = some o) (sz : Nat) : MetI l y_OB_hit ws_OB_hit ({ frames := 2, cells := 0, slots := 0, locals := 45 }) D (obT G) (cw_OB_hit G a_t a_disk a_latest a_schema a_indexes a_kept a_batch a_draftText a_questions a_reader a_judge v_questionCount v_idsGiven v_everBegun v_disk_written v_disk_armed v_disk_half v_disk_logged v_disk_marked v_disk_down v_latest_mode v_latest_fitting v_latest_total v_latest_looked) (cw_OB_hit G a_t a_disk a_latest a_schema a_indexes a_kept a_batch a_draftText a_questions a_reader a_judge v_questionCount v_idsGiven v_everBegun v_disk_written v_disk_armed v_disk_half v_disk_logged v_disk_marked v_disk_down v_latest_mode v_latest_fitting v_latest_total v_latest_looked) [.ref a_t, .int p1] o sz := by
  refine ob_of (cc := bc_OB_hit) (maxL := 2) (ret := (some .int)) (Qc := ObQi D (obT G) (cw_OB_hit G a_t a_disk a_latest a_schema a_indexes a_kept a_batch a_draftText a_questions a_reader a_judge v_questionCount v_idsGiven v_everBegun v_disk_written v_disk_armed v_disk_half v_disk_logged v_disk_marked v_disk_down v_latest_mode v_latest_fitting v_latest_total v_latest_looked) o) (by decide) rfl (Nat.le_of_ble_eq_true rfl) ?_
  intro p e s m below meth c A ls H locs hx hb hr hml hts hown hlk hnm hZ hP hK hD hA hS hl
  have hret : ∀ (o' : Int32) (H : Heap) (locs : List Loc) (pc : Nat) (ls : Array Slot), some o' = some o → va_P D vwCl (cw_OB_hit G a_t a_disk a_latest a_schema a_indexes a_kept a_batch a_draftText a_questions a_reader a_judge v_questionCount v_idsGiven v_everBegun v_disk_written v_disk_armed v_disk_half v_disk_logged v_disk_marked v_disk_down v_latest_mode v_latest_fitting v_latest_total v_latest_looked) H → va_D A (cw_OB_hit G a_t a_disk a_latest a_schema a_indexes a_kept a_batch a_draftText a_questions a_reader a_judge v_questionCount v_idsGiven v_everBegun v_disk_written v_disk_armed v_disk_half v_disk_logged v_disk_marked v_disk_down v_latest_mode v_latest_fitting v_latest_total v_latest_looked) → va_S A s.heap H locs → narrow .int (.int o') = .int o' → decode bc_OB_hit pc = .ok (.ireturn, 1) → W p l e { frames := 2, cells := 0, slots := 0, locals := 45 } s m ([.ref a_t, .int p1] : List Value).toArray below meth c H locs 0 0 (MQ below (ObQi D (obT G) (cw_OB_hit G a_t a_disk a_latest a_schema a_indexes a_kept a_batch a_draftText a_questions a_reader a_judge v_questionCount v_idsGiven v_everBegun v_disk_written v_disk_armed v_disk_half v_disk_logged v_disk_marked v_disk_down v_latest_mode v_latest_fitting v_latest_total v_latest_looked) o A) ([.ref a_t, .int p1] : List Value).toArray s 0 0 A) (F0 m pc ls [.int o']) := by
    intro o' H locs pc ls he hP hD hS hn hd
    obtain rfl := Option.some.inj he
    exact ob_iret hx hb hr hlk hK hP hD hS hn hd
  generalize MQ below (ObQi D (obT G) (cw_OB_hit G a_t a_disk a_latest a_schema a_indexes a_kept a_batch a_draftText a_questions a_reader a_judge v_questionCount v_idsGiven v_everBegun v_disk_written v_disk_armed v_disk_half v_disk_logged v_disk_marked v_disk_down v_latest_mode v_latest_fitting v_latest_total v_latest_looked) o A) ([.ref a_t, .int p1] : List Value).toArray s 0 0 A = Q at hret ⊢
  have hl : lv_has ls 2 [(0, .ref a_t), (1, .int p1)] := hl
  unfold f_OB_hit at hf
  refine lv_aload_n hx hb d_OB_hit_0 rfl (lv_at hl 0 rfl) ?_
  refine va_get (D := D) (ci := 0) (v := .ref a_disk) (C := "ObjectBase") (T := TC_OB) (N := 13) hx hb hts inC_OB hown hK hP 0 rfl rfl 2 (by decide) (hts _ tw234) (fun _ h9 => h9) rfl d_OB_hit_1 ?_
  refine va_get (D := D) (ci := 3) (v := .int v_disk_down) (C := "ObjectBase$Disk") (T := TC_Disk) (N := 6) hx hb hts inC_Disk hown hK hP 1 rfl rfl 5 (by decide) (hts _ tw87) (fun _ h9 => h9) rfl d_OB_hit_4 ?_
  refine lv_if_eq (tgt := 13) hx hb d_OB_hit_7 (by decide) (fun hc7 => ?_) (fun hc7 => ?_)
  · have hf := ob_t hc7 hf
    refine lv_aload_n hx hb d_OB_hit_13 rfl (lv_at hl 0 rfl) ?_
    refine va_get (D := D) (ci := 0) (v := .ref a_latest) (C := "ObjectBase") (T := TC_OB) (N := 13) hx hb hts inC_OB hown hK hP 0 rfl rfl 9 (by decide) (hts _ tw241) (fun _ h9 => h9) rfl d_OB_hit_14 ?_
    refine va_get (D := D) (ci := 10) (v := .int v_latest_mode) (C := "ObjectBase$Answer") (T := TC_Answer) (N := 4) hx hb hts inC_Answer hown hK hP 2 rfl rfl 0 (by decide) (hts _ tw217) (fun _ h9 => h9) rfl d_OB_hit_17 ?_
    refine lv_bipush (v := 42) hx hb d_OB_hit_20 (by decide) ?_
    refine lv_icmp_ne (tgt := 36) hx hb d_OB_hit_22 (by decide) (fun hc22 => ?_) (fun hc22 => ?_)
    · have hf := ob_f hc22 hf
      refine lv_iconst (v := (-1)) hx hb d_OB_hit_36 (by decide) ?_
      exact hret (-1) H locs _ ls hf hP hD hS rfl d_OB_hit_37
    · have hf := ob_t hc22 hf
      refine lv_aload_n hx hb d_OB_hit_25 rfl (lv_at hl 0 rfl) ?_
      refine va_get (D := D) (ci := 0) (v := .ref a_latest) (C := "ObjectBase") (T := TC_OB) (N := 13) hx hb hts inC_OB hown hK hP 0 rfl rfl 9 (by decide) (hts _ tw241) (fun _ h9 => h9) rfl d_OB_hit_26 ?_
      refine lv_iload_n hx hb d_OB_hit_29 rfl (lv_at hl 1 rfl) ?_
      obtain ⟨o30, ho30, hf⟩ := ob_b hf
      have hRun := va_runV (R := ({ frames := 2, cells := 0, slots := 0, locals := 45 })) (locs := locs) (H := H) (l := l) (e := e) (below := below) (meth := meth) (cells := 0) (slots := 0) (g := F0 m 30 ls [.int p1, .ref a_latest]) (As := [.int p1]) (rest := []) ⟨hx, hb, hml, hown, hts⟩ (c_Answer_idAt l D G a_latest v_latest_mode v_latest_fitting v_latest_total v_latest_looked p1 o30 ho30 H.size) (cwV 1 hts (gV tw772 tw773 tw774 tw10 tw775) rfl rfl rfl (by decide +kernel) ⟨Nat.le_of_ble_eq_true rfl, Nat.le_of_ble_eq_true rfl⟩) (ob_preV (q0 := 2) (ci := 10) hZ hK hP hD [2] rfl rfl rfl rfl rfl) rfl rfl hl.1 rfl (lv_room (Nat.le_of_ble_eq_true rfl)) d_OB_hit_30 ⟨Nat.le_refl _, Nat.le_refl _⟩
      refine ob_calli (wc := (cw_Answer_idAt G a_latest v_latest_mode v_latest_fitting v_latest_total v_latest_looked)) (wc1 := (cw_Answer_idAt G a_latest v_latest_mode v_latest_fitting v_latest_total v_latest_looked)) (r := o30) (w2 := (cw_OB_hit G a_t a_disk a_latest a_schema a_indexes a_kept a_batch a_draftText a_questions a_reader a_judge v_questionCount v_idsGiven v_everBegun v_disk_written v_disk_armed v_disk_half v_disk_logged v_disk_marked v_disk_down v_latest_mode v_latest_fitting v_latest_total v_latest_looked)) hRun hP hD hA hS [2] rfl rfl rfl rfl (fun H locs hP hD hS => ?_)
      clear hRun
      refine lv_goto (tgt := 37) hx hb d_OB_hit_33 (by decide) ?_
      exact hret o30 H locs _ ls hf hP hD hS rfl d_OB_hit_37
  · have hf := ob_f hc7 hf
    refine lv_bipush (v := (-4)) hx hb d_OB_hit_10 (by decide) ?_
    exact hret (-4) H locs _ ls hf hP hD hS rfl d_OB_hit_12
abbrev bc_OB_canChange : ByteArray := prog_1_method_33_code
abbrev y_OB_canChange : MethodName := ⟨"ObjectBase", "canChange", "(III)Z"⟩
def ws_OB_canChange : List Cond := .code y_OB_canChange bc_OB_canChange 4 (some .boolean) :: obW
theorem d_OB_canChange_0 : decode bc_OB_canChange 0 = .ok (.aload_n 0, 1) := by decide +kernel
theorem d_OB_canChange_1 : decode bc_OB_canChange 1 = .ok (.getfield 28, 3) := by decide +kernel
theorem d_OB_canChange_4 : decode bc_OB_canChange 4 = .ok (.getfield 84, 3) := by decide +kernel
theorem d_OB_canChange_7 : decode bc_OB_canChange 7 = .ok (.ifCond .ne 27, 3) := by decide +kernel
theorem d_OB_canChange_10 : decode bc_OB_canChange 10 = .ok (.aload_n 0, 1) := by decide +kernel
theorem d_OB_canChange_11 : decode bc_OB_canChange 11 = .ok (.getfield 42, 3) := by decide +kernel
theorem d_OB_canChange_14 : decode bc_OB_canChange 14 = .ok (.getfield 110, 3) := by decide +kernel
theorem d_OB_canChange_17 : decode bc_OB_canChange 17 = .ok (.ifCond .eq 17, 3) := by decide +kernel
theorem d_OB_canChange_20 : decode bc_OB_canChange 20 = .ok (.aload_n 0, 1) := by decide +kernel
theorem d_OB_canChange_21 : decode bc_OB_canChange 21 = .ok (.getfield 42, 3) := by decide +kernel
theorem d_OB_canChange_24 : decode bc_OB_canChange 24 = .ok (.getfield 167, 3) := by decide +kernel
theorem d_OB_canChange_27 : decode bc_OB_canChange 27 = .ok (.iload_n 1, 1) := by decide +kernel
theorem d_OB_canChange_28 : decode bc_OB_canChange 28 = .ok (.invokestatic 171, 3) := by decide +kernel
theorem d_OB_canChange_31 : decode bc_OB_canChange 31 = .ok (.ifCond .ne 5, 3) := by decide +kernel
theorem d_OB_canChange_34 : decode bc_OB_canChange 34 = .ok (.iconst 0, 1) := by decide +kernel
theorem d_OB_canChange_35 : decode bc_OB_canChange 35 = .ok (.ireturn, 1) := by decide +kernel
theorem d_OB_canChange_36 : decode bc_OB_canChange 36 = .ok (.aload_n 0, 1) := by decide +kernel
theorem d_OB_canChange_37 : decode bc_OB_canChange 37 = .ok (.getfield 14, 3) := by decide +kernel
theorem d_OB_canChange_40 : decode bc_OB_canChange 40 = .ok (.aload_n 0, 1) := by decide +kernel
theorem d_OB_canChange_41 : decode bc_OB_canChange 41 = .ok (.getfield 42, 3) := by decide +kernel
theorem d_OB_canChange_44 : decode bc_OB_canChange 44 = .ok (.getfield 151, 3) := by decide +kernel
theorem d_OB_canChange_47 : decode bc_OB_canChange 47 = .ok (.iload_n 1, 1) := by decide +kernel
theorem d_OB_canChange_48 : decode bc_OB_canChange 48 = .ok (.invokevirtual 222, 3) := by decide +kernel
theorem d_OB_canChange_51 : decode bc_OB_canChange 51 = .ok (.iload_n 2, 1) := by decide +kernel
theorem d_OB_canChange_52 : decode bc_OB_canChange 52 = .ok (.iload_n 3, 1) := by decide +kernel
theorem d_OB_canChange_53 : decode bc_OB_canChange 53 = .ok (.invokevirtual 232, 3) := by decide +kernel
theorem d_OB_canChange_56 : decode bc_OB_canChange 56 = .ok (.ireturn, 1) := by decide +kernel
def cw_OB_canChange (G : Nat → ClassId) (a_t a_disk a_batch a_batch_image a_batch_image_classes a_schema a_schema_above a_schema_owners a_schema_kinds a_indexes a_kept a_draftText a_questions a_reader a_judge a_latest a_batch_image_values a_batch_image_names a_schema_targets : Nat) (v_questionCount : Int32) (v_idsGiven : Int32) (v_everBegun : Int32) (v_disk_written : Int32) (v_disk_armed : Int32) (v_disk_half : Int32) (v_disk_logged : Int32) (v_disk_marked : Int32) (v_disk_down : Int32) (v_batch_known : Int64) (v_batch_touched : Int64) (v_batch_namesTouched : Int32) (v_batch_open : Int32) (v_batch_image_classes : Nat → Int32) (v_schema_classCount : Int32) (v_schema_fieldCount : Int32) (v_schema_above : Nat → Int32) (v_schema_owners : Nat → Int32) (v_schema_kinds : Nat → Int32) : va_W := [(a_t, .inr (0, [.ref a_schema, .ref a_indexes, .ref a_disk, .ref a_kept, .ref a_batch, .ref a_draftText, .ref a_questions, .ref a_reader, .ref a_judge, .ref a_latest, .int v_questionCount, .int v_idsGiven, .int v_everBegun])), (a_disk, .inr (3, [.int v_disk_written, .int v_disk_armed, .int v_disk_half, .int v_disk_logged, .int v_disk_marked, .int v_disk_down])), (a_batch, .inr (5, [.ref a_batch_image, .long v_batch_known, .long v_batch_touched, .int v_batch_namesTouched, .int v_batch_open])), (a_batch_image, .inr (4, [.ref a_batch_image_classes, .ref a_batch_image_values, .ref a_batch_image_names])), (a_batch_image_classes, .inl (G 0, 63, .inl v_batch_image_classes)), (a_schema, .inr (1, [.ref a_schema_above, .ref a_schema_owners, .ref a_schema_kinds, .ref a_schema_targets, .int v_schema_classCount, .int v_schema_fieldCount])), (a_schema_above, .inl (G 0, 6, .inl v_schema_above)), (a_schema_owners, .inl (G 0, 8, .inl v_schema_owners)), (a_schema_kinds, .inl (G 0, 8, .inl v_schema_kinds))]
def f_OB_canChange (v_disk_down : Int32) (v_batch_known : Int64) (v_batch_open : Int32) (v_batch_image_classes : Nat → Int32) (v_schema_fieldCount : Int32) (v_schema_above : Nat → Int32) (v_schema_owners : Nat → Int32) (v_schema_kinds : Nat → Int32) (p1 : Int32) (p2 : Int32) (p3 : Int32) : Option (Int32) := if v_disk_down = 0 then (if v_batch_open = 0 then (some 0) else ((f_OB_contains v_batch_known p1).bind fun o28 => (if o28 = 0 then (some 0) else ((f_Image_classAt v_batch_image_classes p1).bind fun o48 => ((f_Schema_hasFieldOfKind v_schema_fieldCount v_schema_above v_schema_owners v_schema_kinds o48 p2 p3).bind fun o53 => (ob_nz o53 (some o53))))))) else (some 0)
set_option maxHeartbeats 4000000 in
set_option maxRecDepth 100000 in
theorem c_OB_canChange (l : Launch) (D : va_G) (G : Nat → ClassId) (a_t a_disk a_batch a_batch_image a_batch_image_classes a_schema a_schema_above a_schema_owners a_schema_kinds a_indexes a_kept a_draftText a_questions a_reader a_judge a_latest a_batch_image_values a_batch_image_names a_schema_targets : Nat) (v_questionCount : Int32) (v_idsGiven : Int32) (v_everBegun : Int32) (v_disk_written : Int32) (v_disk_armed : Int32) (v_disk_half : Int32) (v_disk_logged : Int32) (v_disk_marked : Int32) (v_disk_down : Int32) (v_batch_known : Int64) (v_batch_touched : Int64) (v_batch_namesTouched : Int32) (v_batch_open : Int32) (v_batch_image_classes : Nat → Int32) (v_schema_classCount : Int32) (v_schema_fieldCount : Int32) (v_schema_above : Nat → Int32) (v_schema_owners : Nat → Int32) (v_schema_kinds : Nat → Int32) (p1 : Int32) (p2 : Int32) (p3 : Int32) (o : Int32) (hf : f_OB_canChange v_disk_down v_batch_known v_batch_open v_batch_image_classes v_schema_fieldCount v_schema_above v_schema_owners v_schema_kinds p1 p2 p3 = some o) (sz : Nat) : MetI l y_OB_canChange ws_OB_canChange ({ frames := 2, cells := 0, slots := 0, locals := 45 }) D (obT G) (cw_OB_canChange G a_t a_disk a_batch a_batch_image a_batch_image_classes a_schema a_schema_above a_schema_owners a_schema_kinds a_indexes a_kept a_draftText a_questions a_reader a_judge a_latest a_batch_image_values a_batch_image_names a_schema_targets v_questionCount v_idsGiven v_everBegun v_disk_written v_disk_armed v_disk_half v_disk_logged v_disk_marked v_disk_down v_batch_known v_batch_touched v_batch_namesTouched v_batch_open v_batch_image_classes v_schema_classCount v_schema_fieldCount v_schema_above v_schema_owners v_schema_kinds) (cw_OB_canChange G a_t a_disk a_batch a_batch_image a_batch_image_classes a_schema a_schema_above a_schema_owners a_schema_kinds a_indexes a_kept a_draftText a_questions a_reader a_judge a_latest a_batch_image_values a_batch_image_names a_schema_targets v_questionCount v_idsGiven v_everBegun v_disk_written v_disk_armed v_disk_half v_disk_logged v_disk_marked v_disk_down v_batch_known v_batch_touched v_batch_namesTouched v_batch_open v_batch_image_classes v_schema_classCount v_schema_fieldCount v_schema_above v_schema_owners v_schema_kinds) [.ref a_t, .int p1, .int p2, .int p3] o sz := by
  refine ob_of (cc := bc_OB_canChange) (maxL := 4) (ret := (some .boolean)) (Qc := ObQi D (obT G) (cw_OB_canChange G a_t a_disk a_batch a_batch_image a_batch_image_classes a_schema a_schema_above a_schema_owners a_schema_kinds a_indexes a_kept a_draftText a_questions a_reader a_judge a_latest a_batch_image_values a_batch_image_names a_schema_targets v_questionCount v_idsGiven v_everBegun v_disk_written v_disk_armed v_disk_half v_disk_logged v_disk_marked v_disk_down v_batch_known v_batch_touched v_batch_namesTouched v_batch_open v_batch_image_classes v_schema_classCount v_schema_fieldCount v_schema_above v_schema_owners v_schema_kinds) o) (by decide) rfl (Nat.le_of_ble_eq_true rfl) ?_
  intro p e s m below meth c A ls H locs hx hb hr hml hts hown hlk hnm hZ hP hK hD hA hS hl
  have hret : ∀ (o' : Int32) (H : Heap) (locs : List Loc) (pc : Nat) (ls : Array Slot), some o' = some o → va_P D vwCl (cw_OB_canChange G a_t a_disk a_batch a_batch_image a_batch_image_classes a_schema a_schema_above a_schema_owners a_schema_kinds a_indexes a_kept a_draftText a_questions a_reader a_judge a_latest a_batch_image_values a_batch_image_names a_schema_targets v_questionCount v_idsGiven v_everBegun v_disk_written v_disk_armed v_disk_half v_disk_logged v_disk_marked v_disk_down v_batch_known v_batch_touched v_batch_namesTouched v_batch_open v_batch_image_classes v_schema_classCount v_schema_fieldCount v_schema_above v_schema_owners v_schema_kinds) H → va_D A (cw_OB_canChange G a_t a_disk a_batch a_batch_image a_batch_image_classes a_schema a_schema_above a_schema_owners a_schema_kinds a_indexes a_kept a_draftText a_questions a_reader a_judge a_latest a_batch_image_values a_batch_image_names a_schema_targets v_questionCount v_idsGiven v_everBegun v_disk_written v_disk_armed v_disk_half v_disk_logged v_disk_marked v_disk_down v_batch_known v_batch_touched v_batch_namesTouched v_batch_open v_batch_image_classes v_schema_classCount v_schema_fieldCount v_schema_above v_schema_owners v_schema_kinds) → va_S A s.heap H locs → narrow .boolean (.int o') = .int o' → decode bc_OB_canChange pc = .ok (.ireturn, 1) → W p l e { frames := 2, cells := 0, slots := 0, locals := 45 } s m ([.ref a_t, .int p1, .int p2, .int p3] : List Value).toArray below meth c H locs 0 0 (MQ below (ObQi D (obT G) (cw_OB_canChange G a_t a_disk a_batch a_batch_image a_batch_image_classes a_schema a_schema_above a_schema_owners a_schema_kinds a_indexes a_kept a_draftText a_questions a_reader a_judge a_latest a_batch_image_values a_batch_image_names a_schema_targets v_questionCount v_idsGiven v_everBegun v_disk_written v_disk_armed v_disk_half v_disk_logged v_disk_marked v_disk_down v_batch_known v_batch_touched v_batch_namesTouched v_batch_open v_batch_image_classes v_schema_classCount v_schema_fieldCount v_schema_above v_schema_owners v_schema_kinds) o A) ([.ref a_t, .int p1, .int p2, .int p3] : List Value).toArray s 0 0 A) (F0 m pc ls [.int o']) := by
    intro o' H locs pc ls he hP hD hS hn hd
    obtain rfl := Option.some.inj he
    exact ob_iret hx hb hr hlk hK hP hD hS hn hd
  generalize MQ below (ObQi D (obT G) (cw_OB_canChange G a_t a_disk a_batch a_batch_image a_batch_image_classes a_schema a_schema_above a_schema_owners a_schema_kinds a_indexes a_kept a_draftText a_questions a_reader a_judge a_latest a_batch_image_values a_batch_image_names a_schema_targets v_questionCount v_idsGiven v_everBegun v_disk_written v_disk_armed v_disk_half v_disk_logged v_disk_marked v_disk_down v_batch_known v_batch_touched v_batch_namesTouched v_batch_open v_batch_image_classes v_schema_classCount v_schema_fieldCount v_schema_above v_schema_owners v_schema_kinds) o A) ([.ref a_t, .int p1, .int p2, .int p3] : List Value).toArray s 0 0 A = Q at hret ⊢
  have hl : lv_has ls 4 [(0, .ref a_t), (1, .int p1), (2, .int p2), (3, .int p3)] := hl
  unfold f_OB_canChange at hf
  refine lv_aload_n hx hb d_OB_canChange_0 rfl (lv_at hl 0 rfl) ?_
  refine va_get (D := D) (ci := 0) (v := .ref a_disk) (C := "ObjectBase") (T := TC_OB) (N := 13) hx hb hts inC_OB hown hK hP 0 rfl rfl 2 (by decide) (hts _ tw234) (fun _ h9 => h9) rfl d_OB_canChange_1 ?_
  refine va_get (D := D) (ci := 3) (v := .int v_disk_down) (C := "ObjectBase$Disk") (T := TC_Disk) (N := 6) hx hb hts inC_Disk hown hK hP 1 rfl rfl 5 (by decide) (hts _ tw87) (fun _ h9 => h9) rfl d_OB_canChange_4 ?_
  refine lv_if_ne (tgt := 34) hx hb d_OB_canChange_7 (by decide) (fun hc7 => ?_) (fun hc7 => ?_)
  · have hf := ob_f hc7 hf
    refine lv_iconst (v := 0) hx hb d_OB_canChange_34 (by decide) ?_
    exact hret 0 H locs _ ls hf hP hD hS narrow_b0 d_OB_canChange_35
  · have hf := ob_t hc7 hf
    refine lv_aload_n hx hb d_OB_canChange_10 rfl (lv_at hl 0 rfl) ?_
    refine va_get (D := D) (ci := 0) (v := .ref a_batch) (C := "ObjectBase") (T := TC_OB) (N := 13) hx hb hts inC_OB hown hK hP 0 rfl rfl 4 (by decide) (hts _ tw236) (fun _ h9 => h9) rfl d_OB_canChange_11 ?_
    refine va_get (D := D) (ci := 5) (v := .int v_batch_open) (C := "ObjectBase$Batch") (T := TC_Batch) (N := 5) hx hb hts inC_Batch hown hK hP 2 rfl rfl 4 (by decide) (hts _ tw138) (fun _ h9 => h9) rfl d_OB_canChange_14 ?_
    refine lv_if_eq (tgt := 34) hx hb d_OB_canChange_17 (by decide) (fun hc17 => ?_) (fun hc17 => ?_)
    · have hf := ob_t hc17 hf
      refine lv_iconst (v := 0) hx hb d_OB_canChange_34 (by decide) ?_
      exact hret 0 H locs _ ls hf hP hD hS narrow_b0 d_OB_canChange_35
    · have hf := ob_f hc17 hf
      refine lv_aload_n hx hb d_OB_canChange_20 rfl (lv_at hl 0 rfl) ?_
      refine va_get (D := D) (ci := 0) (v := .ref a_batch) (C := "ObjectBase") (T := TC_OB) (N := 13) hx hb hts inC_OB hown hK hP 0 rfl rfl 4 (by decide) (hts _ tw236) (fun _ h9 => h9) rfl d_OB_canChange_21 ?_
      refine va_get (D := D) (ci := 5) (v := .long v_batch_known) (C := "ObjectBase$Batch") (T := TC_Batch) (N := 5) hx hb hts inC_Batch hown hK hP 2 rfl rfl 1 (by decide) (hts _ tw134) (fun _ h9 => h9) rfl d_OB_canChange_24 ?_
      refine lv_iload_n hx hb d_OB_canChange_27 rfl (lv_at hl 1 rfl) ?_
      obtain ⟨o28, ho28, hf⟩ := ob_b hf
      have hRun := va_runS (R := ({ frames := 2, cells := 0, slots := 0, locals := 45 })) (locs := locs) (H := H) (l := l) (e := e) (below := below) (meth := meth) (cells := 0) (slots := 0) (g := F0 m 28 ls [.int p1, .long v_batch_known]) (As := [.long v_batch_known, .int p1]) (rest := []) ⟨hx, hb, hml, hown, hts⟩ (c_OB_contains l D G  v_batch_known p1 o28 ho28 H.size) (va_cwS 2 hts (gS tw363 tw325 tw1 tw326) rfl rfl rfl (by decide +kernel) ⟨Nat.le_of_ble_eq_true rfl, Nat.le_of_ble_eq_true rfl⟩) (ob_preS hZ hK hP hD [] rfl rfl) rfl rfl hl.1 rfl (lv_room (Nat.le_of_ble_eq_true rfl)) d_OB_canChange_28 ⟨Nat.le_refl _, Nat.le_refl _⟩
      refine ob_calli (wc := (cw_OB_contains G )) (wc1 := (cw_OB_contains G )) (r := o28) (w2 := (cw_OB_canChange G a_t a_disk a_batch a_batch_image a_batch_image_classes a_schema a_schema_above a_schema_owners a_schema_kinds a_indexes a_kept a_draftText a_questions a_reader a_judge a_latest a_batch_image_values a_batch_image_names a_schema_targets v_questionCount v_idsGiven v_everBegun v_disk_written v_disk_armed v_disk_half v_disk_logged v_disk_marked v_disk_down v_batch_known v_batch_touched v_batch_namesTouched v_batch_open v_batch_image_classes v_schema_classCount v_schema_fieldCount v_schema_above v_schema_owners v_schema_kinds)) hRun hP hD hA hS [] rfl rfl rfl rfl (fun H locs hP hD hS => ?_)
      clear hRun
      refine lv_if_ne (tgt := 36) hx hb d_OB_canChange_31 (by decide) (fun hc31 => ?_) (fun hc31 => ?_)
      · have hf := ob_f hc31 hf
        refine lv_aload_n hx hb d_OB_canChange_36 rfl (lv_at hl 0 rfl) ?_
        refine va_get (D := D) (ci := 0) (v := .ref a_schema) (C := "ObjectBase") (T := TC_OB) (N := 13) hx hb hts inC_OB hown hK hP 0 rfl rfl 0 (by decide) (hts _ tw232) (fun _ h9 => h9) rfl d_OB_canChange_37 ?_
        refine lv_aload_n hx hb d_OB_canChange_40 rfl (lv_at hl 0 rfl) ?_
        refine va_get (D := D) (ci := 0) (v := .ref a_batch) (C := "ObjectBase") (T := TC_OB) (N := 13) hx hb hts inC_OB hown hK hP 0 rfl rfl 4 (by decide) (hts _ tw236) (fun _ h9 => h9) rfl d_OB_canChange_41 ?_
        refine va_get (D := D) (ci := 5) (v := .ref a_batch_image) (C := "ObjectBase$Batch") (T := TC_Batch) (N := 5) hx hb hts inC_Batch hown hK hP 2 rfl rfl 0 (by decide) (hts _ tw132) (fun _ h9 => h9) rfl d_OB_canChange_44 ?_
        refine lv_iload_n hx hb d_OB_canChange_47 rfl (lv_at hl 1 rfl) ?_
        obtain ⟨o48, ho48, hf⟩ := ob_b hf
        have hRun := va_runV (R := ({ frames := 2, cells := 0, slots := 0, locals := 45 })) (locs := locs) (H := H) (l := l) (e := e) (below := below) (meth := meth) (cells := 0) (slots := 0) (g := F0 m 48 ls [.int p1, .ref a_batch_image, .ref a_schema]) (As := [.int p1]) (rest := [.ref a_schema]) ⟨hx, hb, hml, hown, hts⟩ (c_Image_classAt l D G a_batch_image a_batch_image_classes a_batch_image_values a_batch_image_names v_batch_image_classes p1 o48 ho48 H.size) (cwV 1 hts (gV tw364 tw365 tw366 tw5 tw367) rfl rfl rfl (by decide +kernel) ⟨Nat.le_of_ble_eq_true rfl, Nat.le_of_ble_eq_true rfl⟩) (ob_preV (q0 := 3) (ci := 4) hZ hK hP hD [3, 4] rfl rfl rfl rfl rfl) rfl rfl hl.1 rfl (lv_room (Nat.le_of_ble_eq_true rfl)) d_OB_canChange_48 ⟨Nat.le_refl _, Nat.le_refl _⟩
        refine ob_calli (wc := (cw_Image_classAt G a_batch_image a_batch_image_classes a_batch_image_values a_batch_image_names v_batch_image_classes)) (wc1 := (cw_Image_classAt G a_batch_image a_batch_image_classes a_batch_image_values a_batch_image_names v_batch_image_classes)) (r := o48) (w2 := (cw_OB_canChange G a_t a_disk a_batch a_batch_image a_batch_image_classes a_schema a_schema_above a_schema_owners a_schema_kinds a_indexes a_kept a_draftText a_questions a_reader a_judge a_latest a_batch_image_values a_batch_image_names a_schema_targets v_questionCount v_idsGiven v_everBegun v_disk_written v_disk_armed v_disk_half v_disk_logged v_disk_marked v_disk_down v_batch_known v_batch_touched v_batch_namesTouched v_batch_open v_batch_image_classes v_schema_classCount v_schema_fieldCount v_schema_above v_schema_owners v_schema_kinds)) hRun hP hD hA hS [3, 4] rfl rfl rfl rfl (fun H locs hP hD hS => ?_)
        clear hRun
        refine lv_iload_n hx hb d_OB_canChange_51 rfl (lv_at hl 2 rfl) ?_
        refine lv_iload_n hx hb d_OB_canChange_52 rfl (lv_at hl 3 rfl) ?_
        obtain ⟨o53, ho53, hf⟩ := ob_b hf
        have hRun := va_runV (R := ({ frames := 2, cells := 0, slots := 0, locals := 45 })) (locs := locs) (H := H) (l := l) (e := e) (below := below) (meth := meth) (cells := 0) (slots := 0) (g := F0 m 53 ls [.int p3, .int p2, .int o48, .ref a_schema]) (As := [.int o48, .int p2, .int p3]) (rest := []) ⟨hx, hb, hml, hown, hts⟩ (c_Schema_hasFieldOfKind l D G a_schema a_schema_above a_schema_owners a_schema_kinds a_schema_targets v_schema_classCount v_schema_fieldCount v_schema_above v_schema_owners v_schema_kinds o48 p2 p3 o53 ho53 H.size) (cwV 3 hts (gV tw368 tw301 tw302 tw2 tw303) rfl rfl rfl (by decide +kernel) ⟨Nat.le_of_ble_eq_true rfl, Nat.le_of_ble_eq_true rfl⟩) (ob_preV (q0 := 5) (ci := 1) hZ hK hP hD [5, 6, 7, 8] rfl rfl rfl rfl rfl) rfl rfl hl.1 rfl (lv_room (Nat.le_of_ble_eq_true rfl)) d_OB_canChange_53 ⟨Nat.le_refl _, Nat.le_refl _⟩
        refine ob_calli (wc := (cw_Schema_hasFieldOfKind G a_schema a_schema_above a_schema_owners a_schema_kinds a_schema_targets v_schema_classCount v_schema_fieldCount v_schema_above v_schema_owners v_schema_kinds)) (wc1 := (cw_Schema_hasFieldOfKind G a_schema a_schema_above a_schema_owners a_schema_kinds a_schema_targets v_schema_classCount v_schema_fieldCount v_schema_above v_schema_owners v_schema_kinds)) (r := o53) (w2 := (cw_OB_canChange G a_t a_disk a_batch a_batch_image a_batch_image_classes a_schema a_schema_above a_schema_owners a_schema_kinds a_indexes a_kept a_draftText a_questions a_reader a_judge a_latest a_batch_image_values a_batch_image_names a_schema_targets v_questionCount v_idsGiven v_everBegun v_disk_written v_disk_armed v_disk_half v_disk_logged v_disk_marked v_disk_down v_batch_known v_batch_touched v_batch_namesTouched v_batch_open v_batch_image_classes v_schema_classCount v_schema_fieldCount v_schema_above v_schema_owners v_schema_kinds)) hRun hP hD hA hS [5, 6, 7, 8] rfl rfl rfl rfl (fun H locs hP hD hS => ?_)
        clear hRun
        obtain ⟨hg56, hf⟩ := ob_nz_g hf
        exact hret o53 H locs _ ls hf hP hD hS hg56.1 d_OB_canChange_56
      · have hf := ob_t hc31 hf
        refine lv_iconst (v := 0) hx hb d_OB_canChange_34 (by decide) ?_
        exact hret 0 H locs _ ls hf hP hD hS narrow_b0 d_OB_canChange_35
abbrev bc_OB_canHold : ByteArray := prog_1_method_34_code
abbrev y_OB_canHold : MethodName := ⟨"ObjectBase", "canHold", "(II)Z"⟩
def ws_OB_canHold : List Cond := .code y_OB_canHold bc_OB_canHold 3 (some .boolean) :: obW
theorem d_OB_canHold_0 : decode bc_OB_canHold 0 = .ok (.aload_n 0, 1) := by decide +kernel
theorem d_OB_canHold_1 : decode bc_OB_canHold 1 = .ok (.getfield 42, 3) := by decide +kernel
theorem d_OB_canHold_4 : decode bc_OB_canHold 4 = .ok (.getfield 167, 3) := by decide +kernel
theorem d_OB_canHold_7 : decode bc_OB_canHold 7 = .ok (.iload_n 2, 1) := by decide +kernel
theorem d_OB_canHold_8 : decode bc_OB_canHold 8 = .ok (.invokestatic 171, 3) := by decide +kernel
theorem d_OB_canHold_11 : decode bc_OB_canHold 11 = .ok (.ifCond .ne 5, 3) := by decide +kernel
theorem d_OB_canHold_14 : decode bc_OB_canHold 14 = .ok (.iconst 0, 1) := by decide +kernel
theorem d_OB_canHold_15 : decode bc_OB_canHold 15 = .ok (.ireturn, 1) := by decide +kernel
theorem d_OB_canHold_16 : decode bc_OB_canHold 16 = .ok (.aload_n 0, 1) := by decide +kernel
theorem d_OB_canHold_17 : decode bc_OB_canHold 17 = .ok (.getfield 14, 3) := by decide +kernel
theorem d_OB_canHold_20 : decode bc_OB_canHold 20 = .ok (.aload_n 0, 1) := by decide +kernel
theorem d_OB_canHold_21 : decode bc_OB_canHold 21 = .ok (.getfield 42, 3) := by decide +kernel
theorem d_OB_canHold_24 : decode bc_OB_canHold 24 = .ok (.getfield 151, 3) := by decide +kernel
theorem d_OB_canHold_27 : decode bc_OB_canHold 27 = .ok (.iload_n 2, 1) := by decide +kernel
theorem d_OB_canHold_28 : decode bc_OB_canHold 28 = .ok (.invokevirtual 222, 3) := by decide +kernel
theorem d_OB_canHold_31 : decode bc_OB_canHold 31 = .ok (.aload_n 0, 1) := by decide +kernel
theorem d_OB_canHold_32 : decode bc_OB_canHold 32 = .ok (.getfield 14, 3) := by decide +kernel
theorem d_OB_canHold_35 : decode bc_OB_canHold 35 = .ok (.getfield 284, 3) := by decide +kernel
theorem d_OB_canHold_38 : decode bc_OB_canHold 38 = .ok (.iload_n 1, 1) := by decide +kernel
theorem d_OB_canHold_39 : decode bc_OB_canHold 39 = .ok (.iaload, 1) := by decide +kernel
theorem d_OB_canHold_40 : decode bc_OB_canHold 40 = .ok (.invokevirtual 287, 3) := by decide +kernel
theorem d_OB_canHold_43 : decode bc_OB_canHold 43 = .ok (.ireturn, 1) := by decide +kernel
def cw_OB_canHold (G : Nat → ClassId) (a_t a_batch a_batch_image a_batch_image_classes a_schema a_schema_targets a_schema_above a_indexes a_disk a_kept a_draftText a_questions a_reader a_judge a_latest a_batch_image_values a_batch_image_names a_schema_owners a_schema_kinds : Nat) (v_questionCount : Int32) (v_idsGiven : Int32) (v_everBegun : Int32) (v_batch_known : Int64) (v_batch_touched : Int64) (v_batch_namesTouched : Int32) (v_batch_open : Int32) (v_batch_image_classes : Nat → Int32) (v_schema_classCount : Int32) (v_schema_fieldCount : Int32) (v_schema_targets : Nat → Int32) (v_schema_above : Nat → Int32) : va_W := [(a_t, .inr (0, [.ref a_schema, .ref a_indexes, .ref a_disk, .ref a_kept, .ref a_batch, .ref a_draftText, .ref a_questions, .ref a_reader, .ref a_judge, .ref a_latest, .int v_questionCount, .int v_idsGiven, .int v_everBegun])), (a_batch, .inr (5, [.ref a_batch_image, .long v_batch_known, .long v_batch_touched, .int v_batch_namesTouched, .int v_batch_open])), (a_batch_image, .inr (4, [.ref a_batch_image_classes, .ref a_batch_image_values, .ref a_batch_image_names])), (a_batch_image_classes, .inl (G 0, 63, .inl v_batch_image_classes)), (a_schema, .inr (1, [.ref a_schema_above, .ref a_schema_owners, .ref a_schema_kinds, .ref a_schema_targets, .int v_schema_classCount, .int v_schema_fieldCount])), (a_schema_targets, .inl (G 0, 8, .inl v_schema_targets)), (a_schema_above, .inl (G 0, 6, .inl v_schema_above))]
def f_OB_canHold (v_batch_known : Int64) (v_batch_image_classes : Nat → Int32) (v_schema_targets : Nat → Int32) (v_schema_above : Nat → Int32) (p1 : Int32) (p2 : Int32) : Option (Int32) := (f_OB_contains v_batch_known p2).bind fun o8 => (if o8 = 0 then (some 0) else ((f_Image_classAt v_batch_image_classes p2).bind fun o28 => (ob_iv p1 8 ((f_Schema_isOf v_schema_above o28 (v_schema_targets p1.toNatClampNeg)).bind fun o40 => (ob_nz o40 (some o40))))))
set_option maxHeartbeats 4000000 in
set_option maxRecDepth 100000 in
theorem c_OB_canHold (l : Launch) (D : va_G) (G : Nat → ClassId) (a_t a_batch a_batch_image a_batch_image_classes a_schema a_schema_targets a_schema_above a_indexes a_disk a_kept a_draftText a_questions a_reader a_judge a_latest a_batch_image_values a_batch_image_names a_schema_owners a_schema_kinds : Nat) (v_questionCount : Int32) (v_idsGiven : Int32) (v_everBegun : Int32) (v_batch_known : Int64) (v_batch_touched : Int64) (v_batch_namesTouched : Int32) (v_batch_open : Int32) (v_batch_image_classes : Nat → Int32) (v_schema_classCount : Int32) (v_schema_fieldCount : Int32) (v_schema_targets : Nat → Int32) (v_schema_above : Nat → Int32) (p1 : Int32) (p2 : Int32) (o : Int32) (hf : f_OB_canHold v_batch_known v_batch_image_classes v_schema_targets v_schema_above p1 p2 = some o) (sz : Nat) : MetI l y_OB_canHold ws_OB_canHold ({ frames := 1, cells := 0, slots := 0, locals := 22 }) D (obT G) (cw_OB_canHold G a_t a_batch a_batch_image a_batch_image_classes a_schema a_schema_targets a_schema_above a_indexes a_disk a_kept a_draftText a_questions a_reader a_judge a_latest a_batch_image_values a_batch_image_names a_schema_owners a_schema_kinds v_questionCount v_idsGiven v_everBegun v_batch_known v_batch_touched v_batch_namesTouched v_batch_open v_batch_image_classes v_schema_classCount v_schema_fieldCount v_schema_targets v_schema_above) (cw_OB_canHold G a_t a_batch a_batch_image a_batch_image_classes a_schema a_schema_targets a_schema_above a_indexes a_disk a_kept a_draftText a_questions a_reader a_judge a_latest a_batch_image_values a_batch_image_names a_schema_owners a_schema_kinds v_questionCount v_idsGiven v_everBegun v_batch_known v_batch_touched v_batch_namesTouched v_batch_open v_batch_image_classes v_schema_classCount v_schema_fieldCount v_schema_targets v_schema_above) [.ref a_t, .int p1, .int p2] o sz := by
  refine ob_of (cc := bc_OB_canHold) (maxL := 3) (ret := (some .boolean)) (Qc := ObQi D (obT G) (cw_OB_canHold G a_t a_batch a_batch_image a_batch_image_classes a_schema a_schema_targets a_schema_above a_indexes a_disk a_kept a_draftText a_questions a_reader a_judge a_latest a_batch_image_values a_batch_image_names a_schema_owners a_schema_kinds v_questionCount v_idsGiven v_everBegun v_batch_known v_batch_touched v_batch_namesTouched v_batch_open v_batch_image_classes v_schema_classCount v_schema_fieldCount v_schema_targets v_schema_above) o) (by decide) rfl (Nat.le_of_ble_eq_true rfl) ?_
  intro p e s m below meth c A ls H locs hx hb hr hml hts hown hlk hnm hZ hP hK hD hA hS hl
  have hret : ∀ (o' : Int32) (H : Heap) (locs : List Loc) (pc : Nat) (ls : Array Slot), some o' = some o → va_P D vwCl (cw_OB_canHold G a_t a_batch a_batch_image a_batch_image_classes a_schema a_schema_targets a_schema_above a_indexes a_disk a_kept a_draftText a_questions a_reader a_judge a_latest a_batch_image_values a_batch_image_names a_schema_owners a_schema_kinds v_questionCount v_idsGiven v_everBegun v_batch_known v_batch_touched v_batch_namesTouched v_batch_open v_batch_image_classes v_schema_classCount v_schema_fieldCount v_schema_targets v_schema_above) H → va_D A (cw_OB_canHold G a_t a_batch a_batch_image a_batch_image_classes a_schema a_schema_targets a_schema_above a_indexes a_disk a_kept a_draftText a_questions a_reader a_judge a_latest a_batch_image_values a_batch_image_names a_schema_owners a_schema_kinds v_questionCount v_idsGiven v_everBegun v_batch_known v_batch_touched v_batch_namesTouched v_batch_open v_batch_image_classes v_schema_classCount v_schema_fieldCount v_schema_targets v_schema_above) → va_S A s.heap H locs → narrow .boolean (.int o') = .int o' → decode bc_OB_canHold pc = .ok (.ireturn, 1) → W p l e { frames := 1, cells := 0, slots := 0, locals := 22 } s m ([.ref a_t, .int p1, .int p2] : List Value).toArray below meth c H locs 0 0 (MQ below (ObQi D (obT G) (cw_OB_canHold G a_t a_batch a_batch_image a_batch_image_classes a_schema a_schema_targets a_schema_above a_indexes a_disk a_kept a_draftText a_questions a_reader a_judge a_latest a_batch_image_values a_batch_image_names a_schema_owners a_schema_kinds v_questionCount v_idsGiven v_everBegun v_batch_known v_batch_touched v_batch_namesTouched v_batch_open v_batch_image_classes v_schema_classCount v_schema_fieldCount v_schema_targets v_schema_above) o A) ([.ref a_t, .int p1, .int p2] : List Value).toArray s 0 0 A) (F0 m pc ls [.int o']) := by
    intro o' H locs pc ls he hP hD hS hn hd
    obtain rfl := Option.some.inj he
    exact ob_iret hx hb hr hlk hK hP hD hS hn hd
  generalize MQ below (ObQi D (obT G) (cw_OB_canHold G a_t a_batch a_batch_image a_batch_image_classes a_schema a_schema_targets a_schema_above a_indexes a_disk a_kept a_draftText a_questions a_reader a_judge a_latest a_batch_image_values a_batch_image_names a_schema_owners a_schema_kinds v_questionCount v_idsGiven v_everBegun v_batch_known v_batch_touched v_batch_namesTouched v_batch_open v_batch_image_classes v_schema_classCount v_schema_fieldCount v_schema_targets v_schema_above) o A) ([.ref a_t, .int p1, .int p2] : List Value).toArray s 0 0 A = Q at hret ⊢
  have hl : lv_has ls 3 [(0, .ref a_t), (1, .int p1), (2, .int p2)] := hl
  unfold f_OB_canHold at hf
  refine lv_aload_n hx hb d_OB_canHold_0 rfl (lv_at hl 0 rfl) ?_
  refine va_get (D := D) (ci := 0) (v := .ref a_batch) (C := "ObjectBase") (T := TC_OB) (N := 13) hx hb hts inC_OB hown hK hP 0 rfl rfl 4 (by decide) (hts _ tw236) (fun _ h9 => h9) rfl d_OB_canHold_1 ?_
  refine va_get (D := D) (ci := 5) (v := .long v_batch_known) (C := "ObjectBase$Batch") (T := TC_Batch) (N := 5) hx hb hts inC_Batch hown hK hP 1 rfl rfl 1 (by decide) (hts _ tw134) (fun _ h9 => h9) rfl d_OB_canHold_4 ?_
  refine lv_iload_n hx hb d_OB_canHold_7 rfl (lv_at hl 2 rfl) ?_
  obtain ⟨o8, ho8, hf⟩ := ob_b hf
  have hRun := va_runS (R := ({ frames := 1, cells := 0, slots := 0, locals := 22 })) (locs := locs) (H := H) (l := l) (e := e) (below := below) (meth := meth) (cells := 0) (slots := 0) (g := F0 m 8 ls [.int p2, .long v_batch_known]) (As := [.long v_batch_known, .int p2]) (rest := []) ⟨hx, hb, hml, hown, hts⟩ (c_OB_contains l D G  v_batch_known p2 o8 ho8 H.size) (va_cwS 2 hts (gS tw363 tw325 tw1 tw326) rfl rfl rfl (by decide +kernel) ⟨Nat.le_of_ble_eq_true rfl, Nat.le_of_ble_eq_true rfl⟩) (ob_preS hZ hK hP hD [] rfl rfl) rfl rfl hl.1 rfl (lv_room (Nat.le_of_ble_eq_true rfl)) d_OB_canHold_8 ⟨Nat.le_refl _, Nat.le_refl _⟩
  refine ob_calli (wc := (cw_OB_contains G )) (wc1 := (cw_OB_contains G )) (r := o8) (w2 := (cw_OB_canHold G a_t a_batch a_batch_image a_batch_image_classes a_schema a_schema_targets a_schema_above a_indexes a_disk a_kept a_draftText a_questions a_reader a_judge a_latest a_batch_image_values a_batch_image_names a_schema_owners a_schema_kinds v_questionCount v_idsGiven v_everBegun v_batch_known v_batch_touched v_batch_namesTouched v_batch_open v_batch_image_classes v_schema_classCount v_schema_fieldCount v_schema_targets v_schema_above)) hRun hP hD hA hS [] rfl rfl rfl rfl (fun H locs hP hD hS => ?_)
  clear hRun
  refine lv_if_ne (tgt := 16) hx hb d_OB_canHold_11 (by decide) (fun hc11 => ?_) (fun hc11 => ?_)
  · have hf := ob_f hc11 hf
    refine lv_aload_n hx hb d_OB_canHold_16 rfl (lv_at hl 0 rfl) ?_
    refine va_get (D := D) (ci := 0) (v := .ref a_schema) (C := "ObjectBase") (T := TC_OB) (N := 13) hx hb hts inC_OB hown hK hP 0 rfl rfl 0 (by decide) (hts _ tw232) (fun _ h9 => h9) rfl d_OB_canHold_17 ?_
    refine lv_aload_n hx hb d_OB_canHold_20 rfl (lv_at hl 0 rfl) ?_
    refine va_get (D := D) (ci := 0) (v := .ref a_batch) (C := "ObjectBase") (T := TC_OB) (N := 13) hx hb hts inC_OB hown hK hP 0 rfl rfl 4 (by decide) (hts _ tw236) (fun _ h9 => h9) rfl d_OB_canHold_21 ?_
    refine va_get (D := D) (ci := 5) (v := .ref a_batch_image) (C := "ObjectBase$Batch") (T := TC_Batch) (N := 5) hx hb hts inC_Batch hown hK hP 1 rfl rfl 0 (by decide) (hts _ tw132) (fun _ h9 => h9) rfl d_OB_canHold_24 ?_
    refine lv_iload_n hx hb d_OB_canHold_27 rfl (lv_at hl 2 rfl) ?_
    obtain ⟨o28, ho28, hf⟩ := ob_b hf
    have hRun := va_runV (R := ({ frames := 1, cells := 0, slots := 0, locals := 22 })) (locs := locs) (H := H) (l := l) (e := e) (below := below) (meth := meth) (cells := 0) (slots := 0) (g := F0 m 28 ls [.int p2, .ref a_batch_image, .ref a_schema]) (As := [.int p2]) (rest := [.ref a_schema]) ⟨hx, hb, hml, hown, hts⟩ (c_Image_classAt l D G a_batch_image a_batch_image_classes a_batch_image_values a_batch_image_names v_batch_image_classes p2 o28 ho28 H.size) (cwV 1 hts (gV tw364 tw365 tw366 tw5 tw367) rfl rfl rfl (by decide +kernel) ⟨Nat.le_of_ble_eq_true rfl, Nat.le_of_ble_eq_true rfl⟩) (ob_preV (q0 := 2) (ci := 4) hZ hK hP hD [2, 3] rfl rfl rfl rfl rfl) rfl rfl hl.1 rfl (lv_room (Nat.le_of_ble_eq_true rfl)) d_OB_canHold_28 ⟨Nat.le_refl _, Nat.le_refl _⟩
    refine ob_calli (wc := (cw_Image_classAt G a_batch_image a_batch_image_classes a_batch_image_values a_batch_image_names v_batch_image_classes)) (wc1 := (cw_Image_classAt G a_batch_image a_batch_image_classes a_batch_image_values a_batch_image_names v_batch_image_classes)) (r := o28) (w2 := (cw_OB_canHold G a_t a_batch a_batch_image a_batch_image_classes a_schema a_schema_targets a_schema_above a_indexes a_disk a_kept a_draftText a_questions a_reader a_judge a_latest a_batch_image_values a_batch_image_names a_schema_owners a_schema_kinds v_questionCount v_idsGiven v_everBegun v_batch_known v_batch_touched v_batch_namesTouched v_batch_open v_batch_image_classes v_schema_classCount v_schema_fieldCount v_schema_targets v_schema_above)) hRun hP hD hA hS [2, 3] rfl rfl rfl rfl (fun H locs hP hD hS => ?_)
    clear hRun
    refine lv_aload_n hx hb d_OB_canHold_31 rfl (lv_at hl 0 rfl) ?_
    refine va_get (D := D) (ci := 0) (v := .ref a_schema) (C := "ObjectBase") (T := TC_OB) (N := 13) hx hb hts inC_OB hown hK hP 0 rfl rfl 0 (by decide) (hts _ tw232) (fun _ h9 => h9) rfl d_OB_canHold_32 ?_
    refine va_get (D := D) (ci := 1) (v := .ref a_schema_targets) (C := "ObjectBase$Schema") (T := TC_Schema) (N := 6) hx hb hts inC_Schema hown hK hP 4 rfl rfl 3 (by decide) (hts _ tw37) (fun _ h9 => h9) rfl d_OB_canHold_35 ?_
    refine lv_iload_n hx hb d_OB_canHold_38 rfl (lv_at hl 1 rfl) ?_
    obtain ⟨hg39, hf⟩ := ob_iv_g hf
    refine va_iald hx hb hK hP 5 0 rfl rfl hg39 d_OB_canHold_39 ?_
    obtain ⟨o40, ho40, hf⟩ := ob_b hf
    have hRun := va_runV (R := ({ frames := 1, cells := 0, slots := 0, locals := 22 })) (locs := locs) (H := H) (l := l) (e := e) (below := below) (meth := meth) (cells := 0) (slots := 0) (g := F0 m 40 ls [.int (v_schema_targets p1.toNatClampNeg), .int o28, .ref a_schema]) (As := [.int o28, .int (v_schema_targets p1.toNatClampNeg)]) (rest := []) ⟨hx, hb, hml, hown, hts⟩ (c_Schema_isOf l D G a_schema a_schema_above a_schema_owners a_schema_kinds a_schema_targets v_schema_classCount v_schema_fieldCount v_schema_above o28 (v_schema_targets p1.toNatClampNeg) o40 ho40 H.size) (cwV 2 hts (gV tw381 tw382 tw383 tw2 tw384) rfl rfl rfl (by decide +kernel) ⟨Nat.le_of_ble_eq_true rfl, Nat.le_of_ble_eq_true rfl⟩) (ob_preV (q0 := 4) (ci := 1) hZ hK hP hD [4, 6] rfl rfl rfl rfl rfl) rfl rfl hl.1 rfl (lv_room (Nat.le_of_ble_eq_true rfl)) d_OB_canHold_40 ⟨Nat.le_refl _, Nat.le_refl _⟩
    refine ob_calli (wc := (cw_Schema_isOf G a_schema a_schema_above a_schema_owners a_schema_kinds a_schema_targets v_schema_classCount v_schema_fieldCount v_schema_above)) (wc1 := (cw_Schema_isOf G a_schema a_schema_above a_schema_owners a_schema_kinds a_schema_targets v_schema_classCount v_schema_fieldCount v_schema_above)) (r := o40) (w2 := (cw_OB_canHold G a_t a_batch a_batch_image a_batch_image_classes a_schema a_schema_targets a_schema_above a_indexes a_disk a_kept a_draftText a_questions a_reader a_judge a_latest a_batch_image_values a_batch_image_names a_schema_owners a_schema_kinds v_questionCount v_idsGiven v_everBegun v_batch_known v_batch_touched v_batch_namesTouched v_batch_open v_batch_image_classes v_schema_classCount v_schema_fieldCount v_schema_targets v_schema_above)) hRun hP hD hA hS [4, 6] rfl rfl rfl rfl (fun H locs hP hD hS => ?_)
    clear hRun
    obtain ⟨hg43, hf⟩ := ob_nz_g hf
    exact hret o40 H locs _ ls hf hP hD hS hg43.1 d_OB_canHold_43
  · have hf := ob_t hc11 hf
    refine lv_iconst (v := 0) hx hb d_OB_canHold_14 (by decide) ?_
    exact hret 0 H locs _ ls hf hP hD hS narrow_b0 d_OB_canHold_15
abbrev bc_Indexes_isPathOf : ByteArray := prog_6_method_5_code
abbrev y_Indexes_isPathOf : MethodName := ⟨"ObjectBase$Indexes", "isPathOf", "(ILObjectBase$Text;I)Z"⟩
def ws_Indexes_isPathOf : List Cond := .code y_Indexes_isPathOf bc_Indexes_isPathOf 5 (some .boolean) :: obW
theorem d_Indexes_isPathOf_0 : decode bc_Indexes_isPathOf 0 = .ok (.iconst 0, 1) := by decide +kernel
theorem d_Indexes_isPathOf_1 : decode bc_Indexes_isPathOf 1 = .ok (.istore 4, 2) := by decide +kernel
theorem d_Indexes_isPathOf_3 : decode bc_Indexes_isPathOf 3 = .ok (.iload 4, 2) := by decide +kernel
theorem d_Indexes_isPathOf_5 : decode bc_Indexes_isPathOf 5 = .ok (.iconst 3, 1) := by decide +kernel
theorem d_Indexes_isPathOf_6 : decode bc_Indexes_isPathOf 6 = .ok (.if_icmp .ge 32, 3) := by decide +kernel
theorem d_Indexes_isPathOf_9 : decode bc_Indexes_isPathOf 9 = .ok (.aload_n 2, 1) := by decide +kernel
theorem d_Indexes_isPathOf_10 : decode bc_Indexes_isPathOf 10 = .ok (.iload_n 3, 1) := by decide +kernel
theorem d_Indexes_isPathOf_11 : decode bc_Indexes_isPathOf 11 = .ok (.iload 4, 2) := by decide +kernel
theorem d_Indexes_isPathOf_13 : decode bc_Indexes_isPathOf 13 = .ok (.invokevirtual 55, 3) := by decide +kernel
theorem d_Indexes_isPathOf_16 : decode bc_Indexes_isPathOf 16 = .ok (.aload_n 0, 1) := by decide +kernel
theorem d_Indexes_isPathOf_17 : decode bc_Indexes_isPathOf 17 = .ok (.getfield 15, 3) := by decide +kernel
theorem d_Indexes_isPathOf_20 : decode bc_Indexes_isPathOf 20 = .ok (.iload_n 1, 1) := by decide +kernel
theorem d_Indexes_isPathOf_21 : decode bc_Indexes_isPathOf 21 = .ok (.iconst 3, 1) := by decide +kernel
theorem d_Indexes_isPathOf_22 : decode bc_Indexes_isPathOf 22 = .ok (.imul, 1) := by decide +kernel
theorem d_Indexes_isPathOf_23 : decode bc_Indexes_isPathOf 23 = .ok (.iload 4, 2) := by decide +kernel
theorem d_Indexes_isPathOf_25 : decode bc_Indexes_isPathOf 25 = .ok (.iadd, 1) := by decide +kernel
theorem d_Indexes_isPathOf_26 : decode bc_Indexes_isPathOf 26 = .ok (.iaload, 1) := by decide +kernel
theorem d_Indexes_isPathOf_27 : decode bc_Indexes_isPathOf 27 = .ok (.if_icmp .eq 5, 3) := by decide +kernel
theorem d_Indexes_isPathOf_30 : decode bc_Indexes_isPathOf 30 = .ok (.iconst 0, 1) := by decide +kernel
theorem d_Indexes_isPathOf_31 : decode bc_Indexes_isPathOf 31 = .ok (.ireturn, 1) := by decide +kernel
theorem d_Indexes_isPathOf_32 : decode bc_Indexes_isPathOf 32 = .ok (.iinc 4 1, 3) := by decide +kernel
theorem d_Indexes_isPathOf_35 : decode bc_Indexes_isPathOf 35 = .ok (.goto (-32), 3) := by decide +kernel
theorem d_Indexes_isPathOf_38 : decode bc_Indexes_isPathOf 38 = .ok (.aload_n 2, 1) := by decide +kernel
theorem d_Indexes_isPathOf_39 : decode bc_Indexes_isPathOf 39 = .ok (.iload_n 3, 1) := by decide +kernel
theorem d_Indexes_isPathOf_40 : decode bc_Indexes_isPathOf 40 = .ok (.iconst 3, 1) := by decide +kernel
theorem d_Indexes_isPathOf_41 : decode bc_Indexes_isPathOf 41 = .ok (.invokevirtual 55, 3) := by decide +kernel
theorem d_Indexes_isPathOf_44 : decode bc_Indexes_isPathOf 44 = .ok (.iconst (-1), 1) := by decide +kernel
theorem d_Indexes_isPathOf_45 : decode bc_Indexes_isPathOf 45 = .ok (.if_icmp .ne 7, 3) := by decide +kernel
theorem d_Indexes_isPathOf_48 : decode bc_Indexes_isPathOf 48 = .ok (.iconst 1, 1) := by decide +kernel
theorem d_Indexes_isPathOf_49 : decode bc_Indexes_isPathOf 49 = .ok (.goto 4, 3) := by decide +kernel
theorem d_Indexes_isPathOf_52 : decode bc_Indexes_isPathOf 52 = .ok (.iconst 0, 1) := by decide +kernel
theorem d_Indexes_isPathOf_53 : decode bc_Indexes_isPathOf 53 = .ok (.ireturn, 1) := by decide +kernel
def cw_Indexes_isPathOf (G : Nat → ClassId) (a_p2 a_p2_chars a_t a_fields a_classes : Nat) (v_p2_length : Int32) (v_p2_chars : Nat → Int32) (v_count : Int32) (v_fields : Nat → Int32) : va_W := [(a_p2, .inr (6, [.ref a_p2_chars, .int v_p2_length])), (a_p2_chars, .inl (G 2, 60, .inl v_p2_chars)), (a_t, .inr (2, [.ref a_classes, .ref a_fields, .int v_count])), (a_fields, .inl (G 0, 9, .inl v_fields))]
def f_Indexes_isPathOf_B3 (v_p2_length : Int32) (v_p2_chars : Nat → Int32) (p3 : Int32) (p1 : Int32) (v_fields : Nat → Int32) (k3 : Int32 → Option (Int32)) (x3_4 : Int32) : Option (Int32) := if 3 ≤ x3_4 then ((f_Text_fieldOfPath v_p2_length v_p2_chars p3 3).bind fun o41 => (if o41 = (-1) then (some 1) else (some 0))) else ((f_Text_fieldOfPath v_p2_length v_p2_chars p3 x3_4).bind fun o13 => (ob_iv ((p1 * 3) + x3_4) 9 (if o13 = (v_fields ((p1 * 3) + x3_4).toNatClampNeg) then (k3 (x3_4 + 1)) else (some 0))))
def f_Indexes_isPathOf_L3 (v_p2_length : Int32) (v_p2_chars : Nat → Int32) (p3 : Int32) (p1 : Int32) (v_fields : Nat → Int32) : Nat → Int32 → Option (Int32) := ob_lp1 (f_Indexes_isPathOf_B3 v_p2_length v_p2_chars p3 p1 v_fields)
def f_Indexes_isPathOf (v_p2_length : Int32) (v_p2_chars : Nat → Int32) (v_fields : Nat → Int32) (p1 : Int32) (p3 : Int32) : Option (Int32) := f_Indexes_isPathOf_L3 v_p2_length v_p2_chars p3 p1 v_fields 1000 0
set_option maxHeartbeats 4000000 in
set_option maxRecDepth 100000 in
theorem c_Indexes_isPathOf (l : Launch) (D : va_G) (G : Nat → ClassId) (a_p2 a_p2_chars a_t a_fields a_classes : Nat) (v_p2_length : Int32) (v_p2_chars : Nat → Int32) (v_count : Int32) (v_fields : Nat → Int32) (p1 : Int32) (p3 : Int32) (o : Int32) (hf : f_Indexes_isPathOf v_p2_length v_p2_chars v_fields p1 p3 = some o) (sz : Nat) : MetI l y_Indexes_isPathOf ws_Indexes_isPathOf ({ frames := 2, cells := 0, slots := 0, locals := 44 }) D (obT G) (cw_Indexes_isPathOf G a_p2 a_p2_chars a_t a_fields a_classes v_p2_length v_p2_chars v_count v_fields) (cw_Indexes_isPathOf G a_p2 a_p2_chars a_t a_fields a_classes v_p2_length v_p2_chars v_count v_fields) [.ref a_t, .int p1, .ref a_p2, .int p3] o sz := by
  refine ob_of (cc := bc_Indexes_isPathOf) (maxL := 5) (ret := (some .boolean)) (Qc := ObQi D (obT G) (cw_Indexes_isPathOf G a_p2 a_p2_chars a_t a_fields a_classes v_p2_length v_p2_chars v_count v_fields) o) (by decide) rfl (Nat.le_of_ble_eq_true rfl) ?_
  intro p e s m below meth c A ls H locs hx hb hr hml hts hown hlk hnm hZ hP hK hD hA hS hl
  have hret : ∀ (o' : Int32) (H : Heap) (locs : List Loc) (pc : Nat) (ls : Array Slot), some o' = some o → va_P D vwCl (cw_Indexes_isPathOf G a_p2 a_p2_chars a_t a_fields a_classes v_p2_length v_p2_chars v_count v_fields) H → va_D A (cw_Indexes_isPathOf G a_p2 a_p2_chars a_t a_fields a_classes v_p2_length v_p2_chars v_count v_fields) → va_S A s.heap H locs → narrow .boolean (.int o') = .int o' → decode bc_Indexes_isPathOf pc = .ok (.ireturn, 1) → W p l e { frames := 2, cells := 0, slots := 0, locals := 44 } s m ([.ref a_t, .int p1, .ref a_p2, .int p3] : List Value).toArray below meth c H locs 0 0 (MQ below (ObQi D (obT G) (cw_Indexes_isPathOf G a_p2 a_p2_chars a_t a_fields a_classes v_p2_length v_p2_chars v_count v_fields) o A) ([.ref a_t, .int p1, .ref a_p2, .int p3] : List Value).toArray s 0 0 A) (F0 m pc ls [.int o']) := by
    intro o' H locs pc ls he hP hD hS hn hd
    obtain rfl := Option.some.inj he
    exact ob_iret hx hb hr hlk hK hP hD hS hn hd
  generalize MQ below (ObQi D (obT G) (cw_Indexes_isPathOf G a_p2 a_p2_chars a_t a_fields a_classes v_p2_length v_p2_chars v_count v_fields) o A) ([.ref a_t, .int p1, .ref a_p2, .int p3] : List Value).toArray s 0 0 A = Q at hret ⊢
  have hl : lv_has ls 5 [(0, .ref a_t), (1, .int p1), (2, .ref a_p2), (3, .int p3)] := hl
  unfold f_Indexes_isPathOf at hf
  have loop3 : ∀ (n3 : Nat) (x3_4 : Int32) (ls : Array Slot) (H : Heap) (locs : List Loc), lv_has ls 5 [(0, .ref a_t), (1, .int p1), (2, .ref a_p2), (3, .int p3), (4, .int x3_4)] → va_P D vwCl (cw_Indexes_isPathOf G a_p2 a_p2_chars a_t a_fields a_classes v_p2_length v_p2_chars v_count v_fields) H → va_D A (cw_Indexes_isPathOf G a_p2 a_p2_chars a_t a_fields a_classes v_p2_length v_p2_chars v_count v_fields) → va_S A s.heap H locs → f_Indexes_isPathOf_L3 v_p2_length v_p2_chars p3 p1 v_fields n3 x3_4 = some o → W p l e ({ frames := 2, cells := 0, slots := 0, locals := 44 }) s m ([.ref a_t, .int p1, .ref a_p2, .int p3] : List Value).toArray below meth c H locs 0 0 Q (F0 m 3 ls []) := by
    intro n3
    induction n3 with
    | zero => intro x3_4 ls H locs hl hP hD hS hf; exact ob_no hf
    | succ n3 ih3 =>
      intro x3_4 ls H locs hl hP hD hS hf
      have hf : f_Indexes_isPathOf_B3 v_p2_length v_p2_chars p3 p1 v_fields (f_Indexes_isPathOf_L3 v_p2_length v_p2_chars p3 p1 v_fields n3) x3_4 = some o := hf
      unfold f_Indexes_isPathOf_B3 at hf
      refine lv_iload hx hb d_Indexes_isPathOf_3 (lv_at hl 4 rfl) ?_
      refine lv_iconst (v := 3) hx hb d_Indexes_isPathOf_5 (by decide) ?_
      refine lv_icmp_ge (tgt := 38) hx hb d_Indexes_isPathOf_6 (by decide) (fun hc6 => ?_) (fun hc6 => ?_)
      · have hf := ob_t hc6 hf
        refine lv_aload_n hx hb d_Indexes_isPathOf_38 rfl (lv_at hl 2 rfl) ?_
        refine lv_iload_n hx hb d_Indexes_isPathOf_39 rfl (lv_at hl 3 rfl) ?_
        refine lv_iconst (v := 3) hx hb d_Indexes_isPathOf_40 (by decide) ?_
        obtain ⟨o41, ho41, hf⟩ := ob_b hf
        have hRun := va_runV (R := ({ frames := 2, cells := 0, slots := 0, locals := 44 })) (locs := locs) (H := H) (l := l) (e := e) (below := below) (meth := meth) (cells := 0) (slots := 0) (g := F0 m 41 ls [.int 3, .int p3, .ref a_p2]) (As := [.int p3, .int 3]) (rest := []) ⟨hx, hb, hml, hown, hts⟩ (c_Text_fieldOfPath l D G a_p2 a_p2_chars v_p2_length v_p2_chars p3 3 o41 ho41 H.size) (cwV 2 hts (gV tw705 tw706 tw707 tw7 tw708) rfl rfl rfl (by decide +kernel) ⟨Nat.le_of_ble_eq_true rfl, Nat.le_of_ble_eq_true rfl⟩) (ob_preV (q0 := 0) (ci := 6) hZ hK hP hD [0, 1] rfl rfl rfl rfl rfl) rfl rfl hl.1 rfl (lv_room (Nat.le_of_ble_eq_true rfl)) d_Indexes_isPathOf_41 ⟨Nat.le_refl _, Nat.le_refl _⟩
        refine ob_calli (wc := (cw_Text_fieldOfPath G a_p2 a_p2_chars v_p2_length v_p2_chars)) (wc1 := (cw_Text_fieldOfPath G a_p2 a_p2_chars v_p2_length v_p2_chars)) (r := o41) (w2 := (cw_Indexes_isPathOf G a_p2 a_p2_chars a_t a_fields a_classes v_p2_length v_p2_chars v_count v_fields)) hRun hP hD hA hS [0, 1] rfl rfl rfl rfl (fun H locs hP hD hS => ?_)
        clear hRun
        refine lv_iconst (v := (-1)) hx hb d_Indexes_isPathOf_44 (by decide) ?_
        refine lv_icmp_ne (tgt := 52) hx hb d_Indexes_isPathOf_45 (by decide) (fun hc45 => ?_) (fun hc45 => ?_)
        · have hf := ob_f hc45 hf
          refine lv_iconst (v := 0) hx hb d_Indexes_isPathOf_52 (by decide) ?_
          exact hret 0 H locs _ ls hf hP hD hS narrow_b0 d_Indexes_isPathOf_53
        · have hf := ob_t hc45 hf
          refine lv_iconst (v := 1) hx hb d_Indexes_isPathOf_48 (by decide) ?_
          refine lv_goto (tgt := 53) hx hb d_Indexes_isPathOf_49 (by decide) ?_
          exact hret 1 H locs _ ls hf hP hD hS narrow_b1 d_Indexes_isPathOf_53
      · have hf := ob_f hc6 hf
        refine lv_aload_n hx hb d_Indexes_isPathOf_9 rfl (lv_at hl 2 rfl) ?_
        refine lv_iload_n hx hb d_Indexes_isPathOf_10 rfl (lv_at hl 3 rfl) ?_
        refine lv_iload hx hb d_Indexes_isPathOf_11 (lv_at hl 4 rfl) ?_
        obtain ⟨o13, ho13, hf⟩ := ob_b hf
        have hRun := va_runV (R := ({ frames := 2, cells := 0, slots := 0, locals := 44 })) (locs := locs) (H := H) (l := l) (e := e) (below := below) (meth := meth) (cells := 0) (slots := 0) (g := F0 m 13 ls [.int x3_4, .int p3, .ref a_p2]) (As := [.int p3, .int x3_4]) (rest := []) ⟨hx, hb, hml, hown, hts⟩ (c_Text_fieldOfPath l D G a_p2 a_p2_chars v_p2_length v_p2_chars p3 x3_4 o13 ho13 H.size) (cwV 2 hts (gV tw705 tw706 tw707 tw7 tw708) rfl rfl rfl (by decide +kernel) ⟨Nat.le_of_ble_eq_true rfl, Nat.le_of_ble_eq_true rfl⟩) (ob_preV (q0 := 0) (ci := 6) hZ hK hP hD [0, 1] rfl rfl rfl rfl rfl) rfl rfl hl.1 rfl (lv_room (Nat.le_of_ble_eq_true rfl)) d_Indexes_isPathOf_13 ⟨Nat.le_refl _, Nat.le_refl _⟩
        refine ob_calli (wc := (cw_Text_fieldOfPath G a_p2 a_p2_chars v_p2_length v_p2_chars)) (wc1 := (cw_Text_fieldOfPath G a_p2 a_p2_chars v_p2_length v_p2_chars)) (r := o13) (w2 := (cw_Indexes_isPathOf G a_p2 a_p2_chars a_t a_fields a_classes v_p2_length v_p2_chars v_count v_fields)) hRun hP hD hA hS [0, 1] rfl rfl rfl rfl (fun H locs hP hD hS => ?_)
        clear hRun
        refine lv_aload_n hx hb d_Indexes_isPathOf_16 rfl (lv_at hl 0 rfl) ?_
        refine va_get (D := D) (ci := 2) (v := .ref a_fields) (C := "ObjectBase$Indexes") (T := TC_Indexes) (N := 3) hx hb hts inC_Indexes hown hK hP 2 rfl rfl 1 (by decide) (hts _ tw64) (fun _ h9 => h9) rfl d_Indexes_isPathOf_17 ?_
        refine lv_iload_n hx hb d_Indexes_isPathOf_20 rfl (lv_at hl 1 rfl) ?_
        refine lv_iconst (v := 3) hx hb d_Indexes_isPathOf_21 (by decide) ?_
        refine lv_imul hx hb d_Indexes_isPathOf_22 ?_
        refine lv_iload hx hb d_Indexes_isPathOf_23 (lv_at hl 4 rfl) ?_
        refine lv_iadd hx hb d_Indexes_isPathOf_25 ?_
        obtain ⟨hg26, hf⟩ := ob_iv_g hf
        refine va_iald hx hb hK hP 3 0 rfl rfl hg26 d_Indexes_isPathOf_26 ?_
        refine lv_icmp_eq (tgt := 32) hx hb d_Indexes_isPathOf_27 (by decide) (fun hc27 => ?_) (fun hc27 => ?_)
        · have hf := ob_t hc27 hf
          refine lv_iinc (k := 4) (v := x3_4 + 1) (lv' := [(4, .int (x3_4 + 1)), (0, .ref a_t), (1, .int p1), (2, .ref a_p2), (3, .int p3)]) hx hb d_Indexes_isPathOf_32 hl rfl (by rw [show Int32.ofInt 1 = (1 : Int32) from by decide]) (by decide) rfl (fun ls hl => ?_)
          refine lv_goto (tgt := 3) hx hb d_Indexes_isPathOf_35 (by decide) ?_
          exact ih3 (x3_4 + 1) ls H locs (lv_sub hl [1, 2, 3, 4, 0] rfl) hP hD hS hf
        · have hf := ob_f hc27 hf
          refine lv_iconst (v := 0) hx hb d_Indexes_isPathOf_30 (by decide) ?_
          exact hret 0 H locs _ ls hf hP hD hS narrow_b0 d_Indexes_isPathOf_31
  refine lv_iconst (v := 0) hx hb d_Indexes_isPathOf_0 (by decide) ?_
  refine lv_istore (lv' := [(4, .int 0), (0, .ref a_t), (1, .int p1), (2, .ref a_p2), (3, .int p3)]) hx hb d_Indexes_isPathOf_1 hl (by decide) rfl (fun ls hl => ?_)
  exact loop3 1000 0 ls H locs (lv_sub hl [1, 2, 3, 4, 0] rfl) hP hD hS hf
abbrev bc_Image_reachedIds : ByteArray := prog_5_method_6_code
abbrev y_Image_reachedIds : MethodName := ⟨"ObjectBase$Image", "reachedIds", "(LObjectBase$Schema;)J"⟩
def ws_Image_reachedIds : List Cond := .code y_Image_reachedIds bc_Image_reachedIds 10 (some .long) :: obW
theorem d_Image_reachedIds_0 : decode bc_Image_reachedIds 0 = .ok (.lconst 0, 1) := by decide +kernel
theorem d_Image_reachedIds_1 : decode bc_Image_reachedIds 1 = .ok (.lstore_n 2, 1) := by decide +kernel
theorem d_Image_reachedIds_2 : decode bc_Image_reachedIds 2 = .ok (.iconst 0, 1) := by decide +kernel
theorem d_Image_reachedIds_3 : decode bc_Image_reachedIds 3 = .ok (.istore 4, 2) := by decide +kernel
theorem d_Image_reachedIds_5 : decode bc_Image_reachedIds 5 = .ok (.iload 4, 2) := by decide +kernel
theorem d_Image_reachedIds_7 : decode bc_Image_reachedIds 7 = .ok (.iconst 4, 1) := by decide +kernel
theorem d_Image_reachedIds_8 : decode bc_Image_reachedIds 8 = .ok (.if_icmp .ge 22, 3) := by decide +kernel
theorem d_Image_reachedIds_11 : decode bc_Image_reachedIds 11 = .ok (.lload_n 2, 1) := by decide +kernel
theorem d_Image_reachedIds_12 : decode bc_Image_reachedIds 12 = .ok (.aload_n 0, 1) := by decide +kernel
theorem d_Image_reachedIds_13 : decode bc_Image_reachedIds 13 = .ok (.getfield 19, 3) := by decide +kernel
theorem d_Image_reachedIds_16 : decode bc_Image_reachedIds 16 = .ok (.iload 4, 2) := by decide +kernel
theorem d_Image_reachedIds_18 : decode bc_Image_reachedIds 18 = .ok (.iaload, 1) := by decide +kernel
theorem d_Image_reachedIds_19 : decode bc_Image_reachedIds 19 = .ok (.invokestatic 28, 3) := by decide +kernel
theorem d_Image_reachedIds_22 : decode bc_Image_reachedIds 22 = .ok (.lor, 1) := by decide +kernel
theorem d_Image_reachedIds_23 : decode bc_Image_reachedIds 23 = .ok (.lstore_n 2, 1) := by decide +kernel
theorem d_Image_reachedIds_24 : decode bc_Image_reachedIds 24 = .ok (.iinc 4 1, 3) := by decide +kernel
theorem d_Image_reachedIds_27 : decode bc_Image_reachedIds 27 = .ok (.goto (-22), 3) := by decide +kernel
theorem d_Image_reachedIds_30 : decode bc_Image_reachedIds 30 = .ok (.lconst 0, 1) := by decide +kernel
theorem d_Image_reachedIds_31 : decode bc_Image_reachedIds 31 = .ok (.lstore 4, 2) := by decide +kernel
theorem d_Image_reachedIds_33 : decode bc_Image_reachedIds 33 = .ok (.iconst 0, 1) := by decide +kernel
theorem d_Image_reachedIds_34 : decode bc_Image_reachedIds 34 = .ok (.istore 6, 2) := by decide +kernel
theorem d_Image_reachedIds_36 : decode bc_Image_reachedIds 36 = .ok (.iload 6, 2) := by decide +kernel
theorem d_Image_reachedIds_38 : decode bc_Image_reachedIds 38 = .ok (.bipush 62, 2) := by decide +kernel
theorem d_Image_reachedIds_40 : decode bc_Image_reachedIds 40 = .ok (.if_icmp .ge 65, 3) := by decide +kernel
theorem d_Image_reachedIds_43 : decode bc_Image_reachedIds 43 = .ok (.lload_n 2, 1) := by decide +kernel
theorem d_Image_reachedIds_44 : decode bc_Image_reachedIds 44 = .ok (.lload 4, 2) := by decide +kernel
theorem d_Image_reachedIds_46 : decode bc_Image_reachedIds 46 = .ok (.lcmp, 1) := by decide +kernel
theorem d_Image_reachedIds_47 : decode bc_Image_reachedIds 47 = .ok (.ifCond .eq 58, 3) := by decide +kernel
theorem d_Image_reachedIds_50 : decode bc_Image_reachedIds 50 = .ok (.lload_n 2, 1) := by decide +kernel
theorem d_Image_reachedIds_51 : decode bc_Image_reachedIds 51 = .ok (.lload 4, 2) := by decide +kernel
theorem d_Image_reachedIds_53 : decode bc_Image_reachedIds 53 = .ok (.ldc2_w 32, 3) := by decide +kernel
theorem d_Image_reachedIds_56 : decode bc_Image_reachedIds 56 = .ok (.lxor, 1) := by decide +kernel
theorem d_Image_reachedIds_57 : decode bc_Image_reachedIds 57 = .ok (.land, 1) := by decide +kernel
theorem d_Image_reachedIds_58 : decode bc_Image_reachedIds 58 = .ok (.lstore 7, 2) := by decide +kernel
theorem d_Image_reachedIds_60 : decode bc_Image_reachedIds 60 = .ok (.lload_n 2, 1) := by decide +kernel
theorem d_Image_reachedIds_61 : decode bc_Image_reachedIds 61 = .ok (.lstore 4, 2) := by decide +kernel
theorem d_Image_reachedIds_63 : decode bc_Image_reachedIds 63 = .ok (.iconst 1, 1) := by decide +kernel
theorem d_Image_reachedIds_64 : decode bc_Image_reachedIds 64 = .ok (.istore 9, 2) := by decide +kernel
theorem d_Image_reachedIds_66 : decode bc_Image_reachedIds 66 = .ok (.iload 9, 2) := by decide +kernel
theorem d_Image_reachedIds_68 : decode bc_Image_reachedIds 68 = .ok (.bipush 62, 2) := by decide +kernel
theorem d_Image_reachedIds_70 : decode bc_Image_reachedIds 70 = .ok (.if_icmp .gt 29, 3) := by decide +kernel
theorem d_Image_reachedIds_73 : decode bc_Image_reachedIds 73 = .ok (.lload 7, 2) := by decide +kernel
theorem d_Image_reachedIds_75 : decode bc_Image_reachedIds 75 = .ok (.iload 9, 2) := by decide +kernel
theorem d_Image_reachedIds_77 : decode bc_Image_reachedIds 77 = .ok (.invokestatic 34, 3) := by decide +kernel
theorem d_Image_reachedIds_80 : decode bc_Image_reachedIds 80 = .ok (.ifCond .eq 13, 3) := by decide +kernel
theorem d_Image_reachedIds_83 : decode bc_Image_reachedIds 83 = .ok (.lload_n 2, 1) := by decide +kernel
theorem d_Image_reachedIds_84 : decode bc_Image_reachedIds 84 = .ok (.aload_n 0, 1) := by decide +kernel
theorem d_Image_reachedIds_85 : decode bc_Image_reachedIds 85 = .ok (.iload 9, 2) := by decide +kernel
theorem d_Image_reachedIds_87 : decode bc_Image_reachedIds 87 = .ok (.aload_n 1, 1) := by decide +kernel
theorem d_Image_reachedIds_88 : decode bc_Image_reachedIds 88 = .ok (.invokevirtual 38, 3) := by decide +kernel
theorem d_Image_reachedIds_91 : decode bc_Image_reachedIds 91 = .ok (.lor, 1) := by decide +kernel
theorem d_Image_reachedIds_92 : decode bc_Image_reachedIds 92 = .ok (.lstore_n 2, 1) := by decide +kernel
theorem d_Image_reachedIds_93 : decode bc_Image_reachedIds 93 = .ok (.iinc 9 1, 3) := by decide +kernel
theorem d_Image_reachedIds_96 : decode bc_Image_reachedIds 96 = .ok (.goto (-30), 3) := by decide +kernel
theorem d_Image_reachedIds_99 : decode bc_Image_reachedIds 99 = .ok (.iinc 6 1, 3) := by decide +kernel
theorem d_Image_reachedIds_102 : decode bc_Image_reachedIds 102 = .ok (.goto (-66), 3) := by decide +kernel
theorem d_Image_reachedIds_105 : decode bc_Image_reachedIds 105 = .ok (.lload_n 2, 1) := by decide +kernel
theorem d_Image_reachedIds_106 : decode bc_Image_reachedIds 106 = .ok (.lreturn, 1) := by decide +kernel
def cw_Image_reachedIds (G : Nat → ClassId) (a_t a_p1 a_values a_p1_kinds a_names a_classes a_p1_above a_p1_owners a_p1_targets : Nat) (v_p1_classCount : Int32) (v_p1_fieldCount : Int32) (v_values : Nat → Int64) (v_p1_kinds : Nat → Int32) (v_names : Nat → Int32) : va_W := [(a_t, .inr (4, [.ref a_classes, .ref a_values, .ref a_names])), (a_p1, .inr (1, [.ref a_p1_above, .ref a_p1_owners, .ref a_p1_kinds, .ref a_p1_targets, .int v_p1_classCount, .int v_p1_fieldCount])), (a_values, .inl (G 1, 504, .inr (.inl v_values))), (a_p1_kinds, .inl (G 0, 8, .inl v_p1_kinds)), (a_names, .inl (G 0, 4, .inl v_names))]
def f_Image_reachedIds_B66 (k36 : Int64 → Int64 → Int32 → Option (Int64)) (v_p1_fieldCount : Int32) (v_values : Nat → Int64) (v_p1_kinds : Nat → Int32) (k66 : Int64 → Int64 → Int32 → Int64 → Int32 → Option (Int64)) (x66_2 : Int64) (x66_4 : Int64) (x66_6 : Int32) (x66_7 : Int64) (x66_9 : Int32) : Option (Int64) := if 62 < x66_9 then (k36 x66_2 x66_4 (x66_6 + 1)) else ((f_OB_contains x66_7 x66_9).bind fun o77 => (if o77 = 0 then (k66 x66_2 x66_4 x66_6 x66_7 (x66_9 + 1)) else ((f_Image_neighbours v_p1_fieldCount v_values v_p1_kinds x66_9).bind fun o88 => (k66 (x66_2 ||| o88) x66_4 x66_6 x66_7 (x66_9 + 1)))))
def f_Image_reachedIds_L66 (k36 : Int64 → Int64 → Int32 → Option (Int64)) (v_p1_fieldCount : Int32) (v_values : Nat → Int64) (v_p1_kinds : Nat → Int32) : Nat → Int64 → Int64 → Int32 → Int64 → Int32 → Option (Int64) := ob_lp5 (f_Image_reachedIds_B66 k36 v_p1_fieldCount v_values v_p1_kinds)
def f_Image_reachedIds_B36 (v_p1_fieldCount : Int32) (v_values : Nat → Int64) (v_p1_kinds : Nat → Int32) (k36 : Int64 → Int64 → Int32 → Option (Int64)) (x36_2 : Int64) (x36_4 : Int64) (x36_6 : Int32) : Option (Int64) := if 62 ≤ x36_6 then (some x36_2) else (if (lg_cmp x36_2 x36_4) = 0 then (some x36_2) else (f_Image_reachedIds_L66 k36 v_p1_fieldCount v_values v_p1_kinds 1000 x36_2 x36_2 x36_6 (x36_2 &&& (x36_4 ^^^ (-1))) 1))
def f_Image_reachedIds_L36 (v_p1_fieldCount : Int32) (v_values : Nat → Int64) (v_p1_kinds : Nat → Int32) : Nat → Int64 → Int64 → Int32 → Option (Int64) := ob_lp3 (f_Image_reachedIds_B36 v_p1_fieldCount v_values v_p1_kinds)
def f_Image_reachedIds_B5 (v_p1_fieldCount : Int32) (v_values : Nat → Int64) (v_p1_kinds : Nat → Int32) (v_names : Nat → Int32) (k5 : Int64 → Int32 → Option (Int64)) (x5_2 : Int64) (x5_4 : Int32) : Option (Int64) := if 4 ≤ x5_4 then (f_Image_reachedIds_L36 v_p1_fieldCount v_values v_p1_kinds 1000 x5_2 0 0) else (ob_iv x5_4 4 ((f_OB_setOf (v_names x5_4.toNatClampNeg)).bind fun o19 => (k5 (x5_2 ||| o19) (x5_4 + 1))))
def f_Image_reachedIds_L5 (v_p1_fieldCount : Int32) (v_values : Nat → Int64) (v_p1_kinds : Nat → Int32) (v_names : Nat → Int32) : Nat → Int64 → Int32 → Option (Int64) := ob_lp2 (f_Image_reachedIds_B5 v_p1_fieldCount v_values v_p1_kinds v_names)
def f_Image_reachedIds (v_p1_fieldCount : Int32) (v_values : Nat → Int64) (v_p1_kinds : Nat → Int32) (v_names : Nat → Int32) : Option (Int64) := f_Image_reachedIds_L5 v_p1_fieldCount v_values v_p1_kinds v_names 1000 0 0
set_option maxHeartbeats 4000000 in
set_option maxRecDepth 100000 in
theorem c_Image_reachedIds (l : Launch) (D : va_G) (G : Nat → ClassId) (a_t a_p1 a_values a_p1_kinds a_names a_classes a_p1_above a_p1_owners a_p1_targets : Nat) (v_p1_classCount : Int32) (v_p1_fieldCount : Int32) (v_values : Nat → Int64) (v_p1_kinds : Nat → Int32) (v_names : Nat → Int32) (o : Int64) (hf : f_Image_reachedIds v_p1_fieldCount v_values v_p1_kinds v_names = some o) (sz : Nat) : MetL l y_Image_reachedIds ws_Image_reachedIds ({ frames := 2, cells := 0, slots := 0, locals := 49 }) D (obT G) (cw_Image_reachedIds G a_t a_p1 a_values a_p1_kinds a_names a_classes a_p1_above a_p1_owners a_p1_targets v_p1_classCount v_p1_fieldCount v_values v_p1_kinds v_names) (cw_Image_reachedIds G a_t a_p1 a_values a_p1_kinds a_names a_classes a_p1_above a_p1_owners a_p1_targets v_p1_classCount v_p1_fieldCount v_values v_p1_kinds v_names) [.ref a_t, .ref a_p1] o sz := by
  refine ob_of (cc := bc_Image_reachedIds) (maxL := 10) (ret := (some .long)) (Qc := ObQl D (obT G) (cw_Image_reachedIds G a_t a_p1 a_values a_p1_kinds a_names a_classes a_p1_above a_p1_owners a_p1_targets v_p1_classCount v_p1_fieldCount v_values v_p1_kinds v_names) o) (by decide) rfl (Nat.le_of_ble_eq_true rfl) ?_
  intro p e s m below meth c A ls H locs hx hb hr hml hts hown hlk hnm hZ hP hK hD hA hS hl
  have hret : ∀ (o' : Int64) (H : Heap) (locs : List Loc) (pc : Nat) (ls : Array Slot), some o' = some o → va_P D vwCl (cw_Image_reachedIds G a_t a_p1 a_values a_p1_kinds a_names a_classes a_p1_above a_p1_owners a_p1_targets v_p1_classCount v_p1_fieldCount v_values v_p1_kinds v_names) H → va_D A (cw_Image_reachedIds G a_t a_p1 a_values a_p1_kinds a_names a_classes a_p1_above a_p1_owners a_p1_targets v_p1_classCount v_p1_fieldCount v_values v_p1_kinds v_names) → va_S A s.heap H locs → decode bc_Image_reachedIds pc = .ok (.lreturn, 1) → W p l e { frames := 2, cells := 0, slots := 0, locals := 49 } s m ([.ref a_t, .ref a_p1] : List Value).toArray below meth c H locs 0 0 (MQ below (ObQl D (obT G) (cw_Image_reachedIds G a_t a_p1 a_values a_p1_kinds a_names a_classes a_p1_above a_p1_owners a_p1_targets v_p1_classCount v_p1_fieldCount v_values v_p1_kinds v_names) o A) ([.ref a_t, .ref a_p1] : List Value).toArray s 0 0 A) (F0 m pc ls [.long o']) := by
    intro o' H locs pc ls he hP hD hS hd
    obtain rfl := Option.some.inj he
    exact ob_lret hx hb hr hlk hK hP hD hS hd
  generalize MQ below (ObQl D (obT G) (cw_Image_reachedIds G a_t a_p1 a_values a_p1_kinds a_names a_classes a_p1_above a_p1_owners a_p1_targets v_p1_classCount v_p1_fieldCount v_values v_p1_kinds v_names) o A) ([.ref a_t, .ref a_p1] : List Value).toArray s 0 0 A = Q at hret ⊢
  have hl : lv_has ls 10 [(0, .ref a_t), (1, .ref a_p1)] := hl
  unfold f_Image_reachedIds at hf
  have loop36 : ∀ (n36 : Nat) (x36_2 : Int64) (x36_4 : Int64) (x36_6 : Int32) (ls : Array Slot) (H : Heap) (locs : List Loc), lv_has ls 10 [(0, .ref a_t), (1, .ref a_p1), (2, .long x36_2), (4, .long x36_4), (6, .int x36_6)] → va_P D vwCl (cw_Image_reachedIds G a_t a_p1 a_values a_p1_kinds a_names a_classes a_p1_above a_p1_owners a_p1_targets v_p1_classCount v_p1_fieldCount v_values v_p1_kinds v_names) H → va_D A (cw_Image_reachedIds G a_t a_p1 a_values a_p1_kinds a_names a_classes a_p1_above a_p1_owners a_p1_targets v_p1_classCount v_p1_fieldCount v_values v_p1_kinds v_names) → va_S A s.heap H locs → f_Image_reachedIds_L36 v_p1_fieldCount v_values v_p1_kinds n36 x36_2 x36_4 x36_6 = some o → W p l e ({ frames := 2, cells := 0, slots := 0, locals := 49 }) s m ([.ref a_t, .ref a_p1] : List Value).toArray below meth c H locs 0 0 Q (F0 m 36 ls []) := by
    intro n36
    induction n36 with
    | zero => intro x36_2 x36_4 x36_6 ls H locs hl hP hD hS hf; exact ob_no hf
    | succ n36 ih36 =>
      intro x36_2 x36_4 x36_6 ls H locs hl hP hD hS hf
      have hf : f_Image_reachedIds_B36 v_p1_fieldCount v_values v_p1_kinds (f_Image_reachedIds_L36 v_p1_fieldCount v_values v_p1_kinds n36) x36_2 x36_4 x36_6 = some o := hf
      unfold f_Image_reachedIds_B36 at hf
      have loop66 : ∀ (n66 : Nat) (x66_2 : Int64) (x66_4 : Int64) (x66_6 : Int32) (x66_7 : Int64) (x66_9 : Int32) (ls : Array Slot) (H : Heap) (locs : List Loc), lv_has ls 10 [(0, .ref a_t), (1, .ref a_p1), (2, .long x66_2), (4, .long x66_4), (6, .int x66_6), (7, .long x66_7), (9, .int x66_9)] → va_P D vwCl (cw_Image_reachedIds G a_t a_p1 a_values a_p1_kinds a_names a_classes a_p1_above a_p1_owners a_p1_targets v_p1_classCount v_p1_fieldCount v_values v_p1_kinds v_names) H → va_D A (cw_Image_reachedIds G a_t a_p1 a_values a_p1_kinds a_names a_classes a_p1_above a_p1_owners a_p1_targets v_p1_classCount v_p1_fieldCount v_values v_p1_kinds v_names) → va_S A s.heap H locs → f_Image_reachedIds_L66 (f_Image_reachedIds_L36 v_p1_fieldCount v_values v_p1_kinds n36) v_p1_fieldCount v_values v_p1_kinds n66 x66_2 x66_4 x66_6 x66_7 x66_9 = some o → W p l e ({ frames := 2, cells := 0, slots := 0, locals := 49 }) s m ([.ref a_t, .ref a_p1] : List Value).toArray below meth c H locs 0 0 Q (F0 m 66 ls []) := by
        intro n66
        induction n66 with
        | zero => intro x66_2 x66_4 x66_6 x66_7 x66_9 ls H locs hl hP hD hS hf; exact ob_no hf
        | succ n66 ih66 =>
          intro x66_2 x66_4 x66_6 x66_7 x66_9 ls H locs hl hP hD hS hf
          have hf : f_Image_reachedIds_B66 (f_Image_reachedIds_L36 v_p1_fieldCount v_values v_p1_kinds n36) v_p1_fieldCount v_values v_p1_kinds (f_Image_reachedIds_L66 (f_Image_reachedIds_L36 v_p1_fieldCount v_values v_p1_kinds n36) v_p1_fieldCount v_values v_p1_kinds n66) x66_2 x66_4 x66_6 x66_7 x66_9 = some o := hf
          unfold f_Image_reachedIds_B66 at hf
          refine lv_iload hx hb d_Image_reachedIds_66 (lv_at hl 6 rfl) ?_
          refine lv_bipush (v := 62) hx hb d_Image_reachedIds_68 (by decide) ?_
          refine lv_icmp_gt (tgt := 99) hx hb d_Image_reachedIds_70 (by decide) (fun hc70 => ?_) (fun hc70 => ?_)
          · have hf := ob_t hc70 hf
            refine lv_iinc (k := 4) (v := x66_6 + 1) (lv' := [(6, .int (x66_6 + 1)), (0, .ref a_t), (1, .ref a_p1), (2, .long x66_2), (4, .long x66_4), (7, .long x66_7), (9, .int x66_9)]) hx hb d_Image_reachedIds_99 hl rfl (by rw [show Int32.ofInt 1 = (1 : Int32) from by decide]) (by decide) rfl (fun ls hl => ?_)
            refine lv_goto (tgt := 36) hx hb d_Image_reachedIds_102 (by decide) ?_
            exact ih36 x66_2 x66_4 (x66_6 + 1) ls H locs (lv_sub hl [1, 2, 3, 4, 0] rfl) hP hD hS hf
          · have hf := ob_f hc70 hf
            refine lv_lload hx hb d_Image_reachedIds_73 (lv_at hl 5 rfl) ?_
            refine lv_iload hx hb d_Image_reachedIds_75 (lv_at hl 6 rfl) ?_
            obtain ⟨o77, ho77, hf⟩ := ob_b hf
            have hRun := va_runSN (R := ({ frames := 2, cells := 0, slots := 0, locals := 49 })) (locs := locs) (H := H) (l := l) (e := e) (below := below) (meth := meth) (cells := 0) (slots := 0) (g := F0 m 77 ls [.int x66_9, .long x66_7]) (As := [.long x66_7, .int x66_9]) (rest := []) ⟨hx, hb, hml, hown, hts⟩ (c_OB_contains l D G  x66_7 x66_9 o77 ho77 H.size) ⟨va_cnB 2 hts (gN tw326) rfl rfl rfl (hZ.2 _ _ _ _ tw324) (hts _ tw1) (by decide +kernel) ⟨Nat.le_of_ble_eq_true rfl, Nat.le_of_ble_eq_true rfl⟩, hts _ tw325, trivial⟩ (ob_preS hZ hK hP hD [] rfl rfl) rfl rfl hl.1 rfl (lv_room (Nat.le_of_ble_eq_true rfl)) d_Image_reachedIds_77 ⟨Nat.le_refl _, Nat.le_refl _⟩
            refine ob_calli (wc := (cw_OB_contains G )) (wc1 := (cw_OB_contains G )) (r := o77) (w2 := (cw_Image_reachedIds G a_t a_p1 a_values a_p1_kinds a_names a_classes a_p1_above a_p1_owners a_p1_targets v_p1_classCount v_p1_fieldCount v_values v_p1_kinds v_names)) hRun hP hD hA hS [] rfl rfl rfl rfl (fun H locs hP hD hS => ?_)
            clear hRun
            refine lv_if_eq (tgt := 93) hx hb d_Image_reachedIds_80 (by decide) (fun hc80 => ?_) (fun hc80 => ?_)
            · have hf := ob_t hc80 hf
              refine lv_iinc (k := 6) (v := x66_9 + 1) (lv' := [(9, .int (x66_9 + 1)), (0, .ref a_t), (1, .ref a_p1), (2, .long x66_2), (4, .long x66_4), (6, .int x66_6), (7, .long x66_7)]) hx hb d_Image_reachedIds_93 hl rfl (by rw [show Int32.ofInt 1 = (1 : Int32) from by decide]) (by decide) rfl (fun ls hl => ?_)
              refine lv_goto (tgt := 66) hx hb d_Image_reachedIds_96 (by decide) ?_
              exact ih66 x66_2 x66_4 x66_6 x66_7 (x66_9 + 1) ls H locs (lv_sub hl [1, 2, 3, 4, 5, 6, 0] rfl) hP hD hS hf
            · have hf := ob_f hc80 hf
              refine lv_lload_n hx hb d_Image_reachedIds_83 rfl (lv_at hl 2 rfl) ?_
              refine lv_aload_n hx hb d_Image_reachedIds_84 rfl (lv_at hl 0 rfl) ?_
              refine lv_iload hx hb d_Image_reachedIds_85 (lv_at hl 6 rfl) ?_
              refine lv_aload_n hx hb d_Image_reachedIds_87 rfl (lv_at hl 1 rfl) ?_
              obtain ⟨o88, ho88, hf⟩ := ob_b hf
              have hRun := va_runV (R := ({ frames := 2, cells := 0, slots := 0, locals := 49 })) (locs := locs) (H := H) (l := l) (e := e) (below := below) (meth := meth) (cells := 0) (slots := 0) (g := F0 m 88 ls [.ref a_p1, .int x66_9, .ref a_t, .long x66_2]) (As := [.int x66_9, .ref a_p1]) (rest := [.long x66_2]) ⟨hx, hb, hml, hown, hts⟩ (c_Image_neighbours l D G a_p1 a_t a_values a_p1_kinds a_p1_above a_p1_owners a_p1_targets a_classes a_names v_p1_classCount v_p1_fieldCount v_values v_p1_kinds x66_9 o88 ho88 H.size) (cwV 2 hts (gV tw327 tw329 tp0 tw5 tw330) rfl rfl rfl (by decide +kernel) ⟨Nat.le_of_ble_eq_true rfl, Nat.le_of_ble_eq_true rfl⟩) (ob_preV (q0 := 0) (ci := 4) hZ hK hP hD [1, 0, 2, 3] rfl rfl rfl rfl rfl) rfl rfl hl.1 rfl (lv_room (Nat.le_of_ble_eq_true rfl)) d_Image_reachedIds_88 ⟨Nat.le_refl _, Nat.le_refl _⟩
              refine ob_calll (wc := (cw_Image_neighbours G a_p1 a_t a_values a_p1_kinds a_p1_above a_p1_owners a_p1_targets a_classes a_names v_p1_classCount v_p1_fieldCount v_values v_p1_kinds)) (wc1 := (cw_Image_neighbours G a_p1 a_t a_values a_p1_kinds a_p1_above a_p1_owners a_p1_targets a_classes a_names v_p1_classCount v_p1_fieldCount v_values v_p1_kinds)) (r := o88) (w2 := (cw_Image_reachedIds G a_t a_p1 a_values a_p1_kinds a_names a_classes a_p1_above a_p1_owners a_p1_targets v_p1_classCount v_p1_fieldCount v_values v_p1_kinds v_names)) hRun hP hD hA hS [1, 0, 2, 3] rfl rfl rfl rfl (fun H locs hP hD hS => ?_)
              clear hRun
              refine lv_lor hx hb d_Image_reachedIds_91 ?_
              refine lv_lstore_n (lv' := [(2, .long (x66_2 ||| o88)), (0, .ref a_t), (1, .ref a_p1), (4, .long x66_4), (6, .int x66_6), (7, .long x66_7), (9, .int x66_9)]) hx hb d_Image_reachedIds_92 rfl hl (by decide) rfl (fun ls hl => ?_)
              refine lv_iinc (k := 6) (v := x66_9 + 1) (lv' := [(9, .int (x66_9 + 1)), (2, .long (x66_2 ||| o88)), (0, .ref a_t), (1, .ref a_p1), (4, .long x66_4), (6, .int x66_6), (7, .long x66_7)]) hx hb d_Image_reachedIds_93 hl rfl (by rw [show Int32.ofInt 1 = (1 : Int32) from by decide]) (by decide) rfl (fun ls hl => ?_)
              refine lv_goto (tgt := 66) hx hb d_Image_reachedIds_96 (by decide) ?_
              exact ih66 (x66_2 ||| o88) x66_4 x66_6 x66_7 (x66_9 + 1) ls H locs (lv_sub hl [2, 3, 1, 4, 5, 6, 0] rfl) hP hD hS hf
      refine lv_iload hx hb d_Image_reachedIds_36 (lv_at hl 4 rfl) ?_
      refine lv_bipush (v := 62) hx hb d_Image_reachedIds_38 (by decide) ?_
      refine lv_icmp_ge (tgt := 105) hx hb d_Image_reachedIds_40 (by decide) (fun hc40 => ?_) (fun hc40 => ?_)
      · have hf := ob_t hc40 hf
        refine lv_lload_n hx hb d_Image_reachedIds_105 rfl (lv_at hl 2 rfl) ?_
        exact hret x36_2 H locs _ ls hf hP hD hS d_Image_reachedIds_106
      · have hf := ob_f hc40 hf
        refine lv_lload_n hx hb d_Image_reachedIds_43 rfl (lv_at hl 2 rfl) ?_
        refine lv_lload hx hb d_Image_reachedIds_44 (lv_at hl 3 rfl) ?_
        refine W.lcmp hx hb d_Image_reachedIds_46 ?_
        refine lv_if_eq (tgt := 105) hx hb d_Image_reachedIds_47 (by decide) (fun hc47 => ?_) (fun hc47 => ?_)
        · have hf := ob_t hc47 hf
          refine lv_lload_n hx hb d_Image_reachedIds_105 rfl (lv_at hl 2 rfl) ?_
          exact hret x36_2 H locs _ ls hf hP hD hS d_Image_reachedIds_106
        · have hf := ob_f hc47 hf
          refine lv_lload_n hx hb d_Image_reachedIds_50 rfl (lv_at hl 2 rfl) ?_
          refine lv_lload hx hb d_Image_reachedIds_51 (lv_at hl 3 rfl) ?_
          refine lv_ldc2 (v := (-1)) hx hb hown (hts _ tw323) d_Image_reachedIds_53 ?_
          refine lv_lxor hx hb d_Image_reachedIds_56 ?_
          refine lv_land hx hb d_Image_reachedIds_57 ?_
          refine lv_lstore (lv' := [(7, .long (x36_2 &&& (x36_4 ^^^ (-1)))), (0, .ref a_t), (1, .ref a_p1), (2, .long x36_2), (4, .long x36_4), (6, .int x36_6)]) hx hb d_Image_reachedIds_58 hl (by decide) rfl (fun ls hl => ?_)
          refine lv_lload_n hx hb d_Image_reachedIds_60 rfl (lv_at hl 3 rfl) ?_
          refine lv_lstore (lv' := [(4, .long x36_2), (7, .long (x36_2 &&& (x36_4 ^^^ (-1)))), (0, .ref a_t), (1, .ref a_p1), (2, .long x36_2), (6, .int x36_6)]) hx hb d_Image_reachedIds_61 hl (by decide) rfl (fun ls hl => ?_)
          refine lv_iconst (v := 1) hx hb d_Image_reachedIds_63 (by decide) ?_
          refine lv_istore (lv' := [(9, .int 1), (4, .long x36_2), (7, .long (x36_2 &&& (x36_4 ^^^ (-1)))), (0, .ref a_t), (1, .ref a_p1), (2, .long x36_2), (6, .int x36_6)]) hx hb d_Image_reachedIds_64 hl (by decide) rfl (fun ls hl => ?_)
          exact loop66 1000 x36_2 x36_2 x36_6 (x36_2 &&& (x36_4 ^^^ (-1))) 1 ls H locs (lv_sub hl [3, 4, 5, 1, 6, 2, 0] rfl) hP hD hS hf
  have loop5 : ∀ (n5 : Nat) (x5_2 : Int64) (x5_4 : Int32) (ls : Array Slot) (H : Heap) (locs : List Loc), lv_has ls 10 [(0, .ref a_t), (1, .ref a_p1), (2, .long x5_2), (4, .int x5_4)] → va_P D vwCl (cw_Image_reachedIds G a_t a_p1 a_values a_p1_kinds a_names a_classes a_p1_above a_p1_owners a_p1_targets v_p1_classCount v_p1_fieldCount v_values v_p1_kinds v_names) H → va_D A (cw_Image_reachedIds G a_t a_p1 a_values a_p1_kinds a_names a_classes a_p1_above a_p1_owners a_p1_targets v_p1_classCount v_p1_fieldCount v_values v_p1_kinds v_names) → va_S A s.heap H locs → f_Image_reachedIds_L5 v_p1_fieldCount v_values v_p1_kinds v_names n5 x5_2 x5_4 = some o → W p l e ({ frames := 2, cells := 0, slots := 0, locals := 49 }) s m ([.ref a_t, .ref a_p1] : List Value).toArray below meth c H locs 0 0 Q (F0 m 5 ls []) := by
    intro n5
    induction n5 with
    | zero => intro x5_2 x5_4 ls H locs hl hP hD hS hf; exact ob_no hf
    | succ n5 ih5 =>
      intro x5_2 x5_4 ls H locs hl hP hD hS hf
      have hf : f_Image_reachedIds_B5 v_p1_fieldCount v_values v_p1_kinds v_names (f_Image_reachedIds_L5 v_p1_fieldCount v_values v_p1_kinds v_names n5) x5_2 x5_4 = some o := hf
      unfold f_Image_reachedIds_B5 at hf
      refine lv_iload hx hb d_Image_reachedIds_5 (lv_at hl 3 rfl) ?_
      refine lv_iconst (v := 4) hx hb d_Image_reachedIds_7 (by decide) ?_
      refine lv_icmp_ge (tgt := 30) hx hb d_Image_reachedIds_8 (by decide) (fun hc8 => ?_) (fun hc8 => ?_)
      · have hf := ob_t hc8 hf
        refine lv_lconst (v := 0) hx hb d_Image_reachedIds_30 (by decide) ?_
        refine lv_lstore (lv' := [(4, .long 0), (0, .ref a_t), (1, .ref a_p1), (2, .long x5_2)]) hx hb d_Image_reachedIds_31 hl (by decide) rfl (fun ls hl => ?_)
        refine lv_iconst (v := 0) hx hb d_Image_reachedIds_33 (by decide) ?_
        refine lv_istore (lv' := [(6, .int 0), (4, .long 0), (0, .ref a_t), (1, .ref a_p1), (2, .long x5_2)]) hx hb d_Image_reachedIds_34 hl (by decide) rfl (fun ls hl => ?_)
        exact loop36 1000 x5_2 0 0 ls H locs (lv_sub hl [2, 3, 4, 1, 0] rfl) hP hD hS hf
      · have hf := ob_f hc8 hf
        refine lv_lload_n hx hb d_Image_reachedIds_11 rfl (lv_at hl 2 rfl) ?_
        refine lv_aload_n hx hb d_Image_reachedIds_12 rfl (lv_at hl 0 rfl) ?_
        refine va_get (D := D) (ci := 4) (v := .ref a_names) (C := "ObjectBase$Image") (T := TC_Image) (N := 3) hx hb hts inC_Image hown hK hP 0 rfl rfl 2 (by decide) (hts _ tw112) (fun _ h9 => h9) rfl d_Image_reachedIds_13 ?_
        refine lv_iload hx hb d_Image_reachedIds_16 (lv_at hl 3 rfl) ?_
        obtain ⟨hg18, hf⟩ := ob_iv_g hf
        refine va_iald hx hb hK hP 4 0 rfl rfl hg18 d_Image_reachedIds_18 ?_
        obtain ⟨o19, ho19, hf⟩ := ob_b hf
        have hRun := va_runSN (R := ({ frames := 2, cells := 0, slots := 0, locals := 49 })) (locs := locs) (H := H) (l := l) (e := e) (below := below) (meth := meth) (cells := 0) (slots := 0) (g := F0 m 19 ls [.int (v_names x5_4.toNatClampNeg), .long x5_2]) (As := [.int (v_names x5_4.toNatClampNeg)]) (rest := [.long x5_2]) ⟨hx, hb, hml, hown, hts⟩ (c_OB_setOf l D G  (v_names x5_4.toNatClampNeg) o19 ho19 H.size) ⟨va_cnB 1 hts (gN tw322) rfl rfl rfl (hZ.2 _ _ _ _ tw320) (hts _ tw1) (by decide +kernel) ⟨Nat.le_of_ble_eq_true rfl, Nat.le_of_ble_eq_true rfl⟩, hts _ tw321, trivial⟩ (ob_preS hZ hK hP hD [] rfl rfl) rfl rfl hl.1 rfl (lv_room (Nat.le_of_ble_eq_true rfl)) d_Image_reachedIds_19 ⟨Nat.le_refl _, Nat.le_refl _⟩
        refine ob_calll (wc := (cw_OB_setOf G )) (wc1 := (cw_OB_setOf G )) (r := o19) (w2 := (cw_Image_reachedIds G a_t a_p1 a_values a_p1_kinds a_names a_classes a_p1_above a_p1_owners a_p1_targets v_p1_classCount v_p1_fieldCount v_values v_p1_kinds v_names)) hRun hP hD hA hS [] rfl rfl rfl rfl (fun H locs hP hD hS => ?_)
        clear hRun
        refine lv_lor hx hb d_Image_reachedIds_22 ?_
        refine lv_lstore_n (lv' := [(2, .long (x5_2 ||| o19)), (0, .ref a_t), (1, .ref a_p1), (4, .int x5_4)]) hx hb d_Image_reachedIds_23 rfl hl (by decide) rfl (fun ls hl => ?_)
        refine lv_iinc (k := 3) (v := x5_4 + 1) (lv' := [(4, .int (x5_4 + 1)), (2, .long (x5_2 ||| o19)), (0, .ref a_t), (1, .ref a_p1)]) hx hb d_Image_reachedIds_24 hl rfl (by rw [show Int32.ofInt 1 = (1 : Int32) from by decide]) (by decide) rfl (fun ls hl => ?_)
        refine lv_goto (tgt := 5) hx hb d_Image_reachedIds_27 (by decide) ?_
        exact ih5 (x5_2 ||| o19) (x5_4 + 1) ls H locs (lv_sub hl [2, 3, 1, 0] rfl) hP hD hS hf
  refine lv_lconst (v := 0) hx hb d_Image_reachedIds_0 (by decide) ?_
  refine lv_lstore_n (lv' := [(2, .long 0), (0, .ref a_t), (1, .ref a_p1)]) hx hb d_Image_reachedIds_1 rfl hl (by decide) rfl (fun ls hl => ?_)
  refine lv_iconst (v := 0) hx hb d_Image_reachedIds_2 (by decide) ?_
  refine lv_istore (lv' := [(4, .int 0), (2, .long 0), (0, .ref a_t), (1, .ref a_p1)]) hx hb d_Image_reachedIds_3 hl (by decide) rfl (fun ls hl => ?_)
  exact loop5 1000 0 0 ls H locs (lv_sub hl [2, 3, 1, 0] rfl) hP hD hS hf
