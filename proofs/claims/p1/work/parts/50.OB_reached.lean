abbrev bc_OB_reached : ByteArray := prog_1_method_18_code
abbrev y_OB_reached : MethodName := ⟨"ObjectBase", "reached", "(I)Z"⟩
def ws_OB_reached : List Cond := .code y_OB_reached bc_OB_reached 2 (some .boolean) :: obW
theorem d_OB_reached_0 : decode bc_OB_reached 0 = .ok (.aload_n 0, 1) := by decide +kernel
theorem d_OB_reached_1 : decode bc_OB_reached 1 = .ok (.getfield 28, 3) := by decide +kernel
theorem d_OB_reached_4 : decode bc_OB_reached 4 = .ok (.getfield 84, 3) := by decide +kernel
theorem d_OB_reached_7 : decode bc_OB_reached 7 = .ok (.ifCond .ne 25, 3) := by decide +kernel
theorem d_OB_reached_10 : decode bc_OB_reached 10 = .ok (.aload_n 0, 1) := by decide +kernel
theorem d_OB_reached_11 : decode bc_OB_reached 11 = .ok (.invokevirtual 218, 3) := by decide +kernel
theorem d_OB_reached_14 : decode bc_OB_reached 14 = .ok (.aload_n 0, 1) := by decide +kernel
theorem d_OB_reached_15 : decode bc_OB_reached 15 = .ok (.getfield 14, 3) := by decide +kernel
theorem d_OB_reached_18 : decode bc_OB_reached 18 = .ok (.invokevirtual 124, 3) := by decide +kernel
theorem d_OB_reached_21 : decode bc_OB_reached 21 = .ok (.iload_n 1, 1) := by decide +kernel
theorem d_OB_reached_22 : decode bc_OB_reached 22 = .ok (.invokestatic 171, 3) := by decide +kernel
theorem d_OB_reached_25 : decode bc_OB_reached 25 = .ok (.ifCond .eq 7, 3) := by decide +kernel
theorem d_OB_reached_28 : decode bc_OB_reached 28 = .ok (.iconst 1, 1) := by decide +kernel
theorem d_OB_reached_29 : decode bc_OB_reached 29 = .ok (.goto 4, 3) := by decide +kernel
theorem d_OB_reached_32 : decode bc_OB_reached 32 = .ok (.iconst 0, 1) := by decide +kernel
theorem d_OB_reached_33 : decode bc_OB_reached 33 = .ok (.ireturn, 1) := by decide +kernel
def cw_OB_reached (G : Nat → ClassId) (a_t a_disk a_batch a_kept a_schema a_kept_values a_schema_kinds a_kept_names a_batch_image a_batch_image_values a_batch_image_names a_indexes a_draftText a_questions a_reader a_judge a_latest a_kept_classes a_schema_above a_schema_owners a_schema_targets a_batch_image_classes : Nat) (v_questionCount : Int32) (v_idsGiven : Int32) (v_everBegun : Int32) (v_disk_written : Int32) (v_disk_armed : Int32) (v_disk_half : Int32) (v_disk_logged : Int32) (v_disk_marked : Int32) (v_disk_down : Int32) (v_batch_known : Int64) (v_batch_touched : Int64) (v_batch_namesTouched : Int32) (v_batch_open : Int32) (v_schema_classCount : Int32) (v_schema_fieldCount : Int32) (v_kept_values : Nat → Int64) (v_schema_kinds : Nat → Int32) (v_kept_names : Nat → Int32) (v_batch_image_values : Nat → Int64) (v_batch_image_names : Nat → Int32) : va_W := [(a_t, .inr (0, [.ref a_schema, .ref a_indexes, .ref a_disk, .ref a_kept, .ref a_batch, .ref a_draftText, .ref a_questions, .ref a_reader, .ref a_judge, .ref a_latest, .int v_questionCount, .int v_idsGiven, .int v_everBegun])), (a_disk, .inr (3, [.int v_disk_written, .int v_disk_armed, .int v_disk_half, .int v_disk_logged, .int v_disk_marked, .int v_disk_down])), (a_batch, .inr (5, [.ref a_batch_image, .long v_batch_known, .long v_batch_touched, .int v_batch_namesTouched, .int v_batch_open])), (a_kept, .inr (4, [.ref a_kept_classes, .ref a_kept_values, .ref a_kept_names])), (a_schema, .inr (1, [.ref a_schema_above, .ref a_schema_owners, .ref a_schema_kinds, .ref a_schema_targets, .int v_schema_classCount, .int v_schema_fieldCount])), (a_kept_values, .inl (G 1, 504, .inr (.inl v_kept_values))), (a_schema_kinds, .inl (G 0, 8, .inl v_schema_kinds)), (a_kept_names, .inl (G 0, 4, .inl v_kept_names)), (a_batch_image, .inr (4, [.ref a_batch_image_classes, .ref a_batch_image_values, .ref a_batch_image_names])), (a_batch_image_values, .inl (G 1, 504, .inr (.inl v_batch_image_values))), (a_batch_image_names, .inl (G 0, 4, .inl v_batch_image_names))]
def f_OB_reached (v_disk_down : Int32) (v_batch_open : Int32) (v_schema_fieldCount : Int32) (v_kept_values : Nat → Int64) (v_schema_kinds : Nat → Int32) (v_kept_names : Nat → Int32) (v_batch_image_values : Nat → Int64) (v_batch_image_names : Nat → Int32) (p1 : Int32) : Option (Int32) := if v_disk_down = 0 then ((f_OB_shown v_batch_open).bind fun o11 => (if o11 = 0 then ((f_Image_reachedIds v_schema_fieldCount v_batch_image_values v_schema_kinds v_batch_image_names).bind fun o18 => ((f_OB_contains o18 p1).bind fun o22 => (if o22 = 0 then (some 0) else (some 1)))) else ((f_Image_reachedIds v_schema_fieldCount v_kept_values v_schema_kinds v_kept_names).bind fun o18 => ((f_OB_contains o18 p1).bind fun o22 => (if o22 = 0 then (some 0) else (some 1)))))) else (some 0)
set_option maxHeartbeats 4000000 in
set_option maxRecDepth 100000 in
theorem c_OB_reached (l : Launch) (D : va_G) (G : Nat → ClassId) (a_t a_disk a_batch a_kept a_schema a_kept_values a_schema_kinds a_kept_names a_batch_image a_batch_image_values a_batch_image_names a_indexes a_draftText a_questions a_reader a_judge a_latest a_kept_classes a_schema_above a_schema_owners a_schema_targets a_batch_image_classes : Nat) (v_questionCount : Int32) (v_idsGiven : Int32) (v_everBegun : Int32) (v_disk_written : Int32) (v_disk_armed : Int32) (v_disk_half : Int32) (v_disk_logged : Int32) (v_disk_marked : Int32) (v_disk_down : Int32) (v_batch_known : Int64) (v_batch_touched : Int64) (v_batch_namesTouched : Int32) (v_batch_open : Int32) (v_schema_classCount : Int32) (v_schema_fieldCount : Int32) (v_kept_values : Nat → Int64) (v_schema_kinds : Nat → Int32) (v_kept_names : Nat → Int32) (v_batch_image_values : Nat → Int64) (v_batch_image_names : Nat → Int32) (p1 : Int32) (o : Int32) (hf : f_OB_reached v_disk_down v_batch_open v_schema_fieldCount v_kept_values v_schema_kinds v_kept_names v_batch_image_values v_batch_image_names p1 = some o) (sz : Nat) : MetI l y_OB_reached ws_OB_reached ({ frames := 3, cells := 0, slots := 0, locals := 78 }) D (obT G) (cw_OB_reached G a_t a_disk a_batch a_kept a_schema a_kept_values a_schema_kinds a_kept_names a_batch_image a_batch_image_values a_batch_image_names a_indexes a_draftText a_questions a_reader a_judge a_latest a_kept_classes a_schema_above a_schema_owners a_schema_targets a_batch_image_classes v_questionCount v_idsGiven v_everBegun v_disk_written v_disk_armed v_disk_half v_disk_logged v_disk_marked v_disk_down v_batch_known v_batch_touched v_batch_namesTouched v_batch_open v_schema_classCount v_schema_fieldCount v_kept_values v_schema_kinds v_kept_names v_batch_image_values v_batch_image_names) (cw_OB_reached G a_t a_disk a_batch a_kept a_schema a_kept_values a_schema_kinds a_kept_names a_batch_image a_batch_image_values a_batch_image_names a_indexes a_draftText a_questions a_reader a_judge a_latest a_kept_classes a_schema_above a_schema_owners a_schema_targets a_batch_image_classes v_questionCount v_idsGiven v_everBegun v_disk_written v_disk_armed v_disk_half v_disk_logged v_disk_marked v_disk_down v_batch_known v_batch_touched v_batch_namesTouched v_batch_open v_schema_classCount v_schema_fieldCount v_kept_values v_schema_kinds v_kept_names v_batch_image_values v_batch_image_names) [.ref a_t, .int p1] o sz := by
  refine ob_of (cc := bc_OB_reached) (maxL := 2) (ret := (some .boolean)) (Qc := ObQi D (obT G) (cw_OB_reached G a_t a_disk a_batch a_kept a_schema a_kept_values a_schema_kinds a_kept_names a_batch_image a_batch_image_values a_batch_image_names a_indexes a_draftText a_questions a_reader a_judge a_latest a_kept_classes a_schema_above a_schema_owners a_schema_targets a_batch_image_classes v_questionCount v_idsGiven v_everBegun v_disk_written v_disk_armed v_disk_half v_disk_logged v_disk_marked v_disk_down v_batch_known v_batch_touched v_batch_namesTouched v_batch_open v_schema_classCount v_schema_fieldCount v_kept_values v_schema_kinds v_kept_names v_batch_image_values v_batch_image_names) o) (by decide) rfl (Nat.le_of_ble_eq_true rfl) ?_
  intro p e s m below meth c A ls H locs hx hb hr hml hts hown hlk hnm hZ hP hK hD hA hS hl
  have hret : ∀ (o' : Int32) (H : Heap) (locs : List Loc) (pc : Nat) (ls : Array Slot), some o' = some o → va_P D vwCl (cw_OB_reached G a_t a_disk a_batch a_kept a_schema a_kept_values a_schema_kinds a_kept_names a_batch_image a_batch_image_values a_batch_image_names a_indexes a_draftText a_questions a_reader a_judge a_latest a_kept_classes a_schema_above a_schema_owners a_schema_targets a_batch_image_classes v_questionCount v_idsGiven v_everBegun v_disk_written v_disk_armed v_disk_half v_disk_logged v_disk_marked v_disk_down v_batch_known v_batch_touched v_batch_namesTouched v_batch_open v_schema_classCount v_schema_fieldCount v_kept_values v_schema_kinds v_kept_names v_batch_image_values v_batch_image_names) H → va_D A (cw_OB_reached G a_t a_disk a_batch a_kept a_schema a_kept_values a_schema_kinds a_kept_names a_batch_image a_batch_image_values a_batch_image_names a_indexes a_draftText a_questions a_reader a_judge a_latest a_kept_classes a_schema_above a_schema_owners a_schema_targets a_batch_image_classes v_questionCount v_idsGiven v_everBegun v_disk_written v_disk_armed v_disk_half v_disk_logged v_disk_marked v_disk_down v_batch_known v_batch_touched v_batch_namesTouched v_batch_open v_schema_classCount v_schema_fieldCount v_kept_values v_schema_kinds v_kept_names v_batch_image_values v_batch_image_names) → va_S A s.heap H locs → narrow .boolean (.int o') = .int o' → decode bc_OB_reached pc = .ok (.ireturn, 1) → W p l e { frames := 3, cells := 0, slots := 0, locals := 78 } s m ([.ref a_t, .int p1] : List Value).toArray below meth c H locs 0 0 (MQ below (ObQi D (obT G) (cw_OB_reached G a_t a_disk a_batch a_kept a_schema a_kept_values a_schema_kinds a_kept_names a_batch_image a_batch_image_values a_batch_image_names a_indexes a_draftText a_questions a_reader a_judge a_latest a_kept_classes a_schema_above a_schema_owners a_schema_targets a_batch_image_classes v_questionCount v_idsGiven v_everBegun v_disk_written v_disk_armed v_disk_half v_disk_logged v_disk_marked v_disk_down v_batch_known v_batch_touched v_batch_namesTouched v_batch_open v_schema_classCount v_schema_fieldCount v_kept_values v_schema_kinds v_kept_names v_batch_image_values v_batch_image_names) o A) ([.ref a_t, .int p1] : List Value).toArray s 0 0 A) (F0 m pc ls [.int o']) := by
    intro o' H locs pc ls he hP hD hS hn hd
    obtain rfl := Option.some.inj he
    exact ob_iret hx hb hr hlk hK hP hD hS hn hd
  generalize MQ below (ObQi D (obT G) (cw_OB_reached G a_t a_disk a_batch a_kept a_schema a_kept_values a_schema_kinds a_kept_names a_batch_image a_batch_image_values a_batch_image_names a_indexes a_draftText a_questions a_reader a_judge a_latest a_kept_classes a_schema_above a_schema_owners a_schema_targets a_batch_image_classes v_questionCount v_idsGiven v_everBegun v_disk_written v_disk_armed v_disk_half v_disk_logged v_disk_marked v_disk_down v_batch_known v_batch_touched v_batch_namesTouched v_batch_open v_schema_classCount v_schema_fieldCount v_kept_values v_schema_kinds v_kept_names v_batch_image_values v_batch_image_names) o A) ([.ref a_t, .int p1] : List Value).toArray s 0 0 A = Q at hret ⊢
  have hl : lv_has ls 2 [(0, .ref a_t), (1, .int p1)] := hl
  unfold f_OB_reached at hf
  refine lv_aload_n hx hb d_OB_reached_0 rfl (lv_at hl 0 rfl) ?_
  refine va_get (D := D) (ci := 0) (v := .ref a_disk) (C := "ObjectBase") (T := TC_OB) (N := 13) hx hb hts inC_OB hown hK hP 0 rfl rfl 2 (by decide) (hts _ tw234) (fun _ h9 => h9) rfl d_OB_reached_1 ?_
  refine va_get (D := D) (ci := 3) (v := .int v_disk_down) (C := "ObjectBase$Disk") (T := TC_Disk) (N := 6) hx hb hts inC_Disk hown hK hP 1 rfl rfl 5 (by decide) (hts _ tw87) (fun _ h9 => h9) rfl d_OB_reached_4 ?_
  refine lv_if_ne (tgt := 32) hx hb d_OB_reached_7 (by decide) (fun hc7 => ?_) (fun hc7 => ?_)
  · have hf := ob_f hc7 hf
    refine lv_iconst (v := 0) hx hb d_OB_reached_32 (by decide) ?_
    exact hret 0 H locs _ ls hf hP hD hS narrow_b0 d_OB_reached_33
  · have hf := ob_t hc7 hf
    refine lv_aload_n hx hb d_OB_reached_10 rfl (lv_at hl 0 rfl) ?_
    obtain ⟨o11, ho11, hf⟩ := ob_b hf
    refine ob_callr (w2 := (cw_OB_reached G a_t a_disk a_batch a_kept a_schema a_kept_values a_schema_kinds a_kept_names a_batch_image a_batch_image_values a_batch_image_names a_indexes a_draftText a_questions a_reader a_judge a_latest a_kept_classes a_schema_above a_schema_owners a_schema_targets a_batch_image_classes v_questionCount v_idsGiven v_everBegun v_disk_written v_disk_armed v_disk_half v_disk_logged v_disk_marked v_disk_down v_batch_known v_batch_touched v_batch_namesTouched v_batch_open v_schema_classCount v_schema_fieldCount v_kept_values v_schema_kinds v_kept_names v_batch_image_values v_batch_image_names)) (va_runV (As := []) (rest := []) ⟨hx, hb, hml, hown, hts⟩ (c_OB_shown l D G a_t a_batch a_schema a_indexes a_disk a_kept a_draftText a_questions a_reader a_judge a_latest a_batch_image v_questionCount v_idsGiven v_everBegun v_batch_known v_batch_touched v_batch_namesTouched v_batch_open o11 ho11 H.size) (cwV 0 hts (gV tw485 tw487 tp4 tw1 tw488) rfl rfl rfl (by decide +kernel) ⟨Nat.le_of_ble_eq_true rfl, Nat.le_of_ble_eq_true rfl⟩) (ob_preV (q0 := 0) (ci := 0) hZ hK hP hD [0, 2] rfl rfl rfl rfl rfl) rfl rfl hl.1 rfl (lv_room (Nat.le_of_ble_eq_true rfl)) d_OB_reached_11 ⟨Nat.le_refl _, Nat.le_refl _⟩) hP hD hA hS [0, 2] rfl rfl rfl rfl (fun H locs hP hD hS => ?_)
    by_cases hs11 : o11 = 0
    · have hf := ob_t hs11 hf
      refine W.eq (g2 := F0 m 14 ls [.ref a_batch_image]) (by rw [ob_sel0 hs11]) ?_
      refine lv_aload_n hx hb d_OB_reached_14 rfl (lv_at hl 0 rfl) ?_
      refine va_get (D := D) (ci := 0) (v := .ref a_schema) (C := "ObjectBase") (T := TC_OB) (N := 13) hx hb hts inC_OB hown hK hP 0 rfl rfl 0 (by decide) (hts _ tw232) (fun _ h9 => h9) rfl d_OB_reached_15 ?_
      obtain ⟨o18, ho18, hf⟩ := ob_b hf
      refine ob_calll (w2 := (cw_OB_reached G a_t a_disk a_batch a_kept a_schema a_kept_values a_schema_kinds a_kept_names a_batch_image a_batch_image_values a_batch_image_names a_indexes a_draftText a_questions a_reader a_judge a_latest a_kept_classes a_schema_above a_schema_owners a_schema_targets a_batch_image_classes v_questionCount v_idsGiven v_everBegun v_disk_written v_disk_armed v_disk_half v_disk_logged v_disk_marked v_disk_down v_batch_known v_batch_touched v_batch_namesTouched v_batch_open v_schema_classCount v_schema_fieldCount v_kept_values v_schema_kinds v_kept_names v_batch_image_values v_batch_image_names)) (va_runV (As := [.ref a_schema]) (rest := []) ⟨hx, hb, hml, hown, hts⟩ (c_Image_reachedIds l D G a_batch_image a_schema a_batch_image_values a_schema_kinds a_batch_image_names a_batch_image_classes a_schema_above a_schema_owners a_schema_targets v_schema_classCount v_schema_fieldCount v_batch_image_values v_schema_kinds v_batch_image_names o18 ho18 H.size) (cwV 1 hts (gV tw316 tw317 tw318 tw5 tw319) rfl rfl rfl (by decide +kernel) ⟨Nat.le_of_ble_eq_true rfl, Nat.le_of_ble_eq_true rfl⟩) (ob_preV (q0 := 8) (ci := 4) hZ hK hP hD [8, 4, 9, 6, 10] rfl rfl rfl rfl rfl) rfl rfl hl.1 rfl (lv_room (Nat.le_of_ble_eq_true rfl)) d_OB_reached_18 ⟨Nat.le_refl _, Nat.le_refl _⟩) hP hD hA hS [8, 4, 9, 6, 10] rfl rfl rfl rfl (fun H locs hP hD hS => ?_)
      refine lv_iload_n hx hb d_OB_reached_21 rfl (lv_at hl 1 rfl) ?_
      obtain ⟨o22, ho22, hf⟩ := ob_b hf
      refine ob_calli (w2 := (cw_OB_reached G a_t a_disk a_batch a_kept a_schema a_kept_values a_schema_kinds a_kept_names a_batch_image a_batch_image_values a_batch_image_names a_indexes a_draftText a_questions a_reader a_judge a_latest a_kept_classes a_schema_above a_schema_owners a_schema_targets a_batch_image_classes v_questionCount v_idsGiven v_everBegun v_disk_written v_disk_armed v_disk_half v_disk_logged v_disk_marked v_disk_down v_batch_known v_batch_touched v_batch_namesTouched v_batch_open v_schema_classCount v_schema_fieldCount v_kept_values v_schema_kinds v_kept_names v_batch_image_values v_batch_image_names)) (va_runS (As := [.long o18, .int p1]) (rest := []) ⟨hx, hb, hml, hown, hts⟩ (c_OB_contains l D G  o18 p1 o22 ho22 H.size) (va_cwS 2 hts (gS tw363 tw325 tw1 tw326) rfl rfl rfl (by decide +kernel) ⟨Nat.le_of_ble_eq_true rfl, Nat.le_of_ble_eq_true rfl⟩) (ob_preS hZ hK hP hD [] rfl rfl) rfl rfl hl.1 rfl (lv_room (Nat.le_of_ble_eq_true rfl)) d_OB_reached_22 ⟨Nat.le_refl _, Nat.le_refl _⟩) hP hD hA hS [] rfl rfl rfl rfl (fun H locs hP hD hS => ?_)
      refine lv_if_eq (tgt := 32) hx hb d_OB_reached_25 (by decide) (fun hc25 => ?_) (fun hc25 => ?_)
      · have hf := ob_t hc25 hf
        refine lv_iconst (v := 0) hx hb d_OB_reached_32 (by decide) ?_
        exact hret 0 H locs _ ls hf hP hD hS narrow_b0 d_OB_reached_33
      · have hf := ob_f hc25 hf
        refine lv_iconst (v := 1) hx hb d_OB_reached_28 (by decide) ?_
        refine lv_goto (tgt := 33) hx hb d_OB_reached_29 (by decide) ?_
        exact hret 1 H locs _ ls hf hP hD hS narrow_b1 d_OB_reached_33
    · have hf := ob_f hs11 hf
      refine W.eq (g2 := F0 m 14 ls [.ref a_kept]) (by rw [ob_sel1 hs11]) ?_
      refine lv_aload_n hx hb d_OB_reached_14 rfl (lv_at hl 0 rfl) ?_
      refine va_get (D := D) (ci := 0) (v := .ref a_schema) (C := "ObjectBase") (T := TC_OB) (N := 13) hx hb hts inC_OB hown hK hP 0 rfl rfl 0 (by decide) (hts _ tw232) (fun _ h9 => h9) rfl d_OB_reached_15 ?_
      obtain ⟨o18, ho18, hf⟩ := ob_b hf
      refine ob_calll (w2 := (cw_OB_reached G a_t a_disk a_batch a_kept a_schema a_kept_values a_schema_kinds a_kept_names a_batch_image a_batch_image_values a_batch_image_names a_indexes a_draftText a_questions a_reader a_judge a_latest a_kept_classes a_schema_above a_schema_owners a_schema_targets a_batch_image_classes v_questionCount v_idsGiven v_everBegun v_disk_written v_disk_armed v_disk_half v_disk_logged v_disk_marked v_disk_down v_batch_known v_batch_touched v_batch_namesTouched v_batch_open v_schema_classCount v_schema_fieldCount v_kept_values v_schema_kinds v_kept_names v_batch_image_values v_batch_image_names)) (va_runV (As := [.ref a_schema]) (rest := []) ⟨hx, hb, hml, hown, hts⟩ (c_Image_reachedIds l D G a_kept a_schema a_kept_values a_schema_kinds a_kept_names a_kept_classes a_schema_above a_schema_owners a_schema_targets v_schema_classCount v_schema_fieldCount v_kept_values v_schema_kinds v_kept_names o18 ho18 H.size) (cwV 1 hts (gV tw316 tw317 tw318 tw5 tw319) rfl rfl rfl (by decide +kernel) ⟨Nat.le_of_ble_eq_true rfl, Nat.le_of_ble_eq_true rfl⟩) (ob_preV (q0 := 3) (ci := 4) hZ hK hP hD [3, 4, 5, 6, 7] rfl rfl rfl rfl rfl) rfl rfl hl.1 rfl (lv_room (Nat.le_of_ble_eq_true rfl)) d_OB_reached_18 ⟨Nat.le_refl _, Nat.le_refl _⟩) hP hD hA hS [3, 4, 5, 6, 7] rfl rfl rfl rfl (fun H locs hP hD hS => ?_)
      refine lv_iload_n hx hb d_OB_reached_21 rfl (lv_at hl 1 rfl) ?_
      obtain ⟨o22, ho22, hf⟩ := ob_b hf
      refine ob_calli (w2 := (cw_OB_reached G a_t a_disk a_batch a_kept a_schema a_kept_values a_schema_kinds a_kept_names a_batch_image a_batch_image_values a_batch_image_names a_indexes a_draftText a_questions a_reader a_judge a_latest a_kept_classes a_schema_above a_schema_owners a_schema_targets a_batch_image_classes v_questionCount v_idsGiven v_everBegun v_disk_written v_disk_armed v_disk_half v_disk_logged v_disk_marked v_disk_down v_batch_known v_batch_touched v_batch_namesTouched v_batch_open v_schema_classCount v_schema_fieldCount v_kept_values v_schema_kinds v_kept_names v_batch_image_values v_batch_image_names)) (va_runS (As := [.long o18, .int p1]) (rest := []) ⟨hx, hb, hml, hown, hts⟩ (c_OB_contains l D G  o18 p1 o22 ho22 H.size) (va_cwS 2 hts (gS tw363 tw325 tw1 tw326) rfl rfl rfl (by decide +kernel) ⟨Nat.le_of_ble_eq_true rfl, Nat.le_of_ble_eq_true rfl⟩) (ob_preS hZ hK hP hD [] rfl rfl) rfl rfl hl.1 rfl (lv_room (Nat.le_of_ble_eq_true rfl)) d_OB_reached_22 ⟨Nat.le_refl _, Nat.le_refl _⟩) hP hD hA hS [] rfl rfl rfl rfl (fun H locs hP hD hS => ?_)
      refine lv_if_eq (tgt := 32) hx hb d_OB_reached_25 (by decide) (fun hc25 => ?_) (fun hc25 => ?_)
      · have hf := ob_t hc25 hf
        refine lv_iconst (v := 0) hx hb d_OB_reached_32 (by decide) ?_
        exact hret 0 H locs _ ls hf hP hD hS narrow_b0 d_OB_reached_33
      · have hf := ob_f hc25 hf
        refine lv_iconst (v := 1) hx hb d_OB_reached_28 (by decide) ?_
        refine lv_goto (tgt := 33) hx hb d_OB_reached_29 (by decide) ?_
        exact hret 1 H locs _ ls hf hP hD hS narrow_b1 d_OB_reached_33
abbrev bc_OB_draft : ByteArray := prog_1_method_22_code
abbrev y_OB_draft : MethodName := ⟨"ObjectBase", "draft", "(J)Z"⟩
def ws_OB_draft : List Cond := .code y_OB_draft bc_OB_draft 3 (some .boolean) :: obW
theorem d_OB_draft_0 : decode bc_OB_draft 0 = .ok (.aload_n 0, 1) := by decide +kernel
theorem d_OB_draft_1 : decode bc_OB_draft 1 = .ok (.getfield 28, 3) := by decide +kernel
theorem d_OB_draft_4 : decode bc_OB_draft 4 = .ok (.getfield 84, 3) := by decide +kernel
theorem d_OB_draft_7 : decode bc_OB_draft 7 = .ok (.ifCond .eq 5, 3) := by decide +kernel
theorem d_OB_draft_10 : decode bc_OB_draft 10 = .ok (.iconst 0, 1) := by decide +kernel
theorem d_OB_draft_11 : decode bc_OB_draft 11 = .ok (.ireturn, 1) := by decide +kernel
theorem d_OB_draft_12 : decode bc_OB_draft 12 = .ok (.lload_n 1, 1) := by decide +kernel
theorem d_OB_draft_13 : decode bc_OB_draft 13 = .ok (.lconst 0, 1) := by decide +kernel
theorem d_OB_draft_14 : decode bc_OB_draft 14 = .ok (.lcmp, 1) := by decide +kernel
theorem d_OB_draft_15 : decode bc_OB_draft 15 = .ok (.ifCond .ne 13, 3) := by decide +kernel
theorem d_OB_draft_18 : decode bc_OB_draft 18 = .ok (.aload_n 0, 1) := by decide +kernel
theorem d_OB_draft_19 : decode bc_OB_draft 19 = .ok (.getfield 49, 3) := by decide +kernel
theorem d_OB_draft_22 : decode bc_OB_draft 22 = .ok (.iconst 0, 1) := by decide +kernel
theorem d_OB_draft_23 : decode bc_OB_draft 23 = .ok (.putfield 238, 3) := by decide +kernel
theorem d_OB_draft_26 : decode bc_OB_draft 26 = .ok (.iconst 1, 1) := by decide +kernel
theorem d_OB_draft_27 : decode bc_OB_draft 27 = .ok (.ireturn, 1) := by decide +kernel
theorem d_OB_draft_28 : decode bc_OB_draft 28 = .ok (.aload_n 0, 1) := by decide +kernel
theorem d_OB_draft_29 : decode bc_OB_draft 29 = .ok (.getfield 49, 3) := by decide +kernel
theorem d_OB_draft_32 : decode bc_OB_draft 32 = .ok (.lload_n 1, 1) := by decide +kernel
theorem d_OB_draft_33 : decode bc_OB_draft 33 = .ok (.invokevirtual 241, 3) := by decide +kernel
theorem d_OB_draft_36 : decode bc_OB_draft 36 = .ok (.ireturn, 1) := by decide +kernel
def cw_OB_draft (G : Nat → ClassId) (a_t a_disk a_draftText a_draftText_chars a_schema a_indexes a_kept a_batch a_questions a_reader a_judge a_latest : Nat) (v_questionCount : Int32) (v_idsGiven : Int32) (v_everBegun : Int32) (v_disk_written : Int32) (v_disk_armed : Int32) (v_disk_half : Int32) (v_disk_logged : Int32) (v_disk_marked : Int32) (v_disk_down : Int32) (v_draftText_length : Int32) (v_draftText_chars : Nat → Int32) : va_W := [(a_t, .inr (0, [.ref a_schema, .ref a_indexes, .ref a_disk, .ref a_kept, .ref a_batch, .ref a_draftText, .ref a_questions, .ref a_reader, .ref a_judge, .ref a_latest, .int v_questionCount, .int v_idsGiven, .int v_everBegun])), (a_disk, .inr (3, [.int v_disk_written, .int v_disk_armed, .int v_disk_half, .int v_disk_logged, .int v_disk_marked, .int v_disk_down])), (a_draftText, .inr (6, [.ref a_draftText_chars, .int v_draftText_length])), (a_draftText_chars, .inl (G 2, 60, .inl v_draftText_chars))]
def f_OB_draft (v_disk_down : Int32) (v_draftText_length : Int32) (v_draftText_chars : Nat → Int32) (p1 : Int64) : Option (Int32 × Int32 × (Nat → Int32)) := if v_disk_down = 0 then (if (lg_cmp p1 0) = 0 then (some (1, 0, v_draftText_chars)) else ((f_Text_append v_draftText_length v_draftText_chars p1).bind fun o33 => (ob_nz o33.1 (some (o33.1, o33.2.1, o33.2.2))))) else (some (0, v_draftText_length, v_draftText_chars))
set_option maxHeartbeats 4000000 in
set_option maxRecDepth 100000 in
theorem c_OB_draft (l : Launch) (D : va_G) (G : Nat → ClassId) (a_t a_disk a_draftText a_draftText_chars a_schema a_indexes a_kept a_batch a_questions a_reader a_judge a_latest : Nat) (v_questionCount : Int32) (v_idsGiven : Int32) (v_everBegun : Int32) (v_disk_written : Int32) (v_disk_armed : Int32) (v_disk_half : Int32) (v_disk_logged : Int32) (v_disk_marked : Int32) (v_disk_down : Int32) (v_draftText_length : Int32) (v_draftText_chars : Nat → Int32) (p1 : Int64) (o : Int32 × Int32 × (Nat → Int32)) (hf : f_OB_draft v_disk_down v_draftText_length v_draftText_chars p1 = some o) (sz : Nat) : MetI l y_OB_draft ws_OB_draft ({ frames := 2, cells := 0, slots := 0, locals := 47 }) D (obT G) (cw_OB_draft G a_t a_disk a_draftText a_draftText_chars a_schema a_indexes a_kept a_batch a_questions a_reader a_judge a_latest v_questionCount v_idsGiven v_everBegun v_disk_written v_disk_armed v_disk_half v_disk_logged v_disk_marked v_disk_down v_draftText_length v_draftText_chars) (cw_OB_draft G a_t a_disk a_draftText a_draftText_chars a_schema a_indexes a_kept a_batch a_questions a_reader a_judge a_latest v_questionCount v_idsGiven v_everBegun v_disk_written v_disk_armed v_disk_half v_disk_logged v_disk_marked v_disk_down o.2.1 o.2.2) [.ref a_t, .long p1] o.1 sz := by
  refine ob_of (cc := bc_OB_draft) (maxL := 3) (ret := (some .boolean)) (Qc := ObQi D (obT G) (cw_OB_draft G a_t a_disk a_draftText a_draftText_chars a_schema a_indexes a_kept a_batch a_questions a_reader a_judge a_latest v_questionCount v_idsGiven v_everBegun v_disk_written v_disk_armed v_disk_half v_disk_logged v_disk_marked v_disk_down o.2.1 o.2.2) o.1) (by decide) rfl (Nat.le_of_ble_eq_true rfl) ?_
  intro p e s m below meth c A ls H locs hx hb hr hml hts hown hlk hnm hZ hP hK hD hA hS hl
  have hret : ∀ (o' : Int32 × Int32 × (Nat → Int32)) (H : Heap) (locs : List Loc) (pc : Nat) (ls : Array Slot), some o' = some o → va_P D vwCl (cw_OB_draft G a_t a_disk a_draftText a_draftText_chars a_schema a_indexes a_kept a_batch a_questions a_reader a_judge a_latest v_questionCount v_idsGiven v_everBegun v_disk_written v_disk_armed v_disk_half v_disk_logged v_disk_marked v_disk_down o'.2.1 o'.2.2) H → va_D A (cw_OB_draft G a_t a_disk a_draftText a_draftText_chars a_schema a_indexes a_kept a_batch a_questions a_reader a_judge a_latest v_questionCount v_idsGiven v_everBegun v_disk_written v_disk_armed v_disk_half v_disk_logged v_disk_marked v_disk_down o'.2.1 o'.2.2) → va_S A s.heap H locs → narrow .boolean (.int o'.1) = .int o'.1 → decode bc_OB_draft pc = .ok (.ireturn, 1) → W p l e { frames := 2, cells := 0, slots := 0, locals := 47 } s m ([.ref a_t, .long p1] : List Value).toArray below meth c H locs 0 0 (MQ below (ObQi D (obT G) (cw_OB_draft G a_t a_disk a_draftText a_draftText_chars a_schema a_indexes a_kept a_batch a_questions a_reader a_judge a_latest v_questionCount v_idsGiven v_everBegun v_disk_written v_disk_armed v_disk_half v_disk_logged v_disk_marked v_disk_down o.2.1 o.2.2) o.1 A) ([.ref a_t, .long p1] : List Value).toArray s 0 0 A) (F0 m pc ls [.int o'.1]) := by
    intro o' H locs pc ls he hP hD hS hn hd
    obtain rfl := Option.some.inj he
    exact ob_iret hx hb hr hlk hK hP hD hS hn hd
  generalize MQ below (ObQi D (obT G) (cw_OB_draft G a_t a_disk a_draftText a_draftText_chars a_schema a_indexes a_kept a_batch a_questions a_reader a_judge a_latest v_questionCount v_idsGiven v_everBegun v_disk_written v_disk_armed v_disk_half v_disk_logged v_disk_marked v_disk_down o.2.1 o.2.2) o.1 A) ([.ref a_t, .long p1] : List Value).toArray s 0 0 A = Q at hret ⊢
  have hl : lv_has ls 3 [(0, .ref a_t), (1, .long p1)] := hl
  unfold f_OB_draft at hf
  refine lv_aload_n hx hb d_OB_draft_0 rfl (lv_at hl 0 rfl) ?_
  refine va_get (D := D) (ci := 0) (v := .ref a_disk) (C := "ObjectBase") (T := TC_OB) (N := 13) hx hb hts inC_OB hown hK hP 0 rfl rfl 2 (by decide) (hts _ tw234) (fun _ h9 => h9) rfl d_OB_draft_1 ?_
  refine va_get (D := D) (ci := 3) (v := .int v_disk_down) (C := "ObjectBase$Disk") (T := TC_Disk) (N := 6) hx hb hts inC_Disk hown hK hP 1 rfl rfl 5 (by decide) (hts _ tw87) (fun _ h9 => h9) rfl d_OB_draft_4 ?_
  refine lv_if_eq (tgt := 12) hx hb d_OB_draft_7 (by decide) (fun hc7 => ?_) (fun hc7 => ?_)
  · have hf := ob_t hc7 hf
    refine lv_lload_n hx hb d_OB_draft_12 rfl (lv_at hl 1 rfl) ?_
    refine lv_lconst (v := 0) hx hb d_OB_draft_13 (by decide) ?_
    refine W.lcmp hx hb d_OB_draft_14 ?_
    refine lv_if_ne (tgt := 28) hx hb d_OB_draft_15 (by decide) (fun hc15 => ?_) (fun hc15 => ?_)
    · have hf := ob_f hc15 hf
      refine lv_aload_n hx hb d_OB_draft_28 rfl (lv_at hl 0 rfl) ?_
      refine va_get (D := D) (ci := 0) (v := .ref a_draftText) (C := "ObjectBase") (T := TC_OB) (N := 13) hx hb hts inC_OB hown hK hP 0 rfl rfl 5 (by decide) (hts _ tw237) (fun _ h9 => h9) rfl d_OB_draft_29 ?_
      refine lv_lload_n hx hb d_OB_draft_32 rfl (lv_at hl 1 rfl) ?_
      obtain ⟨o33, ho33, hf⟩ := ob_b hf
      refine ob_calli (w2 := (cw_OB_draft G a_t a_disk a_draftText a_draftText_chars a_schema a_indexes a_kept a_batch a_questions a_reader a_judge a_latest v_questionCount v_idsGiven v_everBegun v_disk_written v_disk_armed v_disk_half v_disk_logged v_disk_marked v_disk_down o33.2.1 o33.2.2)) (va_runV (As := [.long p1]) (rest := []) ⟨hx, hb, hml, hown, hts⟩ (c_Text_append l D G a_draftText a_draftText_chars v_draftText_length v_draftText_chars p1 o33 ho33 H.size) (cwV 1 hts (gV tw510 tw511 tw512 tw7 tw513) rfl rfl rfl (by decide +kernel) ⟨Nat.le_of_ble_eq_true rfl, Nat.le_of_ble_eq_true rfl⟩) (ob_preV (q0 := 2) (ci := 6) hZ hK hP hD [2, 3] rfl rfl rfl rfl rfl) rfl rfl hl.1 rfl (lv_room (Nat.le_of_ble_eq_true rfl)) d_OB_draft_33 ⟨Nat.le_refl _, Nat.le_refl _⟩) hP hD hA hS [2, 3] rfl rfl rfl rfl (fun H locs hP hD hS => ?_)
      obtain ⟨hg36, hf⟩ := ob_nz_g hf
      exact hret (o33.1, o33.2.1, o33.2.2) H locs _ ls hf hP hD hS hg36.1 d_OB_draft_36
    · have hf := ob_t hc15 hf
      refine lv_aload_n hx hb d_OB_draft_18 rfl (lv_at hl 0 rfl) ?_
      refine va_get (D := D) (ci := 0) (v := .ref a_draftText) (C := "ObjectBase") (T := TC_OB) (N := 13) hx hb hts inC_OB hown hK hP 0 rfl rfl 5 (by decide) (hts _ tw237) (fun _ h9 => h9) rfl d_OB_draft_19 ?_
      refine lv_iconst (v := 0) hx hb d_OB_draft_22 (by decide) ?_
      refine va_put (D := D) (ci := 6) (v := .int 0) (ty := .int) (C := "ObjectBase$Text") (T := TC_Text) (N := 2) hx hb hts inC_Text tyC_Text tyC_Text_ok nmC_Text hown hK hP hD hS 2 rfl rfl 1 (by decide) (hts _ tw160) (fun _ h9 => h9) rfl (by decide +kernel) rfl rfl (Nat.le_of_ble_eq_true rfl) d_OB_draft_23 (fun H locs hP hD hS => ?_)
      have hP : va_P D vwCl (cw_OB_draft G a_t a_disk a_draftText a_draftText_chars a_schema a_indexes a_kept a_batch a_questions a_reader a_judge a_latest v_questionCount v_idsGiven v_everBegun v_disk_written v_disk_armed v_disk_half v_disk_logged v_disk_marked v_disk_down 0 v_draftText_chars) H := hP
      have hD : va_D A (cw_OB_draft G a_t a_disk a_draftText a_draftText_chars a_schema a_indexes a_kept a_batch a_questions a_reader a_judge a_latest v_questionCount v_idsGiven v_everBegun v_disk_written v_disk_armed v_disk_half v_disk_logged v_disk_marked v_disk_down 0 v_draftText_chars) := hD
      refine lv_iconst (v := 1) hx hb d_OB_draft_26 (by decide) ?_
      exact hret (1, 0, v_draftText_chars) H locs _ ls hf hP hD hS narrow_b1 d_OB_draft_27
  · have hf := ob_f hc7 hf
    refine lv_iconst (v := 0) hx hb d_OB_draft_10 (by decide) ?_
    exact hret (0, v_draftText_length, v_draftText_chars) H locs _ ls hf hP hD hS narrow_b0 d_OB_draft_11
abbrev bc_OB_look : ByteArray := prog_1_method_27_code
abbrev y_OB_look : MethodName := ⟨"ObjectBase", "look", "(I)I"⟩
def ws_OB_look : List Cond := .code y_OB_look bc_OB_look 2 (some .int) :: obW
theorem d_OB_look_0 : decode bc_OB_look 0 = .ok (.iload_n 1, 1) := by decide +kernel
theorem d_OB_look_1 : decode bc_OB_look 1 = .ok (.tableswitch 203 0 8 #[51, 74, 104, 124, 147, 155, 163, 179, 195], 51) := by decide +kernel
theorem d_OB_look_52 : decode bc_OB_look 52 = .ok (.aload_n 0, 1) := by decide +kernel
theorem d_OB_look_53 : decode bc_OB_look 53 = .ok (.getfield 28, 3) := by decide +kernel
theorem d_OB_look_56 : decode bc_OB_look 56 = .ok (.getfield 84, 3) := by decide +kernel
theorem d_OB_look_59 : decode bc_OB_look 59 = .ok (.ifCond .eq 8, 3) := by decide +kernel
theorem d_OB_look_62 : decode bc_OB_look 62 = .ok (.bipush (-4), 2) := by decide +kernel
theorem d_OB_look_64 : decode bc_OB_look 64 = .ok (.goto 10, 3) := by decide +kernel
theorem d_OB_look_67 : decode bc_OB_look 67 = .ok (.aload_n 0, 1) := by decide +kernel
theorem d_OB_look_68 : decode bc_OB_look 68 = .ok (.getfield 35, 3) := by decide +kernel
theorem d_OB_look_71 : decode bc_OB_look 71 = .ok (.invokevirtual 178, 3) := by decide +kernel
theorem d_OB_look_74 : decode bc_OB_look 74 = .ok (.ireturn, 1) := by decide +kernel
theorem d_OB_look_75 : decode bc_OB_look 75 = .ok (.aload_n 0, 1) := by decide +kernel
theorem d_OB_look_76 : decode bc_OB_look 76 = .ok (.getfield 28, 3) := by decide +kernel
theorem d_OB_look_79 : decode bc_OB_look 79 = .ok (.getfield 84, 3) := by decide +kernel
theorem d_OB_look_82 : decode bc_OB_look 82 = .ok (.ifCond .eq 8, 3) := by decide +kernel
theorem d_OB_look_85 : decode bc_OB_look 85 = .ok (.bipush (-4), 2) := by decide +kernel
theorem d_OB_look_87 : decode bc_OB_look 87 = .ok (.goto 17, 3) := by decide +kernel
theorem d_OB_look_90 : decode bc_OB_look 90 = .ok (.aload_n 0, 1) := by decide +kernel
theorem d_OB_look_91 : decode bc_OB_look 91 = .ok (.getfield 35, 3) := by decide +kernel
theorem d_OB_look_94 : decode bc_OB_look 94 = .ok (.aload_n 0, 1) := by decide +kernel
theorem d_OB_look_95 : decode bc_OB_look 95 = .ok (.getfield 14, 3) := by decide +kernel
theorem d_OB_look_98 : decode bc_OB_look 98 = .ok (.invokevirtual 124, 3) := by decide +kernel
theorem d_OB_look_101 : decode bc_OB_look 101 = .ok (.invokestatic 198, 3) := by decide +kernel
theorem d_OB_look_104 : decode bc_OB_look 104 = .ok (.ireturn, 1) := by decide +kernel
theorem d_OB_look_105 : decode bc_OB_look 105 = .ok (.aload_n 0, 1) := by decide +kernel
theorem d_OB_look_106 : decode bc_OB_look 106 = .ok (.getfield 28, 3) := by decide +kernel
theorem d_OB_look_109 : decode bc_OB_look 109 = .ok (.getfield 84, 3) := by decide +kernel
theorem d_OB_look_112 : decode bc_OB_look 112 = .ok (.ifCond .eq 8, 3) := by decide +kernel
theorem d_OB_look_115 : decode bc_OB_look 115 = .ok (.bipush (-4), 2) := by decide +kernel
theorem d_OB_look_117 : decode bc_OB_look 117 = .ok (.goto 7, 3) := by decide +kernel
theorem d_OB_look_120 : decode bc_OB_look 120 = .ok (.aload_n 0, 1) := by decide +kernel
theorem d_OB_look_121 : decode bc_OB_look 121 = .ok (.getfield 132, 3) := by decide +kernel
theorem d_OB_look_124 : decode bc_OB_look 124 = .ok (.ireturn, 1) := by decide +kernel
theorem d_OB_look_125 : decode bc_OB_look 125 = .ok (.aload_n 0, 1) := by decide +kernel
theorem d_OB_look_126 : decode bc_OB_look 126 = .ok (.getfield 28, 3) := by decide +kernel
theorem d_OB_look_129 : decode bc_OB_look 129 = .ok (.getfield 84, 3) := by decide +kernel
theorem d_OB_look_132 : decode bc_OB_look 132 = .ok (.ifCond .eq 8, 3) := by decide +kernel
theorem d_OB_look_135 : decode bc_OB_look 135 = .ok (.bipush (-4), 2) := by decide +kernel
theorem d_OB_look_137 : decode bc_OB_look 137 = .ok (.goto 10, 3) := by decide +kernel
theorem d_OB_look_140 : decode bc_OB_look 140 = .ok (.aload_n 0, 1) := by decide +kernel
theorem d_OB_look_141 : decode bc_OB_look 141 = .ok (.getfield 28, 3) := by decide +kernel
theorem d_OB_look_144 : decode bc_OB_look 144 = .ok (.getfield 209, 3) := by decide +kernel
theorem d_OB_look_147 : decode bc_OB_look 147 = .ok (.ireturn, 1) := by decide +kernel
theorem d_OB_look_148 : decode bc_OB_look 148 = .ok (.aload_n 0, 1) := by decide +kernel
theorem d_OB_look_149 : decode bc_OB_look 149 = .ok (.getfield 28, 3) := by decide +kernel
theorem d_OB_look_152 : decode bc_OB_look 152 = .ok (.getfield 278, 3) := by decide +kernel
theorem d_OB_look_155 : decode bc_OB_look 155 = .ok (.ireturn, 1) := by decide +kernel
theorem d_OB_look_156 : decode bc_OB_look 156 = .ok (.aload_n 0, 1) := by decide +kernel
theorem d_OB_look_157 : decode bc_OB_look 157 = .ok (.getfield 28, 3) := by decide +kernel
theorem d_OB_look_160 : decode bc_OB_look 160 = .ok (.getfield 212, 3) := by decide +kernel
theorem d_OB_look_163 : decode bc_OB_look 163 = .ok (.ireturn, 1) := by decide +kernel
theorem d_OB_look_164 : decode bc_OB_look 164 = .ok (.aload_n 0, 1) := by decide +kernel
theorem d_OB_look_165 : decode bc_OB_look 165 = .ok (.getfield 28, 3) := by decide +kernel
theorem d_OB_look_168 : decode bc_OB_look 168 = .ok (.getfield 84, 3) := by decide +kernel
theorem d_OB_look_171 : decode bc_OB_look 171 = .ok (.ifCond .eq 7, 3) := by decide +kernel
theorem d_OB_look_174 : decode bc_OB_look 174 = .ok (.iconst 1, 1) := by decide +kernel
theorem d_OB_look_175 : decode bc_OB_look 175 = .ok (.goto 4, 3) := by decide +kernel
theorem d_OB_look_178 : decode bc_OB_look 178 = .ok (.iconst 0, 1) := by decide +kernel
theorem d_OB_look_179 : decode bc_OB_look 179 = .ok (.ireturn, 1) := by decide +kernel
theorem d_OB_look_180 : decode bc_OB_look 180 = .ok (.aload_n 0, 1) := by decide +kernel
theorem d_OB_look_181 : decode bc_OB_look 181 = .ok (.getfield 42, 3) := by decide +kernel
theorem d_OB_look_184 : decode bc_OB_look 184 = .ok (.getfield 110, 3) := by decide +kernel
theorem d_OB_look_187 : decode bc_OB_look 187 = .ok (.ifCond .eq 7, 3) := by decide +kernel
theorem d_OB_look_190 : decode bc_OB_look 190 = .ok (.iconst 1, 1) := by decide +kernel
theorem d_OB_look_191 : decode bc_OB_look 191 = .ok (.goto 4, 3) := by decide +kernel
theorem d_OB_look_194 : decode bc_OB_look 194 = .ok (.iconst 0, 1) := by decide +kernel
theorem d_OB_look_195 : decode bc_OB_look 195 = .ok (.ireturn, 1) := by decide +kernel
theorem d_OB_look_196 : decode bc_OB_look 196 = .ok (.aload_n 0, 1) := by decide +kernel
theorem d_OB_look_197 : decode bc_OB_look 197 = .ok (.getfield 80, 3) := by decide +kernel
theorem d_OB_look_200 : decode bc_OB_look 200 = .ok (.getfield 281, 3) := by decide +kernel
theorem d_OB_look_203 : decode bc_OB_look 203 = .ok (.ireturn, 1) := by decide +kernel
theorem d_OB_look_204 : decode bc_OB_look 204 = .ok (.iconst (-1), 1) := by decide +kernel
theorem d_OB_look_205 : decode bc_OB_look 205 = .ok (.ireturn, 1) := by decide +kernel
def cw_OB_look (G : Nat → ClassId) (a_t a_disk a_batch a_kept a_kept_classes a_schema a_kept_values a_schema_kinds a_kept_names a_latest a_indexes a_draftText a_questions a_reader a_judge a_batch_image a_schema_above a_schema_owners a_schema_targets : Nat) (v_questionCount : Int32) (v_idsGiven : Int32) (v_everBegun : Int32) (v_disk_written : Int32) (v_disk_armed : Int32) (v_disk_half : Int32) (v_disk_logged : Int32) (v_disk_marked : Int32) (v_disk_down : Int32) (v_batch_known : Int64) (v_batch_touched : Int64) (v_batch_namesTouched : Int32) (v_batch_open : Int32) (v_kept_classes : Nat → Int32) (v_schema_classCount : Int32) (v_schema_fieldCount : Int32) (v_kept_values : Nat → Int64) (v_schema_kinds : Nat → Int32) (v_kept_names : Nat → Int32) (v_latest_mode : Int32) (v_latest_fitting : Int64) (v_latest_total : Int64) (v_latest_looked : Int32) : va_W := [(a_t, .inr (0, [.ref a_schema, .ref a_indexes, .ref a_disk, .ref a_kept, .ref a_batch, .ref a_draftText, .ref a_questions, .ref a_reader, .ref a_judge, .ref a_latest, .int v_questionCount, .int v_idsGiven, .int v_everBegun])), (a_disk, .inr (3, [.int v_disk_written, .int v_disk_armed, .int v_disk_half, .int v_disk_logged, .int v_disk_marked, .int v_disk_down])), (a_batch, .inr (5, [.ref a_batch_image, .long v_batch_known, .long v_batch_touched, .int v_batch_namesTouched, .int v_batch_open])), (a_kept, .inr (4, [.ref a_kept_classes, .ref a_kept_values, .ref a_kept_names])), (a_kept_classes, .inl (G 0, 63, .inl v_kept_classes)), (a_schema, .inr (1, [.ref a_schema_above, .ref a_schema_owners, .ref a_schema_kinds, .ref a_schema_targets, .int v_schema_classCount, .int v_schema_fieldCount])), (a_kept_values, .inl (G 1, 504, .inr (.inl v_kept_values))), (a_schema_kinds, .inl (G 0, 8, .inl v_schema_kinds)), (a_kept_names, .inl (G 0, 4, .inl v_kept_names)), (a_latest, .inr (10, [.int v_latest_mode, .long v_latest_fitting, .long v_latest_total, .int v_latest_looked]))]
def f_OB_look (v_idsGiven : Int32) (v_disk_written : Int32) (v_disk_armed : Int32) (v_disk_half : Int32) (v_disk_down : Int32) (v_batch_open : Int32) (v_kept_classes : Nat → Int32) (v_schema_fieldCount : Int32) (v_kept_values : Nat → Int64) (v_schema_kinds : Nat → Int32) (v_kept_names : Nat → Int32) (v_latest_looked : Int32) (p1 : Int32) : Option (Int32) := if p1 = 0 then (if v_disk_down = 0 then ((f_Image_objectCount v_kept_classes).bind fun o71 => (some o71)) else (some (-4))) else (if p1 = 1 then (if v_disk_down = 0 then ((f_Image_reachedIds v_schema_fieldCount v_kept_values v_schema_kinds v_kept_names).bind fun o98 => ((f_Long_bitCount o98).bind fun o101 => (some o101))) else (some (-4))) else (if p1 = 2 then (if v_disk_down = 0 then (some v_idsGiven) else (some (-4))) else (if p1 = 3 then (if v_disk_down = 0 then (some v_disk_half) else (some (-4))) else (if p1 = 4 then (some v_disk_written) else (if p1 = 5 then (some v_disk_armed) else (if p1 = 6 then (if v_disk_down = 0 then (some 0) else (some 1)) else (if p1 = 7 then (if v_batch_open = 0 then (some 0) else (some 1)) else (if p1 = 8 then (some v_latest_looked) else (some (-1))))))))))
set_option maxHeartbeats 4000000 in
set_option maxRecDepth 100000 in
theorem c_OB_look (l : Launch) (D : va_G) (G : Nat → ClassId) (a_t a_disk a_batch a_kept a_kept_classes a_schema a_kept_values a_schema_kinds a_kept_names a_latest a_indexes a_draftText a_questions a_reader a_judge a_batch_image a_schema_above a_schema_owners a_schema_targets : Nat) (v_questionCount : Int32) (v_idsGiven : Int32) (v_everBegun : Int32) (v_disk_written : Int32) (v_disk_armed : Int32) (v_disk_half : Int32) (v_disk_logged : Int32) (v_disk_marked : Int32) (v_disk_down : Int32) (v_batch_known : Int64) (v_batch_touched : Int64) (v_batch_namesTouched : Int32) (v_batch_open : Int32) (v_kept_classes : Nat → Int32) (v_schema_classCount : Int32) (v_schema_fieldCount : Int32) (v_kept_values : Nat → Int64) (v_schema_kinds : Nat → Int32) (v_kept_names : Nat → Int32) (v_latest_mode : Int32) (v_latest_fitting : Int64) (v_latest_total : Int64) (v_latest_looked : Int32) (p1 : Int32) (o : Int32) (hf : f_OB_look v_idsGiven v_disk_written v_disk_armed v_disk_half v_disk_down v_batch_open v_kept_classes v_schema_fieldCount v_kept_values v_schema_kinds v_kept_names v_latest_looked p1 = some o) (sz : Nat) : MetI l y_OB_look ws_OB_look ({ frames := 3, cells := 0, slots := 0, locals := 78 }) D (obT G) (cw_OB_look G a_t a_disk a_batch a_kept a_kept_classes a_schema a_kept_values a_schema_kinds a_kept_names a_latest a_indexes a_draftText a_questions a_reader a_judge a_batch_image a_schema_above a_schema_owners a_schema_targets v_questionCount v_idsGiven v_everBegun v_disk_written v_disk_armed v_disk_half v_disk_logged v_disk_marked v_disk_down v_batch_known v_batch_touched v_batch_namesTouched v_batch_open v_kept_classes v_schema_classCount v_schema_fieldCount v_kept_values v_schema_kinds v_kept_names v_latest_mode v_latest_fitting v_latest_total v_latest_looked) (cw_OB_look G a_t a_disk a_batch a_kept a_kept_classes a_schema a_kept_values a_schema_kinds a_kept_names a_latest a_indexes a_draftText a_questions a_reader a_judge a_batch_image a_schema_above a_schema_owners a_schema_targets v_questionCount v_idsGiven v_everBegun v_disk_written v_disk_armed v_disk_half v_disk_logged v_disk_marked v_disk_down v_batch_known v_batch_touched v_batch_namesTouched v_batch_open v_kept_classes v_schema_classCount v_schema_fieldCount v_kept_values v_schema_kinds v_kept_names v_latest_mode v_latest_fitting v_latest_total v_latest_looked) [.ref a_t, .int p1] o sz := by
  refine ob_of (cc := bc_OB_look) (maxL := 2) (ret := (some .int)) (Qc := ObQi D (obT G) (cw_OB_look G a_t a_disk a_batch a_kept a_kept_classes a_schema a_kept_values a_schema_kinds a_kept_names a_latest a_indexes a_draftText a_questions a_reader a_judge a_batch_image a_schema_above a_schema_owners a_schema_targets v_questionCount v_idsGiven v_everBegun v_disk_written v_disk_armed v_disk_half v_disk_logged v_disk_marked v_disk_down v_batch_known v_batch_touched v_batch_namesTouched v_batch_open v_kept_classes v_schema_classCount v_schema_fieldCount v_kept_values v_schema_kinds v_kept_names v_latest_mode v_latest_fitting v_latest_total v_latest_looked) o) (by decide) rfl (Nat.le_of_ble_eq_true rfl) ?_
  intro p e s m below meth c A ls H locs hx hb hr hml hts hown hlk hnm hZ hP hK hD hA hS hl
  have hret : ∀ (o' : Int32) (H : Heap) (locs : List Loc) (pc : Nat) (ls : Array Slot), some o' = some o → va_P D vwCl (cw_OB_look G a_t a_disk a_batch a_kept a_kept_classes a_schema a_kept_values a_schema_kinds a_kept_names a_latest a_indexes a_draftText a_questions a_reader a_judge a_batch_image a_schema_above a_schema_owners a_schema_targets v_questionCount v_idsGiven v_everBegun v_disk_written v_disk_armed v_disk_half v_disk_logged v_disk_marked v_disk_down v_batch_known v_batch_touched v_batch_namesTouched v_batch_open v_kept_classes v_schema_classCount v_schema_fieldCount v_kept_values v_schema_kinds v_kept_names v_latest_mode v_latest_fitting v_latest_total v_latest_looked) H → va_D A (cw_OB_look G a_t a_disk a_batch a_kept a_kept_classes a_schema a_kept_values a_schema_kinds a_kept_names a_latest a_indexes a_draftText a_questions a_reader a_judge a_batch_image a_schema_above a_schema_owners a_schema_targets v_questionCount v_idsGiven v_everBegun v_disk_written v_disk_armed v_disk_half v_disk_logged v_disk_marked v_disk_down v_batch_known v_batch_touched v_batch_namesTouched v_batch_open v_kept_classes v_schema_classCount v_schema_fieldCount v_kept_values v_schema_kinds v_kept_names v_latest_mode v_latest_fitting v_latest_total v_latest_looked) → va_S A s.heap H locs → narrow .int (.int o') = .int o' → decode bc_OB_look pc = .ok (.ireturn, 1) → W p l e { frames := 3, cells := 0, slots := 0, locals := 78 } s m ([.ref a_t, .int p1] : List Value).toArray below meth c H locs 0 0 (MQ below (ObQi D (obT G) (cw_OB_look G a_t a_disk a_batch a_kept a_kept_classes a_schema a_kept_values a_schema_kinds a_kept_names a_latest a_indexes a_draftText a_questions a_reader a_judge a_batch_image a_schema_above a_schema_owners a_schema_targets v_questionCount v_idsGiven v_everBegun v_disk_written v_disk_armed v_disk_half v_disk_logged v_disk_marked v_disk_down v_batch_known v_batch_touched v_batch_namesTouched v_batch_open v_kept_classes v_schema_classCount v_schema_fieldCount v_kept_values v_schema_kinds v_kept_names v_latest_mode v_latest_fitting v_latest_total v_latest_looked) o A) ([.ref a_t, .int p1] : List Value).toArray s 0 0 A) (F0 m pc ls [.int o']) := by
    intro o' H locs pc ls he hP hD hS hn hd
    obtain rfl := Option.some.inj he
    exact ob_iret hx hb hr hlk hK hP hD hS hn hd
  generalize MQ below (ObQi D (obT G) (cw_OB_look G a_t a_disk a_batch a_kept a_kept_classes a_schema a_kept_values a_schema_kinds a_kept_names a_latest a_indexes a_draftText a_questions a_reader a_judge a_batch_image a_schema_above a_schema_owners a_schema_targets v_questionCount v_idsGiven v_everBegun v_disk_written v_disk_armed v_disk_half v_disk_logged v_disk_marked v_disk_down v_batch_known v_batch_touched v_batch_namesTouched v_batch_open v_kept_classes v_schema_classCount v_schema_fieldCount v_kept_values v_schema_kinds v_kept_names v_latest_mode v_latest_fitting v_latest_total v_latest_looked) o A) ([.ref a_t, .int p1] : List Value).toArray s 0 0 A = Q at hret ⊢
  have hl : lv_has ls 2 [(0, .ref a_t), (1, .int p1)] := hl
  unfold f_OB_look at hf
  refine lv_iload_n hx hb d_OB_look_0 rfl (lv_at hl 1 rfl) ?_
  by_cases hc1_0 : p1 = 0
  · have hf := ob_t hc1_0 hf
    refine lv_tableIn (off := 51) (tgt := 52) hx hb d_OB_look_1 (by rw [hc1_0]; decide) (by rw [hc1_0]; decide) (by rw [hc1_0]; rfl) (by decide) ?_
    refine lv_aload_n hx hb d_OB_look_52 rfl (lv_at hl 0 rfl) ?_
    refine va_get (D := D) (ci := 0) (v := .ref a_disk) (C := "ObjectBase") (T := TC_OB) (N := 13) hx hb hts inC_OB hown hK hP 0 rfl rfl 2 (by decide) (hts _ tw234) (fun _ h9 => h9) rfl d_OB_look_53 ?_
    refine va_get (D := D) (ci := 3) (v := .int v_disk_down) (C := "ObjectBase$Disk") (T := TC_Disk) (N := 6) hx hb hts inC_Disk hown hK hP 1 rfl rfl 5 (by decide) (hts _ tw87) (fun _ h9 => h9) rfl d_OB_look_56 ?_
    refine lv_if_eq (tgt := 67) hx hb d_OB_look_59 (by decide) (fun hc59 => ?_) (fun hc59 => ?_)
    · have hf := ob_t hc59 hf
      refine lv_aload_n hx hb d_OB_look_67 rfl (lv_at hl 0 rfl) ?_
      refine va_get (D := D) (ci := 0) (v := .ref a_kept) (C := "ObjectBase") (T := TC_OB) (N := 13) hx hb hts inC_OB hown hK hP 0 rfl rfl 3 (by decide) (hts _ tw235) (fun _ h9 => h9) rfl d_OB_look_68 ?_
      obtain ⟨o71, ho71, hf⟩ := ob_b hf
      refine ob_calli (w2 := (cw_OB_look G a_t a_disk a_batch a_kept a_kept_classes a_schema a_kept_values a_schema_kinds a_kept_names a_latest a_indexes a_draftText a_questions a_reader a_judge a_batch_image a_schema_above a_schema_owners a_schema_targets v_questionCount v_idsGiven v_everBegun v_disk_written v_disk_armed v_disk_half v_disk_logged v_disk_marked v_disk_down v_batch_known v_batch_touched v_batch_namesTouched v_batch_open v_kept_classes v_schema_classCount v_schema_fieldCount v_kept_values v_schema_kinds v_kept_names v_latest_mode v_latest_fitting v_latest_total v_latest_looked)) (va_runV (As := []) (rest := []) ⟨hx, hb, hml, hown, hts⟩ (c_Image_objectCount l D G a_kept a_kept_classes a_kept_values a_kept_names v_kept_classes o71 ho71 H.size) (cwV 0 hts (gV tw407 tw408 tw409 tw5 tw410) rfl rfl rfl (by decide +kernel) ⟨Nat.le_of_ble_eq_true rfl, Nat.le_of_ble_eq_true rfl⟩) (ob_preV (q0 := 3) (ci := 4) hZ hK hP hD [3, 4] rfl rfl rfl rfl rfl) rfl rfl hl.1 rfl (lv_room (Nat.le_of_ble_eq_true rfl)) d_OB_look_71 ⟨Nat.le_refl _, Nat.le_refl _⟩) hP hD hA hS [3, 4] rfl rfl rfl rfl (fun H locs hP hD hS => ?_)
      exact hret o71 H locs _ ls hf hP hD hS rfl d_OB_look_74
    · have hf := ob_f hc59 hf
      refine lv_bipush (v := (-4)) hx hb d_OB_look_62 (by decide) ?_
      refine lv_goto (tgt := 74) hx hb d_OB_look_64 (by decide) ?_
      exact hret (-4) H locs _ ls hf hP hD hS rfl d_OB_look_74
  have hf := ob_f hc1_0 hf
  by_cases hc1_1 : p1 = 1
  · have hf := ob_t hc1_1 hf
    refine lv_tableIn (off := 74) (tgt := 75) hx hb d_OB_look_1 (by rw [hc1_1]; decide) (by rw [hc1_1]; decide) (by rw [hc1_1]; rfl) (by decide) ?_
    refine lv_aload_n hx hb d_OB_look_75 rfl (lv_at hl 0 rfl) ?_
    refine va_get (D := D) (ci := 0) (v := .ref a_disk) (C := "ObjectBase") (T := TC_OB) (N := 13) hx hb hts inC_OB hown hK hP 0 rfl rfl 2 (by decide) (hts _ tw234) (fun _ h9 => h9) rfl d_OB_look_76 ?_
    refine va_get (D := D) (ci := 3) (v := .int v_disk_down) (C := "ObjectBase$Disk") (T := TC_Disk) (N := 6) hx hb hts inC_Disk hown hK hP 1 rfl rfl 5 (by decide) (hts _ tw87) (fun _ h9 => h9) rfl d_OB_look_79 ?_
    refine lv_if_eq (tgt := 90) hx hb d_OB_look_82 (by decide) (fun hc82 => ?_) (fun hc82 => ?_)
    · have hf := ob_t hc82 hf
      refine lv_aload_n hx hb d_OB_look_90 rfl (lv_at hl 0 rfl) ?_
      refine va_get (D := D) (ci := 0) (v := .ref a_kept) (C := "ObjectBase") (T := TC_OB) (N := 13) hx hb hts inC_OB hown hK hP 0 rfl rfl 3 (by decide) (hts _ tw235) (fun _ h9 => h9) rfl d_OB_look_91 ?_
      refine lv_aload_n hx hb d_OB_look_94 rfl (lv_at hl 0 rfl) ?_
      refine va_get (D := D) (ci := 0) (v := .ref a_schema) (C := "ObjectBase") (T := TC_OB) (N := 13) hx hb hts inC_OB hown hK hP 0 rfl rfl 0 (by decide) (hts _ tw232) (fun _ h9 => h9) rfl d_OB_look_95 ?_
      obtain ⟨o98, ho98, hf⟩ := ob_b hf
      refine ob_calll (w2 := (cw_OB_look G a_t a_disk a_batch a_kept a_kept_classes a_schema a_kept_values a_schema_kinds a_kept_names a_latest a_indexes a_draftText a_questions a_reader a_judge a_batch_image a_schema_above a_schema_owners a_schema_targets v_questionCount v_idsGiven v_everBegun v_disk_written v_disk_armed v_disk_half v_disk_logged v_disk_marked v_disk_down v_batch_known v_batch_touched v_batch_namesTouched v_batch_open v_kept_classes v_schema_classCount v_schema_fieldCount v_kept_values v_schema_kinds v_kept_names v_latest_mode v_latest_fitting v_latest_total v_latest_looked)) (va_runV (As := [.ref a_schema]) (rest := []) ⟨hx, hb, hml, hown, hts⟩ (c_Image_reachedIds l D G a_kept a_schema a_kept_values a_schema_kinds a_kept_names a_kept_classes a_schema_above a_schema_owners a_schema_targets v_schema_classCount v_schema_fieldCount v_kept_values v_schema_kinds v_kept_names o98 ho98 H.size) (cwV 1 hts (gV tw316 tw317 tw318 tw5 tw319) rfl rfl rfl (by decide +kernel) ⟨Nat.le_of_ble_eq_true rfl, Nat.le_of_ble_eq_true rfl⟩) (ob_preV (q0 := 3) (ci := 4) hZ hK hP hD [3, 5, 6, 7, 8] rfl rfl rfl rfl rfl) rfl rfl hl.1 rfl (lv_room (Nat.le_of_ble_eq_true rfl)) d_OB_look_98 ⟨Nat.le_refl _, Nat.le_refl _⟩) hP hD hA hS [3, 5, 6, 7, 8] rfl rfl rfl rfl (fun H locs hP hD hS => ?_)
      obtain ⟨o101, ho101, hf⟩ := ob_b hf
      refine ob_calli (w2 := (cw_OB_look G a_t a_disk a_batch a_kept a_kept_classes a_schema a_kept_values a_schema_kinds a_kept_names a_latest a_indexes a_draftText a_questions a_reader a_judge a_batch_image a_schema_above a_schema_owners a_schema_targets v_questionCount v_idsGiven v_everBegun v_disk_written v_disk_armed v_disk_half v_disk_logged v_disk_marked v_disk_down v_batch_known v_batch_touched v_batch_namesTouched v_batch_open v_kept_classes v_schema_classCount v_schema_fieldCount v_kept_values v_schema_kinds v_kept_names v_latest_mode v_latest_fitting v_latest_total v_latest_looked)) (va_runS (As := [.long o98]) (rest := []) ⟨hx, hb, hml, hown, hts⟩ (c_Long_bitCount l D G  o98 o101 ho101 H.size) (va_cwS 1 hts (gS tw458 tw416 tw13 tw417) rfl rfl rfl (by decide +kernel) ⟨Nat.le_of_ble_eq_true rfl, Nat.le_of_ble_eq_true rfl⟩) (ob_preS hZ hK hP hD [] rfl rfl) rfl rfl hl.1 rfl (lv_room (Nat.le_of_ble_eq_true rfl)) d_OB_look_101 ⟨Nat.le_refl _, Nat.le_refl _⟩) hP hD hA hS [] rfl rfl rfl rfl (fun H locs hP hD hS => ?_)
      exact hret o101 H locs _ ls hf hP hD hS rfl d_OB_look_104
    · have hf := ob_f hc82 hf
      refine lv_bipush (v := (-4)) hx hb d_OB_look_85 (by decide) ?_
      refine lv_goto (tgt := 104) hx hb d_OB_look_87 (by decide) ?_
      exact hret (-4) H locs _ ls hf hP hD hS rfl d_OB_look_104
  have hf := ob_f hc1_1 hf
  by_cases hc1_2 : p1 = 2
  · have hf := ob_t hc1_2 hf
    refine lv_tableIn (off := 104) (tgt := 105) hx hb d_OB_look_1 (by rw [hc1_2]; decide) (by rw [hc1_2]; decide) (by rw [hc1_2]; rfl) (by decide) ?_
    refine lv_aload_n hx hb d_OB_look_105 rfl (lv_at hl 0 rfl) ?_
    refine va_get (D := D) (ci := 0) (v := .ref a_disk) (C := "ObjectBase") (T := TC_OB) (N := 13) hx hb hts inC_OB hown hK hP 0 rfl rfl 2 (by decide) (hts _ tw234) (fun _ h9 => h9) rfl d_OB_look_106 ?_
    refine va_get (D := D) (ci := 3) (v := .int v_disk_down) (C := "ObjectBase$Disk") (T := TC_Disk) (N := 6) hx hb hts inC_Disk hown hK hP 1 rfl rfl 5 (by decide) (hts _ tw87) (fun _ h9 => h9) rfl d_OB_look_109 ?_
    refine lv_if_eq (tgt := 120) hx hb d_OB_look_112 (by decide) (fun hc112 => ?_) (fun hc112 => ?_)
    · have hf := ob_t hc112 hf
      refine lv_aload_n hx hb d_OB_look_120 rfl (lv_at hl 0 rfl) ?_
      refine va_get (D := D) (ci := 0) (v := .int v_idsGiven) (C := "ObjectBase") (T := TC_OB) (N := 13) hx hb hts inC_OB hown hK hP 0 rfl rfl 11 (by decide) (hts _ tw243) (fun _ h9 => h9) rfl d_OB_look_121 ?_
      exact hret v_idsGiven H locs _ ls hf hP hD hS rfl d_OB_look_124
    · have hf := ob_f hc112 hf
      refine lv_bipush (v := (-4)) hx hb d_OB_look_115 (by decide) ?_
      refine lv_goto (tgt := 124) hx hb d_OB_look_117 (by decide) ?_
      exact hret (-4) H locs _ ls hf hP hD hS rfl d_OB_look_124
  have hf := ob_f hc1_2 hf
  by_cases hc1_3 : p1 = 3
  · have hf := ob_t hc1_3 hf
    refine lv_tableIn (off := 124) (tgt := 125) hx hb d_OB_look_1 (by rw [hc1_3]; decide) (by rw [hc1_3]; decide) (by rw [hc1_3]; rfl) (by decide) ?_
    refine lv_aload_n hx hb d_OB_look_125 rfl (lv_at hl 0 rfl) ?_
    refine va_get (D := D) (ci := 0) (v := .ref a_disk) (C := "ObjectBase") (T := TC_OB) (N := 13) hx hb hts inC_OB hown hK hP 0 rfl rfl 2 (by decide) (hts _ tw234) (fun _ h9 => h9) rfl d_OB_look_126 ?_
    refine va_get (D := D) (ci := 3) (v := .int v_disk_down) (C := "ObjectBase$Disk") (T := TC_Disk) (N := 6) hx hb hts inC_Disk hown hK hP 1 rfl rfl 5 (by decide) (hts _ tw87) (fun _ h9 => h9) rfl d_OB_look_129 ?_
    refine lv_if_eq (tgt := 140) hx hb d_OB_look_132 (by decide) (fun hc132 => ?_) (fun hc132 => ?_)
    · have hf := ob_t hc132 hf
      refine lv_aload_n hx hb d_OB_look_140 rfl (lv_at hl 0 rfl) ?_
      refine va_get (D := D) (ci := 0) (v := .ref a_disk) (C := "ObjectBase") (T := TC_OB) (N := 13) hx hb hts inC_OB hown hK hP 0 rfl rfl 2 (by decide) (hts _ tw234) (fun _ h9 => h9) rfl d_OB_look_141 ?_
      refine va_get (D := D) (ci := 3) (v := .int v_disk_half) (C := "ObjectBase$Disk") (T := TC_Disk) (N := 6) hx hb hts inC_Disk hown hK hP 1 rfl rfl 2 (by decide) (hts _ tw84) (fun _ h9 => h9) rfl d_OB_look_144 ?_
      exact hret v_disk_half H locs _ ls hf hP hD hS rfl d_OB_look_147
    · have hf := ob_f hc132 hf
      refine lv_bipush (v := (-4)) hx hb d_OB_look_135 (by decide) ?_
      refine lv_goto (tgt := 147) hx hb d_OB_look_137 (by decide) ?_
      exact hret (-4) H locs _ ls hf hP hD hS rfl d_OB_look_147
  have hf := ob_f hc1_3 hf
  by_cases hc1_4 : p1 = 4
  · have hf := ob_t hc1_4 hf
    refine lv_tableIn (off := 147) (tgt := 148) hx hb d_OB_look_1 (by rw [hc1_4]; decide) (by rw [hc1_4]; decide) (by rw [hc1_4]; rfl) (by decide) ?_
    refine lv_aload_n hx hb d_OB_look_148 rfl (lv_at hl 0 rfl) ?_
    refine va_get (D := D) (ci := 0) (v := .ref a_disk) (C := "ObjectBase") (T := TC_OB) (N := 13) hx hb hts inC_OB hown hK hP 0 rfl rfl 2 (by decide) (hts _ tw234) (fun _ h9 => h9) rfl d_OB_look_149 ?_
    refine va_get (D := D) (ci := 3) (v := .int v_disk_written) (C := "ObjectBase$Disk") (T := TC_Disk) (N := 6) hx hb hts inC_Disk hown hK hP 1 rfl rfl 0 (by decide) (hts _ tw81) (fun _ h9 => h9) rfl d_OB_look_152 ?_
    exact hret v_disk_written H locs _ ls hf hP hD hS rfl d_OB_look_155
  have hf := ob_f hc1_4 hf
  by_cases hc1_5 : p1 = 5
  · have hf := ob_t hc1_5 hf
    refine lv_tableIn (off := 155) (tgt := 156) hx hb d_OB_look_1 (by rw [hc1_5]; decide) (by rw [hc1_5]; decide) (by rw [hc1_5]; rfl) (by decide) ?_
    refine lv_aload_n hx hb d_OB_look_156 rfl (lv_at hl 0 rfl) ?_
    refine va_get (D := D) (ci := 0) (v := .ref a_disk) (C := "ObjectBase") (T := TC_OB) (N := 13) hx hb hts inC_OB hown hK hP 0 rfl rfl 2 (by decide) (hts _ tw234) (fun _ h9 => h9) rfl d_OB_look_157 ?_
    refine va_get (D := D) (ci := 3) (v := .int v_disk_armed) (C := "ObjectBase$Disk") (T := TC_Disk) (N := 6) hx hb hts inC_Disk hown hK hP 1 rfl rfl 1 (by decide) (hts _ tw83) (fun _ h9 => h9) rfl d_OB_look_160 ?_
    exact hret v_disk_armed H locs _ ls hf hP hD hS rfl d_OB_look_163
  have hf := ob_f hc1_5 hf
  by_cases hc1_6 : p1 = 6
  · have hf := ob_t hc1_6 hf
    refine lv_tableIn (off := 163) (tgt := 164) hx hb d_OB_look_1 (by rw [hc1_6]; decide) (by rw [hc1_6]; decide) (by rw [hc1_6]; rfl) (by decide) ?_
    refine lv_aload_n hx hb d_OB_look_164 rfl (lv_at hl 0 rfl) ?_
    refine va_get (D := D) (ci := 0) (v := .ref a_disk) (C := "ObjectBase") (T := TC_OB) (N := 13) hx hb hts inC_OB hown hK hP 0 rfl rfl 2 (by decide) (hts _ tw234) (fun _ h9 => h9) rfl d_OB_look_165 ?_
    refine va_get (D := D) (ci := 3) (v := .int v_disk_down) (C := "ObjectBase$Disk") (T := TC_Disk) (N := 6) hx hb hts inC_Disk hown hK hP 1 rfl rfl 5 (by decide) (hts _ tw87) (fun _ h9 => h9) rfl d_OB_look_168 ?_
    refine lv_if_eq (tgt := 178) hx hb d_OB_look_171 (by decide) (fun hc171 => ?_) (fun hc171 => ?_)
    · have hf := ob_t hc171 hf
      refine lv_iconst (v := 0) hx hb d_OB_look_178 (by decide) ?_
      exact hret 0 H locs _ ls hf hP hD hS rfl d_OB_look_179
    · have hf := ob_f hc171 hf
      refine lv_iconst (v := 1) hx hb d_OB_look_174 (by decide) ?_
      refine lv_goto (tgt := 179) hx hb d_OB_look_175 (by decide) ?_
      exact hret 1 H locs _ ls hf hP hD hS rfl d_OB_look_179
  have hf := ob_f hc1_6 hf
  by_cases hc1_7 : p1 = 7
  · have hf := ob_t hc1_7 hf
    refine lv_tableIn (off := 179) (tgt := 180) hx hb d_OB_look_1 (by rw [hc1_7]; decide) (by rw [hc1_7]; decide) (by rw [hc1_7]; rfl) (by decide) ?_
    refine lv_aload_n hx hb d_OB_look_180 rfl (lv_at hl 0 rfl) ?_
    refine va_get (D := D) (ci := 0) (v := .ref a_batch) (C := "ObjectBase") (T := TC_OB) (N := 13) hx hb hts inC_OB hown hK hP 0 rfl rfl 4 (by decide) (hts _ tw236) (fun _ h9 => h9) rfl d_OB_look_181 ?_
    refine va_get (D := D) (ci := 5) (v := .int v_batch_open) (C := "ObjectBase$Batch") (T := TC_Batch) (N := 5) hx hb hts inC_Batch hown hK hP 2 rfl rfl 4 (by decide) (hts _ tw138) (fun _ h9 => h9) rfl d_OB_look_184 ?_
    refine lv_if_eq (tgt := 194) hx hb d_OB_look_187 (by decide) (fun hc187 => ?_) (fun hc187 => ?_)
    · have hf := ob_t hc187 hf
      refine lv_iconst (v := 0) hx hb d_OB_look_194 (by decide) ?_
      exact hret 0 H locs _ ls hf hP hD hS rfl d_OB_look_195
    · have hf := ob_f hc187 hf
      refine lv_iconst (v := 1) hx hb d_OB_look_190 (by decide) ?_
      refine lv_goto (tgt := 195) hx hb d_OB_look_191 (by decide) ?_
      exact hret 1 H locs _ ls hf hP hD hS rfl d_OB_look_195
  have hf := ob_f hc1_7 hf
  by_cases hc1_8 : p1 = 8
  · have hf := ob_t hc1_8 hf
    refine lv_tableIn (off := 195) (tgt := 196) hx hb d_OB_look_1 (by rw [hc1_8]; decide) (by rw [hc1_8]; decide) (by rw [hc1_8]; rfl) (by decide) ?_
    refine lv_aload_n hx hb d_OB_look_196 rfl (lv_at hl 0 rfl) ?_
    refine va_get (D := D) (ci := 0) (v := .ref a_latest) (C := "ObjectBase") (T := TC_OB) (N := 13) hx hb hts inC_OB hown hK hP 0 rfl rfl 9 (by decide) (hts _ tw241) (fun _ h9 => h9) rfl d_OB_look_197 ?_
    refine va_get (D := D) (ci := 10) (v := .int v_latest_looked) (C := "ObjectBase$Answer") (T := TC_Answer) (N := 4) hx hb hts inC_Answer hown hK hP 9 rfl rfl 3 (by decide) (hts _ tw222) (fun _ h9 => h9) rfl d_OB_look_200 ?_
    exact hret v_latest_looked H locs _ ls hf hP hD hS rfl d_OB_look_203
  have hf := ob_f hc1_8 hf
  refine lv_tableOut (tgt := 204) hx hb d_OB_look_1 (by have hs := And.intro True.intro True.intro; have hs0 := ob_sw hc1_0 (k := 0) (by decide); have hs1 := ob_sw hc1_1 (k := 1) (by decide); have hs2 := ob_sw hc1_2 (k := 2) (by decide); have hs3 := ob_sw hc1_3 (k := 3) (by decide); have hs4 := ob_sw hc1_4 (k := 4) (by decide); have hs5 := ob_sw hc1_5 (k := 5) (by decide); have hs6 := ob_sw hc1_6 (k := 6) (by decide); have hs7 := ob_sw hc1_7 (k := 7) (by decide); have hs8 := ob_sw hc1_8 (k := 8) (by decide); omega) (by decide) ?_
  refine lv_iconst (v := (-1)) hx hb d_OB_look_204 (by decide) ?_
  exact hret (-1) H locs _ ls hf hP hD hS rfl d_OB_look_205
abbrev bc_OB_goDown : ByteArray := prog_1_method_35_code
abbrev y_OB_goDown : MethodName := ⟨"ObjectBase", "goDown", "()I"⟩
def ws_OB_goDown : List Cond := .code y_OB_goDown bc_OB_goDown 1 (some .int) :: obW
theorem d_OB_goDown_0 : decode bc_OB_goDown 0 = .ok (.aload_n 0, 1) := by decide +kernel
theorem d_OB_goDown_1 : decode bc_OB_goDown 1 = .ok (.getfield 28, 3) := by decide +kernel
theorem d_OB_goDown_4 : decode bc_OB_goDown 4 = .ok (.iconst 1, 1) := by decide +kernel
theorem d_OB_goDown_5 : decode bc_OB_goDown 5 = .ok (.putfield 84, 3) := by decide +kernel
theorem d_OB_goDown_8 : decode bc_OB_goDown 8 = .ok (.aload_n 0, 1) := by decide +kernel
theorem d_OB_goDown_9 : decode bc_OB_goDown 9 = .ok (.getfield 42, 3) := by decide +kernel
theorem d_OB_goDown_12 : decode bc_OB_goDown 12 = .ok (.iconst 0, 1) := by decide +kernel
theorem d_OB_goDown_13 : decode bc_OB_goDown 13 = .ok (.putfield 110, 3) := by decide +kernel
theorem d_OB_goDown_16 : decode bc_OB_goDown 16 = .ok (.aload_n 0, 1) := by decide +kernel
theorem d_OB_goDown_17 : decode bc_OB_goDown 17 = .ok (.getfield 80, 3) := by decide +kernel
theorem d_OB_goDown_20 : decode bc_OB_goDown 20 = .ok (.invokevirtual 290, 3) := by decide +kernel
theorem d_OB_goDown_23 : decode bc_OB_goDown 23 = .ok (.bipush (-4), 2) := by decide +kernel
theorem d_OB_goDown_25 : decode bc_OB_goDown 25 = .ok (.ireturn, 1) := by decide +kernel
def cw_OB_goDown (G : Nat → ClassId) (a_t a_disk a_batch a_latest a_schema a_indexes a_kept a_draftText a_questions a_reader a_judge a_batch_image : Nat) (v_questionCount : Int32) (v_idsGiven : Int32) (v_everBegun : Int32) (v_disk_written : Int32) (v_disk_armed : Int32) (v_disk_half : Int32) (v_disk_logged : Int32) (v_disk_marked : Int32) (v_disk_down : Int32) (v_batch_known : Int64) (v_batch_touched : Int64) (v_batch_namesTouched : Int32) (v_batch_open : Int32) (v_latest_mode : Int32) (v_latest_fitting : Int64) (v_latest_total : Int64) (v_latest_looked : Int32) : va_W := [(a_t, .inr (0, [.ref a_schema, .ref a_indexes, .ref a_disk, .ref a_kept, .ref a_batch, .ref a_draftText, .ref a_questions, .ref a_reader, .ref a_judge, .ref a_latest, .int v_questionCount, .int v_idsGiven, .int v_everBegun])), (a_disk, .inr (3, [.int v_disk_written, .int v_disk_armed, .int v_disk_half, .int v_disk_logged, .int v_disk_marked, .int v_disk_down])), (a_batch, .inr (5, [.ref a_batch_image, .long v_batch_known, .long v_batch_touched, .int v_batch_namesTouched, .int v_batch_open])), (a_latest, .inr (10, [.int v_latest_mode, .long v_latest_fitting, .long v_latest_total, .int v_latest_looked]))]
def f_OB_goDown : Option (Int32 × Int32 × Int32 × Int32 × Int64 × Int64 × Int32) := (f_Answer_forget).bind fun o20 => (some ((-4), 1, 0, o20.1, o20.2.1, o20.2.2.1, o20.2.2.2))
set_option maxHeartbeats 4000000 in
set_option maxRecDepth 100000 in
theorem c_OB_goDown (l : Launch) (D : va_G) (G : Nat → ClassId) (a_t a_disk a_batch a_latest a_schema a_indexes a_kept a_draftText a_questions a_reader a_judge a_batch_image : Nat) (v_questionCount : Int32) (v_idsGiven : Int32) (v_everBegun : Int32) (v_disk_written : Int32) (v_disk_armed : Int32) (v_disk_half : Int32) (v_disk_logged : Int32) (v_disk_marked : Int32) (v_disk_down : Int32) (v_batch_known : Int64) (v_batch_touched : Int64) (v_batch_namesTouched : Int32) (v_batch_open : Int32) (v_latest_mode : Int32) (v_latest_fitting : Int64) (v_latest_total : Int64) (v_latest_looked : Int32) (o : Int32 × Int32 × Int32 × Int32 × Int64 × Int64 × Int32) (hf : f_OB_goDown = some o) (sz : Nat) : MetI l y_OB_goDown ws_OB_goDown ({ frames := 2, cells := 0, slots := 0, locals := 41 }) D (obT G) (cw_OB_goDown G a_t a_disk a_batch a_latest a_schema a_indexes a_kept a_draftText a_questions a_reader a_judge a_batch_image v_questionCount v_idsGiven v_everBegun v_disk_written v_disk_armed v_disk_half v_disk_logged v_disk_marked v_disk_down v_batch_known v_batch_touched v_batch_namesTouched v_batch_open v_latest_mode v_latest_fitting v_latest_total v_latest_looked) (cw_OB_goDown G a_t a_disk a_batch a_latest a_schema a_indexes a_kept a_draftText a_questions a_reader a_judge a_batch_image v_questionCount v_idsGiven v_everBegun v_disk_written v_disk_armed v_disk_half v_disk_logged v_disk_marked o.2.1 v_batch_known v_batch_touched v_batch_namesTouched o.2.2.1 o.2.2.2.1 o.2.2.2.2.1 o.2.2.2.2.2.1 o.2.2.2.2.2.2) [.ref a_t] o.1 sz := by
  refine ob_of (cc := bc_OB_goDown) (maxL := 1) (ret := (some .int)) (Qc := ObQi D (obT G) (cw_OB_goDown G a_t a_disk a_batch a_latest a_schema a_indexes a_kept a_draftText a_questions a_reader a_judge a_batch_image v_questionCount v_idsGiven v_everBegun v_disk_written v_disk_armed v_disk_half v_disk_logged v_disk_marked o.2.1 v_batch_known v_batch_touched v_batch_namesTouched o.2.2.1 o.2.2.2.1 o.2.2.2.2.1 o.2.2.2.2.2.1 o.2.2.2.2.2.2) o.1) (by decide) rfl (Nat.le_of_ble_eq_true rfl) ?_
  intro p e s m below meth c A ls H locs hx hb hr hml hts hown hlk hnm hZ hP hK hD hA hS hl
  have hret : ∀ (o' : Int32 × Int32 × Int32 × Int32 × Int64 × Int64 × Int32) (H : Heap) (locs : List Loc) (pc : Nat) (ls : Array Slot), some o' = some o → va_P D vwCl (cw_OB_goDown G a_t a_disk a_batch a_latest a_schema a_indexes a_kept a_draftText a_questions a_reader a_judge a_batch_image v_questionCount v_idsGiven v_everBegun v_disk_written v_disk_armed v_disk_half v_disk_logged v_disk_marked o'.2.1 v_batch_known v_batch_touched v_batch_namesTouched o'.2.2.1 o'.2.2.2.1 o'.2.2.2.2.1 o'.2.2.2.2.2.1 o'.2.2.2.2.2.2) H → va_D A (cw_OB_goDown G a_t a_disk a_batch a_latest a_schema a_indexes a_kept a_draftText a_questions a_reader a_judge a_batch_image v_questionCount v_idsGiven v_everBegun v_disk_written v_disk_armed v_disk_half v_disk_logged v_disk_marked o'.2.1 v_batch_known v_batch_touched v_batch_namesTouched o'.2.2.1 o'.2.2.2.1 o'.2.2.2.2.1 o'.2.2.2.2.2.1 o'.2.2.2.2.2.2) → va_S A s.heap H locs → narrow .int (.int o'.1) = .int o'.1 → decode bc_OB_goDown pc = .ok (.ireturn, 1) → W p l e { frames := 2, cells := 0, slots := 0, locals := 41 } s m ([.ref a_t] : List Value).toArray below meth c H locs 0 0 (MQ below (ObQi D (obT G) (cw_OB_goDown G a_t a_disk a_batch a_latest a_schema a_indexes a_kept a_draftText a_questions a_reader a_judge a_batch_image v_questionCount v_idsGiven v_everBegun v_disk_written v_disk_armed v_disk_half v_disk_logged v_disk_marked o.2.1 v_batch_known v_batch_touched v_batch_namesTouched o.2.2.1 o.2.2.2.1 o.2.2.2.2.1 o.2.2.2.2.2.1 o.2.2.2.2.2.2) o.1 A) ([.ref a_t] : List Value).toArray s 0 0 A) (F0 m pc ls [.int o'.1]) := by
    intro o' H locs pc ls he hP hD hS hn hd
    obtain rfl := Option.some.inj he
    exact ob_iret hx hb hr hlk hK hP hD hS hn hd
  generalize MQ below (ObQi D (obT G) (cw_OB_goDown G a_t a_disk a_batch a_latest a_schema a_indexes a_kept a_draftText a_questions a_reader a_judge a_batch_image v_questionCount v_idsGiven v_everBegun v_disk_written v_disk_armed v_disk_half v_disk_logged v_disk_marked o.2.1 v_batch_known v_batch_touched v_batch_namesTouched o.2.2.1 o.2.2.2.1 o.2.2.2.2.1 o.2.2.2.2.2.1 o.2.2.2.2.2.2) o.1 A) ([.ref a_t] : List Value).toArray s 0 0 A = Q at hret ⊢
  have hl : lv_has ls 1 [(0, .ref a_t)] := hl
  unfold f_OB_goDown at hf
  refine lv_aload_n hx hb d_OB_goDown_0 rfl (lv_at hl 0 rfl) ?_
  refine va_get (D := D) (ci := 0) (v := .ref a_disk) (C := "ObjectBase") (T := TC_OB) (N := 13) hx hb hts inC_OB hown hK hP 0 rfl rfl 2 (by decide) (hts _ tw234) (fun _ h9 => h9) rfl d_OB_goDown_1 ?_
  refine lv_iconst (v := 1) hx hb d_OB_goDown_4 (by decide) ?_
  refine va_put (D := D) (ci := 3) (v := .int 1) (ty := .boolean) (C := "ObjectBase$Disk") (T := TC_Disk) (N := 6) hx hb hts inC_Disk tyC_Disk tyC_Disk_ok nmC_Disk hown hK hP hD hS 1 rfl rfl 5 (by decide) (hts _ tw87) (fun _ h9 => h9) rfl (by decide +kernel) rfl rfl (Nat.le_of_ble_eq_true rfl) d_OB_goDown_5 (fun H locs hP hD hS => ?_)
  have hP : va_P D vwCl (cw_OB_goDown G a_t a_disk a_batch a_latest a_schema a_indexes a_kept a_draftText a_questions a_reader a_judge a_batch_image v_questionCount v_idsGiven v_everBegun v_disk_written v_disk_armed v_disk_half v_disk_logged v_disk_marked 1 v_batch_known v_batch_touched v_batch_namesTouched v_batch_open v_latest_mode v_latest_fitting v_latest_total v_latest_looked) H := hP
  have hD : va_D A (cw_OB_goDown G a_t a_disk a_batch a_latest a_schema a_indexes a_kept a_draftText a_questions a_reader a_judge a_batch_image v_questionCount v_idsGiven v_everBegun v_disk_written v_disk_armed v_disk_half v_disk_logged v_disk_marked 1 v_batch_known v_batch_touched v_batch_namesTouched v_batch_open v_latest_mode v_latest_fitting v_latest_total v_latest_looked) := hD
  refine lv_aload_n hx hb d_OB_goDown_8 rfl (lv_at hl 0 rfl) ?_
  refine va_get (D := D) (ci := 0) (v := .ref a_batch) (C := "ObjectBase") (T := TC_OB) (N := 13) hx hb hts inC_OB hown hK hP 0 rfl rfl 4 (by decide) (hts _ tw236) (fun _ h9 => h9) rfl d_OB_goDown_9 ?_
  refine lv_iconst (v := 0) hx hb d_OB_goDown_12 (by decide) ?_
  refine va_put (D := D) (ci := 5) (v := .int 0) (ty := .boolean) (C := "ObjectBase$Batch") (T := TC_Batch) (N := 5) hx hb hts inC_Batch tyC_Batch tyC_Batch_ok nmC_Batch hown hK hP hD hS 2 rfl rfl 4 (by decide) (hts _ tw138) (fun _ h9 => h9) rfl (by decide +kernel) rfl rfl (Nat.le_of_ble_eq_true rfl) d_OB_goDown_13 (fun H locs hP hD hS => ?_)
  have hP : va_P D vwCl (cw_OB_goDown G a_t a_disk a_batch a_latest a_schema a_indexes a_kept a_draftText a_questions a_reader a_judge a_batch_image v_questionCount v_idsGiven v_everBegun v_disk_written v_disk_armed v_disk_half v_disk_logged v_disk_marked 1 v_batch_known v_batch_touched v_batch_namesTouched 0 v_latest_mode v_latest_fitting v_latest_total v_latest_looked) H := hP
  have hD : va_D A (cw_OB_goDown G a_t a_disk a_batch a_latest a_schema a_indexes a_kept a_draftText a_questions a_reader a_judge a_batch_image v_questionCount v_idsGiven v_everBegun v_disk_written v_disk_armed v_disk_half v_disk_logged v_disk_marked 1 v_batch_known v_batch_touched v_batch_namesTouched 0 v_latest_mode v_latest_fitting v_latest_total v_latest_looked) := hD
  refine lv_aload_n hx hb d_OB_goDown_16 rfl (lv_at hl 0 rfl) ?_
  refine va_get (D := D) (ci := 0) (v := .ref a_latest) (C := "ObjectBase") (T := TC_OB) (N := 13) hx hb hts inC_OB hown hK hP 0 rfl rfl 9 (by decide) (hts _ tw241) (fun _ h9 => h9) rfl d_OB_goDown_17 ?_
  obtain ⟨o20, ho20, hf⟩ := ob_b hf
  refine ob_callv (w2 := (cw_OB_goDown G a_t a_disk a_batch a_latest a_schema a_indexes a_kept a_draftText a_questions a_reader a_judge a_batch_image v_questionCount v_idsGiven v_everBegun v_disk_written v_disk_armed v_disk_half v_disk_logged v_disk_marked 1 v_batch_known v_batch_touched v_batch_namesTouched 0 o20.1 o20.2.1 o20.2.2.1 o20.2.2.2)) (va_runV (As := []) (rest := []) ⟨hx, hb, hml, hown, hts⟩ (c_Answer_forget l D G a_latest v_latest_mode v_latest_fitting v_latest_total v_latest_looked o20 ho20 H.size) (cwV 0 hts (gV tw433 tw434 tw435 tw10 tw436) rfl rfl rfl (by decide +kernel) ⟨Nat.le_of_ble_eq_true rfl, Nat.le_of_ble_eq_true rfl⟩) (ob_preV (q0 := 3) (ci := 10) hZ hK hP hD [3] rfl rfl rfl rfl rfl) rfl rfl hl.1 rfl (lv_room (Nat.le_of_ble_eq_true rfl)) d_OB_goDown_20 ⟨Nat.le_refl _, Nat.le_refl _⟩) hP hD hA hS [3] rfl rfl rfl rfl (fun H locs hP hD hS => ?_)
  refine lv_bipush (v := (-4)) hx hb d_OB_goDown_23 (by decide) ?_
  exact hret ((-4), 1, 0, o20.1, o20.2.1, o20.2.2.1, o20.2.2.2) H locs _ ls hf hP hD hS rfl d_OB_goDown_25
abbrev bc_Indexes_hasPath : ByteArray := prog_6_method_4_code
abbrev y_Indexes_hasPath : MethodName := ⟨"ObjectBase$Indexes", "hasPath", "(LObjectBase$Question;I)Z"⟩
def ws_Indexes_hasPath : List Cond := .code y_Indexes_hasPath bc_Indexes_hasPath 4 (some .boolean) :: obW
theorem d_Indexes_hasPath_0 : decode bc_Indexes_hasPath 0 = .ok (.iconst 0, 1) := by decide +kernel
theorem d_Indexes_hasPath_1 : decode bc_Indexes_hasPath 1 = .ok (.istore_n 3, 1) := by decide +kernel
theorem d_Indexes_hasPath_2 : decode bc_Indexes_hasPath 2 = .ok (.iload_n 3, 1) := by decide +kernel
theorem d_Indexes_hasPath_3 : decode bc_Indexes_hasPath 3 = .ok (.aload_n 0, 1) := by decide +kernel
theorem d_Indexes_hasPath_4 : decode bc_Indexes_hasPath 4 = .ok (.getfield 18, 3) := by decide +kernel
theorem d_Indexes_hasPath_7 : decode bc_Indexes_hasPath 7 = .ok (.if_icmp .ge 37, 3) := by decide +kernel
theorem d_Indexes_hasPath_10 : decode bc_Indexes_hasPath 10 = .ok (.aload_n 0, 1) := by decide +kernel
theorem d_Indexes_hasPath_11 : decode bc_Indexes_hasPath 11 = .ok (.getfield 9, 3) := by decide +kernel
theorem d_Indexes_hasPath_14 : decode bc_Indexes_hasPath 14 = .ok (.iload_n 3, 1) := by decide +kernel
theorem d_Indexes_hasPath_15 : decode bc_Indexes_hasPath 15 = .ok (.iaload, 1) := by decide +kernel
theorem d_Indexes_hasPath_16 : decode bc_Indexes_hasPath 16 = .ok (.aload_n 1, 1) := by decide +kernel
theorem d_Indexes_hasPath_17 : decode bc_Indexes_hasPath 17 = .ok (.getfield 44, 3) := by decide +kernel
theorem d_Indexes_hasPath_20 : decode bc_Indexes_hasPath 20 = .ok (.if_icmp .ne 18, 3) := by decide +kernel
theorem d_Indexes_hasPath_23 : decode bc_Indexes_hasPath 23 = .ok (.aload_n 0, 1) := by decide +kernel
theorem d_Indexes_hasPath_24 : decode bc_Indexes_hasPath 24 = .ok (.iload_n 3, 1) := by decide +kernel
theorem d_Indexes_hasPath_25 : decode bc_Indexes_hasPath 25 = .ok (.aload_n 1, 1) := by decide +kernel
theorem d_Indexes_hasPath_26 : decode bc_Indexes_hasPath 26 = .ok (.getfield 47, 3) := by decide +kernel
theorem d_Indexes_hasPath_29 : decode bc_Indexes_hasPath 29 = .ok (.iload_n 2, 1) := by decide +kernel
theorem d_Indexes_hasPath_30 : decode bc_Indexes_hasPath 30 = .ok (.invokevirtual 51, 3) := by decide +kernel
theorem d_Indexes_hasPath_33 : decode bc_Indexes_hasPath 33 = .ok (.ifCond .eq 5, 3) := by decide +kernel
theorem d_Indexes_hasPath_36 : decode bc_Indexes_hasPath 36 = .ok (.iconst 1, 1) := by decide +kernel
theorem d_Indexes_hasPath_37 : decode bc_Indexes_hasPath 37 = .ok (.ireturn, 1) := by decide +kernel
theorem d_Indexes_hasPath_38 : decode bc_Indexes_hasPath 38 = .ok (.iinc 3 1, 3) := by decide +kernel
theorem d_Indexes_hasPath_41 : decode bc_Indexes_hasPath 41 = .ok (.goto (-39), 3) := by decide +kernel
theorem d_Indexes_hasPath_44 : decode bc_Indexes_hasPath 44 = .ok (.iconst 0, 1) := by decide +kernel
theorem d_Indexes_hasPath_45 : decode bc_Indexes_hasPath 45 = .ok (.ireturn, 1) := by decide +kernel
def cw_Indexes_hasPath (G : Nat → ClassId) (a_t a_classes a_p1 a_p1_text a_p1_text_chars a_fields a_p1_numbers a_p1_kinds a_p1_inner a_p1_next a_p1_left a_p1_right : Nat) (v_count : Int32) (v_classes : Nat → Int32) (v_p1_nodeCount : Int32) (v_p1_root : Int32) (v_p1_asked : Int32) (v_p1_mode : Int32) (v_p1_text_length : Int32) (v_p1_text_chars : Nat → Int32) (v_fields : Nat → Int32) : va_W := [(a_t, .inr (2, [.ref a_classes, .ref a_fields, .int v_count])), (a_classes, .inl (G 0, 3, .inl v_classes)), (a_p1, .inr (7, [.ref a_p1_text, .ref a_p1_numbers, .ref a_p1_kinds, .ref a_p1_inner, .ref a_p1_next, .ref a_p1_left, .ref a_p1_right, .int v_p1_nodeCount, .int v_p1_root, .int v_p1_asked, .int v_p1_mode])), (a_p1_text, .inr (6, [.ref a_p1_text_chars, .int v_p1_text_length])), (a_p1_text_chars, .inl (G 2, 60, .inl v_p1_text_chars)), (a_fields, .inl (G 0, 9, .inl v_fields))]
def f_Indexes_hasPath_B2 (v_count : Int32) (v_classes : Nat → Int32) (v_p1_asked : Int32) (v_p1_text_length : Int32) (v_p1_text_chars : Nat → Int32) (v_fields : Nat → Int32) (p2 : Int32) (k2 : Int32 → Option (Int32)) (x2_3 : Int32) : Option (Int32) := if v_count ≤ x2_3 then (some 0) else (ob_iv x2_3 3 (if (v_classes x2_3.toNatClampNeg) = v_p1_asked then ((f_Indexes_isPathOf v_p1_text_length v_p1_text_chars v_fields x2_3 p2).bind fun o30 => (if o30 = 0 then (k2 (x2_3 + 1)) else (some 1))) else (k2 (x2_3 + 1))))
def f_Indexes_hasPath_L2 (v_count : Int32) (v_classes : Nat → Int32) (v_p1_asked : Int32) (v_p1_text_length : Int32) (v_p1_text_chars : Nat → Int32) (v_fields : Nat → Int32) (p2 : Int32) : Nat → Int32 → Option (Int32) := ob_lp1 (f_Indexes_hasPath_B2 v_count v_classes v_p1_asked v_p1_text_length v_p1_text_chars v_fields p2)
def f_Indexes_hasPath (v_count : Int32) (v_classes : Nat → Int32) (v_p1_asked : Int32) (v_p1_text_length : Int32) (v_p1_text_chars : Nat → Int32) (v_fields : Nat → Int32) (p2 : Int32) : Option (Int32) := f_Indexes_hasPath_L2 v_count v_classes v_p1_asked v_p1_text_length v_p1_text_chars v_fields p2 1000 0
set_option maxHeartbeats 4000000 in
set_option maxRecDepth 100000 in
theorem c_Indexes_hasPath (l : Launch) (D : va_G) (G : Nat → ClassId) (a_t a_classes a_p1 a_p1_text a_p1_text_chars a_fields a_p1_numbers a_p1_kinds a_p1_inner a_p1_next a_p1_left a_p1_right : Nat) (v_count : Int32) (v_classes : Nat → Int32) (v_p1_nodeCount : Int32) (v_p1_root : Int32) (v_p1_asked : Int32) (v_p1_mode : Int32) (v_p1_text_length : Int32) (v_p1_text_chars : Nat → Int32) (v_fields : Nat → Int32) (p2 : Int32) (o : Int32) (hf : f_Indexes_hasPath v_count v_classes v_p1_asked v_p1_text_length v_p1_text_chars v_fields p2 = some o) (sz : Nat) : MetI l y_Indexes_hasPath ws_Indexes_hasPath ({ frames := 3, cells := 0, slots := 0, locals := 68 }) D (obT G) (cw_Indexes_hasPath G a_t a_classes a_p1 a_p1_text a_p1_text_chars a_fields a_p1_numbers a_p1_kinds a_p1_inner a_p1_next a_p1_left a_p1_right v_count v_classes v_p1_nodeCount v_p1_root v_p1_asked v_p1_mode v_p1_text_length v_p1_text_chars v_fields) (cw_Indexes_hasPath G a_t a_classes a_p1 a_p1_text a_p1_text_chars a_fields a_p1_numbers a_p1_kinds a_p1_inner a_p1_next a_p1_left a_p1_right v_count v_classes v_p1_nodeCount v_p1_root v_p1_asked v_p1_mode v_p1_text_length v_p1_text_chars v_fields) [.ref a_t, .ref a_p1, .int p2] o sz := by
  refine ob_of (cc := bc_Indexes_hasPath) (maxL := 4) (ret := (some .boolean)) (Qc := ObQi D (obT G) (cw_Indexes_hasPath G a_t a_classes a_p1 a_p1_text a_p1_text_chars a_fields a_p1_numbers a_p1_kinds a_p1_inner a_p1_next a_p1_left a_p1_right v_count v_classes v_p1_nodeCount v_p1_root v_p1_asked v_p1_mode v_p1_text_length v_p1_text_chars v_fields) o) (by decide) rfl (Nat.le_of_ble_eq_true rfl) ?_
  intro p e s m below meth c A ls H locs hx hb hr hml hts hown hlk hnm hZ hP hK hD hA hS hl
  have hret : ∀ (o' : Int32) (H : Heap) (locs : List Loc) (pc : Nat) (ls : Array Slot), some o' = some o → va_P D vwCl (cw_Indexes_hasPath G a_t a_classes a_p1 a_p1_text a_p1_text_chars a_fields a_p1_numbers a_p1_kinds a_p1_inner a_p1_next a_p1_left a_p1_right v_count v_classes v_p1_nodeCount v_p1_root v_p1_asked v_p1_mode v_p1_text_length v_p1_text_chars v_fields) H → va_D A (cw_Indexes_hasPath G a_t a_classes a_p1 a_p1_text a_p1_text_chars a_fields a_p1_numbers a_p1_kinds a_p1_inner a_p1_next a_p1_left a_p1_right v_count v_classes v_p1_nodeCount v_p1_root v_p1_asked v_p1_mode v_p1_text_length v_p1_text_chars v_fields) → va_S A s.heap H locs → narrow .boolean (.int o') = .int o' → decode bc_Indexes_hasPath pc = .ok (.ireturn, 1) → W p l e { frames := 3, cells := 0, slots := 0, locals := 68 } s m ([.ref a_t, .ref a_p1, .int p2] : List Value).toArray below meth c H locs 0 0 (MQ below (ObQi D (obT G) (cw_Indexes_hasPath G a_t a_classes a_p1 a_p1_text a_p1_text_chars a_fields a_p1_numbers a_p1_kinds a_p1_inner a_p1_next a_p1_left a_p1_right v_count v_classes v_p1_nodeCount v_p1_root v_p1_asked v_p1_mode v_p1_text_length v_p1_text_chars v_fields) o A) ([.ref a_t, .ref a_p1, .int p2] : List Value).toArray s 0 0 A) (F0 m pc ls [.int o']) := by
    intro o' H locs pc ls he hP hD hS hn hd
    obtain rfl := Option.some.inj he
    exact ob_iret hx hb hr hlk hK hP hD hS hn hd
  generalize MQ below (ObQi D (obT G) (cw_Indexes_hasPath G a_t a_classes a_p1 a_p1_text a_p1_text_chars a_fields a_p1_numbers a_p1_kinds a_p1_inner a_p1_next a_p1_left a_p1_right v_count v_classes v_p1_nodeCount v_p1_root v_p1_asked v_p1_mode v_p1_text_length v_p1_text_chars v_fields) o A) ([.ref a_t, .ref a_p1, .int p2] : List Value).toArray s 0 0 A = Q at hret ⊢
  have hl : lv_has ls 4 [(0, .ref a_t), (1, .ref a_p1), (2, .int p2)] := hl
  unfold f_Indexes_hasPath at hf
  have loop2 : ∀ (n2 : Nat) (x2_3 : Int32) (ls : Array Slot) (H : Heap) (locs : List Loc), lv_has ls 4 [(0, .ref a_t), (1, .ref a_p1), (2, .int p2), (3, .int x2_3)] → va_P D vwCl (cw_Indexes_hasPath G a_t a_classes a_p1 a_p1_text a_p1_text_chars a_fields a_p1_numbers a_p1_kinds a_p1_inner a_p1_next a_p1_left a_p1_right v_count v_classes v_p1_nodeCount v_p1_root v_p1_asked v_p1_mode v_p1_text_length v_p1_text_chars v_fields) H → va_D A (cw_Indexes_hasPath G a_t a_classes a_p1 a_p1_text a_p1_text_chars a_fields a_p1_numbers a_p1_kinds a_p1_inner a_p1_next a_p1_left a_p1_right v_count v_classes v_p1_nodeCount v_p1_root v_p1_asked v_p1_mode v_p1_text_length v_p1_text_chars v_fields) → va_S A s.heap H locs → f_Indexes_hasPath_L2 v_count v_classes v_p1_asked v_p1_text_length v_p1_text_chars v_fields p2 n2 x2_3 = some o → W p l e ({ frames := 3, cells := 0, slots := 0, locals := 68 }) s m ([.ref a_t, .ref a_p1, .int p2] : List Value).toArray below meth c H locs 0 0 Q (F0 m 2 ls []) := by
    intro n2
    induction n2 with
    | zero => intro x2_3 ls H locs hl hP hD hS hf; exact ob_no hf
    | succ n2 ih2 =>
      intro x2_3 ls H locs hl hP hD hS hf
      have hf : f_Indexes_hasPath_B2 v_count v_classes v_p1_asked v_p1_text_length v_p1_text_chars v_fields p2 (f_Indexes_hasPath_L2 v_count v_classes v_p1_asked v_p1_text_length v_p1_text_chars v_fields p2 n2) x2_3 = some o := hf
      unfold f_Indexes_hasPath_B2 at hf
      refine lv_iload_n hx hb d_Indexes_hasPath_2 rfl (lv_at hl 3 rfl) ?_
      refine lv_aload_n hx hb d_Indexes_hasPath_3 rfl (lv_at hl 0 rfl) ?_
      refine va_get (D := D) (ci := 2) (v := .int v_count) (C := "ObjectBase$Indexes") (T := TC_Indexes) (N := 3) hx hb hts inC_Indexes hown hK hP 0 rfl rfl 2 (by decide) (hts _ tw65) (fun _ h9 => h9) rfl d_Indexes_hasPath_4 ?_
      refine lv_icmp_ge (tgt := 44) hx hb d_Indexes_hasPath_7 (by decide) (fun hc7 => ?_) (fun hc7 => ?_)
      · have hf := ob_t hc7 hf
        refine lv_iconst (v := 0) hx hb d_Indexes_hasPath_44 (by decide) ?_
        exact hret 0 H locs _ ls hf hP hD hS narrow_b0 d_Indexes_hasPath_45
      · have hf := ob_f hc7 hf
        refine lv_aload_n hx hb d_Indexes_hasPath_10 rfl (lv_at hl 0 rfl) ?_
        refine va_get (D := D) (ci := 2) (v := .ref a_classes) (C := "ObjectBase$Indexes") (T := TC_Indexes) (N := 3) hx hb hts inC_Indexes hown hK hP 0 rfl rfl 0 (by decide) (hts _ tw63) (fun _ h9 => h9) rfl d_Indexes_hasPath_11 ?_
        refine lv_iload_n hx hb d_Indexes_hasPath_14 rfl (lv_at hl 3 rfl) ?_
        obtain ⟨hg15, hf⟩ := ob_iv_g hf
        refine va_iald hx hb hK hP 1 0 rfl rfl hg15 d_Indexes_hasPath_15 ?_
        refine lv_aload_n hx hb d_Indexes_hasPath_16 rfl (lv_at hl 1 rfl) ?_
        refine va_get (D := D) (ci := 7) (v := .int v_p1_asked) (C := "ObjectBase$Question") (T := TC_Question) (N := 11) hx hb hts inC_Question hown hK hP 2 rfl rfl 9 (by decide) (hts _ tw559) (fun _ h9 => h9) rfl d_Indexes_hasPath_17 ?_
        refine lv_icmp_ne (tgt := 38) hx hb d_Indexes_hasPath_20 (by decide) (fun hc20 => ?_) (fun hc20 => ?_)
        · have hf := ob_f hc20 hf
          refine lv_iinc (k := 3) (v := x2_3 + 1) (lv' := [(3, .int (x2_3 + 1)), (0, .ref a_t), (1, .ref a_p1), (2, .int p2)]) hx hb d_Indexes_hasPath_38 hl rfl (by rw [show Int32.ofInt 1 = (1 : Int32) from by decide]) (by decide) rfl (fun ls hl => ?_)
          refine lv_goto (tgt := 2) hx hb d_Indexes_hasPath_41 (by decide) ?_
          exact ih2 (x2_3 + 1) ls H locs (lv_sub hl [1, 2, 3, 0] rfl) hP hD hS hf
        · have hf := ob_t hc20 hf
          refine lv_aload_n hx hb d_Indexes_hasPath_23 rfl (lv_at hl 0 rfl) ?_
          refine lv_iload_n hx hb d_Indexes_hasPath_24 rfl (lv_at hl 3 rfl) ?_
          refine lv_aload_n hx hb d_Indexes_hasPath_25 rfl (lv_at hl 1 rfl) ?_
          refine va_get (D := D) (ci := 7) (v := .ref a_p1_text) (C := "ObjectBase$Question") (T := TC_Question) (N := 11) hx hb hts inC_Question hown hK hP 2 rfl rfl 0 (by decide) (hts _ tw534) (fun _ h9 => h9) rfl d_Indexes_hasPath_26 ?_
          refine lv_iload_n hx hb d_Indexes_hasPath_29 rfl (lv_at hl 2 rfl) ?_
          obtain ⟨o30, ho30, hf⟩ := ob_b hf
          refine ob_calli (w2 := (cw_Indexes_hasPath G a_t a_classes a_p1 a_p1_text a_p1_text_chars a_fields a_p1_numbers a_p1_kinds a_p1_inner a_p1_next a_p1_left a_p1_right v_count v_classes v_p1_nodeCount v_p1_root v_p1_asked v_p1_mode v_p1_text_length v_p1_text_chars v_fields)) (va_runV (As := [.int x2_3, .ref a_p1_text, .int p2]) (rest := []) ⟨hx, hb, hml, hown, hts⟩ (c_Indexes_isPathOf l D G a_p1_text a_p1_text_chars a_t a_fields a_classes v_p1_text_length v_p1_text_chars v_count v_fields x2_3 p2 o30 ho30 H.size) (cwV 3 hts (gV tw701 tw703 tp21 tw3 tw704) rfl rfl rfl (by decide +kernel) ⟨Nat.le_of_ble_eq_true rfl, Nat.le_of_ble_eq_true rfl⟩) (ob_preV (q0 := 0) (ci := 2) hZ hK hP hD [3, 4, 0, 5] rfl rfl rfl rfl rfl) rfl rfl hl.1 rfl (lv_room (Nat.le_of_ble_eq_true rfl)) d_Indexes_hasPath_30 ⟨Nat.le_refl _, Nat.le_refl _⟩) hP hD hA hS [3, 4, 0, 5] rfl rfl rfl rfl (fun H locs hP hD hS => ?_)
          refine lv_if_eq (tgt := 38) hx hb d_Indexes_hasPath_33 (by decide) (fun hc33 => ?_) (fun hc33 => ?_)
          · have hf := ob_t hc33 hf
            refine lv_iinc (k := 3) (v := x2_3 + 1) (lv' := [(3, .int (x2_3 + 1)), (0, .ref a_t), (1, .ref a_p1), (2, .int p2)]) hx hb d_Indexes_hasPath_38 hl rfl (by rw [show Int32.ofInt 1 = (1 : Int32) from by decide]) (by decide) rfl (fun ls hl => ?_)
            refine lv_goto (tgt := 2) hx hb d_Indexes_hasPath_41 (by decide) ?_
            exact ih2 (x2_3 + 1) ls H locs (lv_sub hl [1, 2, 3, 0] rfl) hP hD hS hf
          · have hf := ob_f hc33 hf
            refine lv_iconst (v := 1) hx hb d_Indexes_hasPath_36 (by decide) ?_
            exact hret 1 H locs _ ls hf hP hD hS narrow_b1 d_Indexes_hasPath_37
  refine lv_iconst (v := 0) hx hb d_Indexes_hasPath_0 (by decide) ?_
  refine lv_istore_n (lv' := [(3, .int 0), (0, .ref a_t), (1, .ref a_p1), (2, .int p2)]) hx hb d_Indexes_hasPath_1 rfl hl (by decide) rfl (fun ls hl => ?_)
  exact loop2 1000 0 ls H locs (lv_sub hl [1, 2, 3, 0] rfl) hP hD hS hf
