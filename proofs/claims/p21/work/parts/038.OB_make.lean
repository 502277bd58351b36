abbrev bc_OB_make : ByteArray := prog_1_method_6_code
abbrev y_OB_make : MethodName := ⟨"ObjectBase", "make", "(I)I"⟩
def ws_OB_make : List Cond := .code y_OB_make bc_OB_make 2 (some .int) :: obW
theorem d_OB_make_0 : decode bc_OB_make 0 = .ok (.aload_n 0, 1) := by decide +kernel
theorem d_OB_make_1 : decode bc_OB_make 1 = .ok (.getfield 28, 3) := by decide +kernel
theorem d_OB_make_4 : decode bc_OB_make 4 = .ok (.getfield 84, 3) := by decide +kernel
theorem d_OB_make_7 : decode bc_OB_make 7 = .ok (.ifCond .eq 6, 3) := by decide +kernel
theorem d_OB_make_10 : decode bc_OB_make 10 = .ok (.bipush (-4), 2) := by decide +kernel
theorem d_OB_make_12 : decode bc_OB_make 12 = .ok (.ireturn, 1) := by decide +kernel
theorem d_OB_make_13 : decode bc_OB_make 13 = .ok (.aload_n 0, 1) := by decide +kernel
theorem d_OB_make_14 : decode bc_OB_make 14 = .ok (.getfield 42, 3) := by decide +kernel
theorem d_OB_make_17 : decode bc_OB_make 17 = .ok (.getfield 110, 3) := by decide +kernel
theorem d_OB_make_20 : decode bc_OB_make 20 = .ok (.ifCond .eq 23, 3) := by decide +kernel
theorem d_OB_make_23 : decode bc_OB_make 23 = .ok (.aload_n 0, 1) := by decide +kernel
theorem d_OB_make_24 : decode bc_OB_make 24 = .ok (.getfield 14, 3) := by decide +kernel
theorem d_OB_make_27 : decode bc_OB_make 27 = .ok (.iload_n 1, 1) := by decide +kernel
theorem d_OB_make_28 : decode bc_OB_make 28 = .ok (.invokevirtual 95, 3) := by decide +kernel
theorem d_OB_make_31 : decode bc_OB_make 31 = .ok (.ifCond .eq 12, 3) := by decide +kernel
theorem d_OB_make_34 : decode bc_OB_make 34 = .ok (.aload_n 0, 1) := by decide +kernel
theorem d_OB_make_35 : decode bc_OB_make 35 = .ok (.getfield 132, 3) := by decide +kernel
theorem d_OB_make_38 : decode bc_OB_make 38 = .ok (.bipush 62, 2) := by decide +kernel
theorem d_OB_make_40 : decode bc_OB_make 40 = .ok (.if_icmp .ne 5, 3) := by decide +kernel
theorem d_OB_make_43 : decode bc_OB_make 43 = .ok (.iconst (-1), 1) := by decide +kernel
theorem d_OB_make_44 : decode bc_OB_make 44 = .ok (.ireturn, 1) := by decide +kernel
theorem d_OB_make_45 : decode bc_OB_make 45 = .ok (.aload_n 0, 1) := by decide +kernel
theorem d_OB_make_46 : decode bc_OB_make 46 = .ok (.dup, 1) := by decide +kernel
theorem d_OB_make_47 : decode bc_OB_make 47 = .ok (.getfield 132, 3) := by decide +kernel
theorem d_OB_make_50 : decode bc_OB_make 50 = .ok (.iconst 1, 1) := by decide +kernel
theorem d_OB_make_51 : decode bc_OB_make 51 = .ok (.iadd, 1) := by decide +kernel
theorem d_OB_make_52 : decode bc_OB_make 52 = .ok (.putfield 132, 3) := by decide +kernel
theorem d_OB_make_55 : decode bc_OB_make 55 = .ok (.aload_n 0, 1) := by decide +kernel
theorem d_OB_make_56 : decode bc_OB_make 56 = .ok (.getfield 42, 3) := by decide +kernel
theorem d_OB_make_59 : decode bc_OB_make 59 = .ok (.aload_n 0, 1) := by decide +kernel
theorem d_OB_make_60 : decode bc_OB_make 60 = .ok (.getfield 132, 3) := by decide +kernel
theorem d_OB_make_63 : decode bc_OB_make 63 = .ok (.iload_n 1, 1) := by decide +kernel
theorem d_OB_make_64 : decode bc_OB_make 64 = .ok (.invokevirtual 135, 3) := by decide +kernel
theorem d_OB_make_67 : decode bc_OB_make 67 = .ok (.aload_n 0, 1) := by decide +kernel
theorem d_OB_make_68 : decode bc_OB_make 68 = .ok (.getfield 132, 3) := by decide +kernel
theorem d_OB_make_71 : decode bc_OB_make 71 = .ok (.ireturn, 1) := by decide +kernel
def cw_OB_make (G : Nat → ClassId) (a_t a_disk a_batch a_schema a_batch_image a_batch_image_classes a_indexes a_kept a_draftText a_questions a_reader a_judge a_latest a_schema_above a_schema_owners a_schema_kinds a_schema_targets a_batch_image_values a_batch_image_names : Nat) (v_questionCount : Int32) (v_idsGiven : Int32) (v_everBegun : Int32) (v_disk_written : Int32) (v_disk_armed : Int32) (v_disk_half : Int32) (v_disk_logged : Int32) (v_disk_marked : Int32) (v_disk_down : Int32) (v_batch_known : Int64) (v_batch_touched : Int64) (v_batch_namesTouched : Int32) (v_batch_open : Int32) (v_schema_classCount : Int32) (v_schema_fieldCount : Int32) (v_batch_image_classes : Nat → Int32) : va_W := [(a_t, .inr (0, [.ref a_schema, .ref a_indexes, .ref a_disk, .ref a_kept, .ref a_batch, .ref a_draftText, .ref a_questions, .ref a_reader, .ref a_judge, .ref a_latest, .int v_questionCount, .int v_idsGiven, .int v_everBegun])), (a_disk, .inr (3, [.int v_disk_written, .int v_disk_armed, .int v_disk_half, .int v_disk_logged, .int v_disk_marked, .int v_disk_down])), (a_batch, .inr (5, [.ref a_batch_image, .long v_batch_known, .long v_batch_touched, .int v_batch_namesTouched, .int v_batch_open])), (a_schema, .inr (1, [.ref a_schema_above, .ref a_schema_owners, .ref a_schema_kinds, .ref a_schema_targets, .int v_schema_classCount, .int v_schema_fieldCount])), (a_batch_image, .inr (4, [.ref a_batch_image_classes, .ref a_batch_image_values, .ref a_batch_image_names])), (a_batch_image_classes, .inl (G 0, 63, .inl v_batch_image_classes))]
def f_OB_make (v_idsGiven : Int32) (v_disk_down : Int32) (v_batch_known : Int64) (v_batch_touched : Int64) (v_batch_open : Int32) (v_schema_classCount : Int32) (v_batch_image_classes : Nat → Int32) (p1 : Int32) : Option (Int32 × Int32 × Int64 × Int64 × (Nat → Int32)) := if v_disk_down = 0 then (if v_batch_open = 0 then (some ((-1), v_idsGiven, v_batch_known, v_batch_touched, v_batch_image_classes)) else ((f_Schema_hasClass v_schema_classCount p1).bind fun o28 => (if o28 = 0 then (some ((-1), v_idsGiven, v_batch_known, v_batch_touched, v_batch_image_classes)) else (if v_idsGiven = 62 then (some ((-1), v_idsGiven, v_batch_known, v_batch_touched, v_batch_image_classes)) else ((f_Batch_addObject v_batch_known v_batch_touched v_batch_image_classes (v_idsGiven + 1) p1).bind fun o64 => (some (v_idsGiven + 1, v_idsGiven + 1, o64.1, o64.2.1, o64.2.2))))))) else (some ((-4), v_idsGiven, v_batch_known, v_batch_touched, v_batch_image_classes))
set_option maxHeartbeats 4000000 in
set_option maxRecDepth 100000 in
theorem c_OB_make (l : Launch) (D : va_G) (G : Nat → ClassId) (a_t a_disk a_batch a_schema a_batch_image a_batch_image_classes a_indexes a_kept a_draftText a_questions a_reader a_judge a_latest a_schema_above a_schema_owners a_schema_kinds a_schema_targets a_batch_image_values a_batch_image_names : Nat) (v_questionCount : Int32) (v_idsGiven : Int32) (v_everBegun : Int32) (v_disk_written : Int32) (v_disk_armed : Int32) (v_disk_half : Int32) (v_disk_logged : Int32) (v_disk_marked : Int32) (v_disk_down : Int32) (v_batch_known : Int64) (v_batch_touched : Int64) (v_batch_namesTouched : Int32) (v_batch_open : Int32) (v_schema_classCount : Int32) (v_schema_fieldCount : Int32) (v_batch_image_classes : Nat → Int32) (p1 : Int32) (o : Int32 × Int32 × Int64 × Int64 × (Nat → Int32)) (hf : f_OB_make v_idsGiven v_disk_down v_batch_known v_batch_touched v_batch_open v_schema_classCount v_batch_image_classes p1 = some o) (sz : Nat) : MetI l y_OB_make ws_OB_make ({ frames := 2, cells := 0, slots := 0, locals := 42 }) D (obT G) (cw_OB_make G a_t a_disk a_batch a_schema a_batch_image a_batch_image_classes a_indexes a_kept a_draftText a_questions a_reader a_judge a_latest a_schema_above a_schema_owners a_schema_kinds a_schema_targets a_batch_image_values a_batch_image_names v_questionCount v_idsGiven v_everBegun v_disk_written v_disk_armed v_disk_half v_disk_logged v_disk_marked v_disk_down v_batch_known v_batch_touched v_batch_namesTouched v_batch_open v_schema_classCount v_schema_fieldCount v_batch_image_classes) (cw_OB_make G a_t a_disk a_batch a_schema a_batch_image a_batch_image_classes a_indexes a_kept a_draftText a_questions a_reader a_judge a_latest a_schema_above a_schema_owners a_schema_kinds a_schema_targets a_batch_image_values a_batch_image_names v_questionCount o.2.1 v_everBegun v_disk_written v_disk_armed v_disk_half v_disk_logged v_disk_marked v_disk_down o.2.2.1 o.2.2.2.1 v_batch_namesTouched v_batch_open v_schema_classCount v_schema_fieldCount o.2.2.2.2) [.ref a_t, .int p1] o.1 sz := by
  refine ob_of (cc := bc_OB_make) (maxL := 2) (ret := (some .int)) (Qc := ObQi D (obT G) (cw_OB_make G a_t a_disk a_batch a_schema a_batch_image a_batch_image_classes a_indexes a_kept a_draftText a_questions a_reader a_judge a_latest a_schema_above a_schema_owners a_schema_kinds a_schema_targets a_batch_image_values a_batch_image_names v_questionCount o.2.1 v_everBegun v_disk_written v_disk_armed v_disk_half v_disk_logged v_disk_marked v_disk_down o.2.2.1 o.2.2.2.1 v_batch_namesTouched v_batch_open v_schema_classCount v_schema_fieldCount o.2.2.2.2) o.1) (by decide) rfl (Nat.le_of_ble_eq_true rfl) ?_
  intro p e s m below meth c A ls H locs hx hb hr hml hts hown hlk hnm hZ hP hK hD hA hS hl
  have hret : ∀ (o' : Int32 × Int32 × Int64 × Int64 × (Nat → Int32)) (H : Heap) (locs : List Loc) (pc : Nat) (ls : Array Slot), some o' = some o → va_P D vwCl (cw_OB_make G a_t a_disk a_batch a_schema a_batch_image a_batch_image_classes a_indexes a_kept a_draftText a_questions a_reader a_judge a_latest a_schema_above a_schema_owners a_schema_kinds a_schema_targets a_batch_image_values a_batch_image_names v_questionCount o'.2.1 v_everBegun v_disk_written v_disk_armed v_disk_half v_disk_logged v_disk_marked v_disk_down o'.2.2.1 o'.2.2.2.1 v_batch_namesTouched v_batch_open v_schema_classCount v_schema_fieldCount o'.2.2.2.2) H → va_D A (cw_OB_make G a_t a_disk a_batch a_schema a_batch_image a_batch_image_classes a_indexes a_kept a_draftText a_questions a_reader a_judge a_latest a_schema_above a_schema_owners a_schema_kinds a_schema_targets a_batch_image_values a_batch_image_names v_questionCount o'.2.1 v_everBegun v_disk_written v_disk_armed v_disk_half v_disk_logged v_disk_marked v_disk_down o'.2.2.1 o'.2.2.2.1 v_batch_namesTouched v_batch_open v_schema_classCount v_schema_fieldCount o'.2.2.2.2) → va_S A s.heap H locs → narrow .int (.int o'.1) = .int o'.1 → decode bc_OB_make pc = .ok (.ireturn, 1) → W p l e { frames := 2, cells := 0, slots := 0, locals := 42 } s m ([.ref a_t, .int p1] : List Value).toArray below meth c H locs 0 0 (MQ below (ObQi D (obT G) (cw_OB_make G a_t a_disk a_batch a_schema a_batch_image a_batch_image_classes a_indexes a_kept a_draftText a_questions a_reader a_judge a_latest a_schema_above a_schema_owners a_schema_kinds a_schema_targets a_batch_image_values a_batch_image_names v_questionCount o.2.1 v_everBegun v_disk_written v_disk_armed v_disk_half v_disk_logged v_disk_marked v_disk_down o.2.2.1 o.2.2.2.1 v_batch_namesTouched v_batch_open v_schema_classCount v_schema_fieldCount o.2.2.2.2) o.1 A) ([.ref a_t, .int p1] : List Value).toArray s 0 0 A) (F0 m pc ls [.int o'.1]) := by
    intro o' H locs pc ls he hP hD hS hn hd
    obtain rfl := Option.some.inj he
    exact ob_iret hx hb hr hlk hK hP hD hS hn hd
  generalize MQ below (ObQi D (obT G) (cw_OB_make G a_t a_disk a_batch a_schema a_batch_image a_batch_image_classes a_indexes a_kept a_draftText a_questions a_reader a_judge a_latest a_schema_above a_schema_owners a_schema_kinds a_schema_targets a_batch_image_values a_batch_image_names v_questionCount o.2.1 v_everBegun v_disk_written v_disk_armed v_disk_half v_disk_logged v_disk_marked v_disk_down o.2.2.1 o.2.2.2.1 v_batch_namesTouched v_batch_open v_schema_classCount v_schema_fieldCount o.2.2.2.2) o.1 A) ([.ref a_t, .int p1] : List Value).toArray s 0 0 A = Q at hret ⊢
  have hl : lv_has ls 2 [(0, .ref a_t), (1, .int p1)] := hl
  unfold f_OB_make at hf
  refine lv_aload_n hx hb d_OB_make_0 rfl (lv_at hl 0 rfl) ?_
  refine va_get (D := D) (ci := 0) (v := .ref a_disk) (C := "ObjectBase") (T := TC_OB) (N := 13) hx hb hts inC_OB hown hK hP 0 rfl rfl 2 (by decide) (hts _ tw234) (fun _ h9 => h9) rfl d_OB_make_1 ?_
  refine va_get (D := D) (ci := 3) (v := .int v_disk_down) (C := "ObjectBase$Disk") (T := TC_Disk) (N := 6) hx hb hts inC_Disk hown hK hP 1 rfl rfl 5 (by decide) (hts _ tw87) (fun _ h9 => h9) rfl d_OB_make_4 ?_
  refine lv_if_eq (tgt := 13) hx hb d_OB_make_7 (by decide) (fun hc7 => ?_) (fun hc7 => ?_)
  · have hf := ob_t hc7 hf
    refine lv_aload_n hx hb d_OB_make_13 rfl (lv_at hl 0 rfl) ?_
    refine va_get (D := D) (ci := 0) (v := .ref a_batch) (C := "ObjectBase") (T := TC_OB) (N := 13) hx hb hts inC_OB hown hK hP 0 rfl rfl 4 (by decide) (hts _ tw236) (fun _ h9 => h9) rfl d_OB_make_14 ?_
    refine va_get (D := D) (ci := 5) (v := .int v_batch_open) (C := "ObjectBase$Batch") (T := TC_Batch) (N := 5) hx hb hts inC_Batch hown hK hP 2 rfl rfl 4 (by decide) (hts _ tw138) (fun _ h9 => h9) rfl d_OB_make_17 ?_
    refine lv_if_eq (tgt := 43) hx hb d_OB_make_20 (by decide) (fun hc20 => ?_) (fun hc20 => ?_)
    · have hf := ob_t hc20 hf
      refine lv_iconst (v := (-1)) hx hb d_OB_make_43 (by decide) ?_
      exact hret ((-1), v_idsGiven, v_batch_known, v_batch_touched, v_batch_image_classes) H locs _ ls hf hP hD hS rfl d_OB_make_44
    · have hf := ob_f hc20 hf
      refine lv_aload_n hx hb d_OB_make_23 rfl (lv_at hl 0 rfl) ?_
      refine va_get (D := D) (ci := 0) (v := .ref a_schema) (C := "ObjectBase") (T := TC_OB) (N := 13) hx hb hts inC_OB hown hK hP 0 rfl rfl 0 (by decide) (hts _ tw232) (fun _ h9 => h9) rfl d_OB_make_24 ?_
      refine lv_iload_n hx hb d_OB_make_27 rfl (lv_at hl 1 rfl) ?_
      obtain ⟨o28, ho28, hf⟩ := ob_b hf
      have hRun := va_runV (R := ({ frames := 2, cells := 0, slots := 0, locals := 42 })) (locs := locs) (H := H) (l := l) (e := e) (below := below) (meth := meth) (cells := 0) (slots := 0) (g := F0 m 28 ls [.int p1, .ref a_schema]) (As := [.int p1]) (rest := []) ⟨hx, hb, hml, hown, hts⟩ (c_Schema_hasClass l D G a_schema a_schema_above a_schema_owners a_schema_kinds a_schema_targets v_schema_classCount v_schema_fieldCount p1 o28 ho28 H.size) (cwV 1 hts (gV tw276 tw277 tw278 tw2 tw279) rfl rfl rfl (by decide +kernel) ⟨Nat.le_of_ble_eq_true rfl, Nat.le_of_ble_eq_true rfl⟩) (ob_preV (q0 := 3) (ci := 1) hZ hK hP hD [3] rfl rfl rfl rfl rfl) rfl rfl hl.1 rfl (lv_room (Nat.le_of_ble_eq_true rfl)) d_OB_make_28 ⟨Nat.le_refl _, Nat.le_refl _⟩
      refine ob_calli (wc := (cw_Schema_hasClass G a_schema a_schema_above a_schema_owners a_schema_kinds a_schema_targets v_schema_classCount v_schema_fieldCount)) (wc1 := (cw_Schema_hasClass G a_schema a_schema_above a_schema_owners a_schema_kinds a_schema_targets v_schema_classCount v_schema_fieldCount)) (r := o28) (w2 := (cw_OB_make G a_t a_disk a_batch a_schema a_batch_image a_batch_image_classes a_indexes a_kept a_draftText a_questions a_reader a_judge a_latest a_schema_above a_schema_owners a_schema_kinds a_schema_targets a_batch_image_values a_batch_image_names v_questionCount v_idsGiven v_everBegun v_disk_written v_disk_armed v_disk_half v_disk_logged v_disk_marked v_disk_down v_batch_known v_batch_touched v_batch_namesTouched v_batch_open v_schema_classCount v_schema_fieldCount v_batch_image_classes)) hRun hP hD hA hS [3] rfl rfl rfl rfl (fun H locs hP hD hS => ?_)
      clear hRun
      refine lv_if_eq (tgt := 43) hx hb d_OB_make_31 (by decide) (fun hc31 => ?_) (fun hc31 => ?_)
      · have hf := ob_t hc31 hf
        refine lv_iconst (v := (-1)) hx hb d_OB_make_43 (by decide) ?_
        exact hret ((-1), v_idsGiven, v_batch_known, v_batch_touched, v_batch_image_classes) H locs _ ls hf hP hD hS rfl d_OB_make_44
      · have hf := ob_f hc31 hf
        refine lv_aload_n hx hb d_OB_make_34 rfl (lv_at hl 0 rfl) ?_
        refine va_get (D := D) (ci := 0) (v := .int v_idsGiven) (C := "ObjectBase") (T := TC_OB) (N := 13) hx hb hts inC_OB hown hK hP 0 rfl rfl 11 (by decide) (hts _ tw243) (fun _ h9 => h9) rfl d_OB_make_35 ?_
        refine lv_bipush (v := 62) hx hb d_OB_make_38 (by decide) ?_
        refine lv_icmp_ne (tgt := 45) hx hb d_OB_make_40 (by decide) (fun hc40 => ?_) (fun hc40 => ?_)
        · have hf := ob_f hc40 hf
          refine lv_aload_n hx hb d_OB_make_45 rfl (lv_at hl 0 rfl) ?_
          refine lv_dup hx hb d_OB_make_46 rfl ?_
          refine va_get (D := D) (ci := 0) (v := .int v_idsGiven) (C := "ObjectBase") (T := TC_OB) (N := 13) hx hb hts inC_OB hown hK hP 0 rfl rfl 11 (by decide) (hts _ tw243) (fun _ h9 => h9) rfl d_OB_make_47 ?_
          refine lv_iconst (v := 1) hx hb d_OB_make_50 (by decide) ?_
          refine lv_iadd hx hb d_OB_make_51 ?_
          refine va_put (D := D) (ci := 0) (v := .int (v_idsGiven + 1)) (ty := .int) (C := "ObjectBase") (T := TC_OB) (N := 13) hx hb hts inC_OB tyC_OB tyC_OB_ok nmC_OB hown hK hP hD hS 0 rfl rfl 11 (by decide) (hts _ tw243) (fun _ h9 => h9) rfl (by decide +kernel) rfl rfl (Nat.le_of_ble_eq_true rfl) d_OB_make_52 (fun H locs hP hD hS => ?_)
          have hP : va_P D vwCl (cw_OB_make G a_t a_disk a_batch a_schema a_batch_image a_batch_image_classes a_indexes a_kept a_draftText a_questions a_reader a_judge a_latest a_schema_above a_schema_owners a_schema_kinds a_schema_targets a_batch_image_values a_batch_image_names v_questionCount (v_idsGiven + 1) v_everBegun v_disk_written v_disk_armed v_disk_half v_disk_logged v_disk_marked v_disk_down v_batch_known v_batch_touched v_batch_namesTouched v_batch_open v_schema_classCount v_schema_fieldCount v_batch_image_classes) H := hP
          have hD : va_D A (cw_OB_make G a_t a_disk a_batch a_schema a_batch_image a_batch_image_classes a_indexes a_kept a_draftText a_questions a_reader a_judge a_latest a_schema_above a_schema_owners a_schema_kinds a_schema_targets a_batch_image_values a_batch_image_names v_questionCount (v_idsGiven + 1) v_everBegun v_disk_written v_disk_armed v_disk_half v_disk_logged v_disk_marked v_disk_down v_batch_known v_batch_touched v_batch_namesTouched v_batch_open v_schema_classCount v_schema_fieldCount v_batch_image_classes) := hD
          refine lv_aload_n hx hb d_OB_make_55 rfl (lv_at hl 0 rfl) ?_
          refine va_get (D := D) (ci := 0) (v := .ref a_batch) (C := "ObjectBase") (T := TC_OB) (N := 13) hx hb hts inC_OB hown hK hP 0 rfl rfl 4 (by decide) (hts _ tw236) (fun _ h9 => h9) rfl d_OB_make_56 ?_
          refine lv_aload_n hx hb d_OB_make_59 rfl (lv_at hl 0 rfl) ?_
          refine va_get (D := D) (ci := 0) (v := .int (v_idsGiven + 1)) (C := "ObjectBase") (T := TC_OB) (N := 13) hx hb hts inC_OB hown hK hP 0 rfl rfl 11 (by decide) (hts _ tw243) (fun _ h9 => h9) rfl d_OB_make_60 ?_
          refine lv_iload_n hx hb d_OB_make_63 rfl (lv_at hl 1 rfl) ?_
          obtain ⟨o64, ho64, hf⟩ := ob_b hf
          have hRun := va_runV (R := ({ frames := 2, cells := 0, slots := 0, locals := 42 })) (locs := locs) (H := H) (l := l) (e := e) (below := below) (meth := meth) (cells := 0) (slots := 0) (g := F0 m 64 ls [.int p1, .int (v_idsGiven + 1), .ref a_batch]) (As := [.int (v_idsGiven + 1), .int p1]) (rest := []) ⟨hx, hb, hml, hown, hts⟩ (c_Batch_addObject l D G a_batch a_batch_image a_batch_image_classes a_batch_image_values a_batch_image_names v_batch_known v_batch_touched v_batch_namesTouched v_batch_open v_batch_image_classes (v_idsGiven + 1) p1 o64 ho64 H.size) (cwV 2 hts (gV tw350 tw351 tw352 tw6 tw353) rfl rfl rfl (by decide +kernel) ⟨Nat.le_of_ble_eq_true rfl, Nat.le_of_ble_eq_true rfl⟩) (ob_preV (q0 := 2) (ci := 5) hZ hK hP hD [2, 4, 5] rfl rfl rfl rfl rfl) rfl rfl hl.1 rfl (lv_room (Nat.le_of_ble_eq_true rfl)) d_OB_make_64 ⟨Nat.le_refl _, Nat.le_refl _⟩
          refine ob_callv (wc := (cw_Batch_addObject G a_batch a_batch_image a_batch_image_classes a_batch_image_values a_batch_image_names v_batch_known v_batch_touched v_batch_namesTouched v_batch_open v_batch_image_classes)) (wc1 := (cw_Batch_addObject G a_batch a_batch_image a_batch_image_classes a_batch_image_values a_batch_image_names o64.1 o64.2.1 v_batch_namesTouched v_batch_open o64.2.2)) (w2 := (cw_OB_make G a_t a_disk a_batch a_schema a_batch_image a_batch_image_classes a_indexes a_kept a_draftText a_questions a_reader a_judge a_latest a_schema_above a_schema_owners a_schema_kinds a_schema_targets a_batch_image_values a_batch_image_names v_questionCount (v_idsGiven + 1) v_everBegun v_disk_written v_disk_armed v_disk_half v_disk_logged v_disk_marked v_disk_down o64.1 o64.2.1 v_batch_namesTouched v_batch_open v_schema_classCount v_schema_fieldCount o64.2.2)) hRun hP hD hA hS [2, 4, 5] rfl rfl rfl rfl (fun H locs hP hD hS => ?_)
          clear hRun
          refine lv_aload_n hx hb d_OB_make_67 rfl (lv_at hl 0 rfl) ?_
          refine va_get (D := D) (ci := 0) (v := .int (v_idsGiven + 1)) (C := "ObjectBase") (T := TC_OB) (N := 13) hx hb hts inC_OB hown hK hP 0 rfl rfl 11 (by decide) (hts _ tw243) (fun _ h9 => h9) rfl d_OB_make_68 ?_
          exact hret (v_idsGiven + 1, v_idsGiven + 1, o64.1, o64.2.1, o64.2.2) H locs _ ls hf hP hD hS rfl d_OB_make_71
        · have hf := ob_t hc40 hf
          refine lv_iconst (v := (-1)) hx hb d_OB_make_43 (by decide) ?_
          exact hret ((-1), v_idsGiven, v_batch_known, v_batch_touched, v_batch_image_classes) H locs _ ls hf hP hD hS rfl d_OB_make_44
  · have hf := ob_f hc7 hf
    refine lv_bipush (v := (-4)) hx hb d_OB_make_10 (by decide) ?_
    exact hret ((-4), v_idsGiven, v_batch_known, v_batch_touched, v_batch_image_classes) H locs _ ls hf hP hD hS rfl d_OB_make_12
abbrev bc_OB_name : ByteArray := prog_1_method_10_code
abbrev y_OB_name : MethodName := ⟨"ObjectBase", "name", "(II)Z"⟩
def ws_OB_name : List Cond := .code y_OB_name bc_OB_name 3 (some .boolean) :: obW
theorem d_OB_name_0 : decode bc_OB_name 0 = .ok (.aload_n 0, 1) := by decide +kernel
theorem d_OB_name_1 : decode bc_OB_name 1 = .ok (.getfield 28, 3) := by decide +kernel
theorem d_OB_name_4 : decode bc_OB_name 4 = .ok (.getfield 84, 3) := by decide +kernel
theorem d_OB_name_7 : decode bc_OB_name 7 = .ok (.ifCond .ne 20, 3) := by decide +kernel
theorem d_OB_name_10 : decode bc_OB_name 10 = .ok (.aload_n 0, 1) := by decide +kernel
theorem d_OB_name_11 : decode bc_OB_name 11 = .ok (.getfield 42, 3) := by decide +kernel
theorem d_OB_name_14 : decode bc_OB_name 14 = .ok (.getfield 110, 3) := by decide +kernel
theorem d_OB_name_17 : decode bc_OB_name 17 = .ok (.ifCond .eq 10, 3) := by decide +kernel
theorem d_OB_name_20 : decode bc_OB_name 20 = .ok (.iload_n 1, 1) := by decide +kernel
theorem d_OB_name_21 : decode bc_OB_name 21 = .ok (.invokestatic 164, 3) := by decide +kernel
theorem d_OB_name_24 : decode bc_OB_name 24 = .ok (.ifCond .ne 5, 3) := by decide +kernel
theorem d_OB_name_27 : decode bc_OB_name 27 = .ok (.iconst 0, 1) := by decide +kernel
theorem d_OB_name_28 : decode bc_OB_name 28 = .ok (.ireturn, 1) := by decide +kernel
theorem d_OB_name_29 : decode bc_OB_name 29 = .ok (.iload_n 2, 1) := by decide +kernel
theorem d_OB_name_30 : decode bc_OB_name 30 = .ok (.ifCond .eq 19, 3) := by decide +kernel
theorem d_OB_name_33 : decode bc_OB_name 33 = .ok (.aload_n 0, 1) := by decide +kernel
theorem d_OB_name_34 : decode bc_OB_name 34 = .ok (.getfield 42, 3) := by decide +kernel
theorem d_OB_name_37 : decode bc_OB_name 37 = .ok (.getfield 167, 3) := by decide +kernel
theorem d_OB_name_40 : decode bc_OB_name 40 = .ok (.iload_n 2, 1) := by decide +kernel
theorem d_OB_name_41 : decode bc_OB_name 41 = .ok (.invokestatic 171, 3) := by decide +kernel
theorem d_OB_name_44 : decode bc_OB_name 44 = .ok (.ifCond .ne 5, 3) := by decide +kernel
theorem d_OB_name_47 : decode bc_OB_name 47 = .ok (.iconst 0, 1) := by decide +kernel
theorem d_OB_name_48 : decode bc_OB_name 48 = .ok (.ireturn, 1) := by decide +kernel
theorem d_OB_name_49 : decode bc_OB_name 49 = .ok (.aload_n 0, 1) := by decide +kernel
theorem d_OB_name_50 : decode bc_OB_name 50 = .ok (.getfield 42, 3) := by decide +kernel
theorem d_OB_name_53 : decode bc_OB_name 53 = .ok (.iload_n 1, 1) := by decide +kernel
theorem d_OB_name_54 : decode bc_OB_name 54 = .ok (.iload_n 2, 1) := by decide +kernel
theorem d_OB_name_55 : decode bc_OB_name 55 = .ok (.invokevirtual 175, 3) := by decide +kernel
theorem d_OB_name_58 : decode bc_OB_name 58 = .ok (.iconst 1, 1) := by decide +kernel
theorem d_OB_name_59 : decode bc_OB_name 59 = .ok (.ireturn, 1) := by decide +kernel
def cw_OB_name (G : Nat → ClassId) (a_t a_disk a_batch a_batch_image a_batch_image_names a_schema a_indexes a_kept a_draftText a_questions a_reader a_judge a_latest a_batch_image_classes a_batch_image_values : Nat) (v_questionCount : Int32) (v_idsGiven : Int32) (v_everBegun : Int32) (v_disk_written : Int32) (v_disk_armed : Int32) (v_disk_half : Int32) (v_disk_logged : Int32) (v_disk_marked : Int32) (v_disk_down : Int32) (v_batch_known : Int64) (v_batch_touched : Int64) (v_batch_namesTouched : Int32) (v_batch_open : Int32) (v_batch_image_names : Nat → Int32) : va_W := [(a_t, .inr (0, [.ref a_schema, .ref a_indexes, .ref a_disk, .ref a_kept, .ref a_batch, .ref a_draftText, .ref a_questions, .ref a_reader, .ref a_judge, .ref a_latest, .int v_questionCount, .int v_idsGiven, .int v_everBegun])), (a_disk, .inr (3, [.int v_disk_written, .int v_disk_armed, .int v_disk_half, .int v_disk_logged, .int v_disk_marked, .int v_disk_down])), (a_batch, .inr (5, [.ref a_batch_image, .long v_batch_known, .long v_batch_touched, .int v_batch_namesTouched, .int v_batch_open])), (a_batch_image, .inr (4, [.ref a_batch_image_classes, .ref a_batch_image_values, .ref a_batch_image_names])), (a_batch_image_names, .inl (G 0, 4, .inl v_batch_image_names))]
def f_OB_name_J49 (p1 : Int32) (p2 : Int32) (v_batch_namesTouched_49 : Int32) (v_batch_image_names_49 : Nat → Int32) : Option (Int32 × Int32 × (Nat → Int32)) := (f_Batch_setName v_batch_image_names_49 p1 p2).bind fun o55 => (some (1, o55.1, o55.2))
def f_OB_name (v_disk_down : Int32) (v_batch_known : Int64) (v_batch_namesTouched : Int32) (v_batch_open : Int32) (v_batch_image_names : Nat → Int32) (p1 : Int32) (p2 : Int32) : Option (Int32 × Int32 × (Nat → Int32)) := if v_disk_down = 0 then (if v_batch_open = 0 then (some (0, v_batch_namesTouched, v_batch_image_names)) else ((f_OB_isName p1).bind fun o21 => (if o21 = 0 then (some (0, v_batch_namesTouched, v_batch_image_names)) else (if p2 = 0 then (f_OB_name_J49 p1 p2 v_batch_namesTouched v_batch_image_names) else ((f_OB_contains v_batch_known p2).bind fun o41 => (if o41 = 0 then (some (0, v_batch_namesTouched, v_batch_image_names)) else (f_OB_name_J49 p1 p2 v_batch_namesTouched v_batch_image_names))))))) else (some (0, v_batch_namesTouched, v_batch_image_names))
set_option maxHeartbeats 4000000 in
set_option maxRecDepth 100000 in
theorem c_OB_name (l : Launch) (D : va_G) (G : Nat → ClassId) (a_t a_disk a_batch a_batch_image a_batch_image_names a_schema a_indexes a_kept a_draftText a_questions a_reader a_judge a_latest a_batch_image_classes a_batch_image_values : Nat) (v_questionCount : Int32) (v_idsGiven : Int32) (v_everBegun : Int32) (v_disk_written : Int32) (v_disk_armed : Int32) (v_disk_half : Int32) (v_disk_logged : Int32) (v_disk_marked : Int32) (v_disk_down : Int32) (v_batch_known : Int64) (v_batch_touched : Int64) (v_batch_namesTouched : Int32) (v_batch_open : Int32) (v_batch_image_names : Nat → Int32) (p1 : Int32) (p2 : Int32) (o : Int32 × Int32 × (Nat → Int32)) (hf : f_OB_name v_disk_down v_batch_known v_batch_namesTouched v_batch_open v_batch_image_names p1 p2 = some o) (sz : Nat) : MetI l y_OB_name ws_OB_name ({ frames := 1, cells := 0, slots := 0, locals := 22 }) D (obT G) (cw_OB_name G a_t a_disk a_batch a_batch_image a_batch_image_names a_schema a_indexes a_kept a_draftText a_questions a_reader a_judge a_latest a_batch_image_classes a_batch_image_values v_questionCount v_idsGiven v_everBegun v_disk_written v_disk_armed v_disk_half v_disk_logged v_disk_marked v_disk_down v_batch_known v_batch_touched v_batch_namesTouched v_batch_open v_batch_image_names) (cw_OB_name G a_t a_disk a_batch a_batch_image a_batch_image_names a_schema a_indexes a_kept a_draftText a_questions a_reader a_judge a_latest a_batch_image_classes a_batch_image_values v_questionCount v_idsGiven v_everBegun v_disk_written v_disk_armed v_disk_half v_disk_logged v_disk_marked v_disk_down v_batch_known v_batch_touched o.2.1 v_batch_open o.2.2) [.ref a_t, .int p1, .int p2] o.1 sz := by
  refine ob_of (cc := bc_OB_name) (maxL := 3) (ret := (some .boolean)) (Qc := ObQi D (obT G) (cw_OB_name G a_t a_disk a_batch a_batch_image a_batch_image_names a_schema a_indexes a_kept a_draftText a_questions a_reader a_judge a_latest a_batch_image_classes a_batch_image_values v_questionCount v_idsGiven v_everBegun v_disk_written v_disk_armed v_disk_half v_disk_logged v_disk_marked v_disk_down v_batch_known v_batch_touched o.2.1 v_batch_open o.2.2) o.1) (by decide) rfl (Nat.le_of_ble_eq_true rfl) ?_
  intro p e s m below meth c A ls H locs hx hb hr hml hts hown hlk hnm hZ hP hK hD hA hS hl
  have hret : ∀ (o' : Int32 × Int32 × (Nat → Int32)) (H : Heap) (locs : List Loc) (pc : Nat) (ls : Array Slot), some o' = some o → va_P D vwCl (cw_OB_name G a_t a_disk a_batch a_batch_image a_batch_image_names a_schema a_indexes a_kept a_draftText a_questions a_reader a_judge a_latest a_batch_image_classes a_batch_image_values v_questionCount v_idsGiven v_everBegun v_disk_written v_disk_armed v_disk_half v_disk_logged v_disk_marked v_disk_down v_batch_known v_batch_touched o'.2.1 v_batch_open o'.2.2) H → va_D A (cw_OB_name G a_t a_disk a_batch a_batch_image a_batch_image_names a_schema a_indexes a_kept a_draftText a_questions a_reader a_judge a_latest a_batch_image_classes a_batch_image_values v_questionCount v_idsGiven v_everBegun v_disk_written v_disk_armed v_disk_half v_disk_logged v_disk_marked v_disk_down v_batch_known v_batch_touched o'.2.1 v_batch_open o'.2.2) → va_S A s.heap H locs → narrow .boolean (.int o'.1) = .int o'.1 → decode bc_OB_name pc = .ok (.ireturn, 1) → W p l e { frames := 1, cells := 0, slots := 0, locals := 22 } s m ([.ref a_t, .int p1, .int p2] : List Value).toArray below meth c H locs 0 0 (MQ below (ObQi D (obT G) (cw_OB_name G a_t a_disk a_batch a_batch_image a_batch_image_names a_schema a_indexes a_kept a_draftText a_questions a_reader a_judge a_latest a_batch_image_classes a_batch_image_values v_questionCount v_idsGiven v_everBegun v_disk_written v_disk_armed v_disk_half v_disk_logged v_disk_marked v_disk_down v_batch_known v_batch_touched o.2.1 v_batch_open o.2.2) o.1 A) ([.ref a_t, .int p1, .int p2] : List Value).toArray s 0 0 A) (F0 m pc ls [.int o'.1]) := by
    intro o' H locs pc ls he hP hD hS hn hd
    obtain rfl := Option.some.inj he
    exact ob_iret hx hb hr hlk hK hP hD hS hn hd
  generalize MQ below (ObQi D (obT G) (cw_OB_name G a_t a_disk a_batch a_batch_image a_batch_image_names a_schema a_indexes a_kept a_draftText a_questions a_reader a_judge a_latest a_batch_image_classes a_batch_image_values v_questionCount v_idsGiven v_everBegun v_disk_written v_disk_armed v_disk_half v_disk_logged v_disk_marked v_disk_down v_batch_known v_batch_touched o.2.1 v_batch_open o.2.2) o.1 A) ([.ref a_t, .int p1, .int p2] : List Value).toArray s 0 0 A = Q at hret ⊢
  have hl : lv_has ls 3 [(0, .ref a_t), (1, .int p1), (2, .int p2)] := hl
  unfold f_OB_name at hf
  have blk49 : ∀ (v_batch_namesTouched_49 : Int32) (v_batch_image_names_49 : Nat → Int32) (ls : Array Slot) (H : Heap) (locs : List Loc), lv_has ls 3 [(0, .ref a_t), (1, .int p1), (2, .int p2)] → va_P D vwCl (cw_OB_name G a_t a_disk a_batch a_batch_image a_batch_image_names a_schema a_indexes a_kept a_draftText a_questions a_reader a_judge a_latest a_batch_image_classes a_batch_image_values v_questionCount v_idsGiven v_everBegun v_disk_written v_disk_armed v_disk_half v_disk_logged v_disk_marked v_disk_down v_batch_known v_batch_touched v_batch_namesTouched_49 v_batch_open v_batch_image_names_49) H → va_D A (cw_OB_name G a_t a_disk a_batch a_batch_image a_batch_image_names a_schema a_indexes a_kept a_draftText a_questions a_reader a_judge a_latest a_batch_image_classes a_batch_image_values v_questionCount v_idsGiven v_everBegun v_disk_written v_disk_armed v_disk_half v_disk_logged v_disk_marked v_disk_down v_batch_known v_batch_touched v_batch_namesTouched_49 v_batch_open v_batch_image_names_49) → va_S A s.heap H locs → f_OB_name_J49 p1 p2 v_batch_namesTouched_49 v_batch_image_names_49 = some o → W p l e ({ frames := 1, cells := 0, slots := 0, locals := 22 }) s m ([.ref a_t, .int p1, .int p2] : List Value).toArray below meth c H locs 0 0 Q (F0 m 49 ls []) := by
    intro v_batch_namesTouched_49 v_batch_image_names_49 ls H locs hl hP hD hS hf
    unfold f_OB_name_J49 at hf
    refine lv_aload_n hx hb d_OB_name_49 rfl (lv_at hl 0 rfl) ?_
    refine va_get (D := D) (ci := 0) (v := .ref a_batch) (C := "ObjectBase") (T := TC_OB) (N := 13) hx hb hts inC_OB hown hK hP 0 rfl rfl 4 (by decide) (hts _ tw236) (fun _ h9 => h9) rfl d_OB_name_50 ?_
    refine lv_iload_n hx hb d_OB_name_53 rfl (lv_at hl 1 rfl) ?_
    refine lv_iload_n hx hb d_OB_name_54 rfl (lv_at hl 2 rfl) ?_
    obtain ⟨o55, ho55, hf⟩ := ob_b hf
    have hRun := va_runV (R := ({ frames := 1, cells := 0, slots := 0, locals := 22 })) (locs := locs) (H := H) (l := l) (e := e) (below := below) (meth := meth) (cells := 0) (slots := 0) (g := F0 m 55 ls [.int p2, .int p1, .ref a_batch]) (As := [.int p1, .int p2]) (rest := []) ⟨hx, hb, hml, hown, hts⟩ (c_Batch_setName l D G a_batch a_batch_image a_batch_image_names a_batch_image_classes a_batch_image_values v_batch_known v_batch_touched v_batch_namesTouched_49 v_batch_open v_batch_image_names_49 p1 p2 o55 ho55 H.size) (cwV 2 hts (gV tw399 tw400 tw401 tw6 tw402) rfl rfl rfl (by decide +kernel) ⟨Nat.le_of_ble_eq_true rfl, Nat.le_of_ble_eq_true rfl⟩) (ob_preV (q0 := 2) (ci := 5) hZ hK hP hD [2, 3, 4] rfl rfl rfl rfl rfl) rfl rfl hl.1 rfl (lv_room (Nat.le_of_ble_eq_true rfl)) d_OB_name_55 ⟨Nat.le_refl _, Nat.le_refl _⟩
    refine ob_callv (wc := (cw_Batch_setName G a_batch a_batch_image a_batch_image_names a_batch_image_classes a_batch_image_values v_batch_known v_batch_touched v_batch_namesTouched_49 v_batch_open v_batch_image_names_49)) (wc1 := (cw_Batch_setName G a_batch a_batch_image a_batch_image_names a_batch_image_classes a_batch_image_values v_batch_known v_batch_touched o55.1 v_batch_open o55.2)) (w2 := (cw_OB_name G a_t a_disk a_batch a_batch_image a_batch_image_names a_schema a_indexes a_kept a_draftText a_questions a_reader a_judge a_latest a_batch_image_classes a_batch_image_values v_questionCount v_idsGiven v_everBegun v_disk_written v_disk_armed v_disk_half v_disk_logged v_disk_marked v_disk_down v_batch_known v_batch_touched o55.1 v_batch_open o55.2)) hRun hP hD hA hS [2, 3, 4] rfl rfl rfl rfl (fun H locs hP hD hS => ?_)
    clear hRun
    refine lv_iconst (v := 1) hx hb d_OB_name_58 (by decide) ?_
    exact hret (1, o55.1, o55.2) H locs _ ls hf hP hD hS narrow_b1 d_OB_name_59
  refine lv_aload_n hx hb d_OB_name_0 rfl (lv_at hl 0 rfl) ?_
  refine va_get (D := D) (ci := 0) (v := .ref a_disk) (C := "ObjectBase") (T := TC_OB) (N := 13) hx hb hts inC_OB hown hK hP 0 rfl rfl 2 (by decide) (hts _ tw234) (fun _ h9 => h9) rfl d_OB_name_1 ?_
  refine va_get (D := D) (ci := 3) (v := .int v_disk_down) (C := "ObjectBase$Disk") (T := TC_Disk) (N := 6) hx hb hts inC_Disk hown hK hP 1 rfl rfl 5 (by decide) (hts _ tw87) (fun _ h9 => h9) rfl d_OB_name_4 ?_
  refine lv_if_ne (tgt := 27) hx hb d_OB_name_7 (by decide) (fun hc7 => ?_) (fun hc7 => ?_)
  · have hf := ob_f hc7 hf
    refine lv_iconst (v := 0) hx hb d_OB_name_27 (by decide) ?_
    exact hret (0, v_batch_namesTouched, v_batch_image_names) H locs _ ls hf hP hD hS narrow_b0 d_OB_name_28
  · have hf := ob_t hc7 hf
    refine lv_aload_n hx hb d_OB_name_10 rfl (lv_at hl 0 rfl) ?_
    refine va_get (D := D) (ci := 0) (v := .ref a_batch) (C := "ObjectBase") (T := TC_OB) (N := 13) hx hb hts inC_OB hown hK hP 0 rfl rfl 4 (by decide) (hts _ tw236) (fun _ h9 => h9) rfl d_OB_name_11 ?_
    refine va_get (D := D) (ci := 5) (v := .int v_batch_open) (C := "ObjectBase$Batch") (T := TC_Batch) (N := 5) hx hb hts inC_Batch hown hK hP 2 rfl rfl 4 (by decide) (hts _ tw138) (fun _ h9 => h9) rfl d_OB_name_14 ?_
    refine lv_if_eq (tgt := 27) hx hb d_OB_name_17 (by decide) (fun hc17 => ?_) (fun hc17 => ?_)
    · have hf := ob_t hc17 hf
      refine lv_iconst (v := 0) hx hb d_OB_name_27 (by decide) ?_
      exact hret (0, v_batch_namesTouched, v_batch_image_names) H locs _ ls hf hP hD hS narrow_b0 d_OB_name_28
    · have hf := ob_f hc17 hf
      refine lv_iload_n hx hb d_OB_name_20 rfl (lv_at hl 1 rfl) ?_
      obtain ⟨o21, ho21, hf⟩ := ob_b hf
      have hRun := va_runS (R := ({ frames := 1, cells := 0, slots := 0, locals := 22 })) (locs := locs) (H := H) (l := l) (e := e) (below := below) (meth := meth) (cells := 0) (slots := 0) (g := F0 m 21 ls [.int p1]) (As := [.int p1]) (rest := []) ⟨hx, hb, hml, hown, hts⟩ (c_OB_isName l D G  p1 o21 ho21 H.size) (va_cwS 1 hts (gS tw396 tw397 tw1 tw398) rfl rfl rfl (by decide +kernel) ⟨Nat.le_of_ble_eq_true rfl, Nat.le_of_ble_eq_true rfl⟩) (ob_preS hZ hK hP hD [] rfl rfl) rfl rfl hl.1 rfl (lv_room (Nat.le_of_ble_eq_true rfl)) d_OB_name_21 ⟨Nat.le_refl _, Nat.le_refl _⟩
      refine ob_calli (wc := (cw_OB_isName G )) (wc1 := (cw_OB_isName G )) (r := o21) (w2 := (cw_OB_name G a_t a_disk a_batch a_batch_image a_batch_image_names a_schema a_indexes a_kept a_draftText a_questions a_reader a_judge a_latest a_batch_image_classes a_batch_image_values v_questionCount v_idsGiven v_everBegun v_disk_written v_disk_armed v_disk_half v_disk_logged v_disk_marked v_disk_down v_batch_known v_batch_touched v_batch_namesTouched v_batch_open v_batch_image_names)) hRun hP hD hA hS [] rfl rfl rfl rfl (fun H locs hP hD hS => ?_)
      clear hRun
      refine lv_if_ne (tgt := 29) hx hb d_OB_name_24 (by decide) (fun hc24 => ?_) (fun hc24 => ?_)
      · have hf := ob_f hc24 hf
        refine lv_iload_n hx hb d_OB_name_29 rfl (lv_at hl 2 rfl) ?_
        refine lv_if_eq (tgt := 49) hx hb d_OB_name_30 (by decide) (fun hc30 => ?_) (fun hc30 => ?_)
        · have hf := ob_t hc30 hf
          exact blk49 v_batch_namesTouched v_batch_image_names ls H locs (lv_sub hl [0, 1, 2] rfl) hP hD hS hf
        · have hf := ob_f hc30 hf
          refine lv_aload_n hx hb d_OB_name_33 rfl (lv_at hl 0 rfl) ?_
          refine va_get (D := D) (ci := 0) (v := .ref a_batch) (C := "ObjectBase") (T := TC_OB) (N := 13) hx hb hts inC_OB hown hK hP 0 rfl rfl 4 (by decide) (hts _ tw236) (fun _ h9 => h9) rfl d_OB_name_34 ?_
          refine va_get (D := D) (ci := 5) (v := .long v_batch_known) (C := "ObjectBase$Batch") (T := TC_Batch) (N := 5) hx hb hts inC_Batch hown hK hP 2 rfl rfl 1 (by decide) (hts _ tw134) (fun _ h9 => h9) rfl d_OB_name_37 ?_
          refine lv_iload_n hx hb d_OB_name_40 rfl (lv_at hl 2 rfl) ?_
          obtain ⟨o41, ho41, hf⟩ := ob_b hf
          have hRun := va_runS (R := ({ frames := 1, cells := 0, slots := 0, locals := 22 })) (locs := locs) (H := H) (l := l) (e := e) (below := below) (meth := meth) (cells := 0) (slots := 0) (g := F0 m 41 ls [.int p2, .long v_batch_known]) (As := [.long v_batch_known, .int p2]) (rest := []) ⟨hx, hb, hml, hown, hts⟩ (c_OB_contains l D G  v_batch_known p2 o41 ho41 H.size) (va_cwS 2 hts (gS tw363 tw325 tw1 tw326) rfl rfl rfl (by decide +kernel) ⟨Nat.le_of_ble_eq_true rfl, Nat.le_of_ble_eq_true rfl⟩) (ob_preS hZ hK hP hD [] rfl rfl) rfl rfl hl.1 rfl (lv_room (Nat.le_of_ble_eq_true rfl)) d_OB_name_41 ⟨Nat.le_refl _, Nat.le_refl _⟩
          refine ob_calli (wc := (cw_OB_contains G )) (wc1 := (cw_OB_contains G )) (r := o41) (w2 := (cw_OB_name G a_t a_disk a_batch a_batch_image a_batch_image_names a_schema a_indexes a_kept a_draftText a_questions a_reader a_judge a_latest a_batch_image_classes a_batch_image_values v_questionCount v_idsGiven v_everBegun v_disk_written v_disk_armed v_disk_half v_disk_logged v_disk_marked v_disk_down v_batch_known v_batch_touched v_batch_namesTouched v_batch_open v_batch_image_names)) hRun hP hD hA hS [] rfl rfl rfl rfl (fun H locs hP hD hS => ?_)
          clear hRun
          refine lv_if_ne (tgt := 49) hx hb d_OB_name_44 (by decide) (fun hc44 => ?_) (fun hc44 => ?_)
          · have hf := ob_f hc44 hf
            exact blk49 v_batch_namesTouched v_batch_image_names ls H locs (lv_sub hl [0, 1, 2] rfl) hP hD hS hf
          · have hf := ob_t hc44 hf
            refine lv_iconst (v := 0) hx hb d_OB_name_47 (by decide) ?_
            exact hret (0, v_batch_namesTouched, v_batch_image_names) H locs _ ls hf hP hD hS narrow_b0 d_OB_name_48
      · have hf := ob_t hc24 hf
        refine lv_iconst (v := 0) hx hb d_OB_name_27 (by decide) ?_
        exact hret (0, v_batch_namesTouched, v_batch_image_names) H locs _ ls hf hP hD hS narrow_b0 d_OB_name_28
abbrev bc_OB_recover : ByteArray := prog_1_method_16_code
abbrev y_OB_recover : MethodName := ⟨"ObjectBase", "recover", "()I"⟩
def ws_OB_recover : List Cond := .code y_OB_recover bc_OB_recover 1 (some .int) :: obW
theorem d_OB_recover_0 : decode bc_OB_recover 0 = .ok (.aload_n 0, 1) := by decide +kernel
theorem d_OB_recover_1 : decode bc_OB_recover 1 = .ok (.getfield 28, 3) := by decide +kernel
theorem d_OB_recover_4 : decode bc_OB_recover 4 = .ok (.getfield 84, 3) := by decide +kernel
theorem d_OB_recover_7 : decode bc_OB_recover 7 = .ok (.ifCond .ne 5, 3) := by decide +kernel
theorem d_OB_recover_10 : decode bc_OB_recover 10 = .ok (.iconst (-1), 1) := by decide +kernel
theorem d_OB_recover_11 : decode bc_OB_recover 11 = .ok (.ireturn, 1) := by decide +kernel
theorem d_OB_recover_12 : decode bc_OB_recover 12 = .ok (.aload_n 0, 1) := by decide +kernel
theorem d_OB_recover_13 : decode bc_OB_recover 13 = .ok (.getfield 28, 3) := by decide +kernel
theorem d_OB_recover_16 : decode bc_OB_recover 16 = .ok (.invokevirtual 215, 3) := by decide +kernel
theorem d_OB_recover_19 : decode bc_OB_recover 19 = .ok (.ifCond .eq 7, 3) := by decide +kernel
theorem d_OB_recover_22 : decode bc_OB_recover 22 = .ok (.iconst 1, 1) := by decide +kernel
theorem d_OB_recover_23 : decode bc_OB_recover 23 = .ok (.goto 4, 3) := by decide +kernel
theorem d_OB_recover_26 : decode bc_OB_recover 26 = .ok (.iconst 0, 1) := by decide +kernel
theorem d_OB_recover_27 : decode bc_OB_recover 27 = .ok (.ireturn, 1) := by decide +kernel
def cw_OB_recover (G : Nat → ClassId) (a_t a_disk a_schema a_indexes a_kept a_batch a_draftText a_questions a_reader a_judge a_latest : Nat) (v_questionCount : Int32) (v_idsGiven : Int32) (v_everBegun : Int32) (v_disk_written : Int32) (v_disk_armed : Int32) (v_disk_half : Int32) (v_disk_logged : Int32) (v_disk_marked : Int32) (v_disk_down : Int32) : va_W := [(a_t, .inr (0, [.ref a_schema, .ref a_indexes, .ref a_disk, .ref a_kept, .ref a_batch, .ref a_draftText, .ref a_questions, .ref a_reader, .ref a_judge, .ref a_latest, .int v_questionCount, .int v_idsGiven, .int v_everBegun])), (a_disk, .inr (3, [.int v_disk_written, .int v_disk_armed, .int v_disk_half, .int v_disk_logged, .int v_disk_marked, .int v_disk_down]))]
def f_OB_recover (v_disk_written : Int32) (v_disk_armed : Int32) (v_disk_logged : Int32) (v_disk_marked : Int32) (v_disk_down : Int32) : Option (Int32 × Int32 × Int32 × Int32 × Int32 × Int32) := if v_disk_down = 0 then (some ((-1), v_disk_written, v_disk_armed, v_disk_logged, v_disk_marked, v_disk_down)) else ((f_Disk_restart v_disk_written v_disk_logged v_disk_marked).bind fun o16 => (if o16.1 = 0 then (some (0, o16.2.1, o16.2.2.1, o16.2.2.2.1, o16.2.2.2.2.1, o16.2.2.2.2.2)) else (some (1, o16.2.1, o16.2.2.1, o16.2.2.2.1, o16.2.2.2.2.1, o16.2.2.2.2.2))))
set_option maxHeartbeats 4000000 in
set_option maxRecDepth 100000 in
theorem c_OB_recover (l : Launch) (D : va_G) (G : Nat → ClassId) (a_t a_disk a_schema a_indexes a_kept a_batch a_draftText a_questions a_reader a_judge a_latest : Nat) (v_questionCount : Int32) (v_idsGiven : Int32) (v_everBegun : Int32) (v_disk_written : Int32) (v_disk_armed : Int32) (v_disk_half : Int32) (v_disk_logged : Int32) (v_disk_marked : Int32) (v_disk_down : Int32) (o : Int32 × Int32 × Int32 × Int32 × Int32 × Int32) (hf : f_OB_recover v_disk_written v_disk_armed v_disk_logged v_disk_marked v_disk_down = some o) (sz : Nat) : MetI l y_OB_recover ws_OB_recover ({ frames := 4, cells := 0, slots := 0, locals := 82 }) D (obT G) (cw_OB_recover G a_t a_disk a_schema a_indexes a_kept a_batch a_draftText a_questions a_reader a_judge a_latest v_questionCount v_idsGiven v_everBegun v_disk_written v_disk_armed v_disk_half v_disk_logged v_disk_marked v_disk_down) (cw_OB_recover G a_t a_disk a_schema a_indexes a_kept a_batch a_draftText a_questions a_reader a_judge a_latest v_questionCount v_idsGiven v_everBegun o.2.1 o.2.2.1 v_disk_half o.2.2.2.1 o.2.2.2.2.1 o.2.2.2.2.2) [.ref a_t] o.1 sz := by
  refine ob_of (cc := bc_OB_recover) (maxL := 1) (ret := (some .int)) (Qc := ObQi D (obT G) (cw_OB_recover G a_t a_disk a_schema a_indexes a_kept a_batch a_draftText a_questions a_reader a_judge a_latest v_questionCount v_idsGiven v_everBegun o.2.1 o.2.2.1 v_disk_half o.2.2.2.1 o.2.2.2.2.1 o.2.2.2.2.2) o.1) (by decide) rfl (Nat.le_of_ble_eq_true rfl) ?_
  intro p e s m below meth c A ls H locs hx hb hr hml hts hown hlk hnm hZ hP hK hD hA hS hl
  have hret : ∀ (o' : Int32 × Int32 × Int32 × Int32 × Int32 × Int32) (H : Heap) (locs : List Loc) (pc : Nat) (ls : Array Slot), some o' = some o → va_P D vwCl (cw_OB_recover G a_t a_disk a_schema a_indexes a_kept a_batch a_draftText a_questions a_reader a_judge a_latest v_questionCount v_idsGiven v_everBegun o'.2.1 o'.2.2.1 v_disk_half o'.2.2.2.1 o'.2.2.2.2.1 o'.2.2.2.2.2) H → va_D A (cw_OB_recover G a_t a_disk a_schema a_indexes a_kept a_batch a_draftText a_questions a_reader a_judge a_latest v_questionCount v_idsGiven v_everBegun o'.2.1 o'.2.2.1 v_disk_half o'.2.2.2.1 o'.2.2.2.2.1 o'.2.2.2.2.2) → va_S A s.heap H locs → narrow .int (.int o'.1) = .int o'.1 → decode bc_OB_recover pc = .ok (.ireturn, 1) → W p l e { frames := 4, cells := 0, slots := 0, locals := 82 } s m ([.ref a_t] : List Value).toArray below meth c H locs 0 0 (MQ below (ObQi D (obT G) (cw_OB_recover G a_t a_disk a_schema a_indexes a_kept a_batch a_draftText a_questions a_reader a_judge a_latest v_questionCount v_idsGiven v_everBegun o.2.1 o.2.2.1 v_disk_half o.2.2.2.1 o.2.2.2.2.1 o.2.2.2.2.2) o.1 A) ([.ref a_t] : List Value).toArray s 0 0 A) (F0 m pc ls [.int o'.1]) := by
    intro o' H locs pc ls he hP hD hS hn hd
    obtain rfl := Option.some.inj he
    exact ob_iret hx hb hr hlk hK hP hD hS hn hd
  generalize MQ below (ObQi D (obT G) (cw_OB_recover G a_t a_disk a_schema a_indexes a_kept a_batch a_draftText a_questions a_reader a_judge a_latest v_questionCount v_idsGiven v_everBegun o.2.1 o.2.2.1 v_disk_half o.2.2.2.1 o.2.2.2.2.1 o.2.2.2.2.2) o.1 A) ([.ref a_t] : List Value).toArray s 0 0 A = Q at hret ⊢
  have hl : lv_has ls 1 [(0, .ref a_t)] := hl
  unfold f_OB_recover at hf
  refine lv_aload_n hx hb d_OB_recover_0 rfl (lv_at hl 0 rfl) ?_
  refine va_get (D := D) (ci := 0) (v := .ref a_disk) (C := "ObjectBase") (T := TC_OB) (N := 13) hx hb hts inC_OB hown hK hP 0 rfl rfl 2 (by decide) (hts _ tw234) (fun _ h9 => h9) rfl d_OB_recover_1 ?_
  refine va_get (D := D) (ci := 3) (v := .int v_disk_down) (C := "ObjectBase$Disk") (T := TC_Disk) (N := 6) hx hb hts inC_Disk hown hK hP 1 rfl rfl 5 (by decide) (hts _ tw87) (fun _ h9 => h9) rfl d_OB_recover_4 ?_
  refine lv_if_ne (tgt := 12) hx hb d_OB_recover_7 (by decide) (fun hc7 => ?_) (fun hc7 => ?_)
  · have hf := ob_f hc7 hf
    refine lv_aload_n hx hb d_OB_recover_12 rfl (lv_at hl 0 rfl) ?_
    refine va_get (D := D) (ci := 0) (v := .ref a_disk) (C := "ObjectBase") (T := TC_OB) (N := 13) hx hb hts inC_OB hown hK hP 0 rfl rfl 2 (by decide) (hts _ tw234) (fun _ h9 => h9) rfl d_OB_recover_13 ?_
    obtain ⟨o16, ho16, hf⟩ := ob_b hf
    have hRun := va_runV (R := ({ frames := 4, cells := 0, slots := 0, locals := 82 })) (locs := locs) (H := H) (l := l) (e := e) (below := below) (meth := meth) (cells := 0) (slots := 0) (g := F0 m 16 ls [.ref a_disk]) (As := []) (rest := []) ⟨hx, hb, hml, hown, hts⟩ (c_Disk_restart l D G a_disk v_disk_written v_disk_armed v_disk_half v_disk_logged v_disk_marked v_disk_down o16 ho16 H.size) (cwV 0 hts (gV tw476 tw477 tw478 tw4 tw479) rfl rfl rfl (by decide +kernel) ⟨Nat.le_of_ble_eq_true rfl, Nat.le_of_ble_eq_true rfl⟩) (ob_preV (q0 := 1) (ci := 3) hZ hK hP hD [1] rfl rfl rfl rfl rfl) rfl rfl hl.1 rfl (lv_room (Nat.le_of_ble_eq_true rfl)) d_OB_recover_16 ⟨Nat.le_refl _, Nat.le_refl _⟩
    refine ob_calli (wc := (cw_Disk_restart G a_disk v_disk_written v_disk_armed v_disk_half v_disk_logged v_disk_marked v_disk_down)) (wc1 := (cw_Disk_restart G a_disk o16.2.1 o16.2.2.1 v_disk_half o16.2.2.2.1 o16.2.2.2.2.1 o16.2.2.2.2.2)) (r := o16.1) (w2 := (cw_OB_recover G a_t a_disk a_schema a_indexes a_kept a_batch a_draftText a_questions a_reader a_judge a_latest v_questionCount v_idsGiven v_everBegun o16.2.1 o16.2.2.1 v_disk_half o16.2.2.2.1 o16.2.2.2.2.1 o16.2.2.2.2.2)) hRun hP hD hA hS [1] rfl rfl rfl rfl (fun H locs hP hD hS => ?_)
    clear hRun
    refine lv_if_eq (tgt := 26) hx hb d_OB_recover_19 (by decide) (fun hc19 => ?_) (fun hc19 => ?_)
    · have hf := ob_t hc19 hf
      refine lv_iconst (v := 0) hx hb d_OB_recover_26 (by decide) ?_
      exact hret (0, o16.2.1, o16.2.2.1, o16.2.2.2.1, o16.2.2.2.2.1, o16.2.2.2.2.2) H locs _ ls hf hP hD hS rfl d_OB_recover_27
    · have hf := ob_f hc19 hf
      refine lv_iconst (v := 1) hx hb d_OB_recover_22 (by decide) ?_
      refine lv_goto (tgt := 27) hx hb d_OB_recover_23 (by decide) ?_
      exact hret (1, o16.2.1, o16.2.2.1, o16.2.2.2.1, o16.2.2.2.2.1, o16.2.2.2.2.2) H locs _ ls hf hP hD hS rfl d_OB_recover_27
  · have hf := ob_t hc7 hf
    refine lv_iconst (v := (-1)) hx hb d_OB_recover_10 (by decide) ?_
    exact hret ((-1), v_disk_written, v_disk_armed, v_disk_logged, v_disk_marked, v_disk_down) H locs _ ls hf hP hD hS rfl d_OB_recover_11
abbrev bc_OB_classOf : ByteArray := prog_1_method_17_code
abbrev y_OB_classOf : MethodName := ⟨"ObjectBase", "classOf", "(I)I"⟩
def ws_OB_classOf : List Cond := .code y_OB_classOf bc_OB_classOf 2 (some .int) :: obW
theorem d_OB_classOf_0 : decode bc_OB_classOf 0 = .ok (.aload_n 0, 1) := by decide +kernel
theorem d_OB_classOf_1 : decode bc_OB_classOf 1 = .ok (.getfield 28, 3) := by decide +kernel
theorem d_OB_classOf_4 : decode bc_OB_classOf 4 = .ok (.getfield 84, 3) := by decide +kernel
theorem d_OB_classOf_7 : decode bc_OB_classOf 7 = .ok (.ifCond .eq 7, 3) := by decide +kernel
theorem d_OB_classOf_10 : decode bc_OB_classOf 10 = .ok (.iconst 0, 1) := by decide +kernel
theorem d_OB_classOf_11 : decode bc_OB_classOf 11 = .ok (.goto 11, 3) := by decide +kernel
theorem d_OB_classOf_14 : decode bc_OB_classOf 14 = .ok (.aload_n 0, 1) := by decide +kernel
theorem d_OB_classOf_15 : decode bc_OB_classOf 15 = .ok (.invokevirtual 218, 3) := by decide +kernel
theorem d_OB_classOf_18 : decode bc_OB_classOf 18 = .ok (.iload_n 1, 1) := by decide +kernel
theorem d_OB_classOf_19 : decode bc_OB_classOf 19 = .ok (.invokevirtual 222, 3) := by decide +kernel
theorem d_OB_classOf_22 : decode bc_OB_classOf 22 = .ok (.ireturn, 1) := by decide +kernel
def cw_OB_classOf (G : Nat → ClassId) (a_t a_disk a_batch a_kept a_kept_classes a_batch_image a_batch_image_classes a_schema a_indexes a_draftText a_questions a_reader a_judge a_latest a_kept_values a_kept_names a_batch_image_values a_batch_image_names : Nat) (v_questionCount : Int32) (v_idsGiven : Int32) (v_everBegun : Int32) (v_disk_written : Int32) (v_disk_armed : Int32) (v_disk_half : Int32) (v_disk_logged : Int32) (v_disk_marked : Int32) (v_disk_down : Int32) (v_batch_known : Int64) (v_batch_touched : Int64) (v_batch_namesTouched : Int32) (v_batch_open : Int32) (v_kept_classes : Nat → Int32) (v_batch_image_classes : Nat → Int32) : va_W := [(a_t, .inr (0, [.ref a_schema, .ref a_indexes, .ref a_disk, .ref a_kept, .ref a_batch, .ref a_draftText, .ref a_questions, .ref a_reader, .ref a_judge, .ref a_latest, .int v_questionCount, .int v_idsGiven, .int v_everBegun])), (a_disk, .inr (3, [.int v_disk_written, .int v_disk_armed, .int v_disk_half, .int v_disk_logged, .int v_disk_marked, .int v_disk_down])), (a_batch, .inr (5, [.ref a_batch_image, .long v_batch_known, .long v_batch_touched, .int v_batch_namesTouched, .int v_batch_open])), (a_kept, .inr (4, [.ref a_kept_classes, .ref a_kept_values, .ref a_kept_names])), (a_kept_classes, .inl (G 0, 63, .inl v_kept_classes)), (a_batch_image, .inr (4, [.ref a_batch_image_classes, .ref a_batch_image_values, .ref a_batch_image_names])), (a_batch_image_classes, .inl (G 0, 63, .inl v_batch_image_classes))]
def f_OB_classOf (v_disk_down : Int32) (v_batch_open : Int32) (v_kept_classes : Nat → Int32) (v_batch_image_classes : Nat → Int32) (p1 : Int32) : Option (Int32) := if v_disk_down = 0 then ((f_OB_shown v_batch_open).bind fun o15 => (if o15 = 0 then ((f_Image_classAt v_batch_image_classes p1).bind fun o19 => (some o19)) else ((f_Image_classAt v_kept_classes p1).bind fun o19 => (some o19)))) else (some 0)
set_option maxHeartbeats 4000000 in
set_option maxRecDepth 100000 in
theorem c_OB_classOf (l : Launch) (D : va_G) (G : Nat → ClassId) (a_t a_disk a_batch a_kept a_kept_classes a_batch_image a_batch_image_classes a_schema a_indexes a_draftText a_questions a_reader a_judge a_latest a_kept_values a_kept_names a_batch_image_values a_batch_image_names : Nat) (v_questionCount : Int32) (v_idsGiven : Int32) (v_everBegun : Int32) (v_disk_written : Int32) (v_disk_armed : Int32) (v_disk_half : Int32) (v_disk_logged : Int32) (v_disk_marked : Int32) (v_disk_down : Int32) (v_batch_known : Int64) (v_batch_touched : Int64) (v_batch_namesTouched : Int32) (v_batch_open : Int32) (v_kept_classes : Nat → Int32) (v_batch_image_classes : Nat → Int32) (p1 : Int32) (o : Int32) (hf : f_OB_classOf v_disk_down v_batch_open v_kept_classes v_batch_image_classes p1 = some o) (sz : Nat) : MetI l y_OB_classOf ws_OB_classOf ({ frames := 1, cells := 0, slots := 0, locals := 21 }) D (obT G) (cw_OB_classOf G a_t a_disk a_batch a_kept a_kept_classes a_batch_image a_batch_image_classes a_schema a_indexes a_draftText a_questions a_reader a_judge a_latest a_kept_values a_kept_names a_batch_image_values a_batch_image_names v_questionCount v_idsGiven v_everBegun v_disk_written v_disk_armed v_disk_half v_disk_logged v_disk_marked v_disk_down v_batch_known v_batch_touched v_batch_namesTouched v_batch_open v_kept_classes v_batch_image_classes) (cw_OB_classOf G a_t a_disk a_batch a_kept a_kept_classes a_batch_image a_batch_image_classes a_schema a_indexes a_draftText a_questions a_reader a_judge a_latest a_kept_values a_kept_names a_batch_image_values a_batch_image_names v_questionCount v_idsGiven v_everBegun v_disk_written v_disk_armed v_disk_half v_disk_logged v_disk_marked v_disk_down v_batch_known v_batch_touched v_batch_namesTouched v_batch_open v_kept_classes v_batch_image_classes) [.ref a_t, .int p1] o sz := by
  refine ob_of (cc := bc_OB_classOf) (maxL := 2) (ret := (some .int)) (Qc := ObQi D (obT G) (cw_OB_classOf G a_t a_disk a_batch a_kept a_kept_classes a_batch_image a_batch_image_classes a_schema a_indexes a_draftText a_questions a_reader a_judge a_latest a_kept_values a_kept_names a_batch_image_values a_batch_image_names v_questionCount v_idsGiven v_everBegun v_disk_written v_disk_armed v_disk_half v_disk_logged v_disk_marked v_disk_down v_batch_known v_batch_touched v_batch_namesTouched v_batch_open v_kept_classes v_batch_image_classes) o) (by decide) rfl (Nat.le_of_ble_eq_true rfl) ?_
  intro p e s m below meth c A ls H locs hx hb hr hml hts hown hlk hnm hZ hP hK hD hA hS hl
  have hret : ∀ (o' : Int32) (H : Heap) (locs : List Loc) (pc : Nat) (ls : Array Slot), some o' = some o → va_P D vwCl (cw_OB_classOf G a_t a_disk a_batch a_kept a_kept_classes a_batch_image a_batch_image_classes a_schema a_indexes a_draftText a_questions a_reader a_judge a_latest a_kept_values a_kept_names a_batch_image_values a_batch_image_names v_questionCount v_idsGiven v_everBegun v_disk_written v_disk_armed v_disk_half v_disk_logged v_disk_marked v_disk_down v_batch_known v_batch_touched v_batch_namesTouched v_batch_open v_kept_classes v_batch_image_classes) H → va_D A (cw_OB_classOf G a_t a_disk a_batch a_kept a_kept_classes a_batch_image a_batch_image_classes a_schema a_indexes a_draftText a_questions a_reader a_judge a_latest a_kept_values a_kept_names a_batch_image_values a_batch_image_names v_questionCount v_idsGiven v_everBegun v_disk_written v_disk_armed v_disk_half v_disk_logged v_disk_marked v_disk_down v_batch_known v_batch_touched v_batch_namesTouched v_batch_open v_kept_classes v_batch_image_classes) → va_S A s.heap H locs → narrow .int (.int o') = .int o' → decode bc_OB_classOf pc = .ok (.ireturn, 1) → W p l e { frames := 1, cells := 0, slots := 0, locals := 21 } s m ([.ref a_t, .int p1] : List Value).toArray below meth c H locs 0 0 (MQ below (ObQi D (obT G) (cw_OB_classOf G a_t a_disk a_batch a_kept a_kept_classes a_batch_image a_batch_image_classes a_schema a_indexes a_draftText a_questions a_reader a_judge a_latest a_kept_values a_kept_names a_batch_image_values a_batch_image_names v_questionCount v_idsGiven v_everBegun v_disk_written v_disk_armed v_disk_half v_disk_logged v_disk_marked v_disk_down v_batch_known v_batch_touched v_batch_namesTouched v_batch_open v_kept_classes v_batch_image_classes) o A) ([.ref a_t, .int p1] : List Value).toArray s 0 0 A) (F0 m pc ls [.int o']) := by
    intro o' H locs pc ls he hP hD hS hn hd
    obtain rfl := Option.some.inj he
    exact ob_iret hx hb hr hlk hK hP hD hS hn hd
  generalize MQ below (ObQi D (obT G) (cw_OB_classOf G a_t a_disk a_batch a_kept a_kept_classes a_batch_image a_batch_image_classes a_schema a_indexes a_draftText a_questions a_reader a_judge a_latest a_kept_values a_kept_names a_batch_image_values a_batch_image_names v_questionCount v_idsGiven v_everBegun v_disk_written v_disk_armed v_disk_half v_disk_logged v_disk_marked v_disk_down v_batch_known v_batch_touched v_batch_namesTouched v_batch_open v_kept_classes v_batch_image_classes) o A) ([.ref a_t, .int p1] : List Value).toArray s 0 0 A = Q at hret ⊢
  have hl : lv_has ls 2 [(0, .ref a_t), (1, .int p1)] := hl
  unfold f_OB_classOf at hf
  refine lv_aload_n hx hb d_OB_classOf_0 rfl (lv_at hl 0 rfl) ?_
  refine va_get (D := D) (ci := 0) (v := .ref a_disk) (C := "ObjectBase") (T := TC_OB) (N := 13) hx hb hts inC_OB hown hK hP 0 rfl rfl 2 (by decide) (hts _ tw234) (fun _ h9 => h9) rfl d_OB_classOf_1 ?_
  refine va_get (D := D) (ci := 3) (v := .int v_disk_down) (C := "ObjectBase$Disk") (T := TC_Disk) (N := 6) hx hb hts inC_Disk hown hK hP 1 rfl rfl 5 (by decide) (hts _ tw87) (fun _ h9 => h9) rfl d_OB_classOf_4 ?_
  refine lv_if_eq (tgt := 14) hx hb d_OB_classOf_7 (by decide) (fun hc7 => ?_) (fun hc7 => ?_)
  · have hf := ob_t hc7 hf
    refine lv_aload_n hx hb d_OB_classOf_14 rfl (lv_at hl 0 rfl) ?_
    obtain ⟨o15, ho15, hf⟩ := ob_b hf
    have hRun := va_runV (R := ({ frames := 1, cells := 0, slots := 0, locals := 21 })) (locs := locs) (H := H) (l := l) (e := e) (below := below) (meth := meth) (cells := 0) (slots := 0) (g := F0 m 15 ls [.ref a_t]) (As := []) (rest := []) ⟨hx, hb, hml, hown, hts⟩ (c_OB_shown l D G a_t a_batch a_schema a_indexes a_disk a_kept a_draftText a_questions a_reader a_judge a_latest a_batch_image v_questionCount v_idsGiven v_everBegun v_batch_known v_batch_touched v_batch_namesTouched v_batch_open o15 ho15 H.size) (cwV 0 hts (gV tw485 tw487 tp4 tw1 tw488) rfl rfl rfl (by decide +kernel) ⟨Nat.le_of_ble_eq_true rfl, Nat.le_of_ble_eq_true rfl⟩) (ob_preV (q0 := 0) (ci := 0) hZ hK hP hD [0, 2] rfl rfl rfl rfl rfl) rfl rfl hl.1 rfl (lv_room (Nat.le_of_ble_eq_true rfl)) d_OB_classOf_15 ⟨Nat.le_refl _, Nat.le_refl _⟩
    refine ob_callr (wc := (cw_OB_shown G a_t a_batch a_schema a_indexes a_disk a_kept a_draftText a_questions a_reader a_judge a_latest a_batch_image v_questionCount v_idsGiven v_everBegun v_batch_known v_batch_touched v_batch_namesTouched v_batch_open)) (wc1 := (cw_OB_shown G a_t a_batch a_schema a_indexes a_disk a_kept a_draftText a_questions a_reader a_judge a_latest a_batch_image v_questionCount v_idsGiven v_everBegun v_batch_known v_batch_touched v_batch_namesTouched v_batch_open)) (b := ob_sel o15 a_batch_image a_kept) (w2 := (cw_OB_classOf G a_t a_disk a_batch a_kept a_kept_classes a_batch_image a_batch_image_classes a_schema a_indexes a_draftText a_questions a_reader a_judge a_latest a_kept_values a_kept_names a_batch_image_values a_batch_image_names v_questionCount v_idsGiven v_everBegun v_disk_written v_disk_armed v_disk_half v_disk_logged v_disk_marked v_disk_down v_batch_known v_batch_touched v_batch_namesTouched v_batch_open v_kept_classes v_batch_image_classes)) hRun hP hD hA hS [0, 2] rfl rfl rfl rfl (fun H locs hP hD hS => ?_)
    clear hRun
    by_cases hs15 : o15 = 0
    · have hf := ob_t hs15 hf
      refine W.eq (g2 := F0 m 18 ls [.ref a_batch_image]) (by rw [ob_sel0 hs15]) ?_
      refine lv_iload_n hx hb d_OB_classOf_18 rfl (lv_at hl 1 rfl) ?_
      obtain ⟨o19, ho19, hf⟩ := ob_b hf
      have hRun := va_runV (R := ({ frames := 1, cells := 0, slots := 0, locals := 21 })) (locs := locs) (H := H) (l := l) (e := e) (below := below) (meth := meth) (cells := 0) (slots := 0) (g := F0 m 19 ls [.int p1, .ref a_batch_image]) (As := [.int p1]) (rest := []) ⟨hx, hb, hml, hown, hts⟩ (c_Image_classAt l D G a_batch_image a_batch_image_classes a_batch_image_values a_batch_image_names v_batch_image_classes p1 o19 ho19 H.size) (cwV 1 hts (gV tw364 tw365 tw366 tw5 tw367) rfl rfl rfl (by decide +kernel) ⟨Nat.le_of_ble_eq_true rfl, Nat.le_of_ble_eq_true rfl⟩) (ob_preV (q0 := 5) (ci := 4) hZ hK hP hD [5, 6] rfl rfl rfl rfl rfl) rfl rfl hl.1 rfl (lv_room (Nat.le_of_ble_eq_true rfl)) d_OB_classOf_19 ⟨Nat.le_refl _, Nat.le_refl _⟩
      refine ob_calli (wc := (cw_Image_classAt G a_batch_image a_batch_image_classes a_batch_image_values a_batch_image_names v_batch_image_classes)) (wc1 := (cw_Image_classAt G a_batch_image a_batch_image_classes a_batch_image_values a_batch_image_names v_batch_image_classes)) (r := o19) (w2 := (cw_OB_classOf G a_t a_disk a_batch a_kept a_kept_classes a_batch_image a_batch_image_classes a_schema a_indexes a_draftText a_questions a_reader a_judge a_latest a_kept_values a_kept_names a_batch_image_values a_batch_image_names v_questionCount v_idsGiven v_everBegun v_disk_written v_disk_armed v_disk_half v_disk_logged v_disk_marked v_disk_down v_batch_known v_batch_touched v_batch_namesTouched v_batch_open v_kept_classes v_batch_image_classes)) hRun hP hD hA hS [5, 6] rfl rfl rfl rfl (fun H locs hP hD hS => ?_)
      clear hRun
      exact hret o19 H locs _ ls hf hP hD hS rfl d_OB_classOf_22
    · have hf := ob_f hs15 hf
      refine W.eq (g2 := F0 m 18 ls [.ref a_kept]) (by rw [ob_sel1 hs15]) ?_
      refine lv_iload_n hx hb d_OB_classOf_18 rfl (lv_at hl 1 rfl) ?_
      obtain ⟨o19, ho19, hf⟩ := ob_b hf
      have hRun := va_runV (R := ({ frames := 1, cells := 0, slots := 0, locals := 21 })) (locs := locs) (H := H) (l := l) (e := e) (below := below) (meth := meth) (cells := 0) (slots := 0) (g := F0 m 19 ls [.int p1, .ref a_kept]) (As := [.int p1]) (rest := []) ⟨hx, hb, hml, hown, hts⟩ (c_Image_classAt l D G a_kept a_kept_classes a_kept_values a_kept_names v_kept_classes p1 o19 ho19 H.size) (cwV 1 hts (gV tw364 tw365 tw366 tw5 tw367) rfl rfl rfl (by decide +kernel) ⟨Nat.le_of_ble_eq_true rfl, Nat.le_of_ble_eq_true rfl⟩) (ob_preV (q0 := 3) (ci := 4) hZ hK hP hD [3, 4] rfl rfl rfl rfl rfl) rfl rfl hl.1 rfl (lv_room (Nat.le_of_ble_eq_true rfl)) d_OB_classOf_19 ⟨Nat.le_refl _, Nat.le_refl _⟩
      refine ob_calli (wc := (cw_Image_classAt G a_kept a_kept_classes a_kept_values a_kept_names v_kept_classes)) (wc1 := (cw_Image_classAt G a_kept a_kept_classes a_kept_values a_kept_names v_kept_classes)) (r := o19) (w2 := (cw_OB_classOf G a_t a_disk a_batch a_kept a_kept_classes a_batch_image a_batch_image_classes a_schema a_indexes a_draftText a_questions a_reader a_judge a_latest a_kept_values a_kept_names a_batch_image_values a_batch_image_names v_questionCount v_idsGiven v_everBegun v_disk_written v_disk_armed v_disk_half v_disk_logged v_disk_marked v_disk_down v_batch_known v_batch_touched v_batch_namesTouched v_batch_open v_kept_classes v_batch_image_classes)) hRun hP hD hA hS [3, 4] rfl rfl rfl rfl (fun H locs hP hD hS => ?_)
      clear hRun
      exact hret o19 H locs _ ls hf hP hD hS rfl d_OB_classOf_22
  · have hf := ob_f hc7 hf
    refine lv_iconst (v := 0) hx hb d_OB_classOf_10 (by decide) ?_
    refine lv_goto (tgt := 22) hx hb d_OB_classOf_11 (by decide) ?_
    exact hret 0 H locs _ ls hf hP hD hS rfl d_OB_classOf_22
