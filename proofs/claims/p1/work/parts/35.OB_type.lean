abbrev bc_OB_type : ByteArray := prog_1_method_2_code
abbrev y_OB_type : MethodName := ⟨"ObjectBase", "type", "(I)I"⟩
def ws_OB_type : List Cond := .code y_OB_type bc_OB_type 2 (some .int) :: obW
theorem d_OB_type_0 : decode bc_OB_type 0 = .ok (.aload_n 0, 1) := by decide +kernel
theorem d_OB_type_1 : decode bc_OB_type 1 = .ok (.getfield 28, 3) := by decide +kernel
theorem d_OB_type_4 : decode bc_OB_type 4 = .ok (.getfield 84, 3) := by decide +kernel
theorem d_OB_type_7 : decode bc_OB_type 7 = .ok (.ifCond .eq 6, 3) := by decide +kernel
theorem d_OB_type_10 : decode bc_OB_type 10 = .ok (.bipush (-4), 2) := by decide +kernel
theorem d_OB_type_12 : decode bc_OB_type 12 = .ok (.ireturn, 1) := by decide +kernel
theorem d_OB_type_13 : decode bc_OB_type 13 = .ok (.aload_n 0, 1) := by decide +kernel
theorem d_OB_type_14 : decode bc_OB_type 14 = .ok (.getfield 88, 3) := by decide +kernel
theorem d_OB_type_17 : decode bc_OB_type 17 = .ok (.ifCond .ne 14, 3) := by decide +kernel
theorem d_OB_type_20 : decode bc_OB_type 20 = .ok (.aload_n 0, 1) := by decide +kernel
theorem d_OB_type_21 : decode bc_OB_type 21 = .ok (.getfield 14, 3) := by decide +kernel
theorem d_OB_type_24 : decode bc_OB_type 24 = .ok (.getfield 91, 3) := by decide +kernel
theorem d_OB_type_27 : decode bc_OB_type 27 = .ok (.iconst 5, 1) := by decide +kernel
theorem d_OB_type_28 : decode bc_OB_type 28 = .ok (.if_icmp .ne 5, 3) := by decide +kernel
theorem d_OB_type_31 : decode bc_OB_type 31 = .ok (.iconst (-1), 1) := by decide +kernel
theorem d_OB_type_32 : decode bc_OB_type 32 = .ok (.ireturn, 1) := by decide +kernel
theorem d_OB_type_33 : decode bc_OB_type 33 = .ok (.iload_n 1, 1) := by decide +kernel
theorem d_OB_type_34 : decode bc_OB_type 34 = .ok (.ifCond .eq 16, 3) := by decide +kernel
theorem d_OB_type_37 : decode bc_OB_type 37 = .ok (.aload_n 0, 1) := by decide +kernel
theorem d_OB_type_38 : decode bc_OB_type 38 = .ok (.getfield 14, 3) := by decide +kernel
theorem d_OB_type_41 : decode bc_OB_type 41 = .ok (.iload_n 1, 1) := by decide +kernel
theorem d_OB_type_42 : decode bc_OB_type 42 = .ok (.invokevirtual 95, 3) := by decide +kernel
theorem d_OB_type_45 : decode bc_OB_type 45 = .ok (.ifCond .ne 5, 3) := by decide +kernel
theorem d_OB_type_48 : decode bc_OB_type 48 = .ok (.iconst (-1), 1) := by decide +kernel
theorem d_OB_type_49 : decode bc_OB_type 49 = .ok (.ireturn, 1) := by decide +kernel
theorem d_OB_type_50 : decode bc_OB_type 50 = .ok (.aload_n 0, 1) := by decide +kernel
theorem d_OB_type_51 : decode bc_OB_type 51 = .ok (.getfield 14, 3) := by decide +kernel
theorem d_OB_type_54 : decode bc_OB_type 54 = .ok (.iload_n 1, 1) := by decide +kernel
theorem d_OB_type_55 : decode bc_OB_type 55 = .ok (.invokevirtual 99, 3) := by decide +kernel
theorem d_OB_type_58 : decode bc_OB_type 58 = .ok (.ireturn, 1) := by decide +kernel
def cw_OB_type (G : Nat → ClassId) (a_t a_disk a_schema a_schema_above a_indexes a_kept a_batch a_draftText a_questions a_reader a_judge a_latest a_schema_owners a_schema_kinds a_schema_targets : Nat) (v_questionCount : Int32) (v_idsGiven : Int32) (v_everBegun : Int32) (v_disk_written : Int32) (v_disk_armed : Int32) (v_disk_half : Int32) (v_disk_logged : Int32) (v_disk_marked : Int32) (v_disk_down : Int32) (v_schema_classCount : Int32) (v_schema_fieldCount : Int32) (v_schema_above : Nat → Int32) : va_W := [(a_t, .inr (0, [.ref a_schema, .ref a_indexes, .ref a_disk, .ref a_kept, .ref a_batch, .ref a_draftText, .ref a_questions, .ref a_reader, .ref a_judge, .ref a_latest, .int v_questionCount, .int v_idsGiven, .int v_everBegun])), (a_disk, .inr (3, [.int v_disk_written, .int v_disk_armed, .int v_disk_half, .int v_disk_logged, .int v_disk_marked, .int v_disk_down])), (a_schema, .inr (1, [.ref a_schema_above, .ref a_schema_owners, .ref a_schema_kinds, .ref a_schema_targets, .int v_schema_classCount, .int v_schema_fieldCount])), (a_schema_above, .inl (G 0, 6, .inl v_schema_above))]
def f_OB_type_J50 (p1 : Int32) (v_schema_classCount_50 : Int32) (v_schema_above_50 : Nat → Int32) : Option (Int32 × Int32 × (Nat → Int32)) := (f_Schema_addClass v_schema_classCount_50 v_schema_above_50 p1).bind fun o55 => (some (o55.1, o55.2.1, o55.2.2))
def f_OB_type (v_everBegun : Int32) (v_disk_down : Int32) (v_schema_classCount : Int32) (v_schema_above : Nat → Int32) (p1 : Int32) : Option (Int32 × Int32 × (Nat → Int32)) := if v_disk_down = 0 then (if v_everBegun = 0 then (if v_schema_classCount = 5 then (some ((-1), v_schema_classCount, v_schema_above)) else (if p1 = 0 then (f_OB_type_J50 p1 v_schema_classCount v_schema_above) else ((f_Schema_hasClass v_schema_classCount p1).bind fun o42 => (if o42 = 0 then (some ((-1), v_schema_classCount, v_schema_above)) else (f_OB_type_J50 p1 v_schema_classCount v_schema_above))))) else (some ((-1), v_schema_classCount, v_schema_above))) else (some ((-4), v_schema_classCount, v_schema_above))
set_option maxHeartbeats 4000000 in
set_option maxRecDepth 100000 in
theorem c_OB_type (l : Launch) (D : va_G) (G : Nat → ClassId) (a_t a_disk a_schema a_schema_above a_indexes a_kept a_batch a_draftText a_questions a_reader a_judge a_latest a_schema_owners a_schema_kinds a_schema_targets : Nat) (v_questionCount : Int32) (v_idsGiven : Int32) (v_everBegun : Int32) (v_disk_written : Int32) (v_disk_armed : Int32) (v_disk_half : Int32) (v_disk_logged : Int32) (v_disk_marked : Int32) (v_disk_down : Int32) (v_schema_classCount : Int32) (v_schema_fieldCount : Int32) (v_schema_above : Nat → Int32) (p1 : Int32) (o : Int32 × Int32 × (Nat → Int32)) (hf : f_OB_type v_everBegun v_disk_down v_schema_classCount v_schema_above p1 = some o) (sz : Nat) : MetI l y_OB_type ws_OB_type ({ frames := 1, cells := 0, slots := 0, locals := 21 }) D (obT G) (cw_OB_type G a_t a_disk a_schema a_schema_above a_indexes a_kept a_batch a_draftText a_questions a_reader a_judge a_latest a_schema_owners a_schema_kinds a_schema_targets v_questionCount v_idsGiven v_everBegun v_disk_written v_disk_armed v_disk_half v_disk_logged v_disk_marked v_disk_down v_schema_classCount v_schema_fieldCount v_schema_above) (cw_OB_type G a_t a_disk a_schema a_schema_above a_indexes a_kept a_batch a_draftText a_questions a_reader a_judge a_latest a_schema_owners a_schema_kinds a_schema_targets v_questionCount v_idsGiven v_everBegun v_disk_written v_disk_armed v_disk_half v_disk_logged v_disk_marked v_disk_down o.2.1 v_schema_fieldCount o.2.2) [.ref a_t, .int p1] o.1 sz := by
  refine ob_of (cc := bc_OB_type) (maxL := 2) (ret := (some .int)) (Qc := ObQi D (obT G) (cw_OB_type G a_t a_disk a_schema a_schema_above a_indexes a_kept a_batch a_draftText a_questions a_reader a_judge a_latest a_schema_owners a_schema_kinds a_schema_targets v_questionCount v_idsGiven v_everBegun v_disk_written v_disk_armed v_disk_half v_disk_logged v_disk_marked v_disk_down o.2.1 v_schema_fieldCount o.2.2) o.1) (by decide) rfl (Nat.le_of_ble_eq_true rfl) ?_
  intro p e s m below meth c A ls H locs hx hb hr hml hts hown hlk hnm hZ hP hK hD hA hS hl
  have hret : ∀ (o' : Int32 × Int32 × (Nat → Int32)) (H : Heap) (locs : List Loc) (pc : Nat) (ls : Array Slot), some o' = some o → va_P D vwCl (cw_OB_type G a_t a_disk a_schema a_schema_above a_indexes a_kept a_batch a_draftText a_questions a_reader a_judge a_latest a_schema_owners a_schema_kinds a_schema_targets v_questionCount v_idsGiven v_everBegun v_disk_written v_disk_armed v_disk_half v_disk_logged v_disk_marked v_disk_down o'.2.1 v_schema_fieldCount o'.2.2) H → va_D A (cw_OB_type G a_t a_disk a_schema a_schema_above a_indexes a_kept a_batch a_draftText a_questions a_reader a_judge a_latest a_schema_owners a_schema_kinds a_schema_targets v_questionCount v_idsGiven v_everBegun v_disk_written v_disk_armed v_disk_half v_disk_logged v_disk_marked v_disk_down o'.2.1 v_schema_fieldCount o'.2.2) → va_S A s.heap H locs → narrow .int (.int o'.1) = .int o'.1 → decode bc_OB_type pc = .ok (.ireturn, 1) → W p l e { frames := 1, cells := 0, slots := 0, locals := 21 } s m ([.ref a_t, .int p1] : List Value).toArray below meth c H locs 0 0 (MQ below (ObQi D (obT G) (cw_OB_type G a_t a_disk a_schema a_schema_above a_indexes a_kept a_batch a_draftText a_questions a_reader a_judge a_latest a_schema_owners a_schema_kinds a_schema_targets v_questionCount v_idsGiven v_everBegun v_disk_written v_disk_armed v_disk_half v_disk_logged v_disk_marked v_disk_down o.2.1 v_schema_fieldCount o.2.2) o.1 A) ([.ref a_t, .int p1] : List Value).toArray s 0 0 A) (F0 m pc ls [.int o'.1]) := by
    intro o' H locs pc ls he hP hD hS hn hd
    obtain rfl := Option.some.inj he
    exact ob_iret hx hb hr hlk hK hP hD hS hn hd
  generalize MQ below (ObQi D (obT G) (cw_OB_type G a_t a_disk a_schema a_schema_above a_indexes a_kept a_batch a_draftText a_questions a_reader a_judge a_latest a_schema_owners a_schema_kinds a_schema_targets v_questionCount v_idsGiven v_everBegun v_disk_written v_disk_armed v_disk_half v_disk_logged v_disk_marked v_disk_down o.2.1 v_schema_fieldCount o.2.2) o.1 A) ([.ref a_t, .int p1] : List Value).toArray s 0 0 A = Q at hret ⊢
  have hl : lv_has ls 2 [(0, .ref a_t), (1, .int p1)] := hl
  unfold f_OB_type at hf
  have blk50 : ∀ (v_schema_classCount_50 : Int32) (v_schema_above_50 : Nat → Int32) (ls : Array Slot) (H : Heap) (locs : List Loc), lv_has ls 2 [(0, .ref a_t), (1, .int p1)] → va_P D vwCl (cw_OB_type G a_t a_disk a_schema a_schema_above a_indexes a_kept a_batch a_draftText a_questions a_reader a_judge a_latest a_schema_owners a_schema_kinds a_schema_targets v_questionCount v_idsGiven v_everBegun v_disk_written v_disk_armed v_disk_half v_disk_logged v_disk_marked v_disk_down v_schema_classCount_50 v_schema_fieldCount v_schema_above_50) H → va_D A (cw_OB_type G a_t a_disk a_schema a_schema_above a_indexes a_kept a_batch a_draftText a_questions a_reader a_judge a_latest a_schema_owners a_schema_kinds a_schema_targets v_questionCount v_idsGiven v_everBegun v_disk_written v_disk_armed v_disk_half v_disk_logged v_disk_marked v_disk_down v_schema_classCount_50 v_schema_fieldCount v_schema_above_50) → va_S A s.heap H locs → f_OB_type_J50 p1 v_schema_classCount_50 v_schema_above_50 = some o → W p l e ({ frames := 1, cells := 0, slots := 0, locals := 21 }) s m ([.ref a_t, .int p1] : List Value).toArray below meth c H locs 0 0 Q (F0 m 50 ls []) := by
    intro v_schema_classCount_50 v_schema_above_50 ls H locs hl hP hD hS hf
    unfold f_OB_type_J50 at hf
    refine lv_aload_n hx hb d_OB_type_50 rfl (lv_at hl 0 rfl) ?_
    refine va_get (D := D) (ci := 0) (v := .ref a_schema) (C := "ObjectBase") (T := TC_OB) (N := 13) hx hb hts inC_OB hown hK hP 0 rfl rfl 0 (by decide) (hts _ tw232) (fun _ h9 => h9) rfl d_OB_type_51 ?_
    refine lv_iload_n hx hb d_OB_type_54 rfl (lv_at hl 1 rfl) ?_
    obtain ⟨o55, ho55, hf⟩ := ob_b hf
    refine ob_calli (w2 := (cw_OB_type G a_t a_disk a_schema a_schema_above a_indexes a_kept a_batch a_draftText a_questions a_reader a_judge a_latest a_schema_owners a_schema_kinds a_schema_targets v_questionCount v_idsGiven v_everBegun v_disk_written v_disk_armed v_disk_half v_disk_logged v_disk_marked v_disk_down o55.2.1 v_schema_fieldCount o55.2.2)) (va_runV (As := [.int p1]) (rest := []) ⟨hx, hb, hml, hown, hts⟩ (c_Schema_addClass l D G a_schema a_schema_above a_schema_owners a_schema_kinds a_schema_targets v_schema_classCount_50 v_schema_fieldCount v_schema_above_50 p1 o55 ho55 H.size) (cwV 1 hts (gV tw280 tw281 tw282 tw2 tw283) rfl rfl rfl (by decide +kernel) ⟨Nat.le_of_ble_eq_true rfl, Nat.le_of_ble_eq_true rfl⟩) (ob_preV (q0 := 2) (ci := 1) hZ hK hP hD [2, 3] rfl rfl rfl rfl rfl) rfl rfl hl.1 rfl (lv_room (Nat.le_of_ble_eq_true rfl)) d_OB_type_55 ⟨Nat.le_refl _, Nat.le_refl _⟩) hP hD hA hS [2, 3] rfl rfl rfl rfl (fun H locs hP hD hS => ?_)
    exact hret (o55.1, o55.2.1, o55.2.2) H locs _ ls hf hP hD hS rfl d_OB_type_58
  refine lv_aload_n hx hb d_OB_type_0 rfl (lv_at hl 0 rfl) ?_
  refine va_get (D := D) (ci := 0) (v := .ref a_disk) (C := "ObjectBase") (T := TC_OB) (N := 13) hx hb hts inC_OB hown hK hP 0 rfl rfl 2 (by decide) (hts _ tw234) (fun _ h9 => h9) rfl d_OB_type_1 ?_
  refine va_get (D := D) (ci := 3) (v := .int v_disk_down) (C := "ObjectBase$Disk") (T := TC_Disk) (N := 6) hx hb hts inC_Disk hown hK hP 1 rfl rfl 5 (by decide) (hts _ tw87) (fun _ h9 => h9) rfl d_OB_type_4 ?_
  refine lv_if_eq (tgt := 13) hx hb d_OB_type_7 (by decide) (fun hc7 => ?_) (fun hc7 => ?_)
  · have hf := ob_t hc7 hf
    refine lv_aload_n hx hb d_OB_type_13 rfl (lv_at hl 0 rfl) ?_
    refine va_get (D := D) (ci := 0) (v := .int v_everBegun) (C := "ObjectBase") (T := TC_OB) (N := 13) hx hb hts inC_OB hown hK hP 0 rfl rfl 12 (by decide) (hts _ tw244) (fun _ h9 => h9) rfl d_OB_type_14 ?_
    refine lv_if_ne (tgt := 31) hx hb d_OB_type_17 (by decide) (fun hc17 => ?_) (fun hc17 => ?_)
    · have hf := ob_f hc17 hf
      refine lv_iconst (v := (-1)) hx hb d_OB_type_31 (by decide) ?_
      exact hret ((-1), v_schema_classCount, v_schema_above) H locs _ ls hf hP hD hS rfl d_OB_type_32
    · have hf := ob_t hc17 hf
      refine lv_aload_n hx hb d_OB_type_20 rfl (lv_at hl 0 rfl) ?_
      refine va_get (D := D) (ci := 0) (v := .ref a_schema) (C := "ObjectBase") (T := TC_OB) (N := 13) hx hb hts inC_OB hown hK hP 0 rfl rfl 0 (by decide) (hts _ tw232) (fun _ h9 => h9) rfl d_OB_type_21 ?_
      refine va_get (D := D) (ci := 1) (v := .int v_schema_classCount) (C := "ObjectBase$Schema") (T := TC_Schema) (N := 6) hx hb hts inC_Schema hown hK hP 2 rfl rfl 4 (by decide) (hts _ tw39) (fun _ h9 => h9) rfl d_OB_type_24 ?_
      refine lv_iconst (v := 5) hx hb d_OB_type_27 (by decide) ?_
      refine lv_icmp_ne (tgt := 33) hx hb d_OB_type_28 (by decide) (fun hc28 => ?_) (fun hc28 => ?_)
      · have hf := ob_f hc28 hf
        refine lv_iload_n hx hb d_OB_type_33 rfl (lv_at hl 1 rfl) ?_
        refine lv_if_eq (tgt := 50) hx hb d_OB_type_34 (by decide) (fun hc34 => ?_) (fun hc34 => ?_)
        · have hf := ob_t hc34 hf
          exact blk50 v_schema_classCount v_schema_above ls H locs (lv_sub hl [0, 1] rfl) hP hD hS hf
        · have hf := ob_f hc34 hf
          refine lv_aload_n hx hb d_OB_type_37 rfl (lv_at hl 0 rfl) ?_
          refine va_get (D := D) (ci := 0) (v := .ref a_schema) (C := "ObjectBase") (T := TC_OB) (N := 13) hx hb hts inC_OB hown hK hP 0 rfl rfl 0 (by decide) (hts _ tw232) (fun _ h9 => h9) rfl d_OB_type_38 ?_
          refine lv_iload_n hx hb d_OB_type_41 rfl (lv_at hl 1 rfl) ?_
          obtain ⟨o42, ho42, hf⟩ := ob_b hf
          refine ob_calli (w2 := (cw_OB_type G a_t a_disk a_schema a_schema_above a_indexes a_kept a_batch a_draftText a_questions a_reader a_judge a_latest a_schema_owners a_schema_kinds a_schema_targets v_questionCount v_idsGiven v_everBegun v_disk_written v_disk_armed v_disk_half v_disk_logged v_disk_marked v_disk_down v_schema_classCount v_schema_fieldCount v_schema_above)) (va_runV (As := [.int p1]) (rest := []) ⟨hx, hb, hml, hown, hts⟩ (c_Schema_hasClass l D G a_schema a_schema_above a_schema_owners a_schema_kinds a_schema_targets v_schema_classCount v_schema_fieldCount p1 o42 ho42 H.size) (cwV 1 hts (gV tw276 tw277 tw278 tw2 tw279) rfl rfl rfl (by decide +kernel) ⟨Nat.le_of_ble_eq_true rfl, Nat.le_of_ble_eq_true rfl⟩) (ob_preV (q0 := 2) (ci := 1) hZ hK hP hD [2] rfl rfl rfl rfl rfl) rfl rfl hl.1 rfl (lv_room (Nat.le_of_ble_eq_true rfl)) d_OB_type_42 ⟨Nat.le_refl _, Nat.le_refl _⟩) hP hD hA hS [2] rfl rfl rfl rfl (fun H locs hP hD hS => ?_)
          refine lv_if_ne (tgt := 50) hx hb d_OB_type_45 (by decide) (fun hc45 => ?_) (fun hc45 => ?_)
          · have hf := ob_f hc45 hf
            exact blk50 v_schema_classCount v_schema_above ls H locs (lv_sub hl [0, 1] rfl) hP hD hS hf
          · have hf := ob_t hc45 hf
            refine lv_iconst (v := (-1)) hx hb d_OB_type_48 (by decide) ?_
            exact hret ((-1), v_schema_classCount, v_schema_above) H locs _ ls hf hP hD hS rfl d_OB_type_49
      · have hf := ob_t hc28 hf
        refine lv_iconst (v := (-1)) hx hb d_OB_type_31 (by decide) ?_
        exact hret ((-1), v_schema_classCount, v_schema_above) H locs _ ls hf hP hD hS rfl d_OB_type_32
  · have hf := ob_f hc7 hf
    refine lv_bipush (v := (-4)) hx hb d_OB_type_10 (by decide) ?_
    exact hret ((-4), v_schema_classCount, v_schema_above) H locs _ ls hf hP hD hS rfl d_OB_type_12
abbrev bc_OB_field : ByteArray := prog_1_method_3_code
abbrev y_OB_field : MethodName := ⟨"ObjectBase", "field", "(III)I"⟩
def ws_OB_field : List Cond := .code y_OB_field bc_OB_field 4 (some .int) :: obW
theorem d_OB_field_0 : decode bc_OB_field 0 = .ok (.aload_n 0, 1) := by decide +kernel
theorem d_OB_field_1 : decode bc_OB_field 1 = .ok (.getfield 28, 3) := by decide +kernel
theorem d_OB_field_4 : decode bc_OB_field 4 = .ok (.getfield 84, 3) := by decide +kernel
theorem d_OB_field_7 : decode bc_OB_field 7 = .ok (.ifCond .eq 6, 3) := by decide +kernel
theorem d_OB_field_10 : decode bc_OB_field 10 = .ok (.bipush (-4), 2) := by decide +kernel
theorem d_OB_field_12 : decode bc_OB_field 12 = .ok (.ireturn, 1) := by decide +kernel
theorem d_OB_field_13 : decode bc_OB_field 13 = .ok (.aload_n 0, 1) := by decide +kernel
theorem d_OB_field_14 : decode bc_OB_field 14 = .ok (.getfield 88, 3) := by decide +kernel
theorem d_OB_field_17 : decode bc_OB_field 17 = .ok (.ifCond .ne 15, 3) := by decide +kernel
theorem d_OB_field_20 : decode bc_OB_field 20 = .ok (.aload_n 0, 1) := by decide +kernel
theorem d_OB_field_21 : decode bc_OB_field 21 = .ok (.getfield 14, 3) := by decide +kernel
theorem d_OB_field_24 : decode bc_OB_field 24 = .ok (.getfield 103, 3) := by decide +kernel
theorem d_OB_field_27 : decode bc_OB_field 27 = .ok (.bipush 8, 2) := by decide +kernel
theorem d_OB_field_29 : decode bc_OB_field 29 = .ok (.if_icmp .ne 5, 3) := by decide +kernel
theorem d_OB_field_32 : decode bc_OB_field 32 = .ok (.iconst (-1), 1) := by decide +kernel
theorem d_OB_field_33 : decode bc_OB_field 33 = .ok (.ireturn, 1) := by decide +kernel
theorem d_OB_field_34 : decode bc_OB_field 34 = .ok (.aload_n 0, 1) := by decide +kernel
theorem d_OB_field_35 : decode bc_OB_field 35 = .ok (.getfield 14, 3) := by decide +kernel
theorem d_OB_field_38 : decode bc_OB_field 38 = .ok (.iload_n 1, 1) := by decide +kernel
theorem d_OB_field_39 : decode bc_OB_field 39 = .ok (.invokevirtual 95, 3) := by decide +kernel
theorem d_OB_field_42 : decode bc_OB_field 42 = .ok (.ifCond .eq 12, 3) := by decide +kernel
theorem d_OB_field_45 : decode bc_OB_field 45 = .ok (.iload_n 2, 1) := by decide +kernel
theorem d_OB_field_46 : decode bc_OB_field 46 = .ok (.ifCond .lt 8, 3) := by decide +kernel
theorem d_OB_field_49 : decode bc_OB_field 49 = .ok (.iload_n 2, 1) := by decide +kernel
theorem d_OB_field_50 : decode bc_OB_field 50 = .ok (.iconst 2, 1) := by decide +kernel
theorem d_OB_field_51 : decode bc_OB_field 51 = .ok (.if_icmp .le 5, 3) := by decide +kernel
theorem d_OB_field_54 : decode bc_OB_field 54 = .ok (.iconst (-1), 1) := by decide +kernel
theorem d_OB_field_55 : decode bc_OB_field 55 = .ok (.ireturn, 1) := by decide +kernel
theorem d_OB_field_56 : decode bc_OB_field 56 = .ok (.iload_n 2, 1) := by decide +kernel
theorem d_OB_field_57 : decode bc_OB_field 57 = .ok (.ifCond .eq 16, 3) := by decide +kernel
theorem d_OB_field_60 : decode bc_OB_field 60 = .ok (.aload_n 0, 1) := by decide +kernel
theorem d_OB_field_61 : decode bc_OB_field 61 = .ok (.getfield 14, 3) := by decide +kernel
theorem d_OB_field_64 : decode bc_OB_field 64 = .ok (.iload_n 3, 1) := by decide +kernel
theorem d_OB_field_65 : decode bc_OB_field 65 = .ok (.invokevirtual 95, 3) := by decide +kernel
theorem d_OB_field_68 : decode bc_OB_field 68 = .ok (.ifCond .ne 5, 3) := by decide +kernel
theorem d_OB_field_71 : decode bc_OB_field 71 = .ok (.iconst (-1), 1) := by decide +kernel
theorem d_OB_field_72 : decode bc_OB_field 72 = .ok (.ireturn, 1) := by decide +kernel
theorem d_OB_field_73 : decode bc_OB_field 73 = .ok (.aload_n 0, 1) := by decide +kernel
theorem d_OB_field_74 : decode bc_OB_field 74 = .ok (.getfield 14, 3) := by decide +kernel
theorem d_OB_field_77 : decode bc_OB_field 77 = .ok (.iload_n 1, 1) := by decide +kernel
theorem d_OB_field_78 : decode bc_OB_field 78 = .ok (.iload_n 2, 1) := by decide +kernel
theorem d_OB_field_79 : decode bc_OB_field 79 = .ok (.iload_n 3, 1) := by decide +kernel
theorem d_OB_field_80 : decode bc_OB_field 80 = .ok (.invokevirtual 106, 3) := by decide +kernel
theorem d_OB_field_83 : decode bc_OB_field 83 = .ok (.ireturn, 1) := by decide +kernel
def cw_OB_field (G : Nat → ClassId) (a_t a_disk a_schema a_schema_owners a_schema_kinds a_schema_targets a_indexes a_kept a_batch a_draftText a_questions a_reader a_judge a_latest a_schema_above : Nat) (v_questionCount : Int32) (v_idsGiven : Int32) (v_everBegun : Int32) (v_disk_written : Int32) (v_disk_armed : Int32) (v_disk_half : Int32) (v_disk_logged : Int32) (v_disk_marked : Int32) (v_disk_down : Int32) (v_schema_classCount : Int32) (v_schema_fieldCount : Int32) (v_schema_owners : Nat → Int32) (v_schema_kinds : Nat → Int32) (v_schema_targets : Nat → Int32) : va_W := [(a_t, .inr (0, [.ref a_schema, .ref a_indexes, .ref a_disk, .ref a_kept, .ref a_batch, .ref a_draftText, .ref a_questions, .ref a_reader, .ref a_judge, .ref a_latest, .int v_questionCount, .int v_idsGiven, .int v_everBegun])), (a_disk, .inr (3, [.int v_disk_written, .int v_disk_armed, .int v_disk_half, .int v_disk_logged, .int v_disk_marked, .int v_disk_down])), (a_schema, .inr (1, [.ref a_schema_above, .ref a_schema_owners, .ref a_schema_kinds, .ref a_schema_targets, .int v_schema_classCount, .int v_schema_fieldCount])), (a_schema_owners, .inl (G 0, 8, .inl v_schema_owners)), (a_schema_kinds, .inl (G 0, 8, .inl v_schema_kinds)), (a_schema_targets, .inl (G 0, 8, .inl v_schema_targets))]
def f_OB_field_J73 (p1 : Int32) (p2 : Int32) (p3 : Int32) (v_schema_fieldCount_73 : Int32) (v_schema_owners_73 : Nat → Int32) (v_schema_kinds_73 : Nat → Int32) (v_schema_targets_73 : Nat → Int32) : Option (Int32 × Int32 × (Nat → Int32) × (Nat → Int32) × (Nat → Int32)) := (f_Schema_addField v_schema_fieldCount_73 v_schema_owners_73 v_schema_kinds_73 v_schema_targets_73 p1 p2 p3).bind fun o80 => (some (o80.1, o80.2.1, o80.2.2.1, o80.2.2.2.1, o80.2.2.2.2))
def f_OB_field (v_everBegun : Int32) (v_disk_down : Int32) (v_schema_classCount : Int32) (v_schema_fieldCount : Int32) (v_schema_owners : Nat → Int32) (v_schema_kinds : Nat → Int32) (v_schema_targets : Nat → Int32) (p1 : Int32) (p2 : Int32) (p3 : Int32) : Option (Int32 × Int32 × (Nat → Int32) × (Nat → Int32) × (Nat → Int32)) := if v_disk_down = 0 then (if v_everBegun = 0 then (if v_schema_fieldCount = 8 then (some ((-1), v_schema_fieldCount, v_schema_owners, v_schema_kinds, v_schema_targets)) else ((f_Schema_hasClass v_schema_classCount p1).bind fun o39 => (if o39 = 0 then (some ((-1), v_schema_fieldCount, v_schema_owners, v_schema_kinds, v_schema_targets)) else (if p2 < 0 then (some ((-1), v_schema_fieldCount, v_schema_owners, v_schema_kinds, v_schema_targets)) else (if p2 ≤ 2 then (if p2 = 0 then (f_OB_field_J73 p1 p2 p3 v_schema_fieldCount v_schema_owners v_schema_kinds v_schema_targets) else ((f_Schema_hasClass v_schema_classCount p3).bind fun o65 => (if o65 = 0 then (some ((-1), v_schema_fieldCount, v_schema_owners, v_schema_kinds, v_schema_targets)) else (f_OB_field_J73 p1 p2 p3 v_schema_fieldCount v_schema_owners v_schema_kinds v_schema_targets)))) else (some ((-1), v_schema_fieldCount, v_schema_owners, v_schema_kinds, v_schema_targets))))))) else (some ((-1), v_schema_fieldCount, v_schema_owners, v_schema_kinds, v_schema_targets))) else (some ((-4), v_schema_fieldCount, v_schema_owners, v_schema_kinds, v_schema_targets))
set_option maxHeartbeats 4000000 in
set_option maxRecDepth 100000 in
theorem c_OB_field (l : Launch) (D : va_G) (G : Nat → ClassId) (a_t a_disk a_schema a_schema_owners a_schema_kinds a_schema_targets a_indexes a_kept a_batch a_draftText a_questions a_reader a_judge a_latest a_schema_above : Nat) (v_questionCount : Int32) (v_idsGiven : Int32) (v_everBegun : Int32) (v_disk_written : Int32) (v_disk_armed : Int32) (v_disk_half : Int32) (v_disk_logged : Int32) (v_disk_marked : Int32) (v_disk_down : Int32) (v_schema_classCount : Int32) (v_schema_fieldCount : Int32) (v_schema_owners : Nat → Int32) (v_schema_kinds : Nat → Int32) (v_schema_targets : Nat → Int32) (p1 : Int32) (p2 : Int32) (p3 : Int32) (o : Int32 × Int32 × (Nat → Int32) × (Nat → Int32) × (Nat → Int32)) (hf : f_OB_field v_everBegun v_disk_down v_schema_classCount v_schema_fieldCount v_schema_owners v_schema_kinds v_schema_targets p1 p2 p3 = some o) (sz : Nat) : MetI l y_OB_field ws_OB_field ({ frames := 1, cells := 0, slots := 0, locals := 23 }) D (obT G) (cw_OB_field G a_t a_disk a_schema a_schema_owners a_schema_kinds a_schema_targets a_indexes a_kept a_batch a_draftText a_questions a_reader a_judge a_latest a_schema_above v_questionCount v_idsGiven v_everBegun v_disk_written v_disk_armed v_disk_half v_disk_logged v_disk_marked v_disk_down v_schema_classCount v_schema_fieldCount v_schema_owners v_schema_kinds v_schema_targets) (cw_OB_field G a_t a_disk a_schema a_schema_owners a_schema_kinds a_schema_targets a_indexes a_kept a_batch a_draftText a_questions a_reader a_judge a_latest a_schema_above v_questionCount v_idsGiven v_everBegun v_disk_written v_disk_armed v_disk_half v_disk_logged v_disk_marked v_disk_down v_schema_classCount o.2.1 o.2.2.1 o.2.2.2.1 o.2.2.2.2) [.ref a_t, .int p1, .int p2, .int p3] o.1 sz := by
  refine ob_of (cc := bc_OB_field) (maxL := 4) (ret := (some .int)) (Qc := ObQi D (obT G) (cw_OB_field G a_t a_disk a_schema a_schema_owners a_schema_kinds a_schema_targets a_indexes a_kept a_batch a_draftText a_questions a_reader a_judge a_latest a_schema_above v_questionCount v_idsGiven v_everBegun v_disk_written v_disk_armed v_disk_half v_disk_logged v_disk_marked v_disk_down v_schema_classCount o.2.1 o.2.2.1 o.2.2.2.1 o.2.2.2.2) o.1) (by decide) rfl (Nat.le_of_ble_eq_true rfl) ?_
  intro p e s m below meth c A ls H locs hx hb hr hml hts hown hlk hnm hZ hP hK hD hA hS hl
  have hret : ∀ (o' : Int32 × Int32 × (Nat → Int32) × (Nat → Int32) × (Nat → Int32)) (H : Heap) (locs : List Loc) (pc : Nat) (ls : Array Slot), some o' = some o → va_P D vwCl (cw_OB_field G a_t a_disk a_schema a_schema_owners a_schema_kinds a_schema_targets a_indexes a_kept a_batch a_draftText a_questions a_reader a_judge a_latest a_schema_above v_questionCount v_idsGiven v_everBegun v_disk_written v_disk_armed v_disk_half v_disk_logged v_disk_marked v_disk_down v_schema_classCount o'.2.1 o'.2.2.1 o'.2.2.2.1 o'.2.2.2.2) H → va_D A (cw_OB_field G a_t a_disk a_schema a_schema_owners a_schema_kinds a_schema_targets a_indexes a_kept a_batch a_draftText a_questions a_reader a_judge a_latest a_schema_above v_questionCount v_idsGiven v_everBegun v_disk_written v_disk_armed v_disk_half v_disk_logged v_disk_marked v_disk_down v_schema_classCount o'.2.1 o'.2.2.1 o'.2.2.2.1 o'.2.2.2.2) → va_S A s.heap H locs → narrow .int (.int o'.1) = .int o'.1 → decode bc_OB_field pc = .ok (.ireturn, 1) → W p l e { frames := 1, cells := 0, slots := 0, locals := 23 } s m ([.ref a_t, .int p1, .int p2, .int p3] : List Value).toArray below meth c H locs 0 0 (MQ below (ObQi D (obT G) (cw_OB_field G a_t a_disk a_schema a_schema_owners a_schema_kinds a_schema_targets a_indexes a_kept a_batch a_draftText a_questions a_reader a_judge a_latest a_schema_above v_questionCount v_idsGiven v_everBegun v_disk_written v_disk_armed v_disk_half v_disk_logged v_disk_marked v_disk_down v_schema_classCount o.2.1 o.2.2.1 o.2.2.2.1 o.2.2.2.2) o.1 A) ([.ref a_t, .int p1, .int p2, .int p3] : List Value).toArray s 0 0 A) (F0 m pc ls [.int o'.1]) := by
    intro o' H locs pc ls he hP hD hS hn hd
    obtain rfl := Option.some.inj he
    exact ob_iret hx hb hr hlk hK hP hD hS hn hd
  generalize MQ below (ObQi D (obT G) (cw_OB_field G a_t a_disk a_schema a_schema_owners a_schema_kinds a_schema_targets a_indexes a_kept a_batch a_draftText a_questions a_reader a_judge a_latest a_schema_above v_questionCount v_idsGiven v_everBegun v_disk_written v_disk_armed v_disk_half v_disk_logged v_disk_marked v_disk_down v_schema_classCount o.2.1 o.2.2.1 o.2.2.2.1 o.2.2.2.2) o.1 A) ([.ref a_t, .int p1, .int p2, .int p3] : List Value).toArray s 0 0 A = Q at hret ⊢
  have hl : lv_has ls 4 [(0, .ref a_t), (1, .int p1), (2, .int p2), (3, .int p3)] := hl
  unfold f_OB_field at hf
  have blk73 : ∀ (v_schema_fieldCount_73 : Int32) (v_schema_owners_73 : Nat → Int32) (v_schema_kinds_73 : Nat → Int32) (v_schema_targets_73 : Nat → Int32) (ls : Array Slot) (H : Heap) (locs : List Loc), lv_has ls 4 [(0, .ref a_t), (1, .int p1), (2, .int p2), (3, .int p3)] → va_P D vwCl (cw_OB_field G a_t a_disk a_schema a_schema_owners a_schema_kinds a_schema_targets a_indexes a_kept a_batch a_draftText a_questions a_reader a_judge a_latest a_schema_above v_questionCount v_idsGiven v_everBegun v_disk_written v_disk_armed v_disk_half v_disk_logged v_disk_marked v_disk_down v_schema_classCount v_schema_fieldCount_73 v_schema_owners_73 v_schema_kinds_73 v_schema_targets_73) H → va_D A (cw_OB_field G a_t a_disk a_schema a_schema_owners a_schema_kinds a_schema_targets a_indexes a_kept a_batch a_draftText a_questions a_reader a_judge a_latest a_schema_above v_questionCount v_idsGiven v_everBegun v_disk_written v_disk_armed v_disk_half v_disk_logged v_disk_marked v_disk_down v_schema_classCount v_schema_fieldCount_73 v_schema_owners_73 v_schema_kinds_73 v_schema_targets_73) → va_S A s.heap H locs → f_OB_field_J73 p1 p2 p3 v_schema_fieldCount_73 v_schema_owners_73 v_schema_kinds_73 v_schema_targets_73 = some o → W p l e ({ frames := 1, cells := 0, slots := 0, locals := 23 }) s m ([.ref a_t, .int p1, .int p2, .int p3] : List Value).toArray below meth c H locs 0 0 Q (F0 m 73 ls []) := by
    intro v_schema_fieldCount_73 v_schema_owners_73 v_schema_kinds_73 v_schema_targets_73 ls H locs hl hP hD hS hf
    unfold f_OB_field_J73 at hf
    refine lv_aload_n hx hb d_OB_field_73 rfl (lv_at hl 0 rfl) ?_
    refine va_get (D := D) (ci := 0) (v := .ref a_schema) (C := "ObjectBase") (T := TC_OB) (N := 13) hx hb hts inC_OB hown hK hP 0 rfl rfl 0 (by decide) (hts _ tw232) (fun _ h9 => h9) rfl d_OB_field_74 ?_
    refine lv_iload_n hx hb d_OB_field_77 rfl (lv_at hl 1 rfl) ?_
    refine lv_iload_n hx hb d_OB_field_78 rfl (lv_at hl 2 rfl) ?_
    refine lv_iload_n hx hb d_OB_field_79 rfl (lv_at hl 3 rfl) ?_
    obtain ⟨o80, ho80, hf⟩ := ob_b hf
    refine ob_calli (w2 := (cw_OB_field G a_t a_disk a_schema a_schema_owners a_schema_kinds a_schema_targets a_indexes a_kept a_batch a_draftText a_questions a_reader a_judge a_latest a_schema_above v_questionCount v_idsGiven v_everBegun v_disk_written v_disk_armed v_disk_half v_disk_logged v_disk_marked v_disk_down v_schema_classCount o80.2.1 o80.2.2.1 o80.2.2.2.1 o80.2.2.2.2)) (va_runV (As := [.int p1, .int p2, .int p3]) (rest := []) ⟨hx, hb, hml, hown, hts⟩ (c_Schema_addField l D G a_schema a_schema_owners a_schema_kinds a_schema_targets a_schema_above v_schema_classCount v_schema_fieldCount_73 v_schema_owners_73 v_schema_kinds_73 v_schema_targets_73 p1 p2 p3 o80 ho80 H.size) (cwV 3 hts (gV tw288 tw289 tw290 tw2 tw291) rfl rfl rfl (by decide +kernel) ⟨Nat.le_of_ble_eq_true rfl, Nat.le_of_ble_eq_true rfl⟩) (ob_preV (q0 := 2) (ci := 1) hZ hK hP hD [2, 3, 4, 5] rfl rfl rfl rfl rfl) rfl rfl hl.1 rfl (lv_room (Nat.le_of_ble_eq_true rfl)) d_OB_field_80 ⟨Nat.le_refl _, Nat.le_refl _⟩) hP hD hA hS [2, 3, 4, 5] rfl rfl rfl rfl (fun H locs hP hD hS => ?_)
    exact hret (o80.1, o80.2.1, o80.2.2.1, o80.2.2.2.1, o80.2.2.2.2) H locs _ ls hf hP hD hS rfl d_OB_field_83
  refine lv_aload_n hx hb d_OB_field_0 rfl (lv_at hl 0 rfl) ?_
  refine va_get (D := D) (ci := 0) (v := .ref a_disk) (C := "ObjectBase") (T := TC_OB) (N := 13) hx hb hts inC_OB hown hK hP 0 rfl rfl 2 (by decide) (hts _ tw234) (fun _ h9 => h9) rfl d_OB_field_1 ?_
  refine va_get (D := D) (ci := 3) (v := .int v_disk_down) (C := "ObjectBase$Disk") (T := TC_Disk) (N := 6) hx hb hts inC_Disk hown hK hP 1 rfl rfl 5 (by decide) (hts _ tw87) (fun _ h9 => h9) rfl d_OB_field_4 ?_
  refine lv_if_eq (tgt := 13) hx hb d_OB_field_7 (by decide) (fun hc7 => ?_) (fun hc7 => ?_)
  · have hf := ob_t hc7 hf
    refine lv_aload_n hx hb d_OB_field_13 rfl (lv_at hl 0 rfl) ?_
    refine va_get (D := D) (ci := 0) (v := .int v_everBegun) (C := "ObjectBase") (T := TC_OB) (N := 13) hx hb hts inC_OB hown hK hP 0 rfl rfl 12 (by decide) (hts _ tw244) (fun _ h9 => h9) rfl d_OB_field_14 ?_
    refine lv_if_ne (tgt := 32) hx hb d_OB_field_17 (by decide) (fun hc17 => ?_) (fun hc17 => ?_)
    · have hf := ob_f hc17 hf
      refine lv_iconst (v := (-1)) hx hb d_OB_field_32 (by decide) ?_
      exact hret ((-1), v_schema_fieldCount, v_schema_owners, v_schema_kinds, v_schema_targets) H locs _ ls hf hP hD hS rfl d_OB_field_33
    · have hf := ob_t hc17 hf
      refine lv_aload_n hx hb d_OB_field_20 rfl (lv_at hl 0 rfl) ?_
      refine va_get (D := D) (ci := 0) (v := .ref a_schema) (C := "ObjectBase") (T := TC_OB) (N := 13) hx hb hts inC_OB hown hK hP 0 rfl rfl 0 (by decide) (hts _ tw232) (fun _ h9 => h9) rfl d_OB_field_21 ?_
      refine va_get (D := D) (ci := 1) (v := .int v_schema_fieldCount) (C := "ObjectBase$Schema") (T := TC_Schema) (N := 6) hx hb hts inC_Schema hown hK hP 2 rfl rfl 5 (by decide) (hts _ tw40) (fun _ h9 => h9) rfl d_OB_field_24 ?_
      refine lv_bipush (v := 8) hx hb d_OB_field_27 (by decide) ?_
      refine lv_icmp_ne (tgt := 34) hx hb d_OB_field_29 (by decide) (fun hc29 => ?_) (fun hc29 => ?_)
      · have hf := ob_f hc29 hf
        refine lv_aload_n hx hb d_OB_field_34 rfl (lv_at hl 0 rfl) ?_
        refine va_get (D := D) (ci := 0) (v := .ref a_schema) (C := "ObjectBase") (T := TC_OB) (N := 13) hx hb hts inC_OB hown hK hP 0 rfl rfl 0 (by decide) (hts _ tw232) (fun _ h9 => h9) rfl d_OB_field_35 ?_
        refine lv_iload_n hx hb d_OB_field_38 rfl (lv_at hl 1 rfl) ?_
        obtain ⟨o39, ho39, hf⟩ := ob_b hf
        refine ob_calli (w2 := (cw_OB_field G a_t a_disk a_schema a_schema_owners a_schema_kinds a_schema_targets a_indexes a_kept a_batch a_draftText a_questions a_reader a_judge a_latest a_schema_above v_questionCount v_idsGiven v_everBegun v_disk_written v_disk_armed v_disk_half v_disk_logged v_disk_marked v_disk_down v_schema_classCount v_schema_fieldCount v_schema_owners v_schema_kinds v_schema_targets)) (va_runV (As := [.int p1]) (rest := []) ⟨hx, hb, hml, hown, hts⟩ (c_Schema_hasClass l D G a_schema a_schema_above a_schema_owners a_schema_kinds a_schema_targets v_schema_classCount v_schema_fieldCount p1 o39 ho39 H.size) (cwV 1 hts (gV tw276 tw277 tw278 tw2 tw279) rfl rfl rfl (by decide +kernel) ⟨Nat.le_of_ble_eq_true rfl, Nat.le_of_ble_eq_true rfl⟩) (ob_preV (q0 := 2) (ci := 1) hZ hK hP hD [2] rfl rfl rfl rfl rfl) rfl rfl hl.1 rfl (lv_room (Nat.le_of_ble_eq_true rfl)) d_OB_field_39 ⟨Nat.le_refl _, Nat.le_refl _⟩) hP hD hA hS [2] rfl rfl rfl rfl (fun H locs hP hD hS => ?_)
        refine lv_if_eq (tgt := 54) hx hb d_OB_field_42 (by decide) (fun hc42 => ?_) (fun hc42 => ?_)
        · have hf := ob_t hc42 hf
          refine lv_iconst (v := (-1)) hx hb d_OB_field_54 (by decide) ?_
          exact hret ((-1), v_schema_fieldCount, v_schema_owners, v_schema_kinds, v_schema_targets) H locs _ ls hf hP hD hS rfl d_OB_field_55
        · have hf := ob_f hc42 hf
          refine lv_iload_n hx hb d_OB_field_45 rfl (lv_at hl 2 rfl) ?_
          refine lv_if_lt (tgt := 54) hx hb d_OB_field_46 (by decide) (fun hc46 => ?_) (fun hc46 => ?_)
          · have hf := ob_t hc46 hf
            refine lv_iconst (v := (-1)) hx hb d_OB_field_54 (by decide) ?_
            exact hret ((-1), v_schema_fieldCount, v_schema_owners, v_schema_kinds, v_schema_targets) H locs _ ls hf hP hD hS rfl d_OB_field_55
          · have hf := ob_f hc46 hf
            refine lv_iload_n hx hb d_OB_field_49 rfl (lv_at hl 2 rfl) ?_
            refine lv_iconst (v := 2) hx hb d_OB_field_50 (by decide) ?_
            refine lv_icmp_le (tgt := 56) hx hb d_OB_field_51 (by decide) (fun hc51 => ?_) (fun hc51 => ?_)
            · have hf := ob_t hc51 hf
              refine lv_iload_n hx hb d_OB_field_56 rfl (lv_at hl 2 rfl) ?_
              refine lv_if_eq (tgt := 73) hx hb d_OB_field_57 (by decide) (fun hc57 => ?_) (fun hc57 => ?_)
              · have hf := ob_t hc57 hf
                exact blk73 v_schema_fieldCount v_schema_owners v_schema_kinds v_schema_targets ls H locs (lv_sub hl [0, 1, 2, 3] rfl) hP hD hS hf
              · have hf := ob_f hc57 hf
                refine lv_aload_n hx hb d_OB_field_60 rfl (lv_at hl 0 rfl) ?_
                refine va_get (D := D) (ci := 0) (v := .ref a_schema) (C := "ObjectBase") (T := TC_OB) (N := 13) hx hb hts inC_OB hown hK hP 0 rfl rfl 0 (by decide) (hts _ tw232) (fun _ h9 => h9) rfl d_OB_field_61 ?_
                refine lv_iload_n hx hb d_OB_field_64 rfl (lv_at hl 3 rfl) ?_
                obtain ⟨o65, ho65, hf⟩ := ob_b hf
                refine ob_calli (w2 := (cw_OB_field G a_t a_disk a_schema a_schema_owners a_schema_kinds a_schema_targets a_indexes a_kept a_batch a_draftText a_questions a_reader a_judge a_latest a_schema_above v_questionCount v_idsGiven v_everBegun v_disk_written v_disk_armed v_disk_half v_disk_logged v_disk_marked v_disk_down v_schema_classCount v_schema_fieldCount v_schema_owners v_schema_kinds v_schema_targets)) (va_runV (As := [.int p3]) (rest := []) ⟨hx, hb, hml, hown, hts⟩ (c_Schema_hasClass l D G a_schema a_schema_above a_schema_owners a_schema_kinds a_schema_targets v_schema_classCount v_schema_fieldCount p3 o65 ho65 H.size) (cwV 1 hts (gV tw276 tw277 tw278 tw2 tw279) rfl rfl rfl (by decide +kernel) ⟨Nat.le_of_ble_eq_true rfl, Nat.le_of_ble_eq_true rfl⟩) (ob_preV (q0 := 2) (ci := 1) hZ hK hP hD [2] rfl rfl rfl rfl rfl) rfl rfl hl.1 rfl (lv_room (Nat.le_of_ble_eq_true rfl)) d_OB_field_65 ⟨Nat.le_refl _, Nat.le_refl _⟩) hP hD hA hS [2] rfl rfl rfl rfl (fun H locs hP hD hS => ?_)
                refine lv_if_ne (tgt := 73) hx hb d_OB_field_68 (by decide) (fun hc68 => ?_) (fun hc68 => ?_)
                · have hf := ob_f hc68 hf
                  exact blk73 v_schema_fieldCount v_schema_owners v_schema_kinds v_schema_targets ls H locs (lv_sub hl [0, 1, 2, 3] rfl) hP hD hS hf
                · have hf := ob_t hc68 hf
                  refine lv_iconst (v := (-1)) hx hb d_OB_field_71 (by decide) ?_
                  exact hret ((-1), v_schema_fieldCount, v_schema_owners, v_schema_kinds, v_schema_targets) H locs _ ls hf hP hD hS rfl d_OB_field_72
            · have hf := ob_f hc51 hf
              refine lv_iconst (v := (-1)) hx hb d_OB_field_54 (by decide) ?_
              exact hret ((-1), v_schema_fieldCount, v_schema_owners, v_schema_kinds, v_schema_targets) H locs _ ls hf hP hD hS rfl d_OB_field_55
      · have hf := ob_t hc29 hf
        refine lv_iconst (v := (-1)) hx hb d_OB_field_32 (by decide) ?_
        exact hret ((-1), v_schema_fieldCount, v_schema_owners, v_schema_kinds, v_schema_targets) H locs _ ls hf hP hD hS rfl d_OB_field_33
  · have hf := ob_f hc7 hf
    refine lv_bipush (v := (-4)) hx hb d_OB_field_10 (by decide) ?_
    exact hret ((-4), v_schema_fieldCount, v_schema_owners, v_schema_kinds, v_schema_targets) H locs _ ls hf hP hD hS rfl d_OB_field_12
abbrev bc_OB_index : ByteArray := prog_1_method_4_code
abbrev y_OB_index : MethodName := ⟨"ObjectBase", "index", "(IIII)I"⟩
def ws_OB_index : List Cond := .code y_OB_index bc_OB_index 5 (some .int) :: obW
theorem d_OB_index_0 : decode bc_OB_index 0 = .ok (.aload_n 0, 1) := by decide +kernel
theorem d_OB_index_1 : decode bc_OB_index 1 = .ok (.getfield 28, 3) := by decide +kernel
theorem d_OB_index_4 : decode bc_OB_index 4 = .ok (.getfield 84, 3) := by decide +kernel
theorem d_OB_index_7 : decode bc_OB_index 7 = .ok (.ifCond .eq 6, 3) := by decide +kernel
theorem d_OB_index_10 : decode bc_OB_index 10 = .ok (.bipush (-4), 2) := by decide +kernel
theorem d_OB_index_12 : decode bc_OB_index 12 = .ok (.ireturn, 1) := by decide +kernel
theorem d_OB_index_13 : decode bc_OB_index 13 = .ok (.aload_n 0, 1) := by decide +kernel
theorem d_OB_index_14 : decode bc_OB_index 14 = .ok (.getfield 42, 3) := by decide +kernel
theorem d_OB_index_17 : decode bc_OB_index 17 = .ok (.getfield 110, 3) := by decide +kernel
theorem d_OB_index_20 : decode bc_OB_index 20 = .ok (.ifCond .ne 25, 3) := by decide +kernel
theorem d_OB_index_23 : decode bc_OB_index 23 = .ok (.aload_n 0, 1) := by decide +kernel
theorem d_OB_index_24 : decode bc_OB_index 24 = .ok (.getfield 21, 3) := by decide +kernel
theorem d_OB_index_27 : decode bc_OB_index 27 = .ok (.getfield 113, 3) := by decide +kernel
theorem d_OB_index_30 : decode bc_OB_index 30 = .ok (.iconst 3, 1) := by decide +kernel
theorem d_OB_index_31 : decode bc_OB_index 31 = .ok (.if_icmp .eq 14, 3) := by decide +kernel
theorem d_OB_index_34 : decode bc_OB_index 34 = .ok (.aload_n 0, 1) := by decide +kernel
theorem d_OB_index_35 : decode bc_OB_index 35 = .ok (.getfield 14, 3) := by decide +kernel
theorem d_OB_index_38 : decode bc_OB_index 38 = .ok (.iload_n 1, 1) := by decide +kernel
theorem d_OB_index_39 : decode bc_OB_index 39 = .ok (.invokevirtual 95, 3) := by decide +kernel
theorem d_OB_index_42 : decode bc_OB_index 42 = .ok (.ifCond .ne 5, 3) := by decide +kernel
theorem d_OB_index_45 : decode bc_OB_index 45 = .ok (.iconst (-1), 1) := by decide +kernel
theorem d_OB_index_46 : decode bc_OB_index 46 = .ok (.ireturn, 1) := by decide +kernel
theorem d_OB_index_47 : decode bc_OB_index 47 = .ok (.iload_n 2, 1) := by decide +kernel
theorem d_OB_index_48 : decode bc_OB_index 48 = .ok (.iconst (-1), 1) := by decide +kernel
theorem d_OB_index_49 : decode bc_OB_index 49 = .ok (.if_icmp .eq 14, 3) := by decide +kernel
theorem d_OB_index_52 : decode bc_OB_index 52 = .ok (.iload_n 3, 1) := by decide +kernel
theorem d_OB_index_53 : decode bc_OB_index 53 = .ok (.iconst (-1), 1) := by decide +kernel
theorem d_OB_index_54 : decode bc_OB_index 54 = .ok (.if_icmp .ne 11, 3) := by decide +kernel
theorem d_OB_index_57 : decode bc_OB_index 57 = .ok (.iload 4, 2) := by decide +kernel
theorem d_OB_index_59 : decode bc_OB_index 59 = .ok (.iconst (-1), 1) := by decide +kernel
theorem d_OB_index_60 : decode bc_OB_index 60 = .ok (.if_icmp .eq 5, 3) := by decide +kernel
theorem d_OB_index_63 : decode bc_OB_index 63 = .ok (.iconst (-1), 1) := by decide +kernel
theorem d_OB_index_64 : decode bc_OB_index 64 = .ok (.ireturn, 1) := by decide +kernel
theorem d_OB_index_65 : decode bc_OB_index 65 = .ok (.aload_n 0, 1) := by decide +kernel
theorem d_OB_index_66 : decode bc_OB_index 66 = .ok (.getfield 14, 3) := by decide +kernel
theorem d_OB_index_69 : decode bc_OB_index 69 = .ok (.iload_n 1, 1) := by decide +kernel
theorem d_OB_index_70 : decode bc_OB_index 70 = .ok (.iload_n 2, 1) := by decide +kernel
theorem d_OB_index_71 : decode bc_OB_index 71 = .ok (.iload_n 3, 1) := by decide +kernel
theorem d_OB_index_72 : decode bc_OB_index 72 = .ok (.iload 4, 2) := by decide +kernel
theorem d_OB_index_74 : decode bc_OB_index 74 = .ok (.invokevirtual 116, 3) := by decide +kernel
theorem d_OB_index_77 : decode bc_OB_index 77 = .ok (.ifCond .ne 5, 3) := by decide +kernel
theorem d_OB_index_80 : decode bc_OB_index 80 = .ok (.iconst (-1), 1) := by decide +kernel
theorem d_OB_index_81 : decode bc_OB_index 81 = .ok (.ireturn, 1) := by decide +kernel
theorem d_OB_index_82 : decode bc_OB_index 82 = .ok (.aload_n 0, 1) := by decide +kernel
theorem d_OB_index_83 : decode bc_OB_index 83 = .ok (.getfield 21, 3) := by decide +kernel
theorem d_OB_index_86 : decode bc_OB_index 86 = .ok (.iload_n 1, 1) := by decide +kernel
theorem d_OB_index_87 : decode bc_OB_index 87 = .ok (.iload_n 2, 1) := by decide +kernel
theorem d_OB_index_88 : decode bc_OB_index 88 = .ok (.iload_n 3, 1) := by decide +kernel
theorem d_OB_index_89 : decode bc_OB_index 89 = .ok (.iload 4, 2) := by decide +kernel
theorem d_OB_index_91 : decode bc_OB_index 91 = .ok (.invokevirtual 120, 3) := by decide +kernel
theorem d_OB_index_94 : decode bc_OB_index 94 = .ok (.ireturn, 1) := by decide +kernel
def cw_OB_index (G : Nat → ClassId) (a_t a_disk a_batch a_indexes a_schema a_schema_above a_schema_owners a_schema_kinds a_schema_targets a_indexes_classes a_indexes_fields a_kept a_draftText a_questions a_reader a_judge a_latest a_batch_image : Nat) (v_questionCount : Int32) (v_idsGiven : Int32) (v_everBegun : Int32) (v_disk_written : Int32) (v_disk_armed : Int32) (v_disk_half : Int32) (v_disk_logged : Int32) (v_disk_marked : Int32) (v_disk_down : Int32) (v_batch_known : Int64) (v_batch_touched : Int64) (v_batch_namesTouched : Int32) (v_batch_open : Int32) (v_indexes_count : Int32) (v_schema_classCount : Int32) (v_schema_fieldCount : Int32) (v_schema_above : Nat → Int32) (v_schema_owners : Nat → Int32) (v_schema_kinds : Nat → Int32) (v_schema_targets : Nat → Int32) (v_indexes_classes : Nat → Int32) (v_indexes_fields : Nat → Int32) : va_W := [(a_t, .inr (0, [.ref a_schema, .ref a_indexes, .ref a_disk, .ref a_kept, .ref a_batch, .ref a_draftText, .ref a_questions, .ref a_reader, .ref a_judge, .ref a_latest, .int v_questionCount, .int v_idsGiven, .int v_everBegun])), (a_disk, .inr (3, [.int v_disk_written, .int v_disk_armed, .int v_disk_half, .int v_disk_logged, .int v_disk_marked, .int v_disk_down])), (a_batch, .inr (5, [.ref a_batch_image, .long v_batch_known, .long v_batch_touched, .int v_batch_namesTouched, .int v_batch_open])), (a_indexes, .inr (2, [.ref a_indexes_classes, .ref a_indexes_fields, .int v_indexes_count])), (a_schema, .inr (1, [.ref a_schema_above, .ref a_schema_owners, .ref a_schema_kinds, .ref a_schema_targets, .int v_schema_classCount, .int v_schema_fieldCount])), (a_schema_above, .inl (G 0, 6, .inl v_schema_above)), (a_schema_owners, .inl (G 0, 8, .inl v_schema_owners)), (a_schema_kinds, .inl (G 0, 8, .inl v_schema_kinds)), (a_schema_targets, .inl (G 0, 8, .inl v_schema_targets)), (a_indexes_classes, .inl (G 0, 3, .inl v_indexes_classes)), (a_indexes_fields, .inl (G 0, 9, .inl v_indexes_fields))]
def f_OB_index_J65 (v_schema_fieldCount : Int32) (v_schema_above : Nat → Int32) (v_schema_owners : Nat → Int32) (v_schema_kinds : Nat → Int32) (v_schema_targets : Nat → Int32) (p1 : Int32) (p2 : Int32) (p3 : Int32) (p4 : Int32) (v_indexes_count_65 : Int32) (v_indexes_classes_65 : Nat → Int32) (v_indexes_fields_65 : Nat → Int32) : Option (Int32 × Int32 × (Nat → Int32) × (Nat → Int32)) := (f_Schema_leadsToNumber v_schema_fieldCount v_schema_above v_schema_owners v_schema_kinds v_schema_targets p1 p2 p3 p4).bind fun o74 => (if o74 = 0 then (some ((-1), v_indexes_count_65, v_indexes_classes_65, v_indexes_fields_65)) else ((f_Indexes_addIndex v_indexes_count_65 v_indexes_classes_65 v_indexes_fields_65 p1 p2 p3 p4).bind fun o91 => (some (o91.1, o91.2.1, o91.2.2.1, o91.2.2.2))))
def f_OB_index (v_disk_down : Int32) (v_batch_open : Int32) (v_indexes_count : Int32) (v_schema_classCount : Int32) (v_schema_fieldCount : Int32) (v_schema_above : Nat → Int32) (v_schema_owners : Nat → Int32) (v_schema_kinds : Nat → Int32) (v_schema_targets : Nat → Int32) (v_indexes_classes : Nat → Int32) (v_indexes_fields : Nat → Int32) (p1 : Int32) (p2 : Int32) (p3 : Int32) (p4 : Int32) : Option (Int32 × Int32 × (Nat → Int32) × (Nat → Int32)) := if v_disk_down = 0 then (if v_batch_open = 0 then (if v_indexes_count = 3 then (some ((-1), v_indexes_count, v_indexes_classes, v_indexes_fields)) else ((f_Schema_hasClass v_schema_classCount p1).bind fun o39 => (if o39 = 0 then (some ((-1), v_indexes_count, v_indexes_classes, v_indexes_fields)) else (if p2 = (-1) then (some ((-1), v_indexes_count, v_indexes_classes, v_indexes_fields)) else (if p3 = (-1) then (if p4 = (-1) then (f_OB_index_J65 v_schema_fieldCount v_schema_above v_schema_owners v_schema_kinds v_schema_targets p1 p2 p3 p4 v_indexes_count v_indexes_classes v_indexes_fields) else (some ((-1), v_indexes_count, v_indexes_classes, v_indexes_fields))) else (f_OB_index_J65 v_schema_fieldCount v_schema_above v_schema_owners v_schema_kinds v_schema_targets p1 p2 p3 p4 v_indexes_count v_indexes_classes v_indexes_fields)))))) else (some ((-1), v_indexes_count, v_indexes_classes, v_indexes_fields))) else (some ((-4), v_indexes_count, v_indexes_classes, v_indexes_fields))
set_option maxHeartbeats 4000000 in
set_option maxRecDepth 100000 in
theorem c_OB_index (l : Launch) (D : va_G) (G : Nat → ClassId) (a_t a_disk a_batch a_indexes a_schema a_schema_above a_schema_owners a_schema_kinds a_schema_targets a_indexes_classes a_indexes_fields a_kept a_draftText a_questions a_reader a_judge a_latest a_batch_image : Nat) (v_questionCount : Int32) (v_idsGiven : Int32) (v_everBegun : Int32) (v_disk_written : Int32) (v_disk_armed : Int32) (v_disk_half : Int32) (v_disk_logged : Int32) (v_disk_marked : Int32) (v_disk_down : Int32) (v_batch_known : Int64) (v_batch_touched : Int64) (v_batch_namesTouched : Int32) (v_batch_open : Int32) (v_indexes_count : Int32) (v_schema_classCount : Int32) (v_schema_fieldCount : Int32) (v_schema_above : Nat → Int32) (v_schema_owners : Nat → Int32) (v_schema_kinds : Nat → Int32) (v_schema_targets : Nat → Int32) (v_indexes_classes : Nat → Int32) (v_indexes_fields : Nat → Int32) (p1 : Int32) (p2 : Int32) (p3 : Int32) (p4 : Int32) (o : Int32 × Int32 × (Nat → Int32) × (Nat → Int32)) (hf : f_OB_index v_disk_down v_batch_open v_indexes_count v_schema_classCount v_schema_fieldCount v_schema_above v_schema_owners v_schema_kinds v_schema_targets v_indexes_classes v_indexes_fields p1 p2 p3 p4 = some o) (sz : Nat) : MetI l y_OB_index ws_OB_index ({ frames := 3, cells := 0, slots := 0, locals := 69 }) D (obT G) (cw_OB_index G a_t a_disk a_batch a_indexes a_schema a_schema_above a_schema_owners a_schema_kinds a_schema_targets a_indexes_classes a_indexes_fields a_kept a_draftText a_questions a_reader a_judge a_latest a_batch_image v_questionCount v_idsGiven v_everBegun v_disk_written v_disk_armed v_disk_half v_disk_logged v_disk_marked v_disk_down v_batch_known v_batch_touched v_batch_namesTouched v_batch_open v_indexes_count v_schema_classCount v_schema_fieldCount v_schema_above v_schema_owners v_schema_kinds v_schema_targets v_indexes_classes v_indexes_fields) (cw_OB_index G a_t a_disk a_batch a_indexes a_schema a_schema_above a_schema_owners a_schema_kinds a_schema_targets a_indexes_classes a_indexes_fields a_kept a_draftText a_questions a_reader a_judge a_latest a_batch_image v_questionCount v_idsGiven v_everBegun v_disk_written v_disk_armed v_disk_half v_disk_logged v_disk_marked v_disk_down v_batch_known v_batch_touched v_batch_namesTouched v_batch_open o.2.1 v_schema_classCount v_schema_fieldCount v_schema_above v_schema_owners v_schema_kinds v_schema_targets o.2.2.1 o.2.2.2) [.ref a_t, .int p1, .int p2, .int p3, .int p4] o.1 sz := by
  refine ob_of (cc := bc_OB_index) (maxL := 5) (ret := (some .int)) (Qc := ObQi D (obT G) (cw_OB_index G a_t a_disk a_batch a_indexes a_schema a_schema_above a_schema_owners a_schema_kinds a_schema_targets a_indexes_classes a_indexes_fields a_kept a_draftText a_questions a_reader a_judge a_latest a_batch_image v_questionCount v_idsGiven v_everBegun v_disk_written v_disk_armed v_disk_half v_disk_logged v_disk_marked v_disk_down v_batch_known v_batch_touched v_batch_namesTouched v_batch_open o.2.1 v_schema_classCount v_schema_fieldCount v_schema_above v_schema_owners v_schema_kinds v_schema_targets o.2.2.1 o.2.2.2) o.1) (by decide) rfl (Nat.le_of_ble_eq_true rfl) ?_
  intro p e s m below meth c A ls H locs hx hb hr hml hts hown hlk hnm hZ hP hK hD hA hS hl
  have hret : ∀ (o' : Int32 × Int32 × (Nat → Int32) × (Nat → Int32)) (H : Heap) (locs : List Loc) (pc : Nat) (ls : Array Slot), some o' = some o → va_P D vwCl (cw_OB_index G a_t a_disk a_batch a_indexes a_schema a_schema_above a_schema_owners a_schema_kinds a_schema_targets a_indexes_classes a_indexes_fields a_kept a_draftText a_questions a_reader a_judge a_latest a_batch_image v_questionCount v_idsGiven v_everBegun v_disk_written v_disk_armed v_disk_half v_disk_logged v_disk_marked v_disk_down v_batch_known v_batch_touched v_batch_namesTouched v_batch_open o'.2.1 v_schema_classCount v_schema_fieldCount v_schema_above v_schema_owners v_schema_kinds v_schema_targets o'.2.2.1 o'.2.2.2) H → va_D A (cw_OB_index G a_t a_disk a_batch a_indexes a_schema a_schema_above a_schema_owners a_schema_kinds a_schema_targets a_indexes_classes a_indexes_fields a_kept a_draftText a_questions a_reader a_judge a_latest a_batch_image v_questionCount v_idsGiven v_everBegun v_disk_written v_disk_armed v_disk_half v_disk_logged v_disk_marked v_disk_down v_batch_known v_batch_touched v_batch_namesTouched v_batch_open o'.2.1 v_schema_classCount v_schema_fieldCount v_schema_above v_schema_owners v_schema_kinds v_schema_targets o'.2.2.1 o'.2.2.2) → va_S A s.heap H locs → narrow .int (.int o'.1) = .int o'.1 → decode bc_OB_index pc = .ok (.ireturn, 1) → W p l e { frames := 3, cells := 0, slots := 0, locals := 69 } s m ([.ref a_t, .int p1, .int p2, .int p3, .int p4] : List Value).toArray below meth c H locs 0 0 (MQ below (ObQi D (obT G) (cw_OB_index G a_t a_disk a_batch a_indexes a_schema a_schema_above a_schema_owners a_schema_kinds a_schema_targets a_indexes_classes a_indexes_fields a_kept a_draftText a_questions a_reader a_judge a_latest a_batch_image v_questionCount v_idsGiven v_everBegun v_disk_written v_disk_armed v_disk_half v_disk_logged v_disk_marked v_disk_down v_batch_known v_batch_touched v_batch_namesTouched v_batch_open o.2.1 v_schema_classCount v_schema_fieldCount v_schema_above v_schema_owners v_schema_kinds v_schema_targets o.2.2.1 o.2.2.2) o.1 A) ([.ref a_t, .int p1, .int p2, .int p3, .int p4] : List Value).toArray s 0 0 A) (F0 m pc ls [.int o'.1]) := by
    intro o' H locs pc ls he hP hD hS hn hd
    obtain rfl := Option.some.inj he
    exact ob_iret hx hb hr hlk hK hP hD hS hn hd
  generalize MQ below (ObQi D (obT G) (cw_OB_index G a_t a_disk a_batch a_indexes a_schema a_schema_above a_schema_owners a_schema_kinds a_schema_targets a_indexes_classes a_indexes_fields a_kept a_draftText a_questions a_reader a_judge a_latest a_batch_image v_questionCount v_idsGiven v_everBegun v_disk_written v_disk_armed v_disk_half v_disk_logged v_disk_marked v_disk_down v_batch_known v_batch_touched v_batch_namesTouched v_batch_open o.2.1 v_schema_classCount v_schema_fieldCount v_schema_above v_schema_owners v_schema_kinds v_schema_targets o.2.2.1 o.2.2.2) o.1 A) ([.ref a_t, .int p1, .int p2, .int p3, .int p4] : List Value).toArray s 0 0 A = Q at hret ⊢
  have hl : lv_has ls 5 [(0, .ref a_t), (1, .int p1), (2, .int p2), (3, .int p3), (4, .int p4)] := hl
  unfold f_OB_index at hf
  have blk65 : ∀ (v_indexes_count_65 : Int32) (v_indexes_classes_65 : Nat → Int32) (v_indexes_fields_65 : Nat → Int32) (ls : Array Slot) (H : Heap) (locs : List Loc), lv_has ls 5 [(0, .ref a_t), (1, .int p1), (2, .int p2), (3, .int p3), (4, .int p4)] → va_P D vwCl (cw_OB_index G a_t a_disk a_batch a_indexes a_schema a_schema_above a_schema_owners a_schema_kinds a_schema_targets a_indexes_classes a_indexes_fields a_kept a_draftText a_questions a_reader a_judge a_latest a_batch_image v_questionCount v_idsGiven v_everBegun v_disk_written v_disk_armed v_disk_half v_disk_logged v_disk_marked v_disk_down v_batch_known v_batch_touched v_batch_namesTouched v_batch_open v_indexes_count_65 v_schema_classCount v_schema_fieldCount v_schema_above v_schema_owners v_schema_kinds v_schema_targets v_indexes_classes_65 v_indexes_fields_65) H → va_D A (cw_OB_index G a_t a_disk a_batch a_indexes a_schema a_schema_above a_schema_owners a_schema_kinds a_schema_targets a_indexes_classes a_indexes_fields a_kept a_draftText a_questions a_reader a_judge a_latest a_batch_image v_questionCount v_idsGiven v_everBegun v_disk_written v_disk_armed v_disk_half v_disk_logged v_disk_marked v_disk_down v_batch_known v_batch_touched v_batch_namesTouched v_batch_open v_indexes_count_65 v_schema_classCount v_schema_fieldCount v_schema_above v_schema_owners v_schema_kinds v_schema_targets v_indexes_classes_65 v_indexes_fields_65) → va_S A s.heap H locs → f_OB_index_J65 v_schema_fieldCount v_schema_above v_schema_owners v_schema_kinds v_schema_targets p1 p2 p3 p4 v_indexes_count_65 v_indexes_classes_65 v_indexes_fields_65 = some o → W p l e ({ frames := 3, cells := 0, slots := 0, locals := 69 }) s m ([.ref a_t, .int p1, .int p2, .int p3, .int p4] : List Value).toArray below meth c H locs 0 0 Q (F0 m 65 ls []) := by
    intro v_indexes_count_65 v_indexes_classes_65 v_indexes_fields_65 ls H locs hl hP hD hS hf
    unfold f_OB_index_J65 at hf
    refine lv_aload_n hx hb d_OB_index_65 rfl (lv_at hl 0 rfl) ?_
    refine va_get (D := D) (ci := 0) (v := .ref a_schema) (C := "ObjectBase") (T := TC_OB) (N := 13) hx hb hts inC_OB hown hK hP 0 rfl rfl 0 (by decide) (hts _ tw232) (fun _ h9 => h9) rfl d_OB_index_66 ?_
    refine lv_iload_n hx hb d_OB_index_69 rfl (lv_at hl 1 rfl) ?_
    refine lv_iload_n hx hb d_OB_index_70 rfl (lv_at hl 2 rfl) ?_
    refine lv_iload_n hx hb d_OB_index_71 rfl (lv_at hl 3 rfl) ?_
    refine lv_iload hx hb d_OB_index_72 (lv_at hl 4 rfl) ?_
    obtain ⟨o74, ho74, hf⟩ := ob_b hf
    refine ob_calli (w2 := (cw_OB_index G a_t a_disk a_batch a_indexes a_schema a_schema_above a_schema_owners a_schema_kinds a_schema_targets a_indexes_classes a_indexes_fields a_kept a_draftText a_questions a_reader a_judge a_latest a_batch_image v_questionCount v_idsGiven v_everBegun v_disk_written v_disk_armed v_disk_half v_disk_logged v_disk_marked v_disk_down v_batch_known v_batch_touched v_batch_namesTouched v_batch_open v_indexes_count_65 v_schema_classCount v_schema_fieldCount v_schema_above v_schema_owners v_schema_kinds v_schema_targets v_indexes_classes_65 v_indexes_fields_65)) (va_runV (As := [.int p1, .int p2, .int p3, .int p4]) (rest := []) ⟨hx, hb, hml, hown, hts⟩ (c_Schema_leadsToNumber l D G a_schema a_schema_above a_schema_owners a_schema_kinds a_schema_targets v_schema_classCount v_schema_fieldCount v_schema_above v_schema_owners v_schema_kinds v_schema_targets p1 p2 p3 p4 o74 ho74 H.size) (cwV 4 hts (gV tw296 tw297 tw298 tw2 tw299) rfl rfl rfl (by decide +kernel) ⟨Nat.le_of_ble_eq_true rfl, Nat.le_of_ble_eq_true rfl⟩) (ob_preV (q0 := 4) (ci := 1) hZ hK hP hD [4, 5, 6, 7, 8] rfl rfl rfl rfl rfl) rfl rfl hl.1 rfl (lv_room (Nat.le_of_ble_eq_true rfl)) d_OB_index_74 ⟨Nat.le_refl _, Nat.le_refl _⟩) hP hD hA hS [4, 5, 6, 7, 8] rfl rfl rfl rfl (fun H locs hP hD hS => ?_)
    refine lv_if_ne (tgt := 82) hx hb d_OB_index_77 (by decide) (fun hc77 => ?_) (fun hc77 => ?_)
    · have hf := ob_f hc77 hf
      refine lv_aload_n hx hb d_OB_index_82 rfl (lv_at hl 0 rfl) ?_
      refine va_get (D := D) (ci := 0) (v := .ref a_indexes) (C := "ObjectBase") (T := TC_OB) (N := 13) hx hb hts inC_OB hown hK hP 0 rfl rfl 1 (by decide) (hts _ tw233) (fun _ h9 => h9) rfl d_OB_index_83 ?_
      refine lv_iload_n hx hb d_OB_index_86 rfl (lv_at hl 1 rfl) ?_
      refine lv_iload_n hx hb d_OB_index_87 rfl (lv_at hl 2 rfl) ?_
      refine lv_iload_n hx hb d_OB_index_88 rfl (lv_at hl 3 rfl) ?_
      refine lv_iload hx hb d_OB_index_89 (lv_at hl 4 rfl) ?_
      obtain ⟨o91, ho91, hf⟩ := ob_b hf
      refine ob_calli (w2 := (cw_OB_index G a_t a_disk a_batch a_indexes a_schema a_schema_above a_schema_owners a_schema_kinds a_schema_targets a_indexes_classes a_indexes_fields a_kept a_draftText a_questions a_reader a_judge a_latest a_batch_image v_questionCount v_idsGiven v_everBegun v_disk_written v_disk_armed v_disk_half v_disk_logged v_disk_marked v_disk_down v_batch_known v_batch_touched v_batch_namesTouched v_batch_open o91.2.1 v_schema_classCount v_schema_fieldCount v_schema_above v_schema_owners v_schema_kinds v_schema_targets o91.2.2.1 o91.2.2.2)) (va_runV (As := [.int p1, .int p2, .int p3, .int p4]) (rest := []) ⟨hx, hb, hml, hown, hts⟩ (c_Indexes_addIndex l D G a_indexes a_indexes_classes a_indexes_fields v_indexes_count_65 v_indexes_classes_65 v_indexes_fields_65 p1 p2 p3 p4 o91 ho91 H.size) (cwV 4 hts (gV tw308 tw309 tw310 tw3 tw311) rfl rfl rfl (by decide +kernel) ⟨Nat.le_of_ble_eq_true rfl, Nat.le_of_ble_eq_true rfl⟩) (ob_preV (q0 := 3) (ci := 2) hZ hK hP hD [3, 9, 10] rfl rfl rfl rfl rfl) rfl rfl hl.1 rfl (lv_room (Nat.le_of_ble_eq_true rfl)) d_OB_index_91 ⟨Nat.le_refl _, Nat.le_refl _⟩) hP hD hA hS [3, 9, 10] rfl rfl rfl rfl (fun H locs hP hD hS => ?_)
      exact hret (o91.1, o91.2.1, o91.2.2.1, o91.2.2.2) H locs _ ls hf hP hD hS rfl d_OB_index_94
    · have hf := ob_t hc77 hf
      refine lv_iconst (v := (-1)) hx hb d_OB_index_80 (by decide) ?_
      exact hret ((-1), v_indexes_count_65, v_indexes_classes_65, v_indexes_fields_65) H locs _ ls hf hP hD hS rfl d_OB_index_81
  refine lv_aload_n hx hb d_OB_index_0 rfl (lv_at hl 0 rfl) ?_
  refine va_get (D := D) (ci := 0) (v := .ref a_disk) (C := "ObjectBase") (T := TC_OB) (N := 13) hx hb hts inC_OB hown hK hP 0 rfl rfl 2 (by decide) (hts _ tw234) (fun _ h9 => h9) rfl d_OB_index_1 ?_
  refine va_get (D := D) (ci := 3) (v := .int v_disk_down) (C := "ObjectBase$Disk") (T := TC_Disk) (N := 6) hx hb hts inC_Disk hown hK hP 1 rfl rfl 5 (by decide) (hts _ tw87) (fun _ h9 => h9) rfl d_OB_index_4 ?_
  refine lv_if_eq (tgt := 13) hx hb d_OB_index_7 (by decide) (fun hc7 => ?_) (fun hc7 => ?_)
  · have hf := ob_t hc7 hf
    refine lv_aload_n hx hb d_OB_index_13 rfl (lv_at hl 0 rfl) ?_
    refine va_get (D := D) (ci := 0) (v := .ref a_batch) (C := "ObjectBase") (T := TC_OB) (N := 13) hx hb hts inC_OB hown hK hP 0 rfl rfl 4 (by decide) (hts _ tw236) (fun _ h9 => h9) rfl d_OB_index_14 ?_
    refine va_get (D := D) (ci := 5) (v := .int v_batch_open) (C := "ObjectBase$Batch") (T := TC_Batch) (N := 5) hx hb hts inC_Batch hown hK hP 2 rfl rfl 4 (by decide) (hts _ tw138) (fun _ h9 => h9) rfl d_OB_index_17 ?_
    refine lv_if_ne (tgt := 45) hx hb d_OB_index_20 (by decide) (fun hc20 => ?_) (fun hc20 => ?_)
    · have hf := ob_f hc20 hf
      refine lv_iconst (v := (-1)) hx hb d_OB_index_45 (by decide) ?_
      exact hret ((-1), v_indexes_count, v_indexes_classes, v_indexes_fields) H locs _ ls hf hP hD hS rfl d_OB_index_46
    · have hf := ob_t hc20 hf
      refine lv_aload_n hx hb d_OB_index_23 rfl (lv_at hl 0 rfl) ?_
      refine va_get (D := D) (ci := 0) (v := .ref a_indexes) (C := "ObjectBase") (T := TC_OB) (N := 13) hx hb hts inC_OB hown hK hP 0 rfl rfl 1 (by decide) (hts _ tw233) (fun _ h9 => h9) rfl d_OB_index_24 ?_
      refine va_get (D := D) (ci := 2) (v := .int v_indexes_count) (C := "ObjectBase$Indexes") (T := TC_Indexes) (N := 3) hx hb hts inC_Indexes hown hK hP 3 rfl rfl 2 (by decide) (hts _ tw66) (fun _ h9 => h9) rfl d_OB_index_27 ?_
      refine lv_iconst (v := 3) hx hb d_OB_index_30 (by decide) ?_
      refine lv_icmp_eq (tgt := 45) hx hb d_OB_index_31 (by decide) (fun hc31 => ?_) (fun hc31 => ?_)
      · have hf := ob_t hc31 hf
        refine lv_iconst (v := (-1)) hx hb d_OB_index_45 (by decide) ?_
        exact hret ((-1), v_indexes_count, v_indexes_classes, v_indexes_fields) H locs _ ls hf hP hD hS rfl d_OB_index_46
      · have hf := ob_f hc31 hf
        refine lv_aload_n hx hb d_OB_index_34 rfl (lv_at hl 0 rfl) ?_
        refine va_get (D := D) (ci := 0) (v := .ref a_schema) (C := "ObjectBase") (T := TC_OB) (N := 13) hx hb hts inC_OB hown hK hP 0 rfl rfl 0 (by decide) (hts _ tw232) (fun _ h9 => h9) rfl d_OB_index_35 ?_
        refine lv_iload_n hx hb d_OB_index_38 rfl (lv_at hl 1 rfl) ?_
        obtain ⟨o39, ho39, hf⟩ := ob_b hf
        refine ob_calli (w2 := (cw_OB_index G a_t a_disk a_batch a_indexes a_schema a_schema_above a_schema_owners a_schema_kinds a_schema_targets a_indexes_classes a_indexes_fields a_kept a_draftText a_questions a_reader a_judge a_latest a_batch_image v_questionCount v_idsGiven v_everBegun v_disk_written v_disk_armed v_disk_half v_disk_logged v_disk_marked v_disk_down v_batch_known v_batch_touched v_batch_namesTouched v_batch_open v_indexes_count v_schema_classCount v_schema_fieldCount v_schema_above v_schema_owners v_schema_kinds v_schema_targets v_indexes_classes v_indexes_fields)) (va_runV (As := [.int p1]) (rest := []) ⟨hx, hb, hml, hown, hts⟩ (c_Schema_hasClass l D G a_schema a_schema_above a_schema_owners a_schema_kinds a_schema_targets v_schema_classCount v_schema_fieldCount p1 o39 ho39 H.size) (cwV 1 hts (gV tw276 tw277 tw278 tw2 tw279) rfl rfl rfl (by decide +kernel) ⟨Nat.le_of_ble_eq_true rfl, Nat.le_of_ble_eq_true rfl⟩) (ob_preV (q0 := 4) (ci := 1) hZ hK hP hD [4] rfl rfl rfl rfl rfl) rfl rfl hl.1 rfl (lv_room (Nat.le_of_ble_eq_true rfl)) d_OB_index_39 ⟨Nat.le_refl _, Nat.le_refl _⟩) hP hD hA hS [4] rfl rfl rfl rfl (fun H locs hP hD hS => ?_)
        refine lv_if_ne (tgt := 47) hx hb d_OB_index_42 (by decide) (fun hc42 => ?_) (fun hc42 => ?_)
        · have hf := ob_f hc42 hf
          refine lv_iload_n hx hb d_OB_index_47 rfl (lv_at hl 2 rfl) ?_
          refine lv_iconst (v := (-1)) hx hb d_OB_index_48 (by decide) ?_
          refine lv_icmp_eq (tgt := 63) hx hb d_OB_index_49 (by decide) (fun hc49 => ?_) (fun hc49 => ?_)
          · have hf := ob_t hc49 hf
            refine lv_iconst (v := (-1)) hx hb d_OB_index_63 (by decide) ?_
            exact hret ((-1), v_indexes_count, v_indexes_classes, v_indexes_fields) H locs _ ls hf hP hD hS rfl d_OB_index_64
          · have hf := ob_f hc49 hf
            refine lv_iload_n hx hb d_OB_index_52 rfl (lv_at hl 3 rfl) ?_
            refine lv_iconst (v := (-1)) hx hb d_OB_index_53 (by decide) ?_
            refine lv_icmp_ne (tgt := 65) hx hb d_OB_index_54 (by decide) (fun hc54 => ?_) (fun hc54 => ?_)
            · have hf := ob_f hc54 hf
              exact blk65 v_indexes_count v_indexes_classes v_indexes_fields ls H locs (lv_sub hl [0, 1, 2, 3, 4] rfl) hP hD hS hf
            · have hf := ob_t hc54 hf
              refine lv_iload hx hb d_OB_index_57 (lv_at hl 4 rfl) ?_
              refine lv_iconst (v := (-1)) hx hb d_OB_index_59 (by decide) ?_
              refine lv_icmp_eq (tgt := 65) hx hb d_OB_index_60 (by decide) (fun hc60 => ?_) (fun hc60 => ?_)
              · have hf := ob_t hc60 hf
                exact blk65 v_indexes_count v_indexes_classes v_indexes_fields ls H locs (lv_sub hl [0, 1, 2, 3, 4] rfl) hP hD hS hf
              · have hf := ob_f hc60 hf
                refine lv_iconst (v := (-1)) hx hb d_OB_index_63 (by decide) ?_
                exact hret ((-1), v_indexes_count, v_indexes_classes, v_indexes_fields) H locs _ ls hf hP hD hS rfl d_OB_index_64
        · have hf := ob_t hc42 hf
          refine lv_iconst (v := (-1)) hx hb d_OB_index_45 (by decide) ?_
          exact hret ((-1), v_indexes_count, v_indexes_classes, v_indexes_fields) H locs _ ls hf hP hD hS rfl d_OB_index_46
  · have hf := ob_f hc7 hf
    refine lv_bipush (v := (-4)) hx hb d_OB_index_10 (by decide) ?_
    exact hret ((-4), v_indexes_count, v_indexes_classes, v_indexes_fields) H locs _ ls hf hP hD hS rfl d_OB_index_12
abbrev bc_OB_make : ByteArray := prog_1_method_6_code
abbrev y_OB_make : MethodName := ⟨"ObjectBase", "make", "(I)I"⟩
def ws_OB_make : List Cond := .code y_OB_make bc_OB_make 2 (some .int) :: obW
theorem d_OB_make_0 : decode bc_OB_make 0 = .ok (.aload_n 0, 1) := by decide +kernel
theorem d_OB_make_1 : decode bc_OB_make 1 = .ok (.getfield 28, 3) := by decide +kernel
theorem d_OB_make_4 : decode bc_OB_make 4 = .ok (.getfield 84, 3) := by decide +kernel
theorem d_OB_make_7 : decode bc_OB_make 7 = .ok (.ifCond .eq 6, 3) := by decide +kernel
theorem d_OB_make_10 : decode bc_OB_make 10 = .ok (.bipush (-4), 2) := by decide +kernel
theorem d_OB_make_12 : decode bc_OB_make 12 = .ok (.ireturn, 1) := by decide +kernel
theorem d_OB_make_13 : decode bc_OB_make 13 = .ok (.aload_n 0, 1) := by decide +kernel
theorem d_OB_make_14 : decode bc_OB_make 14 = .ok (.getfield 42, 3) := by decide +kernel
theorem d_OB_make_17 : decode bc_OB_make 17 = .ok (.getfield 110, 3) := by decide +kernel
theorem d_OB_make_20 : decode bc_OB_make 20 = .ok (.ifCond .eq 23, 3) := by decide +kernel
theorem d_OB_make_23 : decode bc_OB_make 23 = .ok (.aload_n 0, 1) := by decide +kernel
theorem d_OB_make_24 : decode bc_OB_make 24 = .ok (.getfield 14, 3) := by decide +kernel
theorem d_OB_make_27 : decode bc_OB_make 27 = .ok (.iload_n 1, 1) := by decide +kernel
theorem d_OB_make_28 : decode bc_OB_make 28 = .ok (.invokevirtual 95, 3) := by decide +kernel
theorem d_OB_make_31 : decode bc_OB_make 31 = .ok (.ifCond .eq 12, 3) := by decide +kernel
theorem d_OB_make_34 : decode bc_OB_make 34 = .ok (.aload_n 0, 1) := by decide +kernel
theorem d_OB_make_35 : decode bc_OB_make 35 = .ok (.getfield 132, 3) := by decide +kernel
theorem d_OB_make_38 : decode bc_OB_make 38 = .ok (.bipush 62, 2) := by decide +kernel
theorem d_OB_make_40 : decode bc_OB_make 40 = .ok (.if_icmp .ne 5, 3) := by decide +kernel
theorem d_OB_make_43 : decode bc_OB_make 43 = .ok (.iconst (-1), 1) := by decide +kernel
theorem d_OB_make_44 : decode bc_OB_make 44 = .ok (.ireturn, 1) := by decide +kernel
theorem d_OB_make_45 : decode bc_OB_make 45 = .ok (.aload_n 0, 1) := by decide +kernel
theorem d_OB_make_46 : decode bc_OB_make 46 = .ok (.dup, 1) := by decide +kernel
theorem d_OB_make_47 : decode bc_OB_make 47 = .ok (.getfield 132, 3) := by decide +kernel
theorem d_OB_make_50 : decode bc_OB_make 50 = .ok (.iconst 1, 1) := by decide +kernel
theorem d_OB_make_51 : decode bc_OB_make 51 = .ok (.iadd, 1) := by decide +kernel
theorem d_OB_make_52 : decode bc_OB_make 52 = .ok (.putfield 132, 3) := by decide +kernel
theorem d_OB_make_55 : decode bc_OB_make 55 = .ok (.aload_n 0, 1) := by decide +kernel
theorem d_OB_make_56 : decode bc_OB_make 56 = .ok (.getfield 42, 3) := by decide +kernel
theorem d_OB_make_59 : decode bc_OB_make 59 = .ok (.aload_n 0, 1) := by decide +kernel
theorem d_OB_make_60 : decode bc_OB_make 60 = .ok (.getfield 132, 3) := by decide +kernel
theorem d_OB_make_63 : decode bc_OB_make 63 = .ok (.iload_n 1, 1) := by decide +kernel
theorem d_OB_make_64 : decode bc_OB_make 64 = .ok (.invokevirtual 135, 3) := by decide +kernel
theorem d_OB_make_67 : decode bc_OB_make 67 = .ok (.aload_n 0, 1) := by decide +kernel
theorem d_OB_make_68 : decode bc_OB_make 68 = .ok (.getfield 132, 3) := by decide +kernel
theorem d_OB_make_71 : decode bc_OB_make 71 = .ok (.ireturn, 1) := by decide +kernel
def cw_OB_make (G : Nat → ClassId) (a_t a_disk a_batch a_schema a_batch_image a_batch_image_classes a_indexes a_kept a_draftText a_questions a_reader a_judge a_latest a_schema_above a_schema_owners a_schema_kinds a_schema_targets a_batch_image_values a_batch_image_names : Nat) (v_questionCount : Int32) (v_idsGiven : Int32) (v_everBegun : Int32) (v_disk_written : Int32) (v_disk_armed : Int32) (v_disk_half : Int32) (v_disk_logged : Int32) (v_disk_marked : Int32) (v_disk_down : Int32) (v_batch_known : Int64) (v_batch_touched : Int64) (v_batch_namesTouched : Int32) (v_batch_open : Int32) (v_schema_classCount : Int32) (v_schema_fieldCount : Int32) (v_batch_image_classes : Nat → Int32) : va_W := [(a_t, .inr (0, [.ref a_schema, .ref a_indexes, .ref a_disk, .ref a_kept, .ref a_batch, .ref a_draftText, .ref a_questions, .ref a_reader, .ref a_judge, .ref a_latest, .int v_questionCount, .int v_idsGiven, .int v_everBegun])), (a_disk, .inr (3, [.int v_disk_written, .int v_disk_armed, .int v_disk_half, .int v_disk_logged, .int v_disk_marked, .int v_disk_down])), (a_batch, .inr (5, [.ref a_batch_image, .long v_batch_known, .long v_batch_touched, .int v_batch_namesTouched, .int v_batch_open])), (a_schema, .inr (1, [.ref a_schema_above, .ref a_schema_owners, .ref a_schema_kinds, .ref a_schema_targets, .int v_schema_classCount, .int v_schema_fieldCount])), (a_batch_image, .inr (4, [.ref a_batch_image_classes, .ref a_batch_image_values, .ref a_batch_image_names])), (a_batch_image_classes, .inl (G 0, 63, .inl v_batch_image_classes))]
def f_OB_make (v_idsGiven : Int32) (v_disk_down : Int32) (v_batch_known : Int64) (v_batch_touched : Int64) (v_batch_open : Int32) (v_schema_classCount : Int32) (v_batch_image_classes : Nat → Int32) (p1 : Int32) : Option (Int32 × Int32 × Int64 × Int64 × (Nat → Int32)) := if v_disk_down = 0 then (if v_batch_open = 0 then (some ((-1), v_idsGiven, v_batch_known, v_batch_touched, v_batch_image_classes)) else ((f_Schema_hasClass v_schema_classCount p1).bind fun o28 => (if o28 = 0 then (some ((-1), v_idsGiven, v_batch_known, v_batch_touched, v_batch_image_classes)) else (if v_idsGiven = 62 then (some ((-1), v_idsGiven, v_batch_known, v_batch_touched, v_batch_image_classes)) else ((f_Batch_addObject v_batch_known v_batch_touched v_batch_image_classes (v_idsGiven + 1) p1).bind fun o64 => (some (v_idsGiven + 1, v_idsGiven + 1, o64.1, o64.2.1, o64.2.2))))))) else (some ((-4), v_idsGiven, v_batch_known, v_batch_touched, v_batch_image_classes))
set_option maxHeartbeats 4000000 in
set_option maxRecDepth 100000 in
theorem c_OB_make (l : Launch) (D : va_G) (G : Nat → ClassId) (a_t a_disk a_batch a_schema a_batch_image a_batch_image_classes a_indexes a_kept a_draftText a_questions a_reader a_judge a_latest a_schema_above a_schema_owners a_schema_kinds a_schema_targets a_batch_image_values a_batch_image_names : Nat) (v_questionCount : Int32) (v_idsGiven : Int32) (v_everBegun : Int32) (v_disk_written : Int32) (v_disk_armed : Int32) (v_disk_half : Int32) (v_disk_logged : Int32) (v_disk_marked : Int32) (v_disk_down : Int32) (v_batch_known : Int64) (v_batch_touched : Int64) (v_batch_namesTouched : Int32) (v_batch_open : Int32) (v_schema_classCount : Int32) (v_schema_fieldCount : Int32) (v_batch_image_classes : Nat → Int32) (p1 : Int32) (o : Int32 × Int32 × Int64 × Int64 × (Nat → Int32)) (hf : f_OB_make v_idsGiven v_disk_down v_batch_known v_batch_touched v_batch_open v_schema_classCount v_batch_image_classes p1 = some o) (sz : Nat) : MetI l y_OB_make ws_OB_make ({ frames := 2, cells := 0, slots := 0, locals := 42 }) D (obT G) (cw_OB_make G a_t a_disk a_batch a_schema a_batch_image a_batch_image_classes a_indexes a_kept a_draftText a_questions a_reader a_judge a_latest a_schema_above a_schema_owners a_schema_kinds a_schema_targets a_batch_image_values a_batch_image_names v_questionCount v_idsGiven v_everBegun v_disk_written v_disk_armed v_disk_half v_disk_logged v_disk_marked v_disk_down v_batch_known v_batch_touched v_batch_namesTouched v_batch_open v_schema_classCount v_schema_fieldCount v_batch_image_classes) (cw_OB_make G a_t a_disk a_batch a_schema a_batch_image a_batch_image_classes a_indexes a_kept a_draftText a_questions a_reader a_judge a_latest a_schema_above a_schema_owners a_schema_kinds a_schema_targets a_batch_image_values a_batch_image_names v_questionCount o.2.1 v_everBegun v_disk_written v_disk_armed v_disk_half v_disk_logged v_disk_marked v_disk_down o.2.2.1 o.2.2.2.1 v_batch_namesTouched v_batch_open v_schema_classCount v_schema_fieldCount o.2.2.2.2) [.ref a_t, .int p1] o.1 sz := by
  refine ob_of (cc := bc_OB_make) (maxL := 2) (ret := (some .int)) (Qc := ObQi D (obT G) (cw_OB_make G a_t a_disk a_batch a_schema a_batch_image a_batch_image_classes a_indexes a_kept a_draftText a_questions a_reader a_judge a_latest a_schema_above a_schema_owners a_schema_kinds a_schema_targets a_batch_image_values a_batch_image_names v_questionCount o.2.1 v_everBegun v_disk_written v_disk_armed v_disk_half v_disk_logged v_disk_marked v_disk_down o.2.2.1 o.2.2.2.1 v_batch_namesTouched v_batch_open v_schema_classCount v_schema_fieldCount o.2.2.2.2) o.1) (by decide) rfl (Nat.le_of_ble_eq_true rfl) ?_
  intro p e s m below meth c A ls H locs hx hb hr hml hts hown hlk hnm hZ hP hK hD hA hS hl
  have hret : ∀ (o' : Int32 × Int32 × Int64 × Int64 × (Nat → Int32)) (H : Heap) (locs : List Loc) (pc : Nat) (ls : Array Slot), some o' = some o → va_P D vwCl (cw_OB_make G a_t a_disk a_batch a_schema a_batch_image a_batch_image_classes a_indexes a_kept a_draftText a_questions a_reader a_judge a_latest a_schema_above a_schema_owners a_schema_kinds a_schema_targets a_batch_image_values a_batch_image_names v_questionCount o'.2.1 v_everBegun v_disk_written v_disk_armed v_disk_half v_disk_logged v_disk_marked v_disk_down o'.2.2.1 o'.2.2.2.1 v_batch_namesTouched v_batch_open v_schema_classCount v_schema_fieldCount o'.2.2.2.2) H → va_D A (cw_OB_make G a_t a_disk a_batch a_schema a_batch_image a_batch_image_classes a_indexes a_kept a_draftText a_questions a_reader a_judge a_latest a_schema_above a_schema_owners a_schema_kinds a_schema_targets a_batch_image_values a_batch_image_names v_questionCount o'.2.1 v_everBegun v_disk_written v_disk_armed v_disk_half v_disk_logged v_disk_marked v_disk_down o'.2.2.1 o'.2.2.2.1 v_batch_namesTouched v_batch_open v_schema_classCount v_schema_fieldCount o'.2.2.2.2) → va_S A s.heap H locs → narrow .int (.int o'.1) = .int o'.1 → decode bc_OB_make pc = .ok (.ireturn, 1) → W p l e { frames := 2, cells := 0, slots := 0, locals := 42 } s m ([.ref a_t, .int p1] : List Value).toArray below meth c H locs 0 0 (MQ below (ObQi D (obT G) (cw_OB_make G a_t a_disk a_batch a_schema a_batch_image a_batch_image_classes a_indexes a_kept a_draftText a_questions a_reader a_judge a_latest a_schema_above a_schema_owners a_schema_kinds a_schema_targets a_batch_image_values a_batch_image_names v_questionCount o.2.1 v_everBegun v_disk_written v_disk_armed v_disk_half v_disk_logged v_disk_marked v_disk_down o.2.2.1 o.2.2.2.1 v_batch_namesTouched v_batch_open v_schema_classCount v_schema_fieldCount o.2.2.2.2) o.1 A) ([.ref a_t, .int p1] : List Value).toArray s 0 0 A) (F0 m pc ls [.int o'.1]) := by
    intro o' H locs pc ls he hP hD hS hn hd
    obtain rfl := Option.some.inj he
    exact ob_iret hx hb hr hlk hK hP hD hS hn hd
  generalize MQ below (ObQi D (obT G) (cw_OB_make G a_t a_disk a_batch a_schema a_batch_image a_batch_image_classes a_indexes a_kept a_draftText a_questions a_reader a_judge a_latest a_schema_above a_schema_owners a_schema_kinds a_schema_targets a_batch_image_values a_batch_image_names v_questionCount o.2.1 v_everBegun v_disk_written v_disk_armed v_disk_half v_disk_logged v_disk_marked v_disk_down o.2.2.1 o.2.2.2.1 v_batch_namesTouched v_batch_open v_schema_classCount v_schema_fieldCount o.2.2.2.2) o.1 A) ([.ref a_t, .int p1] : List Value).toArray s 0 0 A = Q at hret ⊢
  have hl : lv_has ls 2 [(0, .ref a_t), (1, .int p1)] := hl
  unfold f_OB_make at hf
  refine lv_aload_n hx hb d_OB_make_0 rfl (lv_at hl 0 rfl) ?_
  refine va_get (D := D) (ci := 0) (v := .ref a_disk) (C := "ObjectBase") (T := TC_OB) (N := 13) hx hb hts inC_OB hown hK hP 0 rfl rfl 2 (by decide) (hts _ tw234) (fun _ h9 => h9) rfl d_OB_make_1 ?_
  refine va_get (D := D) (ci := 3) (v := .int v_disk_down) (C := "ObjectBase$Disk") (T := TC_Disk) (N := 6) hx hb hts inC_Disk hown hK hP 1 rfl rfl 5 (by decide) (hts _ tw87) (fun _ h9 => h9) rfl d_OB_make_4 ?_
  refine lv_if_eq (tgt := 13) hx hb d_OB_make_7 (by decide) (fun hc7 => ?_) (fun hc7 => ?_)
  · have hf := ob_t hc7 hf
    refine lv_aload_n hx hb d_OB_make_13 rfl (lv_at hl 0 rfl) ?_
    refine va_get (D := D) (ci := 0) (v := .ref a_batch) (C := "ObjectBase") (T := TC_OB) (N := 13) hx hb hts inC_OB hown hK hP 0 rfl rfl 4 (by decide) (hts _ tw236) (fun _ h9 => h9) rfl d_OB_make_14 ?_
    refine va_get (D := D) (ci := 5) (v := .int v_batch_open) (C := "ObjectBase$Batch") (T := TC_Batch) (N := 5) hx hb hts inC_Batch hown hK hP 2 rfl rfl 4 (by decide) (hts _ tw138) (fun _ h9 => h9) rfl d_OB_make_17 ?_
    refine lv_if_eq (tgt := 43) hx hb d_OB_make_20 (by decide) (fun hc20 => ?_) (fun hc20 => ?_)
    · have hf := ob_t hc20 hf
      refine lv_iconst (v := (-1)) hx hb d_OB_make_43 (by decide) ?_
      exact hret ((-1), v_idsGiven, v_batch_known, v_batch_touched, v_batch_image_classes) H locs _ ls hf hP hD hS rfl d_OB_make_44
    · have hf := ob_f hc20 hf
      refine lv_aload_n hx hb d_OB_make_23 rfl (lv_at hl 0 rfl) ?_
      refine va_get (D := D) (ci := 0) (v := .ref a_schema) (C := "ObjectBase") (T := TC_OB) (N := 13) hx hb hts inC_OB hown hK hP 0 rfl rfl 0 (by decide) (hts _ tw232) (fun _ h9 => h9) rfl d_OB_make_24 ?_
      refine lv_iload_n hx hb d_OB_make_27 rfl (lv_at hl 1 rfl) ?_
      obtain ⟨o28, ho28, hf⟩ := ob_b hf
      refine ob_calli (w2 := (cw_OB_make G a_t a_disk a_batch a_schema a_batch_image a_batch_image_classes a_indexes a_kept a_draftText a_questions a_reader a_judge a_latest a_schema_above a_schema_owners a_schema_kinds a_schema_targets a_batch_image_values a_batch_image_names v_questionCount v_idsGiven v_everBegun v_disk_written v_disk_armed v_disk_half v_disk_logged v_disk_marked v_disk_down v_batch_known v_batch_touched v_batch_namesTouched v_batch_open v_schema_classCount v_schema_fieldCount v_batch_image_classes)) (va_runV (As := [.int p1]) (rest := []) ⟨hx, hb, hml, hown, hts⟩ (c_Schema_hasClass l D G a_schema a_schema_above a_schema_owners a_schema_kinds a_schema_targets v_schema_classCount v_schema_fieldCount p1 o28 ho28 H.size) (cwV 1 hts (gV tw276 tw277 tw278 tw2 tw279) rfl rfl rfl (by decide +kernel) ⟨Nat.le_of_ble_eq_true rfl, Nat.le_of_ble_eq_true rfl⟩) (ob_preV (q0 := 3) (ci := 1) hZ hK hP hD [3] rfl rfl rfl rfl rfl) rfl rfl hl.1 rfl (lv_room (Nat.le_of_ble_eq_true rfl)) d_OB_make_28 ⟨Nat.le_refl _, Nat.le_refl _⟩) hP hD hA hS [3] rfl rfl rfl rfl (fun H locs hP hD hS => ?_)
      refine lv_if_eq (tgt := 43) hx hb d_OB_make_31 (by decide) (fun hc31 => ?_) (fun hc31 => ?_)
      · have hf := ob_t hc31 hf
        refine lv_iconst (v := (-1)) hx hb d_OB_make_43 (by decide) ?_
        exact hret ((-1), v_idsGiven, v_batch_known, v_batch_touched, v_batch_image_classes) H locs _ ls hf hP hD hS rfl d_OB_make_44
      · have hf := ob_f hc31 hf
        refine lv_aload_n hx hb d_OB_make_34 rfl (lv_at hl 0 rfl) ?_
        refine va_get (D := D) (ci := 0) (v := .int v_idsGiven) (C := "ObjectBase") (T := TC_OB) (N := 13) hx hb hts inC_OB hown hK hP 0 rfl rfl 11 (by decide) (hts _ tw243) (fun _ h9 => h9) rfl d_OB_make_35 ?_
        refine lv_bipush (v := 62) hx hb d_OB_make_38 (by decide) ?_
        refine lv_icmp_ne (tgt := 45) hx hb d_OB_make_40 (by decide) (fun hc40 => ?_) (fun hc40 => ?_)
        · have hf := ob_f hc40 hf
          refine lv_aload_n hx hb d_OB_make_45 rfl (lv_at hl 0 rfl) ?_
          refine lv_dup hx hb d_OB_make_46 rfl ?_
          refine va_get (D := D) (ci := 0) (v := .int v_idsGiven) (C := "ObjectBase") (T := TC_OB) (N := 13) hx hb hts inC_OB hown hK hP 0 rfl rfl 11 (by decide) (hts _ tw243) (fun _ h9 => h9) rfl d_OB_make_47 ?_
          refine lv_iconst (v := 1) hx hb d_OB_make_50 (by decide) ?_
          refine lv_iadd hx hb d_OB_make_51 ?_
          refine va_put (D := D) (ci := 0) (v := .int (v_idsGiven + 1)) (ty := .int) (C := "ObjectBase") (T := TC_OB) (N := 13) hx hb hts inC_OB tyC_OB tyC_OB_ok nmC_OB hown hK hP hD hS 0 rfl rfl 11 (by decide) (hts _ tw243) (fun _ h9 => h9) rfl (by decide +kernel) rfl rfl (Nat.le_of_ble_eq_true rfl) d_OB_make_52 (fun H locs hP hD hS => ?_)
          have hP : va_P D vwCl (cw_OB_make G a_t a_disk a_batch a_schema a_batch_image a_batch_image_classes a_indexes a_kept a_draftText a_questions a_reader a_judge a_latest a_schema_above a_schema_owners a_schema_kinds a_schema_targets a_batch_image_values a_batch_image_names v_questionCount (v_idsGiven + 1) v_everBegun v_disk_written v_disk_armed v_disk_half v_disk_logged v_disk_marked v_disk_down v_batch_known v_batch_touched v_batch_namesTouched v_batch_open v_schema_classCount v_schema_fieldCount v_batch_image_classes) H := hP
          have hD : va_D A (cw_OB_make G a_t a_disk a_batch a_schema a_batch_image a_batch_image_classes a_indexes a_kept a_draftText a_questions a_reader a_judge a_latest a_schema_above a_schema_owners a_schema_kinds a_schema_targets a_batch_image_values a_batch_image_names v_questionCount (v_idsGiven + 1) v_everBegun v_disk_written v_disk_armed v_disk_half v_disk_logged v_disk_marked v_disk_down v_batch_known v_batch_touched v_batch_namesTouched v_batch_open v_schema_classCount v_schema_fieldCount v_batch_image_classes) := hD
          refine lv_aload_n hx hb d_OB_make_55 rfl (lv_at hl 0 rfl) ?_
          refine va_get (D := D) (ci := 0) (v := .ref a_batch) (C := "ObjectBase") (T := TC_OB) (N := 13) hx hb hts inC_OB hown hK hP 0 rfl rfl 4 (by decide) (hts _ tw236) (fun _ h9 => h9) rfl d_OB_make_56 ?_
          refine lv_aload_n hx hb d_OB_make_59 rfl (lv_at hl 0 rfl) ?_
          refine va_get (D := D) (ci := 0) (v := .int (v_idsGiven + 1)) (C := "ObjectBase") (T := TC_OB) (N := 13) hx hb hts inC_OB hown hK hP 0 rfl rfl 11 (by decide) (hts _ tw243) (fun _ h9 => h9) rfl d_OB_make_60 ?_
          refine lv_iload_n hx hb d_OB_make_63 rfl (lv_at hl 1 rfl) ?_
          obtain ⟨o64, ho64, hf⟩ := ob_b hf
          refine ob_callv (w2 := (cw_OB_make G a_t a_disk a_batch a_schema a_batch_image a_batch_image_classes a_indexes a_kept a_draftText a_questions a_reader a_judge a_latest a_schema_above a_schema_owners a_schema_kinds a_schema_targets a_batch_image_values a_batch_image_names v_questionCount (v_idsGiven + 1) v_everBegun v_disk_written v_disk_armed v_disk_half v_disk_logged v_disk_marked v_disk_down o64.1 o64.2.1 v_batch_namesTouched v_batch_open v_schema_classCount v_schema_fieldCount o64.2.2)) (va_runV (As := [.int (v_idsGiven + 1), .int p1]) (rest := []) ⟨hx, hb, hml, hown, hts⟩ (c_Batch_addObject l D G a_batch a_batch_image a_batch_image_classes a_batch_image_values a_batch_image_names v_batch_known v_batch_touched v_batch_namesTouched v_batch_open v_batch_image_classes (v_idsGiven + 1) p1 o64 ho64 H.size) (cwV 2 hts (gV tw350 tw351 tw352 tw6 tw353) rfl rfl rfl (by decide +kernel) ⟨Nat.le_of_ble_eq_true rfl, Nat.le_of_ble_eq_true rfl⟩) (ob_preV (q0 := 2) (ci := 5) hZ hK hP hD [2, 4, 5] rfl rfl rfl rfl rfl) rfl rfl hl.1 rfl (lv_room (Nat.le_of_ble_eq_true rfl)) d_OB_make_64 ⟨Nat.le_refl _, Nat.le_refl _⟩) hP hD hA hS [2, 4, 5] rfl rfl rfl rfl (fun H locs hP hD hS => ?_)
          refine lv_aload_n hx hb d_OB_make_67 rfl (lv_at hl 0 rfl) ?_
          refine va_get (D := D) (ci := 0) (v := .int (v_idsGiven + 1)) (C := "ObjectBase") (T := TC_OB) (N := 13) hx hb hts inC_OB hown hK hP 0 rfl rfl 11 (by decide) (hts _ tw243) (fun _ h9 => h9) rfl d_OB_make_68 ?_
          exact hret (v_idsGiven + 1, v_idsGiven + 1, o64.1, o64.2.1, o64.2.2) H locs _ ls hf hP hD hS rfl d_OB_make_71
        · have hf := ob_t hc40 hf
          refine lv_iconst (v := (-1)) hx hb d_OB_make_43 (by decide) ?_
          exact hret ((-1), v_idsGiven, v_batch_known, v_batch_touched, v_batch_image_classes) H locs _ ls hf hP hD hS rfl d_OB_make_44
  · have hf := ob_f hc7 hf
    refine lv_bipush (v := (-4)) hx hb d_OB_make_10 (by decide) ?_
    exact hret ((-4), v_idsGiven, v_batch_known, v_batch_touched, v_batch_image_classes) H locs _ ls hf hP hD hS rfl d_OB_make_12
