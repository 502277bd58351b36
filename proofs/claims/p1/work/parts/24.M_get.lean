abbrev bc_M_get : ByteArray := prog_13_method_34_code
abbrev y_M_get : MethodName := ⟨"ObjectBaseModel", "get", "(II)I"⟩
def ws_M_get : List Cond := .code y_M_get bc_M_get 4 (some .int) :: obW
theorem d_M_get_0 : decode bc_M_get 0 = .ok (.aload_n 0, 1) := by decide +kernel
theorem d_M_get_1 : decode bc_M_get 1 = .ok (.getfield 112, 3) := by decide +kernel
theorem d_M_get_4 : decode bc_M_get 4 = .ok (.ifCond .eq 6, 3) := by decide +kernel
theorem d_M_get_7 : decode bc_M_get 7 = .ok (.bipush (-4), 2) := by decide +kernel
theorem d_M_get_9 : decode bc_M_get 9 = .ok (.ireturn, 1) := by decide +kernel
theorem d_M_get_10 : decode bc_M_get 10 = .ok (.aload_n 0, 1) := by decide +kernel
theorem d_M_get_11 : decode bc_M_get 11 = .ok (.iload_n 1, 1) := by decide +kernel
theorem d_M_get_12 : decode bc_M_get 12 = .ok (.invokevirtual 227, 3) := by decide +kernel
theorem d_M_get_15 : decode bc_M_get 15 = .ok (.ifCond .eq 18, 3) := by decide +kernel
theorem d_M_get_18 : decode bc_M_get 18 = .ok (.aload_n 0, 1) := by decide +kernel
theorem d_M_get_19 : decode bc_M_get 19 = .ok (.aload_n 0, 1) := by decide +kernel
theorem d_M_get_20 : decode bc_M_get 20 = .ok (.getfield 28, 3) := by decide +kernel
theorem d_M_get_23 : decode bc_M_get 23 = .ok (.iload_n 1, 1) := by decide +kernel
theorem d_M_get_24 : decode bc_M_get 24 = .ok (.iaload, 1) := by decide +kernel
theorem d_M_get_25 : decode bc_M_get 25 = .ok (.iload_n 2, 1) := by decide +kernel
theorem d_M_get_26 : decode bc_M_get 26 = .ok (.iconst (-1), 1) := by decide +kernel
theorem d_M_get_27 : decode bc_M_get 27 = .ok (.invokevirtual 136, 3) := by decide +kernel
theorem d_M_get_30 : decode bc_M_get 30 = .ok (.ifCond .ne 5, 3) := by decide +kernel
theorem d_M_get_33 : decode bc_M_get 33 = .ok (.iconst (-1), 1) := by decide +kernel
theorem d_M_get_34 : decode bc_M_get 34 = .ok (.ireturn, 1) := by decide +kernel
theorem d_M_get_35 : decode bc_M_get 35 = .ok (.bipush 8, 2) := by decide +kernel
theorem d_M_get_37 : decode bc_M_get 37 = .ok (.iload_n 1, 1) := by decide +kernel
theorem d_M_get_38 : decode bc_M_get 38 = .ok (.imul, 1) := by decide +kernel
theorem d_M_get_39 : decode bc_M_get 39 = .ok (.iload_n 2, 1) := by decide +kernel
theorem d_M_get_40 : decode bc_M_get 40 = .ok (.iadd, 1) := by decide +kernel
theorem d_M_get_41 : decode bc_M_get 41 = .ok (.istore_n 3, 1) := by decide +kernel
theorem d_M_get_42 : decode bc_M_get 42 = .ok (.aload_n 0, 1) := by decide +kernel
theorem d_M_get_43 : decode bc_M_get 43 = .ok (.getfield 16, 3) := by decide +kernel
theorem d_M_get_46 : decode bc_M_get 46 = .ok (.iload_n 2, 1) := by decide +kernel
theorem d_M_get_47 : decode bc_M_get 47 = .ok (.iaload, 1) := by decide +kernel
theorem d_M_get_48 : decode bc_M_get 48 = .ok (.iconst 2, 1) := by decide +kernel
theorem d_M_get_49 : decode bc_M_get 49 = .ok (.if_icmp .ne 15, 3) := by decide +kernel
theorem d_M_get_52 : decode bc_M_get 52 = .ok (.aload_n 0, 1) := by decide +kernel
theorem d_M_get_53 : decode bc_M_get 53 = .ok (.getfield 44, 3) := by decide +kernel
theorem d_M_get_56 : decode bc_M_get 56 = .ok (.iload_n 3, 1) := by decide +kernel
theorem d_M_get_57 : decode bc_M_get 57 = .ok (.laload, 1) := by decide +kernel
theorem d_M_get_58 : decode bc_M_get 58 = .ok (.invokestatic 210, 3) := by decide +kernel
theorem d_M_get_61 : decode bc_M_get 61 = .ok (.goto 9, 3) := by decide +kernel
theorem d_M_get_64 : decode bc_M_get 64 = .ok (.aload_n 0, 1) := by decide +kernel
theorem d_M_get_65 : decode bc_M_get 65 = .ok (.getfield 41, 3) := by decide +kernel
theorem d_M_get_68 : decode bc_M_get 68 = .ok (.iload_n 3, 1) := by decide +kernel
theorem d_M_get_69 : decode bc_M_get 69 = .ok (.iaload, 1) := by decide +kernel
theorem d_M_get_70 : decode bc_M_get 70 = .ok (.ireturn, 1) := by decide +kernel
def cw_M_get (G : Nat → ClassId) (a_t a_classes1 a_owner a_parent a_sort a_values a_sets a_aim a_indexClass a_indexPath a_dValues a_dSets a_dNames a_names a_draft a_lengths a_text a_classOfQuestion a_split a_steps a_what a_one a_two a_opened a_openedAt a_stands a_variable a_truth a_rest a_loopAt a_loopFound a_hits : Nat) (v_classes : Int32) (v_fields : Int32) (v_begun : Int32) (v_indexes : Int32) (v_made : Int32) (v_slotted : Int64) (v_half : Int32) (v_open : Int32) (v_known : Int64) (v_fresh : Int64) (v_changed : Int64) (v_renamed : Int32) (v_down : Int32) (v_armed : Int32) (v_written : Int32) (v_logged : Int32) (v_marked : Int32) (v_logSize : Int32) (v_drafted : Int32) (v_questions : Int32) (v_now : Int32) (v_at : Int32) (v_bad : Int32) (v_opens : Int32) (v_deep : Int32) (v_aimed : Int32) (v_truths : Int32) (v_loops : Int32) (v_valued : Int32) (v_value : Int32) (v_set : Int64) (v_latest : Int32) (v_fits : Int32) (v_total : Int64) (v_looked : Int32) (v_classes1 : Nat → Int32) (v_owner : Nat → Int32) (v_parent : Nat → Int32) (v_sort : Nat → Int32) (v_values : Nat → Int32) (v_sets : Nat → Int64) : va_W := [(a_t, .inr (11, [.int v_classes, .ref a_parent, .int v_fields, .ref a_owner, .ref a_sort, .ref a_aim, .int v_begun, .int v_indexes, .ref a_indexClass, .ref a_indexPath, .int v_made, .ref a_classes1, .ref a_dValues, .ref a_dSets, .ref a_dNames, .ref a_values, .ref a_sets, .ref a_names, .long v_slotted, .int v_half, .int v_open, .long v_known, .long v_fresh, .long v_changed, .int v_renamed, .int v_down, .int v_armed, .int v_written, .int v_logged, .int v_marked, .int v_logSize, .int v_drafted, .ref a_draft, .int v_questions, .ref a_lengths, .ref a_text, .ref a_classOfQuestion, .ref a_split, .ref a_steps, .ref a_what, .ref a_one, .ref a_two, .int v_now, .int v_at, .int v_bad, .int v_opens, .ref a_opened, .ref a_openedAt, .int v_deep, .int v_aimed, .ref a_stands, .ref a_variable, .int v_truths, .ref a_truth, .int v_loops, .ref a_rest, .ref a_loopAt, .ref a_loopFound, .int v_valued, .int v_value, .long v_set, .int v_latest, .int v_fits, .ref a_hits, .long v_total, .int v_looked])), (a_classes1, .inl (G 0, 63, .inl v_classes1)), (a_owner, .inl (G 0, 8, .inl v_owner)), (a_parent, .inl (G 0, 6, .inl v_parent)), (a_sort, .inl (G 0, 8, .inl v_sort)), (a_values, .inl (G 0, 504, .inl v_values)), (a_sets, .inl (G 1, 504, .inr (.inl v_sets)))]
def f_M_get (v_fields : Int32) (v_slotted : Int64) (v_open : Int32) (v_fresh : Int64) (v_down : Int32) (v_classes1 : Nat → Int32) (v_owner : Nat → Int32) (v_parent : Nat → Int32) (v_sort : Nat → Int32) (v_values : Nat → Int32) (v_sets : Nat → Int64) (p1 : Int32) (p2 : Int32) : Option (Int32) := if v_down = 0 then ((f_M_there v_slotted v_open v_fresh p1).bind fun o12 => (if o12 = 0 then (some (-1)) else (ob_iv p1 63 ((f_M_has v_fields v_owner v_parent v_sort (v_classes1 p1.toNatClampNeg) p2 (-1)).bind fun o27 => (if o27 = 0 then (some (-1)) else (ob_iv p2 8 (if (v_sort p2.toNatClampNeg) = 2 then (ob_iv ((8 * p1) + p2) 504 ((f_M_count (v_sets ((8 * p1) + p2).toNatClampNeg)).bind fun o58 => (some o58))) else (ob_iv ((8 * p1) + p2) 504 (some (v_values ((8 * p1) + p2).toNatClampNeg)))))))))) else (some (-4))
set_option maxHeartbeats 4000000 in
set_option maxRecDepth 100000 in
theorem c_M_get (l : Launch) (D : va_G) (G : Nat → ClassId) (a_t a_classes1 a_owner a_parent a_sort a_values a_sets a_aim a_indexClass a_indexPath a_dValues a_dSets a_dNames a_names a_draft a_lengths a_text a_classOfQuestion a_split a_steps a_what a_one a_two a_opened a_openedAt a_stands a_variable a_truth a_rest a_loopAt a_loopFound a_hits : Nat) (v_classes : Int32) (v_fields : Int32) (v_begun : Int32) (v_indexes : Int32) (v_made : Int32) (v_slotted : Int64) (v_half : Int32) (v_open : Int32) (v_known : Int64) (v_fresh : Int64) (v_changed : Int64) (v_renamed : Int32) (v_down : Int32) (v_armed : Int32) (v_written : Int32) (v_logged : Int32) (v_marked : Int32) (v_logSize : Int32) (v_drafted : Int32) (v_questions : Int32) (v_now : Int32) (v_at : Int32) (v_bad : Int32) (v_opens : Int32) (v_deep : Int32) (v_aimed : Int32) (v_truths : Int32) (v_loops : Int32) (v_valued : Int32) (v_value : Int32) (v_set : Int64) (v_latest : Int32) (v_fits : Int32) (v_total : Int64) (v_looked : Int32) (v_classes1 : Nat → Int32) (v_owner : Nat → Int32) (v_parent : Nat → Int32) (v_sort : Nat → Int32) (v_values : Nat → Int32) (v_sets : Nat → Int64) (p1 : Int32) (p2 : Int32) (o : Int32) (hf : f_M_get v_fields v_slotted v_open v_fresh v_down v_classes1 v_owner v_parent v_sort v_values v_sets p1 p2 = some o) (sz : Nat) : MetI l y_M_get ws_M_get ({ frames := 2, cells := 0, slots := 0, locals := 47 }) D (obT G) (cw_M_get G a_t a_classes1 a_owner a_parent a_sort a_values a_sets a_aim a_indexClass a_indexPath a_dValues a_dSets a_dNames a_names a_draft a_lengths a_text a_classOfQuestion a_split a_steps a_what a_one a_two a_opened a_openedAt a_stands a_variable a_truth a_rest a_loopAt a_loopFound a_hits v_classes v_fields v_begun v_indexes v_made v_slotted v_half v_open v_known v_fresh v_changed v_renamed v_down v_armed v_written v_logged v_marked v_logSize v_drafted v_questions v_now v_at v_bad v_opens v_deep v_aimed v_truths v_loops v_valued v_value v_set v_latest v_fits v_total v_looked v_classes1 v_owner v_parent v_sort v_values v_sets) (cw_M_get G a_t a_classes1 a_owner a_parent a_sort a_values a_sets a_aim a_indexClass a_indexPath a_dValues a_dSets a_dNames a_names a_draft a_lengths a_text a_classOfQuestion a_split a_steps a_what a_one a_two a_opened a_openedAt a_stands a_variable a_truth a_rest a_loopAt a_loopFound a_hits v_classes v_fields v_begun v_indexes v_made v_slotted v_half v_open v_known v_fresh v_changed v_renamed v_down v_armed v_written v_logged v_marked v_logSize v_drafted v_questions v_now v_at v_bad v_opens v_deep v_aimed v_truths v_loops v_valued v_value v_set v_latest v_fits v_total v_looked v_classes1 v_owner v_parent v_sort v_values v_sets) [.ref a_t, .int p1, .int p2] o sz := by
  refine ob_of (cc := bc_M_get) (maxL := 4) (ret := (some .int)) (Qc := ObQi D (obT G) (cw_M_get G a_t a_classes1 a_owner a_parent a_sort a_values a_sets a_aim a_indexClass a_indexPath a_dValues a_dSets a_dNames a_names a_draft a_lengths a_text a_classOfQuestion a_split a_steps a_what a_one a_two a_opened a_openedAt a_stands a_variable a_truth a_rest a_loopAt a_loopFound a_hits v_classes v_fields v_begun v_indexes v_made v_slotted v_half v_open v_known v_fresh v_changed v_renamed v_down v_armed v_written v_logged v_marked v_logSize v_drafted v_questions v_now v_at v_bad v_opens v_deep v_aimed v_truths v_loops v_valued v_value v_set v_latest v_fits v_total v_looked v_classes1 v_owner v_parent v_sort v_values v_sets) o) (by decide) rfl (Nat.le_of_ble_eq_true rfl) ?_
  intro p e s m below meth c A ls H locs hx hb hr hml hts hown hlk hnm hZ hP hK hD hA hS hl
  have hret : ∀ (o' : Int32) (H : Heap) (locs : List Loc) (pc : Nat) (ls : Array Slot), some o' = some o → va_P D vwCl (cw_M_get G a_t a_classes1 a_owner a_parent a_sort a_values a_sets a_aim a_indexClass a_indexPath a_dValues a_dSets a_dNames a_names a_draft a_lengths a_text a_classOfQuestion a_split a_steps a_what a_one a_two a_opened a_openedAt a_stands a_variable a_truth a_rest a_loopAt a_loopFound a_hits v_classes v_fields v_begun v_indexes v_made v_slotted v_half v_open v_known v_fresh v_changed v_renamed v_down v_armed v_written v_logged v_marked v_logSize v_drafted v_questions v_now v_at v_bad v_opens v_deep v_aimed v_truths v_loops v_valued v_value v_set v_latest v_fits v_total v_looked v_classes1 v_owner v_parent v_sort v_values v_sets) H → va_D A (cw_M_get G a_t a_classes1 a_owner a_parent a_sort a_values a_sets a_aim a_indexClass a_indexPath a_dValues a_dSets a_dNames a_names a_draft a_lengths a_text a_classOfQuestion a_split a_steps a_what a_one a_two a_opened a_openedAt a_stands a_variable a_truth a_rest a_loopAt a_loopFound a_hits v_classes v_fields v_begun v_indexes v_made v_slotted v_half v_open v_known v_fresh v_changed v_renamed v_down v_armed v_written v_logged v_marked v_logSize v_drafted v_questions v_now v_at v_bad v_opens v_deep v_aimed v_truths v_loops v_valued v_value v_set v_latest v_fits v_total v_looked v_classes1 v_owner v_parent v_sort v_values v_sets) → va_S A s.heap H locs → narrow .int (.int o') = .int o' → decode bc_M_get pc = .ok (.ireturn, 1) → W p l e { frames := 2, cells := 0, slots := 0, locals := 47 } s m ([.ref a_t, .int p1, .int p2] : List Value).toArray below meth c H locs 0 0 (MQ below (ObQi D (obT G) (cw_M_get G a_t a_classes1 a_owner a_parent a_sort a_values a_sets a_aim a_indexClass a_indexPath a_dValues a_dSets a_dNames a_names a_draft a_lengths a_text a_classOfQuestion a_split a_steps a_what a_one a_two a_opened a_openedAt a_stands a_variable a_truth a_rest a_loopAt a_loopFound a_hits v_classes v_fields v_begun v_indexes v_made v_slotted v_half v_open v_known v_fresh v_changed v_renamed v_down v_armed v_written v_logged v_marked v_logSize v_drafted v_questions v_now v_at v_bad v_opens v_deep v_aimed v_truths v_loops v_valued v_value v_set v_latest v_fits v_total v_looked v_classes1 v_owner v_parent v_sort v_values v_sets) o A) ([.ref a_t, .int p1, .int p2] : List Value).toArray s 0 0 A) (F0 m pc ls [.int o']) := by
    intro o' H locs pc ls he hP hD hS hn hd
    obtain rfl := Option.some.inj he
    exact ob_iret hx hb hr hlk hK hP hD hS hn hd
  generalize MQ below (ObQi D (obT G) (cw_M_get G a_t a_classes1 a_owner a_parent a_sort a_values a_sets a_aim a_indexClass a_indexPath a_dValues a_dSets a_dNames a_names a_draft a_lengths a_text a_classOfQuestion a_split a_steps a_what a_one a_two a_opened a_openedAt a_stands a_variable a_truth a_rest a_loopAt a_loopFound a_hits v_classes v_fields v_begun v_indexes v_made v_slotted v_half v_open v_known v_fresh v_changed v_renamed v_down v_armed v_written v_logged v_marked v_logSize v_drafted v_questions v_now v_at v_bad v_opens v_deep v_aimed v_truths v_loops v_valued v_value v_set v_latest v_fits v_total v_looked v_classes1 v_owner v_parent v_sort v_values v_sets) o A) ([.ref a_t, .int p1, .int p2] : List Value).toArray s 0 0 A = Q at hret ⊢
  have hl : lv_has ls 4 [(0, .ref a_t), (1, .int p1), (2, .int p2)] := hl
  unfold f_M_get at hf
  refine lv_aload_n hx hb d_M_get_0 rfl (lv_at hl 0 rfl) ?_
  refine va_get (D := D) (ci := 11) (v := .int v_down) (C := "ObjectBaseModel") (T := TC_M) (N := 66) hx hb hts inC_M hown hK hP 0 rfl rfl 25 (by decide) (hts _ tw812) (fun _ h9 => h9) rfl d_M_get_1 ?_
  refine lv_if_eq (tgt := 10) hx hb d_M_get_4 (by decide) (fun hc4 => ?_) (fun hc4 => ?_)
  · have hf := ob_t hc4 hf
    refine lv_aload_n hx hb d_M_get_10 rfl (lv_at hl 0 rfl) ?_
    refine lv_iload_n hx hb d_M_get_11 rfl (lv_at hl 1 rfl) ?_
    obtain ⟨o12, ho12, hf⟩ := ob_b hf
    refine ob_calli (w2 := (cw_M_get G a_t a_classes1 a_owner a_parent a_sort a_values a_sets a_aim a_indexClass a_indexPath a_dValues a_dSets a_dNames a_names a_draft a_lengths a_text a_classOfQuestion a_split a_steps a_what a_one a_two a_opened a_openedAt a_stands a_variable a_truth a_rest a_loopAt a_loopFound a_hits v_classes v_fields v_begun v_indexes v_made v_slotted v_half v_open v_known v_fresh v_changed v_renamed v_down v_armed v_written v_logged v_marked v_logSize v_drafted v_questions v_now v_at v_bad v_opens v_deep v_aimed v_truths v_loops v_valued v_value v_set v_latest v_fits v_total v_looked v_classes1 v_owner v_parent v_sort v_values v_sets)) (va_runV (As := [.int p1]) (rest := []) ⟨hx, hb, hml, hown, hts⟩ (c_M_there l D G a_t a_parent a_owner a_sort a_aim a_indexClass a_indexPath a_classes1 a_dValues a_dSets a_dNames a_values a_sets a_names a_draft a_lengths a_text a_classOfQuestion a_split a_steps a_what a_one a_two a_opened a_openedAt a_stands a_variable a_truth a_rest a_loopAt a_loopFound a_hits v_classes v_fields v_begun v_indexes v_made v_slotted v_half v_open v_known v_fresh v_changed v_renamed v_down v_armed v_written v_logged v_marked v_logSize v_drafted v_questions v_now v_at v_bad v_opens v_deep v_aimed v_truths v_loops v_valued v_value v_set v_latest v_fits v_total v_looked p1 o12 ho12 H.size) (cwV 1 hts (gV tw1105 tw1107 tp39 tw11 tw1108) rfl rfl rfl (by decide +kernel) ⟨Nat.le_of_ble_eq_true rfl, Nat.le_of_ble_eq_true rfl⟩) (ob_preV (q0 := 0) (ci := 11) hZ hK hP hD [0] rfl rfl rfl rfl rfl) rfl rfl hl.1 rfl (lv_room (Nat.le_of_ble_eq_true rfl)) d_M_get_12 ⟨Nat.le_refl _, Nat.le_refl _⟩) hP hD hA hS [0] rfl rfl rfl rfl (fun H locs hP hD hS => ?_)
    refine lv_if_eq (tgt := 33) hx hb d_M_get_15 (by decide) (fun hc15 => ?_) (fun hc15 => ?_)
    · have hf := ob_t hc15 hf
      refine lv_iconst (v := (-1)) hx hb d_M_get_33 (by decide) ?_
      exact hret (-1) H locs _ ls hf hP hD hS rfl d_M_get_34
    · have hf := ob_f hc15 hf
      refine lv_aload_n hx hb d_M_get_18 rfl (lv_at hl 0 rfl) ?_
      refine lv_aload_n hx hb d_M_get_19 rfl (lv_at hl 0 rfl) ?_
      refine va_get (D := D) (ci := 11) (v := .ref a_classes1) (C := "ObjectBaseModel") (T := TC_M) (N := 66) hx hb hts inC_M hown hK hP 0 rfl rfl 11 (by decide) (hts _ tw798) (fun _ h9 => h9) rfl d_M_get_20 ?_
      refine lv_iload_n hx hb d_M_get_23 rfl (lv_at hl 1 rfl) ?_
      obtain ⟨hg24, hf⟩ := ob_iv_g hf
      refine va_iald hx hb hK hP 1 0 rfl rfl hg24 d_M_get_24 ?_
      refine lv_iload_n hx hb d_M_get_25 rfl (lv_at hl 2 rfl) ?_
      refine lv_iconst (v := (-1)) hx hb d_M_get_26 (by decide) ?_
      obtain ⟨o27, ho27, hf⟩ := ob_b hf
      refine ob_calli (w2 := (cw_M_get G a_t a_classes1 a_owner a_parent a_sort a_values a_sets a_aim a_indexClass a_indexPath a_dValues a_dSets a_dNames a_names a_draft a_lengths a_text a_classOfQuestion a_split a_steps a_what a_one a_two a_opened a_openedAt a_stands a_variable a_truth a_rest a_loopAt a_loopFound a_hits v_classes v_fields v_begun v_indexes v_made v_slotted v_half v_open v_known v_fresh v_changed v_renamed v_down v_armed v_written v_logged v_marked v_logSize v_drafted v_questions v_now v_at v_bad v_opens v_deep v_aimed v_truths v_loops v_valued v_value v_set v_latest v_fits v_total v_looked v_classes1 v_owner v_parent v_sort v_values v_sets)) (va_runV (As := [.int (v_classes1 p1.toNatClampNeg), .int p2, .int (-1)]) (rest := []) ⟨hx, hb, hml, hown, hts⟩ (c_M_has l D G a_t a_owner a_parent a_sort a_aim a_indexClass a_indexPath a_classes1 a_dValues a_dSets a_dNames a_values a_sets a_names a_draft a_lengths a_text a_classOfQuestion a_split a_steps a_what a_one a_two a_opened a_openedAt a_stands a_variable a_truth a_rest a_loopAt a_loopFound a_hits v_classes v_fields v_begun v_indexes v_made v_slotted v_half v_open v_known v_fresh v_changed v_renamed v_down v_armed v_written v_logged v_marked v_logSize v_drafted v_questions v_now v_at v_bad v_opens v_deep v_aimed v_truths v_loops v_valued v_value v_set v_latest v_fits v_total v_looked v_owner v_parent v_sort (v_classes1 p1.toNatClampNeg) p2 (-1) o27 ho27 H.size) (cwV 3 hts (gV tw1003 tw1005 tp29 tw11 tw1006) rfl rfl rfl (by decide +kernel) ⟨Nat.le_of_ble_eq_true rfl, Nat.le_of_ble_eq_true rfl⟩) (ob_preV (q0 := 0) (ci := 11) hZ hK hP hD [0, 2, 3, 4] rfl rfl rfl rfl rfl) rfl rfl hl.1 rfl (lv_room (Nat.le_of_ble_eq_true rfl)) d_M_get_27 ⟨Nat.le_refl _, Nat.le_refl _⟩) hP hD hA hS [0, 2, 3, 4] rfl rfl rfl rfl (fun H locs hP hD hS => ?_)
      refine lv_if_ne (tgt := 35) hx hb d_M_get_30 (by decide) (fun hc30 => ?_) (fun hc30 => ?_)
      · have hf := ob_f hc30 hf
        refine lv_bipush (v := 8) hx hb d_M_get_35 (by decide) ?_
        refine lv_iload_n hx hb d_M_get_37 rfl (lv_at hl 1 rfl) ?_
        refine lv_imul hx hb d_M_get_38 ?_
        refine lv_iload_n hx hb d_M_get_39 rfl (lv_at hl 2 rfl) ?_
        refine lv_iadd hx hb d_M_get_40 ?_
        refine lv_istore_n (lv' := [(3, .int ((8 * p1) + p2)), (0, .ref a_t), (1, .int p1), (2, .int p2)]) hx hb d_M_get_41 rfl hl (by decide) rfl (fun ls hl => ?_)
        refine lv_aload_n hx hb d_M_get_42 rfl (lv_at hl 1 rfl) ?_
        refine va_get (D := D) (ci := 11) (v := .ref a_sort) (C := "ObjectBaseModel") (T := TC_M) (N := 66) hx hb hts inC_M hown hK hP 0 rfl rfl 4 (by decide) (hts _ tw791) (fun _ h9 => h9) rfl d_M_get_43 ?_
        refine lv_iload_n hx hb d_M_get_46 rfl (lv_at hl 3 rfl) ?_
        obtain ⟨hg47, hf⟩ := ob_iv_g hf
        refine va_iald hx hb hK hP 4 0 rfl rfl hg47 d_M_get_47 ?_
        refine lv_iconst (v := 2) hx hb d_M_get_48 (by decide) ?_
        refine lv_icmp_ne (tgt := 64) hx hb d_M_get_49 (by decide) (fun hc49 => ?_) (fun hc49 => ?_)
        · have hf := ob_f hc49 hf
          refine lv_aload_n hx hb d_M_get_64 rfl (lv_at hl 1 rfl) ?_
          refine va_get (D := D) (ci := 11) (v := .ref a_values) (C := "ObjectBaseModel") (T := TC_M) (N := 66) hx hb hts inC_M hown hK hP 0 rfl rfl 15 (by decide) (hts _ tw802) (fun _ h9 => h9) rfl d_M_get_65 ?_
          refine lv_iload_n hx hb d_M_get_68 rfl (lv_at hl 0 rfl) ?_
          obtain ⟨hg69, hf⟩ := ob_iv_g hf
          refine va_iald hx hb hK hP 5 0 rfl rfl hg69 d_M_get_69 ?_
          exact hret (v_values ((8 * p1) + p2).toNatClampNeg) H locs _ ls hf hP hD hS rfl d_M_get_70
        · have hf := ob_t hc49 hf
          refine lv_aload_n hx hb d_M_get_52 rfl (lv_at hl 1 rfl) ?_
          refine va_get (D := D) (ci := 11) (v := .ref a_sets) (C := "ObjectBaseModel") (T := TC_M) (N := 66) hx hb hts inC_M hown hK hP 0 rfl rfl 16 (by decide) (hts _ tw803) (fun _ h9 => h9) rfl d_M_get_53 ?_
          refine lv_iload_n hx hb d_M_get_56 rfl (lv_at hl 0 rfl) ?_
          obtain ⟨hg57, hf⟩ := ob_iv_g hf
          refine va_lald hx hb hK hP 6 1 rfl rfl hg57 d_M_get_57 ?_
          obtain ⟨o58, ho58, hf⟩ := ob_b hf
          refine ob_calli (w2 := (cw_M_get G a_t a_classes1 a_owner a_parent a_sort a_values a_sets a_aim a_indexClass a_indexPath a_dValues a_dSets a_dNames a_names a_draft a_lengths a_text a_classOfQuestion a_split a_steps a_what a_one a_two a_opened a_openedAt a_stands a_variable a_truth a_rest a_loopAt a_loopFound a_hits v_classes v_fields v_begun v_indexes v_made v_slotted v_half v_open v_known v_fresh v_changed v_renamed v_down v_armed v_written v_logged v_marked v_logSize v_drafted v_questions v_now v_at v_bad v_opens v_deep v_aimed v_truths v_loops v_valued v_value v_set v_latest v_fits v_total v_looked v_classes1 v_owner v_parent v_sort v_values v_sets)) (va_runS (As := [.long (v_sets ((8 * p1) + p2).toNatClampNeg)]) (rest := []) ⟨hx, hb, hml, hown, hts⟩ (c_M_count l D G  (v_sets ((8 * p1) + p2).toNatClampNeg) o58 ho58 H.size) (va_cwS 1 hts (gS tw1062 tw1063 tw11 tw1064) rfl rfl rfl (by decide +kernel) ⟨Nat.le_of_ble_eq_true rfl, Nat.le_of_ble_eq_true rfl⟩) (ob_preS hZ hK hP hD [] rfl rfl) rfl rfl hl.1 rfl (lv_room (Nat.le_of_ble_eq_true rfl)) d_M_get_58 ⟨Nat.le_refl _, Nat.le_refl _⟩) hP hD hA hS [] rfl rfl rfl rfl (fun H locs hP hD hS => ?_)
          refine lv_goto (tgt := 70) hx hb d_M_get_61 (by decide) ?_
          exact hret o58 H locs _ ls hf hP hD hS rfl d_M_get_70
      · have hf := ob_t hc30 hf
        refine lv_iconst (v := (-1)) hx hb d_M_get_33 (by decide) ?_
        exact hret (-1) H locs _ ls hf hP hD hS rfl d_M_get_34
  · have hf := ob_f hc4 hf
    refine lv_bipush (v := (-4)) hx hb d_M_get_7 (by decide) ?_
    exact hret (-4) H locs _ ls hf hP hD hS rfl d_M_get_9
abbrev bc_M_holds : ByteArray := prog_13_method_35_code
abbrev y_M_holds : MethodName := ⟨"ObjectBaseModel", "holds", "(III)Z"⟩
def ws_M_holds : List Cond := .code y_M_holds bc_M_holds 4 (some .boolean) :: obW
theorem d_M_holds_0 : decode bc_M_holds 0 = .ok (.aload_n 0, 1) := by decide +kernel
theorem d_M_holds_1 : decode bc_M_holds 1 = .ok (.getfield 112, 3) := by decide +kernel
theorem d_M_holds_4 : decode bc_M_holds 4 = .ok (.ifCond .ne 48, 3) := by decide +kernel
theorem d_M_holds_7 : decode bc_M_holds 7 = .ok (.aload_n 0, 1) := by decide +kernel
theorem d_M_holds_8 : decode bc_M_holds 8 = .ok (.iload_n 1, 1) := by decide +kernel
theorem d_M_holds_9 : decode bc_M_holds 9 = .ok (.invokevirtual 227, 3) := by decide +kernel
theorem d_M_holds_12 : decode bc_M_holds 12 = .ok (.ifCond .eq 40, 3) := by decide +kernel
theorem d_M_holds_15 : decode bc_M_holds 15 = .ok (.aload_n 0, 1) := by decide +kernel
theorem d_M_holds_16 : decode bc_M_holds 16 = .ok (.aload_n 0, 1) := by decide +kernel
theorem d_M_holds_17 : decode bc_M_holds 17 = .ok (.getfield 28, 3) := by decide +kernel
theorem d_M_holds_20 : decode bc_M_holds 20 = .ok (.iload_n 1, 1) := by decide +kernel
theorem d_M_holds_21 : decode bc_M_holds 21 = .ok (.iaload, 1) := by decide +kernel
theorem d_M_holds_22 : decode bc_M_holds 22 = .ok (.iload_n 2, 1) := by decide +kernel
theorem d_M_holds_23 : decode bc_M_holds 23 = .ok (.iconst 2, 1) := by decide +kernel
theorem d_M_holds_24 : decode bc_M_holds 24 = .ok (.invokevirtual 136, 3) := by decide +kernel
theorem d_M_holds_27 : decode bc_M_holds 27 = .ok (.ifCond .eq 25, 3) := by decide +kernel
theorem d_M_holds_30 : decode bc_M_holds 30 = .ok (.aload_n 0, 1) := by decide +kernel
theorem d_M_holds_31 : decode bc_M_holds 31 = .ok (.getfield 44, 3) := by decide +kernel
theorem d_M_holds_34 : decode bc_M_holds 34 = .ok (.bipush 8, 2) := by decide +kernel
theorem d_M_holds_36 : decode bc_M_holds 36 = .ok (.iload_n 1, 1) := by decide +kernel
theorem d_M_holds_37 : decode bc_M_holds 37 = .ok (.imul, 1) := by decide +kernel
theorem d_M_holds_38 : decode bc_M_holds 38 = .ok (.iload_n 2, 1) := by decide +kernel
theorem d_M_holds_39 : decode bc_M_holds 39 = .ok (.iadd, 1) := by decide +kernel
theorem d_M_holds_40 : decode bc_M_holds 40 = .ok (.laload, 1) := by decide +kernel
theorem d_M_holds_41 : decode bc_M_holds 41 = .ok (.iload_n 3, 1) := by decide +kernel
theorem d_M_holds_42 : decode bc_M_holds 42 = .ok (.invokestatic 147, 3) := by decide +kernel
theorem d_M_holds_45 : decode bc_M_holds 45 = .ok (.ifCond .eq 7, 3) := by decide +kernel
theorem d_M_holds_48 : decode bc_M_holds 48 = .ok (.iconst 1, 1) := by decide +kernel
theorem d_M_holds_49 : decode bc_M_holds 49 = .ok (.goto 4, 3) := by decide +kernel
theorem d_M_holds_52 : decode bc_M_holds 52 = .ok (.iconst 0, 1) := by decide +kernel
theorem d_M_holds_53 : decode bc_M_holds 53 = .ok (.ireturn, 1) := by decide +kernel
def cw_M_holds (G : Nat → ClassId) (a_t a_classes1 a_owner a_parent a_sort a_sets a_aim a_indexClass a_indexPath a_dValues a_dSets a_dNames a_values a_names a_draft a_lengths a_text a_classOfQuestion a_split a_steps a_what a_one a_two a_opened a_openedAt a_stands a_variable a_truth a_rest a_loopAt a_loopFound a_hits : Nat) (v_classes : Int32) (v_fields : Int32) (v_begun : Int32) (v_indexes : Int32) (v_made : Int32) (v_slotted : Int64) (v_half : Int32) (v_open : Int32) (v_known : Int64) (v_fresh : Int64) (v_changed : Int64) (v_renamed : Int32) (v_down : Int32) (v_armed : Int32) (v_written : Int32) (v_logged : Int32) (v_marked : Int32) (v_logSize : Int32) (v_drafted : Int32) (v_questions : Int32) (v_now : Int32) (v_at : Int32) (v_bad : Int32) (v_opens : Int32) (v_deep : Int32) (v_aimed : Int32) (v_truths : Int32) (v_loops : Int32) (v_valued : Int32) (v_value : Int32) (v_set : Int64) (v_latest : Int32) (v_fits : Int32) (v_total : Int64) (v_looked : Int32) (v_classes1 : Nat → Int32) (v_owner : Nat → Int32) (v_parent : Nat → Int32) (v_sort : Nat → Int32) (v_sets : Nat → Int64) : va_W := [(a_t, .inr (11, [.int v_classes, .ref a_parent, .int v_fields, .ref a_owner, .ref a_sort, .ref a_aim, .int v_begun, .int v_indexes, .ref a_indexClass, .ref a_indexPath, .int v_made, .ref a_classes1, .ref a_dValues, .ref a_dSets, .ref a_dNames, .ref a_values, .ref a_sets, .ref a_names, .long v_slotted, .int v_half, .int v_open, .long v_known, .long v_fresh, .long v_changed, .int v_renamed, .int v_down, .int v_armed, .int v_written, .int v_logged, .int v_marked, .int v_logSize, .int v_drafted, .ref a_draft, .int v_questions, .ref a_lengths, .ref a_text, .ref a_classOfQuestion, .ref a_split, .ref a_steps, .ref a_what, .ref a_one, .ref a_two, .int v_now, .int v_at, .int v_bad, .int v_opens, .ref a_opened, .ref a_openedAt, .int v_deep, .int v_aimed, .ref a_stands, .ref a_variable, .int v_truths, .ref a_truth, .int v_loops, .ref a_rest, .ref a_loopAt, .ref a_loopFound, .int v_valued, .int v_value, .long v_set, .int v_latest, .int v_fits, .ref a_hits, .long v_total, .int v_looked])), (a_classes1, .inl (G 0, 63, .inl v_classes1)), (a_owner, .inl (G 0, 8, .inl v_owner)), (a_parent, .inl (G 0, 6, .inl v_parent)), (a_sort, .inl (G 0, 8, .inl v_sort)), (a_sets, .inl (G 1, 504, .inr (.inl v_sets)))]
def f_M_holds (v_fields : Int32) (v_slotted : Int64) (v_open : Int32) (v_fresh : Int64) (v_down : Int32) (v_classes1 : Nat → Int32) (v_owner : Nat → Int32) (v_parent : Nat → Int32) (v_sort : Nat → Int32) (v_sets : Nat → Int64) (p1 : Int32) (p2 : Int32) (p3 : Int32) : Option (Int32) := if v_down = 0 then ((f_M_there v_slotted v_open v_fresh p1).bind fun o9 => (if o9 = 0 then (some 0) else (ob_iv p1 63 ((f_M_has v_fields v_owner v_parent v_sort (v_classes1 p1.toNatClampNeg) p2 2).bind fun o24 => (if o24 = 0 then (some 0) else (ob_iv ((8 * p1) + p2) 504 ((f_M_in (v_sets ((8 * p1) + p2).toNatClampNeg) p3).bind fun o42 => (if o42 = 0 then (some 0) else (some 1))))))))) else (some 0)
set_option maxHeartbeats 4000000 in
set_option maxRecDepth 100000 in
theorem c_M_holds (l : Launch) (D : va_G) (G : Nat → ClassId) (a_t a_classes1 a_owner a_parent a_sort a_sets a_aim a_indexClass a_indexPath a_dValues a_dSets a_dNames a_values a_names a_draft a_lengths a_text a_classOfQuestion a_split a_steps a_what a_one a_two a_opened a_openedAt a_stands a_variable a_truth a_rest a_loopAt a_loopFound a_hits : Nat) (v_classes : Int32) (v_fields : Int32) (v_begun : Int32) (v_indexes : Int32) (v_made : Int32) (v_slotted : Int64) (v_half : Int32) (v_open : Int32) (v_known : Int64) (v_fresh : Int64) (v_changed : Int64) (v_renamed : Int32) (v_down : Int32) (v_armed : Int32) (v_written : Int32) (v_logged : Int32) (v_marked : Int32) (v_logSize : Int32) (v_drafted : Int32) (v_questions : Int32) (v_now : Int32) (v_at : Int32) (v_bad : Int32) (v_opens : Int32) (v_deep : Int32) (v_aimed : Int32) (v_truths : Int32) (v_loops : Int32) (v_valued : Int32) (v_value : Int32) (v_set : Int64) (v_latest : Int32) (v_fits : Int32) (v_total : Int64) (v_looked : Int32) (v_classes1 : Nat → Int32) (v_owner : Nat → Int32) (v_parent : Nat → Int32) (v_sort : Nat → Int32) (v_sets : Nat → Int64) (p1 : Int32) (p2 : Int32) (p3 : Int32) (o : Int32) (hf : f_M_holds v_fields v_slotted v_open v_fresh v_down v_classes1 v_owner v_parent v_sort v_sets p1 p2 p3 = some o) (sz : Nat) : MetI l y_M_holds ws_M_holds ({ frames := 2, cells := 0, slots := 0, locals := 47 }) D (obT G) (cw_M_holds G a_t a_classes1 a_owner a_parent a_sort a_sets a_aim a_indexClass a_indexPath a_dValues a_dSets a_dNames a_values a_names a_draft a_lengths a_text a_classOfQuestion a_split a_steps a_what a_one a_two a_opened a_openedAt a_stands a_variable a_truth a_rest a_loopAt a_loopFound a_hits v_classes v_fields v_begun v_indexes v_made v_slotted v_half v_open v_known v_fresh v_changed v_renamed v_down v_armed v_written v_logged v_marked v_logSize v_drafted v_questions v_now v_at v_bad v_opens v_deep v_aimed v_truths v_loops v_valued v_value v_set v_latest v_fits v_total v_looked v_classes1 v_owner v_parent v_sort v_sets) (cw_M_holds G a_t a_classes1 a_owner a_parent a_sort a_sets a_aim a_indexClass a_indexPath a_dValues a_dSets a_dNames a_values a_names a_draft a_lengths a_text a_classOfQuestion a_split a_steps a_what a_one a_two a_opened a_openedAt a_stands a_variable a_truth a_rest a_loopAt a_loopFound a_hits v_classes v_fields v_begun v_indexes v_made v_slotted v_half v_open v_known v_fresh v_changed v_renamed v_down v_armed v_written v_logged v_marked v_logSize v_drafted v_questions v_now v_at v_bad v_opens v_deep v_aimed v_truths v_loops v_valued v_value v_set v_latest v_fits v_total v_looked v_classes1 v_owner v_parent v_sort v_sets) [.ref a_t, .int p1, .int p2, .int p3] o sz := by
  refine ob_of (cc := bc_M_holds) (maxL := 4) (ret := (some .boolean)) (Qc := ObQi D (obT G) (cw_M_holds G a_t a_classes1 a_owner a_parent a_sort a_sets a_aim a_indexClass a_indexPath a_dValues a_dSets a_dNames a_values a_names a_draft a_lengths a_text a_classOfQuestion a_split a_steps a_what a_one a_two a_opened a_openedAt a_stands a_variable a_truth a_rest a_loopAt a_loopFound a_hits v_classes v_fields v_begun v_indexes v_made v_slotted v_half v_open v_known v_fresh v_changed v_renamed v_down v_armed v_written v_logged v_marked v_logSize v_drafted v_questions v_now v_at v_bad v_opens v_deep v_aimed v_truths v_loops v_valued v_value v_set v_latest v_fits v_total v_looked v_classes1 v_owner v_parent v_sort v_sets) o) (by decide) rfl (Nat.le_of_ble_eq_true rfl) ?_
  intro p e s m below meth c A ls H locs hx hb hr hml hts hown hlk hnm hZ hP hK hD hA hS hl
  have hret : ∀ (o' : Int32) (H : Heap) (locs : List Loc) (pc : Nat) (ls : Array Slot), some o' = some o → va_P D vwCl (cw_M_holds G a_t a_classes1 a_owner a_parent a_sort a_sets a_aim a_indexClass a_indexPath a_dValues a_dSets a_dNames a_values a_names a_draft a_lengths a_text a_classOfQuestion a_split a_steps a_what a_one a_two a_opened a_openedAt a_stands a_variable a_truth a_rest a_loopAt a_loopFound a_hits v_classes v_fields v_begun v_indexes v_made v_slotted v_half v_open v_known v_fresh v_changed v_renamed v_down v_armed v_written v_logged v_marked v_logSize v_drafted v_questions v_now v_at v_bad v_opens v_deep v_aimed v_truths v_loops v_valued v_value v_set v_latest v_fits v_total v_looked v_classes1 v_owner v_parent v_sort v_sets) H → va_D A (cw_M_holds G a_t a_classes1 a_owner a_parent a_sort a_sets a_aim a_indexClass a_indexPath a_dValues a_dSets a_dNames a_values a_names a_draft a_lengths a_text a_classOfQuestion a_split a_steps a_what a_one a_two a_opened a_openedAt a_stands a_variable a_truth a_rest a_loopAt a_loopFound a_hits v_classes v_fields v_begun v_indexes v_made v_slotted v_half v_open v_known v_fresh v_changed v_renamed v_down v_armed v_written v_logged v_marked v_logSize v_drafted v_questions v_now v_at v_bad v_opens v_deep v_aimed v_truths v_loops v_valued v_value v_set v_latest v_fits v_total v_looked v_classes1 v_owner v_parent v_sort v_sets) → va_S A s.heap H locs → narrow .boolean (.int o') = .int o' → decode bc_M_holds pc = .ok (.ireturn, 1) → W p l e { frames := 2, cells := 0, slots := 0, locals := 47 } s m ([.ref a_t, .int p1, .int p2, .int p3] : List Value).toArray below meth c H locs 0 0 (MQ below (ObQi D (obT G) (cw_M_holds G a_t a_classes1 a_owner a_parent a_sort a_sets a_aim a_indexClass a_indexPath a_dValues a_dSets a_dNames a_values a_names a_draft a_lengths a_text a_classOfQuestion a_split a_steps a_what a_one a_two a_opened a_openedAt a_stands a_variable a_truth a_rest a_loopAt a_loopFound a_hits v_classes v_fields v_begun v_indexes v_made v_slotted v_half v_open v_known v_fresh v_changed v_renamed v_down v_armed v_written v_logged v_marked v_logSize v_drafted v_questions v_now v_at v_bad v_opens v_deep v_aimed v_truths v_loops v_valued v_value v_set v_latest v_fits v_total v_looked v_classes1 v_owner v_parent v_sort v_sets) o A) ([.ref a_t, .int p1, .int p2, .int p3] : List Value).toArray s 0 0 A) (F0 m pc ls [.int o']) := by
    intro o' H locs pc ls he hP hD hS hn hd
    obtain rfl := Option.some.inj he
    exact ob_iret hx hb hr hlk hK hP hD hS hn hd
  generalize MQ below (ObQi D (obT G) (cw_M_holds G a_t a_classes1 a_owner a_parent a_sort a_sets a_aim a_indexClass a_indexPath a_dValues a_dSets a_dNames a_values a_names a_draft a_lengths a_text a_classOfQuestion a_split a_steps a_what a_one a_two a_opened a_openedAt a_stands a_variable a_truth a_rest a_loopAt a_loopFound a_hits v_classes v_fields v_begun v_indexes v_made v_slotted v_half v_open v_known v_fresh v_changed v_renamed v_down v_armed v_written v_logged v_marked v_logSize v_drafted v_questions v_now v_at v_bad v_opens v_deep v_aimed v_truths v_loops v_valued v_value v_set v_latest v_fits v_total v_looked v_classes1 v_owner v_parent v_sort v_sets) o A) ([.ref a_t, .int p1, .int p2, .int p3] : List Value).toArray s 0 0 A = Q at hret ⊢
  have hl : lv_has ls 4 [(0, .ref a_t), (1, .int p1), (2, .int p2), (3, .int p3)] := hl
  unfold f_M_holds at hf
  refine lv_aload_n hx hb d_M_holds_0 rfl (lv_at hl 0 rfl) ?_
  refine va_get (D := D) (ci := 11) (v := .int v_down) (C := "ObjectBaseModel") (T := TC_M) (N := 66) hx hb hts inC_M hown hK hP 0 rfl rfl 25 (by decide) (hts _ tw812) (fun _ h9 => h9) rfl d_M_holds_1 ?_
  refine lv_if_ne (tgt := 52) hx hb d_M_holds_4 (by decide) (fun hc4 => ?_) (fun hc4 => ?_)
  · have hf := ob_f hc4 hf
    refine lv_iconst (v := 0) hx hb d_M_holds_52 (by decide) ?_
    exact hret 0 H locs _ ls hf hP hD hS narrow_b0 d_M_holds_53
  · have hf := ob_t hc4 hf
    refine lv_aload_n hx hb d_M_holds_7 rfl (lv_at hl 0 rfl) ?_
    refine lv_iload_n hx hb d_M_holds_8 rfl (lv_at hl 1 rfl) ?_
    obtain ⟨o9, ho9, hf⟩ := ob_b hf
    refine ob_calli (w2 := (cw_M_holds G a_t a_classes1 a_owner a_parent a_sort a_sets a_aim a_indexClass a_indexPath a_dValues a_dSets a_dNames a_values a_names a_draft a_lengths a_text a_classOfQuestion a_split a_steps a_what a_one a_two a_opened a_openedAt a_stands a_variable a_truth a_rest a_loopAt a_loopFound a_hits v_classes v_fields v_begun v_indexes v_made v_slotted v_half v_open v_known v_fresh v_changed v_renamed v_down v_armed v_written v_logged v_marked v_logSize v_drafted v_questions v_now v_at v_bad v_opens v_deep v_aimed v_truths v_loops v_valued v_value v_set v_latest v_fits v_total v_looked v_classes1 v_owner v_parent v_sort v_sets)) (va_runV (As := [.int p1]) (rest := []) ⟨hx, hb, hml, hown, hts⟩ (c_M_there l D G a_t a_parent a_owner a_sort a_aim a_indexClass a_indexPath a_classes1 a_dValues a_dSets a_dNames a_values a_sets a_names a_draft a_lengths a_text a_classOfQuestion a_split a_steps a_what a_one a_two a_opened a_openedAt a_stands a_variable a_truth a_rest a_loopAt a_loopFound a_hits v_classes v_fields v_begun v_indexes v_made v_slotted v_half v_open v_known v_fresh v_changed v_renamed v_down v_armed v_written v_logged v_marked v_logSize v_drafted v_questions v_now v_at v_bad v_opens v_deep v_aimed v_truths v_loops v_valued v_value v_set v_latest v_fits v_total v_looked p1 o9 ho9 H.size) (cwV 1 hts (gV tw1105 tw1107 tp39 tw11 tw1108) rfl rfl rfl (by decide +kernel) ⟨Nat.le_of_ble_eq_true rfl, Nat.le_of_ble_eq_true rfl⟩) (ob_preV (q0 := 0) (ci := 11) hZ hK hP hD [0] rfl rfl rfl rfl rfl) rfl rfl hl.1 rfl (lv_room (Nat.le_of_ble_eq_true rfl)) d_M_holds_9 ⟨Nat.le_refl _, Nat.le_refl _⟩) hP hD hA hS [0] rfl rfl rfl rfl (fun H locs hP hD hS => ?_)
    refine lv_if_eq (tgt := 52) hx hb d_M_holds_12 (by decide) (fun hc12 => ?_) (fun hc12 => ?_)
    · have hf := ob_t hc12 hf
      refine lv_iconst (v := 0) hx hb d_M_holds_52 (by decide) ?_
      exact hret 0 H locs _ ls hf hP hD hS narrow_b0 d_M_holds_53
    · have hf := ob_f hc12 hf
      refine lv_aload_n hx hb d_M_holds_15 rfl (lv_at hl 0 rfl) ?_
      refine lv_aload_n hx hb d_M_holds_16 rfl (lv_at hl 0 rfl) ?_
      refine va_get (D := D) (ci := 11) (v := .ref a_classes1) (C := "ObjectBaseModel") (T := TC_M) (N := 66) hx hb hts inC_M hown hK hP 0 rfl rfl 11 (by decide) (hts _ tw798) (fun _ h9 => h9) rfl d_M_holds_17 ?_
      refine lv_iload_n hx hb d_M_holds_20 rfl (lv_at hl 1 rfl) ?_
      obtain ⟨hg21, hf⟩ := ob_iv_g hf
      refine va_iald hx hb hK hP 1 0 rfl rfl hg21 d_M_holds_21 ?_
      refine lv_iload_n hx hb d_M_holds_22 rfl (lv_at hl 2 rfl) ?_
      refine lv_iconst (v := 2) hx hb d_M_holds_23 (by decide) ?_
      obtain ⟨o24, ho24, hf⟩ := ob_b hf
      refine ob_calli (w2 := (cw_M_holds G a_t a_classes1 a_owner a_parent a_sort a_sets a_aim a_indexClass a_indexPath a_dValues a_dSets a_dNames a_values a_names a_draft a_lengths a_text a_classOfQuestion a_split a_steps a_what a_one a_two a_opened a_openedAt a_stands a_variable a_truth a_rest a_loopAt a_loopFound a_hits v_classes v_fields v_begun v_indexes v_made v_slotted v_half v_open v_known v_fresh v_changed v_renamed v_down v_armed v_written v_logged v_marked v_logSize v_drafted v_questions v_now v_at v_bad v_opens v_deep v_aimed v_truths v_loops v_valued v_value v_set v_latest v_fits v_total v_looked v_classes1 v_owner v_parent v_sort v_sets)) (va_runV (As := [.int (v_classes1 p1.toNatClampNeg), .int p2, .int 2]) (rest := []) ⟨hx, hb, hml, hown, hts⟩ (c_M_has l D G a_t a_owner a_parent a_sort a_aim a_indexClass a_indexPath a_classes1 a_dValues a_dSets a_dNames a_values a_sets a_names a_draft a_lengths a_text a_classOfQuestion a_split a_steps a_what a_one a_two a_opened a_openedAt a_stands a_variable a_truth a_rest a_loopAt a_loopFound a_hits v_classes v_fields v_begun v_indexes v_made v_slotted v_half v_open v_known v_fresh v_changed v_renamed v_down v_armed v_written v_logged v_marked v_logSize v_drafted v_questions v_now v_at v_bad v_opens v_deep v_aimed v_truths v_loops v_valued v_value v_set v_latest v_fits v_total v_looked v_owner v_parent v_sort (v_classes1 p1.toNatClampNeg) p2 2 o24 ho24 H.size) (cwV 3 hts (gV tw1003 tw1005 tp29 tw11 tw1006) rfl rfl rfl (by decide +kernel) ⟨Nat.le_of_ble_eq_true rfl, Nat.le_of_ble_eq_true rfl⟩) (ob_preV (q0 := 0) (ci := 11) hZ hK hP hD [0, 2, 3, 4] rfl rfl rfl rfl rfl) rfl rfl hl.1 rfl (lv_room (Nat.le_of_ble_eq_true rfl)) d_M_holds_24 ⟨Nat.le_refl _, Nat.le_refl _⟩) hP hD hA hS [0, 2, 3, 4] rfl rfl rfl rfl (fun H locs hP hD hS => ?_)
      refine lv_if_eq (tgt := 52) hx hb d_M_holds_27 (by decide) (fun hc27 => ?_) (fun hc27 => ?_)
      · have hf := ob_t hc27 hf
        refine lv_iconst (v := 0) hx hb d_M_holds_52 (by decide) ?_
        exact hret 0 H locs _ ls hf hP hD hS narrow_b0 d_M_holds_53
      · have hf := ob_f hc27 hf
        refine lv_aload_n hx hb d_M_holds_30 rfl (lv_at hl 0 rfl) ?_
        refine va_get (D := D) (ci := 11) (v := .ref a_sets) (C := "ObjectBaseModel") (T := TC_M) (N := 66) hx hb hts inC_M hown hK hP 0 rfl rfl 16 (by decide) (hts _ tw803) (fun _ h9 => h9) rfl d_M_holds_31 ?_
        refine lv_bipush (v := 8) hx hb d_M_holds_34 (by decide) ?_
        refine lv_iload_n hx hb d_M_holds_36 rfl (lv_at hl 1 rfl) ?_
        refine lv_imul hx hb d_M_holds_37 ?_
        refine lv_iload_n hx hb d_M_holds_38 rfl (lv_at hl 2 rfl) ?_
        refine lv_iadd hx hb d_M_holds_39 ?_
        obtain ⟨hg40, hf⟩ := ob_iv_g hf
        refine va_lald hx hb hK hP 5 1 rfl rfl hg40 d_M_holds_40 ?_
        refine lv_iload_n hx hb d_M_holds_41 rfl (lv_at hl 3 rfl) ?_
        obtain ⟨o42, ho42, hf⟩ := ob_b hf
        refine ob_calli (w2 := (cw_M_holds G a_t a_classes1 a_owner a_parent a_sort a_sets a_aim a_indexClass a_indexPath a_dValues a_dSets a_dNames a_values a_names a_draft a_lengths a_text a_classOfQuestion a_split a_steps a_what a_one a_two a_opened a_openedAt a_stands a_variable a_truth a_rest a_loopAt a_loopFound a_hits v_classes v_fields v_begun v_indexes v_made v_slotted v_half v_open v_known v_fresh v_changed v_renamed v_down v_armed v_written v_logged v_marked v_logSize v_drafted v_questions v_now v_at v_bad v_opens v_deep v_aimed v_truths v_loops v_valued v_value v_set v_latest v_fits v_total v_looked v_classes1 v_owner v_parent v_sort v_sets)) (va_runS (As := [.long (v_sets ((8 * p1) + p2).toNatClampNeg), .int p3]) (rest := []) ⟨hx, hb, hml, hown, hts⟩ (c_M_in l D G  (v_sets ((8 * p1) + p2).toNatClampNeg) p3 o42 ho42 H.size) (va_cwS 2 hts (gS tw1022 tw1023 tw11 tw1024) rfl rfl rfl (by decide +kernel) ⟨Nat.le_of_ble_eq_true rfl, Nat.le_of_ble_eq_true rfl⟩) (ob_preS hZ hK hP hD [] rfl rfl) rfl rfl hl.1 rfl (lv_room (Nat.le_of_ble_eq_true rfl)) d_M_holds_42 ⟨Nat.le_refl _, Nat.le_refl _⟩) hP hD hA hS [] rfl rfl rfl rfl (fun H locs hP hD hS => ?_)
        refine lv_if_eq (tgt := 52) hx hb d_M_holds_45 (by decide) (fun hc45 => ?_) (fun hc45 => ?_)
        · have hf := ob_t hc45 hf
          refine lv_iconst (v := 0) hx hb d_M_holds_52 (by decide) ?_
          exact hret 0 H locs _ ls hf hP hD hS narrow_b0 d_M_holds_53
        · have hf := ob_f hc45 hf
          refine lv_iconst (v := 1) hx hb d_M_holds_48 (by decide) ?_
          refine lv_goto (tgt := 53) hx hb d_M_holds_49 (by decide) ?_
          exact hret 1 H locs _ ls hf hP hD hS narrow_b1 d_M_holds_53
abbrev bc_M_named : ByteArray := prog_13_method_36_code
abbrev y_M_named : MethodName := ⟨"ObjectBaseModel", "named", "(I)I"⟩
def ws_M_named : List Cond := .code y_M_named bc_M_named 2 (some .int) :: obW
theorem d_M_named_0 : decode bc_M_named 0 = .ok (.aload_n 0, 1) := by decide +kernel
theorem d_M_named_1 : decode bc_M_named 1 = .ok (.getfield 112, 3) := by decide +kernel
theorem d_M_named_4 : decode bc_M_named 4 = .ok (.ifCond .eq 6, 3) := by decide +kernel
theorem d_M_named_7 : decode bc_M_named 7 = .ok (.bipush (-4), 2) := by decide +kernel
theorem d_M_named_9 : decode bc_M_named 9 = .ok (.ireturn, 1) := by decide +kernel
theorem d_M_named_10 : decode bc_M_named 10 = .ok (.iload_n 1, 1) := by decide +kernel
theorem d_M_named_11 : decode bc_M_named 11 = .ok (.ifCond .lt 8, 3) := by decide +kernel
theorem d_M_named_14 : decode bc_M_named 14 = .ok (.iload_n 1, 1) := by decide +kernel
theorem d_M_named_15 : decode bc_M_named 15 = .ok (.iconst 3, 1) := by decide +kernel
theorem d_M_named_16 : decode bc_M_named 16 = .ok (.if_icmp .le 7, 3) := by decide +kernel
theorem d_M_named_19 : decode bc_M_named 19 = .ok (.iconst (-1), 1) := by decide +kernel
theorem d_M_named_20 : decode bc_M_named 20 = .ok (.goto 9, 3) := by decide +kernel
theorem d_M_named_23 : decode bc_M_named 23 = .ok (.aload_n 0, 1) := by decide +kernel
theorem d_M_named_24 : decode bc_M_named 24 = .ok (.getfield 47, 3) := by decide +kernel
theorem d_M_named_27 : decode bc_M_named 27 = .ok (.iload_n 1, 1) := by decide +kernel
theorem d_M_named_28 : decode bc_M_named 28 = .ok (.iaload, 1) := by decide +kernel
theorem d_M_named_29 : decode bc_M_named 29 = .ok (.ireturn, 1) := by decide +kernel
def cw_M_named (G : Nat → ClassId) (a_t a_names a_parent a_owner a_sort a_aim a_indexClass a_indexPath a_classes1 a_dValues a_dSets a_dNames a_values a_sets a_draft a_lengths a_text a_classOfQuestion a_split a_steps a_what a_one a_two a_opened a_openedAt a_stands a_variable a_truth a_rest a_loopAt a_loopFound a_hits : Nat) (v_classes : Int32) (v_fields : Int32) (v_begun : Int32) (v_indexes : Int32) (v_made : Int32) (v_slotted : Int64) (v_half : Int32) (v_open : Int32) (v_known : Int64) (v_fresh : Int64) (v_changed : Int64) (v_renamed : Int32) (v_down : Int32) (v_armed : Int32) (v_written : Int32) (v_logged : Int32) (v_marked : Int32) (v_logSize : Int32) (v_drafted : Int32) (v_questions : Int32) (v_now : Int32) (v_at : Int32) (v_bad : Int32) (v_opens : Int32) (v_deep : Int32) (v_aimed : Int32) (v_truths : Int32) (v_loops : Int32) (v_valued : Int32) (v_value : Int32) (v_set : Int64) (v_latest : Int32) (v_fits : Int32) (v_total : Int64) (v_looked : Int32) (v_names : Nat → Int32) : va_W := [(a_t, .inr (11, [.int v_classes, .ref a_parent, .int v_fields, .ref a_owner, .ref a_sort, .ref a_aim, .int v_begun, .int v_indexes, .ref a_indexClass, .ref a_indexPath, .int v_made, .ref a_classes1, .ref a_dValues, .ref a_dSets, .ref a_dNames, .ref a_values, .ref a_sets, .ref a_names, .long v_slotted, .int v_half, .int v_open, .long v_known, .long v_fresh, .long v_changed, .int v_renamed, .int v_down, .int v_armed, .int v_written, .int v_logged, .int v_marked, .int v_logSize, .int v_drafted, .ref a_draft, .int v_questions, .ref a_lengths, .ref a_text, .ref a_classOfQuestion, .ref a_split, .ref a_steps, .ref a_what, .ref a_one, .ref a_two, .int v_now, .int v_at, .int v_bad, .int v_opens, .ref a_opened, .ref a_openedAt, .int v_deep, .int v_aimed, .ref a_stands, .ref a_variable, .int v_truths, .ref a_truth, .int v_loops, .ref a_rest, .ref a_loopAt, .ref a_loopFound, .int v_valued, .int v_value, .long v_set, .int v_latest, .int v_fits, .ref a_hits, .long v_total, .int v_looked])), (a_names, .inl (G 0, 4, .inl v_names))]
def f_M_named (v_down : Int32) (v_names : Nat → Int32) (p1 : Int32) : Option (Int32) := if v_down = 0 then (if p1 < 0 then (some (-1)) else (if p1 ≤ 3 then (ob_iv p1 4 (some (v_names p1.toNatClampNeg))) else (some (-1)))) else (some (-4))
set_option maxHeartbeats 4000000 in
set_option maxRecDepth 100000 in
theorem c_M_named (l : Launch) (D : va_G) (G : Nat → ClassId) (a_t a_names a_parent a_owner a_sort a_aim a_indexClass a_indexPath a_classes1 a_dValues a_dSets a_dNames a_values a_sets a_draft a_lengths a_text a_classOfQuestion a_split a_steps a_what a_one a_two a_opened a_openedAt a_stands a_variable a_truth a_rest a_loopAt a_loopFound a_hits : Nat) (v_classes : Int32) (v_fields : Int32) (v_begun : Int32) (v_indexes : Int32) (v_made : Int32) (v_slotted : Int64) (v_half : Int32) (v_open : Int32) (v_known : Int64) (v_fresh : Int64) (v_changed : Int64) (v_renamed : Int32) (v_down : Int32) (v_armed : Int32) (v_written : Int32) (v_logged : Int32) (v_marked : Int32) (v_logSize : Int32) (v_drafted : Int32) (v_questions : Int32) (v_now : Int32) (v_at : Int32) (v_bad : Int32) (v_opens : Int32) (v_deep : Int32) (v_aimed : Int32) (v_truths : Int32) (v_loops : Int32) (v_valued : Int32) (v_value : Int32) (v_set : Int64) (v_latest : Int32) (v_fits : Int32) (v_total : Int64) (v_looked : Int32) (v_names : Nat → Int32) (p1 : Int32) (o : Int32) (hf : f_M_named v_down v_names p1 = some o) (sz : Nat) : MetI l y_M_named ws_M_named ({ frames := 0, cells := 0, slots := 0, locals := 0 }) D (obT G) (cw_M_named G a_t a_names a_parent a_owner a_sort a_aim a_indexClass a_indexPath a_classes1 a_dValues a_dSets a_dNames a_values a_sets a_draft a_lengths a_text a_classOfQuestion a_split a_steps a_what a_one a_two a_opened a_openedAt a_stands a_variable a_truth a_rest a_loopAt a_loopFound a_hits v_classes v_fields v_begun v_indexes v_made v_slotted v_half v_open v_known v_fresh v_changed v_renamed v_down v_armed v_written v_logged v_marked v_logSize v_drafted v_questions v_now v_at v_bad v_opens v_deep v_aimed v_truths v_loops v_valued v_value v_set v_latest v_fits v_total v_looked v_names) (cw_M_named G a_t a_names a_parent a_owner a_sort a_aim a_indexClass a_indexPath a_classes1 a_dValues a_dSets a_dNames a_values a_sets a_draft a_lengths a_text a_classOfQuestion a_split a_steps a_what a_one a_two a_opened a_openedAt a_stands a_variable a_truth a_rest a_loopAt a_loopFound a_hits v_classes v_fields v_begun v_indexes v_made v_slotted v_half v_open v_known v_fresh v_changed v_renamed v_down v_armed v_written v_logged v_marked v_logSize v_drafted v_questions v_now v_at v_bad v_opens v_deep v_aimed v_truths v_loops v_valued v_value v_set v_latest v_fits v_total v_looked v_names) [.ref a_t, .int p1] o sz := by
  refine ob_of (cc := bc_M_named) (maxL := 2) (ret := (some .int)) (Qc := ObQi D (obT G) (cw_M_named G a_t a_names a_parent a_owner a_sort a_aim a_indexClass a_indexPath a_classes1 a_dValues a_dSets a_dNames a_values a_sets a_draft a_lengths a_text a_classOfQuestion a_split a_steps a_what a_one a_two a_opened a_openedAt a_stands a_variable a_truth a_rest a_loopAt a_loopFound a_hits v_classes v_fields v_begun v_indexes v_made v_slotted v_half v_open v_known v_fresh v_changed v_renamed v_down v_armed v_written v_logged v_marked v_logSize v_drafted v_questions v_now v_at v_bad v_opens v_deep v_aimed v_truths v_loops v_valued v_value v_set v_latest v_fits v_total v_looked v_names) o) (by decide) rfl (Nat.le_of_ble_eq_true rfl) ?_
  intro p e s m below meth c A ls H locs hx hb hr hml hts hown hlk hnm hZ hP hK hD hA hS hl
  have hret : ∀ (o' : Int32) (H : Heap) (locs : List Loc) (pc : Nat) (ls : Array Slot), some o' = some o → va_P D vwCl (cw_M_named G a_t a_names a_parent a_owner a_sort a_aim a_indexClass a_indexPath a_classes1 a_dValues a_dSets a_dNames a_values a_sets a_draft a_lengths a_text a_classOfQuestion a_split a_steps a_what a_one a_two a_opened a_openedAt a_stands a_variable a_truth a_rest a_loopAt a_loopFound a_hits v_classes v_fields v_begun v_indexes v_made v_slotted v_half v_open v_known v_fresh v_changed v_renamed v_down v_armed v_written v_logged v_marked v_logSize v_drafted v_questions v_now v_at v_bad v_opens v_deep v_aimed v_truths v_loops v_valued v_value v_set v_latest v_fits v_total v_looked v_names) H → va_D A (cw_M_named G a_t a_names a_parent a_owner a_sort a_aim a_indexClass a_indexPath a_classes1 a_dValues a_dSets a_dNames a_values a_sets a_draft a_lengths a_text a_classOfQuestion a_split a_steps a_what a_one a_two a_opened a_openedAt a_stands a_variable a_truth a_rest a_loopAt a_loopFound a_hits v_classes v_fields v_begun v_indexes v_made v_slotted v_half v_open v_known v_fresh v_changed v_renamed v_down v_armed v_written v_logged v_marked v_logSize v_drafted v_questions v_now v_at v_bad v_opens v_deep v_aimed v_truths v_loops v_valued v_value v_set v_latest v_fits v_total v_looked v_names) → va_S A s.heap H locs → narrow .int (.int o') = .int o' → decode bc_M_named pc = .ok (.ireturn, 1) → W p l e { frames := 0, cells := 0, slots := 0, locals := 0 } s m ([.ref a_t, .int p1] : List Value).toArray below meth c H locs 0 0 (MQ below (ObQi D (obT G) (cw_M_named G a_t a_names a_parent a_owner a_sort a_aim a_indexClass a_indexPath a_classes1 a_dValues a_dSets a_dNames a_values a_sets a_draft a_lengths a_text a_classOfQuestion a_split a_steps a_what a_one a_two a_opened a_openedAt a_stands a_variable a_truth a_rest a_loopAt a_loopFound a_hits v_classes v_fields v_begun v_indexes v_made v_slotted v_half v_open v_known v_fresh v_changed v_renamed v_down v_armed v_written v_logged v_marked v_logSize v_drafted v_questions v_now v_at v_bad v_opens v_deep v_aimed v_truths v_loops v_valued v_value v_set v_latest v_fits v_total v_looked v_names) o A) ([.ref a_t, .int p1] : List Value).toArray s 0 0 A) (F0 m pc ls [.int o']) := by
    intro o' H locs pc ls he hP hD hS hn hd
    obtain rfl := Option.some.inj he
    exact ob_iret hx hb hr hlk hK hP hD hS hn hd
  generalize MQ below (ObQi D (obT G) (cw_M_named G a_t a_names a_parent a_owner a_sort a_aim a_indexClass a_indexPath a_classes1 a_dValues a_dSets a_dNames a_values a_sets a_draft a_lengths a_text a_classOfQuestion a_split a_steps a_what a_one a_two a_opened a_openedAt a_stands a_variable a_truth a_rest a_loopAt a_loopFound a_hits v_classes v_fields v_begun v_indexes v_made v_slotted v_half v_open v_known v_fresh v_changed v_renamed v_down v_armed v_written v_logged v_marked v_logSize v_drafted v_questions v_now v_at v_bad v_opens v_deep v_aimed v_truths v_loops v_valued v_value v_set v_latest v_fits v_total v_looked v_names) o A) ([.ref a_t, .int p1] : List Value).toArray s 0 0 A = Q at hret ⊢
  have hl : lv_has ls 2 [(0, .ref a_t), (1, .int p1)] := hl
  unfold f_M_named at hf
  refine lv_aload_n hx hb d_M_named_0 rfl (lv_at hl 0 rfl) ?_
  refine va_get (D := D) (ci := 11) (v := .int v_down) (C := "ObjectBaseModel") (T := TC_M) (N := 66) hx hb hts inC_M hown hK hP 0 rfl rfl 25 (by decide) (hts _ tw812) (fun _ h9 => h9) rfl d_M_named_1 ?_
  refine lv_if_eq (tgt := 10) hx hb d_M_named_4 (by decide) (fun hc4 => ?_) (fun hc4 => ?_)
  · have hf := ob_t hc4 hf
    refine lv_iload_n hx hb d_M_named_10 rfl (lv_at hl 1 rfl) ?_
    refine lv_if_lt (tgt := 19) hx hb d_M_named_11 (by decide) (fun hc11 => ?_) (fun hc11 => ?_)
    · have hf := ob_t hc11 hf
      refine lv_iconst (v := (-1)) hx hb d_M_named_19 (by decide) ?_
      refine lv_goto (tgt := 29) hx hb d_M_named_20 (by decide) ?_
      exact hret (-1) H locs _ ls hf hP hD hS rfl d_M_named_29
    · have hf := ob_f hc11 hf
      refine lv_iload_n hx hb d_M_named_14 rfl (lv_at hl 1 rfl) ?_
      refine lv_iconst (v := 3) hx hb d_M_named_15 (by decide) ?_
      refine lv_icmp_le (tgt := 23) hx hb d_M_named_16 (by decide) (fun hc16 => ?_) (fun hc16 => ?_)
      · have hf := ob_t hc16 hf
        refine lv_aload_n hx hb d_M_named_23 rfl (lv_at hl 0 rfl) ?_
        refine va_get (D := D) (ci := 11) (v := .ref a_names) (C := "ObjectBaseModel") (T := TC_M) (N := 66) hx hb hts inC_M hown hK hP 0 rfl rfl 17 (by decide) (hts _ tw804) (fun _ h9 => h9) rfl d_M_named_24 ?_
        refine lv_iload_n hx hb d_M_named_27 rfl (lv_at hl 1 rfl) ?_
        obtain ⟨hg28, hf⟩ := ob_iv_g hf
        refine va_iald hx hb hK hP 1 0 rfl rfl hg28 d_M_named_28 ?_
        exact hret (v_names p1.toNatClampNeg) H locs _ ls hf hP hD hS rfl d_M_named_29
      · have hf := ob_f hc16 hf
        refine lv_iconst (v := (-1)) hx hb d_M_named_19 (by decide) ?_
        refine lv_goto (tgt := 29) hx hb d_M_named_20 (by decide) ?_
        exact hret (-1) H locs _ ls hf hP hD hS rfl d_M_named_29
  · have hf := ob_f hc4 hf
    refine lv_bipush (v := (-4)) hx hb d_M_named_7 (by decide) ?_
    exact hret (-4) H locs _ ls hf hP hD hS rfl d_M_named_9
