abbrev bc_M_step : ByteArray := prog_13_method_40_code
abbrev y_M_step : MethodName := ⟨"ObjectBaseModel", "step", "(III)V"⟩
def ws_M_step : List Cond := .code y_M_step bc_M_step 5 none :: obW
theorem d_M_step_0 : decode bc_M_step 0 = .ok (.bipush 64, 2) := by decide +kernel
theorem d_M_step_2 : decode bc_M_step 2 = .ok (.aload_n 0, 1) := by decide +kernel
theorem d_M_step_3 : decode bc_M_step 3 = .ok (.getfield 239, 3) := by decide +kernel
theorem d_M_step_6 : decode bc_M_step 6 = .ok (.imul, 1) := by decide +kernel
theorem d_M_step_7 : decode bc_M_step 7 = .ok (.aload_n 0, 1) := by decide +kernel
theorem d_M_step_8 : decode bc_M_step 8 = .ok (.getfield 70, 3) := by decide +kernel
theorem d_M_step_11 : decode bc_M_step 11 = .ok (.aload_n 0, 1) := by decide +kernel
theorem d_M_step_12 : decode bc_M_step 12 = .ok (.getfield 239, 3) := by decide +kernel
theorem d_M_step_15 : decode bc_M_step 15 = .ok (.iaload, 1) := by decide +kernel
theorem d_M_step_16 : decode bc_M_step 16 = .ok (.iadd, 1) := by decide +kernel
theorem d_M_step_17 : decode bc_M_step 17 = .ok (.istore 4, 2) := by decide +kernel
theorem d_M_step_19 : decode bc_M_step 19 = .ok (.aload_n 0, 1) := by decide +kernel
theorem d_M_step_20 : decode bc_M_step 20 = .ok (.getfield 73, 3) := by decide +kernel
theorem d_M_step_23 : decode bc_M_step 23 = .ok (.iload 4, 2) := by decide +kernel
theorem d_M_step_25 : decode bc_M_step 25 = .ok (.iload_n 1, 1) := by decide +kernel
theorem d_M_step_26 : decode bc_M_step 26 = .ok (.iastore, 1) := by decide +kernel
theorem d_M_step_27 : decode bc_M_step 27 = .ok (.aload_n 0, 1) := by decide +kernel
theorem d_M_step_28 : decode bc_M_step 28 = .ok (.getfield 76, 3) := by decide +kernel
theorem d_M_step_31 : decode bc_M_step 31 = .ok (.iload 4, 2) := by decide +kernel
theorem d_M_step_33 : decode bc_M_step 33 = .ok (.iload_n 2, 1) := by decide +kernel
theorem d_M_step_34 : decode bc_M_step 34 = .ok (.iastore, 1) := by decide +kernel
theorem d_M_step_35 : decode bc_M_step 35 = .ok (.aload_n 0, 1) := by decide +kernel
theorem d_M_step_36 : decode bc_M_step 36 = .ok (.getfield 79, 3) := by decide +kernel
theorem d_M_step_39 : decode bc_M_step 39 = .ok (.iload 4, 2) := by decide +kernel
theorem d_M_step_41 : decode bc_M_step 41 = .ok (.iload_n 3, 1) := by decide +kernel
theorem d_M_step_42 : decode bc_M_step 42 = .ok (.iastore, 1) := by decide +kernel
theorem d_M_step_43 : decode bc_M_step 43 = .ok (.aload_n 0, 1) := by decide +kernel
theorem d_M_step_44 : decode bc_M_step 44 = .ok (.getfield 70, 3) := by decide +kernel
theorem d_M_step_47 : decode bc_M_step 47 = .ok (.aload_n 0, 1) := by decide +kernel
theorem d_M_step_48 : decode bc_M_step 48 = .ok (.getfield 239, 3) := by decide +kernel
theorem d_M_step_51 : decode bc_M_step 51 = .ok (.dup2, 1) := by decide +kernel
theorem d_M_step_52 : decode bc_M_step 52 = .ok (.iaload, 1) := by decide +kernel
theorem d_M_step_53 : decode bc_M_step 53 = .ok (.iconst 1, 1) := by decide +kernel
theorem d_M_step_54 : decode bc_M_step 54 = .ok (.iadd, 1) := by decide +kernel
theorem d_M_step_55 : decode bc_M_step 55 = .ok (.iastore, 1) := by decide +kernel
theorem d_M_step_56 : decode bc_M_step 56 = .ok (.return_, 1) := by decide +kernel
def cw_M_step (G : Nat → ClassId) (a_t a_steps a_what a_one a_two a_parent a_owner a_sort a_aim a_indexClass a_indexPath a_classes1 a_dValues a_dSets a_dNames a_values a_sets a_names a_draft a_lengths a_text a_classOfQuestion a_split a_opened a_openedAt a_stands a_variable a_truth a_rest a_loopAt a_loopFound a_hits : Nat) (v_classes : Int32) (v_fields : Int32) (v_begun : Int32) (v_indexes : Int32) (v_made : Int32) (v_slotted : Int64) (v_half : Int32) (v_open : Int32) (v_known : Int64) (v_fresh : Int64) (v_changed : Int64) (v_renamed : Int32) (v_down : Int32) (v_armed : Int32) (v_written : Int32) (v_logged : Int32) (v_marked : Int32) (v_logSize : Int32) (v_drafted : Int32) (v_questions : Int32) (v_now : Int32) (v_at : Int32) (v_bad : Int32) (v_opens : Int32) (v_deep : Int32) (v_aimed : Int32) (v_truths : Int32) (v_loops : Int32) (v_valued : Int32) (v_value : Int32) (v_set : Int64) (v_latest : Int32) (v_fits : Int32) (v_total : Int64) (v_looked : Int32) (v_steps : Nat → Int32) (v_what : Nat → Int32) (v_one : Nat → Int32) (v_two : Nat → Int32) : va_W := [(a_t, .inr (11, [.int v_classes, .ref a_parent, .int v_fields, .ref a_owner, .ref a_sort, .ref a_aim, .int v_begun, .int v_indexes, .ref a_indexClass, .ref a_indexPath, .int v_made, .ref a_classes1, .ref a_dValues, .ref a_dSets, .ref a_dNames, .ref a_values, .ref a_sets, .ref a_names, .long v_slotted, .int v_half, .int v_open, .long v_known, .long v_fresh, .long v_changed, .int v_renamed, .int v_down, .int v_armed, .int v_written, .int v_logged, .int v_marked, .int v_logSize, .int v_drafted, .ref a_draft, .int v_questions, .ref a_lengths, .ref a_text, .ref a_classOfQuestion, .ref a_split, .ref a_steps, .ref a_what, .ref a_one, .ref a_two, .int v_now, .int v_at, .int v_bad, .int v_opens, .ref a_opened, .ref a_openedAt, .int v_deep, .int v_aimed, .ref a_stands, .ref a_variable, .int v_truths, .ref a_truth, .int v_loops, .ref a_rest, .ref a_loopAt, .ref a_loopFound, .int v_valued, .int v_value, .long v_set, .int v_latest, .int v_fits, .ref a_hits, .long v_total, .int v_looked])), (a_steps, .inl (G 0, 13, .inl v_steps)), (a_what, .inl (G 0, 832, .inl v_what)), (a_one, .inl (G 0, 832, .inl v_one)), (a_two, .inl (G 0, 832, .inl v_two))]
def f_M_step (v_now : Int32) (v_steps : Nat → Int32) (v_what : Nat → Int32) (v_one : Nat → Int32) (v_two : Nat → Int32) (p1 : Int32) (p2 : Int32) (p3 : Int32) : Option ((Nat → Int32) × (Nat → Int32) × (Nat → Int32) × (Nat → Int32)) := ob_iv v_now 13 (ob_iv ((64 * v_now) + (v_steps v_now.toNatClampNeg)) 832 (ob_iv ((64 * v_now) + (v_steps v_now.toNatClampNeg)) 832 (ob_iv ((64 * v_now) + (v_steps v_now.toNatClampNeg)) 832 (ob_iv v_now 13 (ob_iv v_now 13 (some (upd v_steps v_now.toNatClampNeg ((v_steps v_now.toNatClampNeg) + 1), upd v_what ((64 * v_now) + (v_steps v_now.toNatClampNeg)).toNatClampNeg p1, upd v_one ((64 * v_now) + (v_steps v_now.toNatClampNeg)).toNatClampNeg p2, upd v_two ((64 * v_now) + (v_steps v_now.toNatClampNeg)).toNatClampNeg p3)))))))
set_option maxHeartbeats 4000000 in
set_option maxRecDepth 100000 in
theorem c_M_step (l : Launch) (D : va_G) (G : Nat → ClassId) (a_t a_steps a_what a_one a_two a_parent a_owner a_sort a_aim a_indexClass a_indexPath a_classes1 a_dValues a_dSets a_dNames a_values a_sets a_names a_draft a_lengths a_text a_classOfQuestion a_split a_opened a_openedAt a_stands a_variable a_truth a_rest a_loopAt a_loopFound a_hits : Nat) (v_classes : Int32) (v_fields : Int32) (v_begun : Int32) (v_indexes : Int32) (v_made : Int32) (v_slotted : Int64) (v_half : Int32) (v_open : Int32) (v_known : Int64) (v_fresh : Int64) (v_changed : Int64) (v_renamed : Int32) (v_down : Int32) (v_armed : Int32) (v_written : Int32) (v_logged : Int32) (v_marked : Int32) (v_logSize : Int32) (v_drafted : Int32) (v_questions : Int32) (v_now : Int32) (v_at : Int32) (v_bad : Int32) (v_opens : Int32) (v_deep : Int32) (v_aimed : Int32) (v_truths : Int32) (v_loops : Int32) (v_valued : Int32) (v_value : Int32) (v_set : Int64) (v_latest : Int32) (v_fits : Int32) (v_total : Int64) (v_looked : Int32) (v_steps : Nat → Int32) (v_what : Nat → Int32) (v_one : Nat → Int32) (v_two : Nat → Int32) (p1 : Int32) (p2 : Int32) (p3 : Int32) (o : (Nat → Int32) × (Nat → Int32) × (Nat → Int32) × (Nat → Int32)) (hf : f_M_step v_now v_steps v_what v_one v_two p1 p2 p3 = some o) (sz : Nat) : MetV l y_M_step ws_M_step ({ frames := 0, cells := 0, slots := 0, locals := 0 }) D (obT G) (cw_M_step G a_t a_steps a_what a_one a_two a_parent a_owner a_sort a_aim a_indexClass a_indexPath a_classes1 a_dValues a_dSets a_dNames a_values a_sets a_names a_draft a_lengths a_text a_classOfQuestion a_split a_opened a_openedAt a_stands a_variable a_truth a_rest a_loopAt a_loopFound a_hits v_classes v_fields v_begun v_indexes v_made v_slotted v_half v_open v_known v_fresh v_changed v_renamed v_down v_armed v_written v_logged v_marked v_logSize v_drafted v_questions v_now v_at v_bad v_opens v_deep v_aimed v_truths v_loops v_valued v_value v_set v_latest v_fits v_total v_looked v_steps v_what v_one v_two) (cw_M_step G a_t a_steps a_what a_one a_two a_parent a_owner a_sort a_aim a_indexClass a_indexPath a_classes1 a_dValues a_dSets a_dNames a_values a_sets a_names a_draft a_lengths a_text a_classOfQuestion a_split a_opened a_openedAt a_stands a_variable a_truth a_rest a_loopAt a_loopFound a_hits v_classes v_fields v_begun v_indexes v_made v_slotted v_half v_open v_known v_fresh v_changed v_renamed v_down v_armed v_written v_logged v_marked v_logSize v_drafted v_questions v_now v_at v_bad v_opens v_deep v_aimed v_truths v_loops v_valued v_value v_set v_latest v_fits v_total v_looked o.1 o.2.1 o.2.2.1 o.2.2.2) [.ref a_t, .int p1, .int p2, .int p3] sz := by
  refine ob_of (cc := bc_M_step) (maxL := 5) (ret := none) (Qc := ObQv D (obT G) (cw_M_step G a_t a_steps a_what a_one a_two a_parent a_owner a_sort a_aim a_indexClass a_indexPath a_classes1 a_dValues a_dSets a_dNames a_values a_sets a_names a_draft a_lengths a_text a_classOfQuestion a_split a_opened a_openedAt a_stands a_variable a_truth a_rest a_loopAt a_loopFound a_hits v_classes v_fields v_begun v_indexes v_made v_slotted v_half v_open v_known v_fresh v_changed v_renamed v_down v_armed v_written v_logged v_marked v_logSize v_drafted v_questions v_now v_at v_bad v_opens v_deep v_aimed v_truths v_loops v_valued v_value v_set v_latest v_fits v_total v_looked o.1 o.2.1 o.2.2.1 o.2.2.2)) (by decide) rfl (Nat.le_of_ble_eq_true rfl) ?_
  intro p e s m below meth c A ls H locs hx hb hr hml hts hown hlk hnm hZ hP hK hD hA hS hl
  have hret : ∀ (o' : (Nat → Int32) × (Nat → Int32) × (Nat → Int32) × (Nat → Int32)) (H : Heap) (locs : List Loc) (pc : Nat) (ls : Array Slot), some o' = some o → va_P D vwCl (cw_M_step G a_t a_steps a_what a_one a_two a_parent a_owner a_sort a_aim a_indexClass a_indexPath a_classes1 a_dValues a_dSets a_dNames a_values a_sets a_names a_draft a_lengths a_text a_classOfQuestion a_split a_opened a_openedAt a_stands a_variable a_truth a_rest a_loopAt a_loopFound a_hits v_classes v_fields v_begun v_indexes v_made v_slotted v_half v_open v_known v_fresh v_changed v_renamed v_down v_armed v_written v_logged v_marked v_logSize v_drafted v_questions v_now v_at v_bad v_opens v_deep v_aimed v_truths v_loops v_valued v_value v_set v_latest v_fits v_total v_looked o'.1 o'.2.1 o'.2.2.1 o'.2.2.2) H → va_D A (cw_M_step G a_t a_steps a_what a_one a_two a_parent a_owner a_sort a_aim a_indexClass a_indexPath a_classes1 a_dValues a_dSets a_dNames a_values a_sets a_names a_draft a_lengths a_text a_classOfQuestion a_split a_opened a_openedAt a_stands a_variable a_truth a_rest a_loopAt a_loopFound a_hits v_classes v_fields v_begun v_indexes v_made v_slotted v_half v_open v_known v_fresh v_changed v_renamed v_down v_armed v_written v_logged v_marked v_logSize v_drafted v_questions v_now v_at v_bad v_opens v_deep v_aimed v_truths v_loops v_valued v_value v_set v_latest v_fits v_total v_looked o'.1 o'.2.1 o'.2.2.1 o'.2.2.2) → va_S A s.heap H locs → decode bc_M_step pc = .ok (.return_, 1) → W p l e { frames := 0, cells := 0, slots := 0, locals := 0 } s m ([.ref a_t, .int p1, .int p2, .int p3] : List Value).toArray below meth c H locs 0 0 (MQ below (ObQv D (obT G) (cw_M_step G a_t a_steps a_what a_one a_two a_parent a_owner a_sort a_aim a_indexClass a_indexPath a_classes1 a_dValues a_dSets a_dNames a_values a_sets a_names a_draft a_lengths a_text a_classOfQuestion a_split a_opened a_openedAt a_stands a_variable a_truth a_rest a_loopAt a_loopFound a_hits v_classes v_fields v_begun v_indexes v_made v_slotted v_half v_open v_known v_fresh v_changed v_renamed v_down v_armed v_written v_logged v_marked v_logSize v_drafted v_questions v_now v_at v_bad v_opens v_deep v_aimed v_truths v_loops v_valued v_value v_set v_latest v_fits v_total v_looked o.1 o.2.1 o.2.2.1 o.2.2.2) A) ([.ref a_t, .int p1, .int p2, .int p3] : List Value).toArray s 0 0 A) (F0 m pc ls []) := by
    intro o' H locs pc ls he hP hD hS hd
    obtain rfl := Option.some.inj he
    exact ob_vret hx hb hr hlk hK hP hD hS hd
  generalize MQ below (ObQv D (obT G) (cw_M_step G a_t a_steps a_what a_one a_two a_parent a_owner a_sort a_aim a_indexClass a_indexPath a_classes1 a_dValues a_dSets a_dNames a_values a_sets a_names a_draft a_lengths a_text a_classOfQuestion a_split a_opened a_openedAt a_stands a_variable a_truth a_rest a_loopAt a_loopFound a_hits v_classes v_fields v_begun v_indexes v_made v_slotted v_half v_open v_known v_fresh v_changed v_renamed v_down v_armed v_written v_logged v_marked v_logSize v_drafted v_questions v_now v_at v_bad v_opens v_deep v_aimed v_truths v_loops v_valued v_value v_set v_latest v_fits v_total v_looked o.1 o.2.1 o.2.2.1 o.2.2.2) A) ([.ref a_t, .int p1, .int p2, .int p3] : List Value).toArray s 0 0 A = Q at hret ⊢
  have hl : lv_has ls 5 [(0, .ref a_t), (1, .int p1), (2, .int p2), (3, .int p3)] := hl
  unfold f_M_step at hf
  refine lv_bipush (v := 64) hx hb d_M_step_0 (by decide) ?_
  refine lv_aload_n hx hb d_M_step_2 rfl (lv_at hl 0 rfl) ?_
  refine va_get (D := D) (ci := 11) (v := .int v_now) (C := "ObjectBaseModel") (T := TC_M) (N := 66) hx hb hts inC_M hown hK hP 0 rfl rfl 42 (by decide) (hts _ tw829) (fun _ h9 => h9) rfl d_M_step_3 ?_
  refine lv_imul hx hb d_M_step_6 ?_
  refine lv_aload_n hx hb d_M_step_7 rfl (lv_at hl 0 rfl) ?_
  refine va_get (D := D) (ci := 11) (v := .ref a_steps) (C := "ObjectBaseModel") (T := TC_M) (N := 66) hx hb hts inC_M hown hK hP 0 rfl rfl 38 (by decide) (hts _ tw825) (fun _ h9 => h9) rfl d_M_step_8 ?_
  refine lv_aload_n hx hb d_M_step_11 rfl (lv_at hl 0 rfl) ?_
  refine va_get (D := D) (ci := 11) (v := .int v_now) (C := "ObjectBaseModel") (T := TC_M) (N := 66) hx hb hts inC_M hown hK hP 0 rfl rfl 42 (by decide) (hts _ tw829) (fun _ h9 => h9) rfl d_M_step_12 ?_
  obtain ⟨hg15, hf⟩ := ob_iv_g hf
  refine va_iald hx hb hK hP 1 0 rfl rfl hg15 d_M_step_15 ?_
  refine lv_iadd hx hb d_M_step_16 ?_
  refine lv_istore (lv' := [(4, .int ((64 * v_now) + (v_steps v_now.toNatClampNeg))), (0, .ref a_t), (1, .int p1), (2, .int p2), (3, .int p3)]) hx hb d_M_step_17 hl (by decide) rfl (fun ls hl => ?_)
  refine lv_aload_n hx hb d_M_step_19 rfl (lv_at hl 1 rfl) ?_
  refine va_get (D := D) (ci := 11) (v := .ref a_what) (C := "ObjectBaseModel") (T := TC_M) (N := 66) hx hb hts inC_M hown hK hP 0 rfl rfl 39 (by decide) (hts _ tw826) (fun _ h9 => h9) rfl d_M_step_20 ?_
  refine lv_iload hx hb d_M_step_23 (lv_at hl 0 rfl) ?_
  refine lv_iload_n hx hb d_M_step_25 rfl (lv_at hl 2 rfl) ?_
  obtain ⟨hg26, hf⟩ := ob_iv_g hf
  refine va_iast hx hb hK hP hD hS 2 0 rfl rfl hg26 d_M_step_26 (fun H locs hP hD hS => ?_)
  have hP : va_P D vwCl (cw_M_step G a_t a_steps a_what a_one a_two a_parent a_owner a_sort a_aim a_indexClass a_indexPath a_classes1 a_dValues a_dSets a_dNames a_values a_sets a_names a_draft a_lengths a_text a_classOfQuestion a_split a_opened a_openedAt a_stands a_variable a_truth a_rest a_loopAt a_loopFound a_hits v_classes v_fields v_begun v_indexes v_made v_slotted v_half v_open v_known v_fresh v_changed v_renamed v_down v_armed v_written v_logged v_marked v_logSize v_drafted v_questions v_now v_at v_bad v_opens v_deep v_aimed v_truths v_loops v_valued v_value v_set v_latest v_fits v_total v_looked v_steps (upd v_what ((64 * v_now) + (v_steps v_now.toNatClampNeg)).toNatClampNeg p1) v_one v_two) H := hP
  have hD : va_D A (cw_M_step G a_t a_steps a_what a_one a_two a_parent a_owner a_sort a_aim a_indexClass a_indexPath a_classes1 a_dValues a_dSets a_dNames a_values a_sets a_names a_draft a_lengths a_text a_classOfQuestion a_split a_opened a_openedAt a_stands a_variable a_truth a_rest a_loopAt a_loopFound a_hits v_classes v_fields v_begun v_indexes v_made v_slotted v_half v_open v_known v_fresh v_changed v_renamed v_down v_armed v_written v_logged v_marked v_logSize v_drafted v_questions v_now v_at v_bad v_opens v_deep v_aimed v_truths v_loops v_valued v_value v_set v_latest v_fits v_total v_looked v_steps (upd v_what ((64 * v_now) + (v_steps v_now.toNatClampNeg)).toNatClampNeg p1) v_one v_two) := hD
  refine lv_aload_n hx hb d_M_step_27 rfl (lv_at hl 1 rfl) ?_
  refine va_get (D := D) (ci := 11) (v := .ref a_one) (C := "ObjectBaseModel") (T := TC_M) (N := 66) hx hb hts inC_M hown hK hP 0 rfl rfl 40 (by decide) (hts _ tw827) (fun _ h9 => h9) rfl d_M_step_28 ?_
  refine lv_iload hx hb d_M_step_31 (lv_at hl 0 rfl) ?_
  refine lv_iload_n hx hb d_M_step_33 rfl (lv_at hl 3 rfl) ?_
  obtain ⟨hg34, hf⟩ := ob_iv_g hf
  refine va_iast hx hb hK hP hD hS 3 0 rfl rfl hg34 d_M_step_34 (fun H locs hP hD hS => ?_)
  have hP : va_P D vwCl (cw_M_step G a_t a_steps a_what a_one a_two a_parent a_owner a_sort a_aim a_indexClass a_indexPath a_classes1 a_dValues a_dSets a_dNames a_values a_sets a_names a_draft a_lengths a_text a_classOfQuestion a_split a_opened a_openedAt a_stands a_variable a_truth a_rest a_loopAt a_loopFound a_hits v_classes v_fields v_begun v_indexes v_made v_slotted v_half v_open v_known v_fresh v_changed v_renamed v_down v_armed v_written v_logged v_marked v_logSize v_drafted v_questions v_now v_at v_bad v_opens v_deep v_aimed v_truths v_loops v_valued v_value v_set v_latest v_fits v_total v_looked v_steps (upd v_what ((64 * v_now) + (v_steps v_now.toNatClampNeg)).toNatClampNeg p1) (upd v_one ((64 * v_now) + (v_steps v_now.toNatClampNeg)).toNatClampNeg p2) v_two) H := hP
  have hD : va_D A (cw_M_step G a_t a_steps a_what a_one a_two a_parent a_owner a_sort a_aim a_indexClass a_indexPath a_classes1 a_dValues a_dSets a_dNames a_values a_sets a_names a_draft a_lengths a_text a_classOfQuestion a_split a_opened a_openedAt a_stands a_variable a_truth a_rest a_loopAt a_loopFound a_hits v_classes v_fields v_begun v_indexes v_made v_slotted v_half v_open v_known v_fresh v_changed v_renamed v_down v_armed v_written v_logged v_marked v_logSize v_drafted v_questions v_now v_at v_bad v_opens v_deep v_aimed v_truths v_loops v_valued v_value v_set v_latest v_fits v_total v_looked v_steps (upd v_what ((64 * v_now) + (v_steps v_now.toNatClampNeg)).toNatClampNeg p1) (upd v_one ((64 * v_now) + (v_steps v_now.toNatClampNeg)).toNatClampNeg p2) v_two) := hD
  refine lv_aload_n hx hb d_M_step_35 rfl (lv_at hl 1 rfl) ?_
  refine va_get (D := D) (ci := 11) (v := .ref a_two) (C := "ObjectBaseModel") (T := TC_M) (N := 66) hx hb hts inC_M hown hK hP 0 rfl rfl 41 (by decide) (hts _ tw828) (fun _ h9 => h9) rfl d_M_step_36 ?_
  refine lv_iload hx hb d_M_step_39 (lv_at hl 0 rfl) ?_
  refine lv_iload_n hx hb d_M_step_41 rfl (lv_at hl 4 rfl) ?_
  obtain ⟨hg42, hf⟩ := ob_iv_g hf
  refine va_iast hx hb hK hP hD hS 4 0 rfl rfl hg42 d_M_step_42 (fun H locs hP hD hS => ?_)
  have hP : va_P D vwCl (cw_M_step G a_t a_steps a_what a_one a_two a_parent a_owner a_sort a_aim a_indexClass a_indexPath a_classes1 a_dValues a_dSets a_dNames a_values a_sets a_names a_draft a_lengths a_text a_classOfQuestion a_split a_opened a_openedAt a_stands a_variable a_truth a_rest a_loopAt a_loopFound a_hits v_classes v_fields v_begun v_indexes v_made v_slotted v_half v_open v_known v_fresh v_changed v_renamed v_down v_armed v_written v_logged v_marked v_logSize v_drafted v_questions v_now v_at v_bad v_opens v_deep v_aimed v_truths v_loops v_valued v_value v_set v_latest v_fits v_total v_looked v_steps (upd v_what ((64 * v_now) + (v_steps v_now.toNatClampNeg)).toNatClampNeg p1) (upd v_one ((64 * v_now) + (v_steps v_now.toNatClampNeg)).toNatClampNeg p2) (upd v_two ((64 * v_now) + (v_steps v_now.toNatClampNeg)).toNatClampNeg p3)) H := hP
  have hD : va_D A (cw_M_step G a_t a_steps a_what a_one a_two a_parent a_owner a_sort a_aim a_indexClass a_indexPath a_classes1 a_dValues a_dSets a_dNames a_values a_sets a_names a_draft a_lengths a_text a_classOfQuestion a_split a_opened a_openedAt a_stands a_variable a_truth a_rest a_loopAt a_loopFound a_hits v_classes v_fields v_begun v_indexes v_made v_slotted v_half v_open v_known v_fresh v_changed v_renamed v_down v_armed v_written v_logged v_marked v_logSize v_drafted v_questions v_now v_at v_bad v_opens v_deep v_aimed v_truths v_loops v_valued v_value v_set v_latest v_fits v_total v_looked v_steps (upd v_what ((64 * v_now) + (v_steps v_now.toNatClampNeg)).toNatClampNeg p1) (upd v_one ((64 * v_now) + (v_steps v_now.toNatClampNeg)).toNatClampNeg p2) (upd v_two ((64 * v_now) + (v_steps v_now.toNatClampNeg)).toNatClampNeg p3)) := hD
  refine lv_aload_n hx hb d_M_step_43 rfl (lv_at hl 1 rfl) ?_
  refine va_get (D := D) (ci := 11) (v := .ref a_steps) (C := "ObjectBaseModel") (T := TC_M) (N := 66) hx hb hts inC_M hown hK hP 0 rfl rfl 38 (by decide) (hts _ tw825) (fun _ h9 => h9) rfl d_M_step_44 ?_
  refine lv_aload_n hx hb d_M_step_47 rfl (lv_at hl 1 rfl) ?_
  refine va_get (D := D) (ci := 11) (v := .int v_now) (C := "ObjectBaseModel") (T := TC_M) (N := 66) hx hb hts inC_M hown hK hP 0 rfl rfl 42 (by decide) (hts _ tw829) (fun _ h9 => h9) rfl d_M_step_48 ?_
  refine lv_dup2_11 hx hb d_M_step_51 rfl rfl ?_
  obtain ⟨hg52, hf⟩ := ob_iv_g hf
  refine va_iald hx hb hK hP 1 0 rfl rfl hg52 d_M_step_52 ?_
  refine lv_iconst (v := 1) hx hb d_M_step_53 (by decide) ?_
  refine lv_iadd hx hb d_M_step_54 ?_
  obtain ⟨hg55, hf⟩ := ob_iv_g hf
  refine va_iast hx hb hK hP hD hS 1 0 rfl rfl hg55 d_M_step_55 (fun H locs hP hD hS => ?_)
  have hP : va_P D vwCl (cw_M_step G a_t a_steps a_what a_one a_two a_parent a_owner a_sort a_aim a_indexClass a_indexPath a_classes1 a_dValues a_dSets a_dNames a_values a_sets a_names a_draft a_lengths a_text a_classOfQuestion a_split a_opened a_openedAt a_stands a_variable a_truth a_rest a_loopAt a_loopFound a_hits v_classes v_fields v_begun v_indexes v_made v_slotted v_half v_open v_known v_fresh v_changed v_renamed v_down v_armed v_written v_logged v_marked v_logSize v_drafted v_questions v_now v_at v_bad v_opens v_deep v_aimed v_truths v_loops v_valued v_value v_set v_latest v_fits v_total v_looked (upd v_steps v_now.toNatClampNeg ((v_steps v_now.toNatClampNeg) + 1)) (upd v_what ((64 * v_now) + (v_steps v_now.toNatClampNeg)).toNatClampNeg p1) (upd v_one ((64 * v_now) + (v_steps v_now.toNatClampNeg)).toNatClampNeg p2) (upd v_two ((64 * v_now) + (v_steps v_now.toNatClampNeg)).toNatClampNeg p3)) H := hP
  have hD : va_D A (cw_M_step G a_t a_steps a_what a_one a_two a_parent a_owner a_sort a_aim a_indexClass a_indexPath a_classes1 a_dValues a_dSets a_dNames a_values a_sets a_names a_draft a_lengths a_text a_classOfQuestion a_split a_opened a_openedAt a_stands a_variable a_truth a_rest a_loopAt a_loopFound a_hits v_classes v_fields v_begun v_indexes v_made v_slotted v_half v_open v_known v_fresh v_changed v_renamed v_down v_armed v_written v_logged v_marked v_logSize v_drafted v_questions v_now v_at v_bad v_opens v_deep v_aimed v_truths v_loops v_valued v_value v_set v_latest v_fits v_total v_looked (upd v_steps v_now.toNatClampNeg ((v_steps v_now.toNatClampNeg) + 1)) (upd v_what ((64 * v_now) + (v_steps v_now.toNatClampNeg)).toNatClampNeg p1) (upd v_one ((64 * v_now) + (v_steps v_now.toNatClampNeg)).toNatClampNeg p2) (upd v_two ((64 * v_now) + (v_steps v_now.toNatClampNeg)).toNatClampNeg p3)) := hD
  exact hret (upd v_steps v_now.toNatClampNeg ((v_steps v_now.toNatClampNeg) + 1), upd v_what ((64 * v_now) + (v_steps v_now.toNatClampNeg)).toNatClampNeg p1, upd v_one ((64 * v_now) + (v_steps v_now.toNatClampNeg)).toNatClampNeg p2, upd v_two ((64 * v_now) + (v_steps v_now.toNatClampNeg)).toNatClampNeg p3) H locs _ ls hf hP hD hS d_M_step_56
abbrev bc_M_digit : ByteArray := prog_13_method_41_code
abbrev y_M_digit : MethodName := ⟨"ObjectBaseModel", "digit", "(I)Z"⟩
def ws_M_digit : List Cond := .code y_M_digit bc_M_digit 1 (some .boolean) :: obW
theorem d_M_digit_0 : decode bc_M_digit 0 = .ok (.iload_n 0, 1) := by decide +kernel
theorem d_M_digit_1 : decode bc_M_digit 1 = .ok (.bipush 48, 2) := by decide +kernel
theorem d_M_digit_3 : decode bc_M_digit 3 = .ok (.if_icmp .lt 13, 3) := by decide +kernel
theorem d_M_digit_6 : decode bc_M_digit 6 = .ok (.iload_n 0, 1) := by decide +kernel
theorem d_M_digit_7 : decode bc_M_digit 7 = .ok (.bipush 57, 2) := by decide +kernel
theorem d_M_digit_9 : decode bc_M_digit 9 = .ok (.if_icmp .gt 7, 3) := by decide +kernel
theorem d_M_digit_12 : decode bc_M_digit 12 = .ok (.iconst 1, 1) := by decide +kernel
theorem d_M_digit_13 : decode bc_M_digit 13 = .ok (.goto 4, 3) := by decide +kernel
theorem d_M_digit_16 : decode bc_M_digit 16 = .ok (.iconst 0, 1) := by decide +kernel
theorem d_M_digit_17 : decode bc_M_digit 17 = .ok (.ireturn, 1) := by decide +kernel
def cw_M_digit (G : Nat → ClassId) : va_W := []
def f_M_digit (p0 : Int32) : Option (Int32) := if p0 < 48 then (some 0) else (if 57 < p0 then (some 0) else (some 1))
set_option maxHeartbeats 4000000 in
set_option maxRecDepth 100000 in
theorem c_M_digit (l : Launch) (D : va_G) (G : Nat → ClassId) (p0 : Int32) (o : Int32) (hf : f_M_digit p0 = some o) (sz : Nat) : MetI l y_M_digit ws_M_digit ({ frames := 0, cells := 0, slots := 0, locals := 0 }) D (obT G) (cw_M_digit G) (cw_M_digit G) [.int p0] o sz := by
  refine ob_of (cc := bc_M_digit) (maxL := 1) (ret := (some .boolean)) (Qc := ObQi D (obT G) (cw_M_digit G) o) (by decide) rfl (Nat.le_of_ble_eq_true rfl) ?_
  intro p e s m below meth c A ls H locs hx hb hr hml hts hown hlk hnm hZ hP hK hD hA hS hl
  have hret : ∀ (o' : Int32) (H : Heap) (locs : List Loc) (pc : Nat) (ls : Array Slot), some o' = some o → va_P D vwCl (cw_M_digit G) H → va_D A (cw_M_digit G) → va_S A s.heap H locs → narrow .boolean (.int o') = .int o' → decode bc_M_digit pc = .ok (.ireturn, 1) → W p l e { frames := 0, cells := 0, slots := 0, locals := 0 } s m ([.int p0] : List Value).toArray below meth c H locs 0 0 (MQ below (ObQi D (obT G) (cw_M_digit G) o A) ([.int p0] : List Value).toArray s 0 0 A) (F0 m pc ls [.int o']) := by
    intro o' H locs pc ls he hP hD hS hn hd
    obtain rfl := Option.some.inj he
    exact ob_iret hx hb hr hlk hK hP hD hS hn hd
  generalize MQ below (ObQi D (obT G) (cw_M_digit G) o A) ([.int p0] : List Value).toArray s 0 0 A = Q at hret ⊢
  have hl : lv_has ls 1 [(0, .int p0)] := hl
  unfold f_M_digit at hf
  refine lv_iload_n hx hb d_M_digit_0 rfl (lv_at hl 0 rfl) ?_
  refine lv_bipush (v := 48) hx hb d_M_digit_1 (by decide) ?_
  refine lv_icmp_lt (tgt := 16) hx hb d_M_digit_3 (by decide) (fun hc3 => ?_) (fun hc3 => ?_)
  · have hf := ob_t hc3 hf
    refine lv_iconst (v := 0) hx hb d_M_digit_16 (by decide) ?_
    exact hret 0 H locs _ ls hf hP hD hS narrow_b0 d_M_digit_17
  · have hf := ob_f hc3 hf
    refine lv_iload_n hx hb d_M_digit_6 rfl (lv_at hl 0 rfl) ?_
    refine lv_bipush (v := 57) hx hb d_M_digit_7 (by decide) ?_
    refine lv_icmp_gt (tgt := 16) hx hb d_M_digit_9 (by decide) (fun hc9 => ?_) (fun hc9 => ?_)
    · have hf := ob_t hc9 hf
      refine lv_iconst (v := 0) hx hb d_M_digit_16 (by decide) ?_
      exact hret 0 H locs _ ls hf hP hD hS narrow_b0 d_M_digit_17
    · have hf := ob_f hc9 hf
      refine lv_iconst (v := 1) hx hb d_M_digit_12 (by decide) ?_
      refine lv_goto (tgt := 17) hx hb d_M_digit_13 (by decide) ?_
      exact hret 1 H locs _ ls hf hP hD hS narrow_b1 d_M_digit_17
abbrev bc_M_number : ByteArray := prog_13_method_43_code
abbrev y_M_number : MethodName := ⟨"ObjectBaseModel", "number", "()I"⟩
def ws_M_number : List Cond := .code y_M_number bc_M_number 5 (some .int) :: obW
theorem d_M_number_0 : decode bc_M_number 0 = .ok (.aload_n 0, 1) := by decide +kernel
theorem d_M_number_1 : decode bc_M_number 1 = .ok (.aload_n 0, 1) := by decide +kernel
theorem d_M_number_2 : decode bc_M_number 2 = .ok (.getfield 245, 3) := by decide +kernel
theorem d_M_number_5 : decode bc_M_number 5 = .ok (.invokevirtual 248, 3) := by decide +kernel
theorem d_M_number_8 : decode bc_M_number 8 = .ok (.bipush 45, 2) := by decide +kernel
theorem d_M_number_10 : decode bc_M_number 10 = .ok (.if_icmp .ne 7, 3) := by decide +kernel
theorem d_M_number_13 : decode bc_M_number 13 = .ok (.iconst 1, 1) := by decide +kernel
theorem d_M_number_14 : decode bc_M_number 14 = .ok (.goto 4, 3) := by decide +kernel
theorem d_M_number_17 : decode bc_M_number 17 = .ok (.iconst 0, 1) := by decide +kernel
theorem d_M_number_18 : decode bc_M_number 18 = .ok (.istore_n 1, 1) := by decide +kernel
theorem d_M_number_19 : decode bc_M_number 19 = .ok (.aload_n 0, 1) := by decide +kernel
theorem d_M_number_20 : decode bc_M_number 20 = .ok (.dup, 1) := by decide +kernel
theorem d_M_number_21 : decode bc_M_number 21 = .ok (.getfield 245, 3) := by decide +kernel
theorem d_M_number_24 : decode bc_M_number 24 = .ok (.iload_n 1, 1) := by decide +kernel
theorem d_M_number_25 : decode bc_M_number 25 = .ok (.ifCond .eq 7, 3) := by decide +kernel
theorem d_M_number_28 : decode bc_M_number 28 = .ok (.iconst 1, 1) := by decide +kernel
theorem d_M_number_29 : decode bc_M_number 29 = .ok (.goto 4, 3) := by decide +kernel
theorem d_M_number_32 : decode bc_M_number 32 = .ok (.iconst 0, 1) := by decide +kernel
theorem d_M_number_33 : decode bc_M_number 33 = .ok (.iadd, 1) := by decide +kernel
theorem d_M_number_34 : decode bc_M_number 34 = .ok (.putfield 245, 3) := by decide +kernel
theorem d_M_number_37 : decode bc_M_number 37 = .ok (.lconst 0, 1) := by decide +kernel
theorem d_M_number_38 : decode bc_M_number 38 = .ok (.lstore_n 2, 1) := by decide +kernel
theorem d_M_number_39 : decode bc_M_number 39 = .ok (.iconst 0, 1) := by decide +kernel
theorem d_M_number_40 : decode bc_M_number 40 = .ok (.istore 4, 2) := by decide +kernel
theorem d_M_number_42 : decode bc_M_number 42 = .ok (.aload_n 0, 1) := by decide +kernel
theorem d_M_number_43 : decode bc_M_number 43 = .ok (.aload_n 0, 1) := by decide +kernel
theorem d_M_number_44 : decode bc_M_number 44 = .ok (.getfield 245, 3) := by decide +kernel
theorem d_M_number_47 : decode bc_M_number 47 = .ok (.invokevirtual 248, 3) := by decide +kernel
theorem d_M_number_50 : decode bc_M_number 50 = .ok (.invokestatic 252, 3) := by decide +kernel
theorem d_M_number_53 : decode bc_M_number 53 = .ok (.ifCond .eq 46, 3) := by decide +kernel
theorem d_M_number_56 : decode bc_M_number 56 = .ok (.iload 4, 2) := by decide +kernel
theorem d_M_number_58 : decode bc_M_number 58 = .ok (.bipush 11, 2) := by decide +kernel
theorem d_M_number_60 : decode bc_M_number 60 = .ok (.if_icmp .ge 39, 3) := by decide +kernel
theorem d_M_number_63 : decode bc_M_number 63 = .ok (.ldc2_w 262, 3) := by decide +kernel
theorem d_M_number_66 : decode bc_M_number 66 = .ok (.lload_n 2, 1) := by decide +kernel
theorem d_M_number_67 : decode bc_M_number 67 = .ok (.lmul, 1) := by decide +kernel
theorem d_M_number_68 : decode bc_M_number 68 = .ok (.aload_n 0, 1) := by decide +kernel
theorem d_M_number_69 : decode bc_M_number 69 = .ok (.aload_n 0, 1) := by decide +kernel
theorem d_M_number_70 : decode bc_M_number 70 = .ok (.getfield 245, 3) := by decide +kernel
theorem d_M_number_73 : decode bc_M_number 73 = .ok (.invokevirtual 248, 3) := by decide +kernel
theorem d_M_number_76 : decode bc_M_number 76 = .ok (.i2l, 1) := by decide +kernel
theorem d_M_number_77 : decode bc_M_number 77 = .ok (.ladd, 1) := by decide +kernel
theorem d_M_number_78 : decode bc_M_number 78 = .ok (.ldc2_w 264, 3) := by decide +kernel
theorem d_M_number_81 : decode bc_M_number 81 = .ok (.lsub, 1) := by decide +kernel
theorem d_M_number_82 : decode bc_M_number 82 = .ok (.lstore_n 2, 1) := by decide +kernel
theorem d_M_number_83 : decode bc_M_number 83 = .ok (.iinc 4 1, 3) := by decide +kernel
theorem d_M_number_86 : decode bc_M_number 86 = .ok (.aload_n 0, 1) := by decide +kernel
theorem d_M_number_87 : decode bc_M_number 87 = .ok (.dup, 1) := by decide +kernel
theorem d_M_number_88 : decode bc_M_number 88 = .ok (.getfield 245, 3) := by decide +kernel
theorem d_M_number_91 : decode bc_M_number 91 = .ok (.iconst 1, 1) := by decide +kernel
theorem d_M_number_92 : decode bc_M_number 92 = .ok (.iadd, 1) := by decide +kernel
theorem d_M_number_93 : decode bc_M_number 93 = .ok (.putfield 245, 3) := by decide +kernel
theorem d_M_number_96 : decode bc_M_number 96 = .ok (.goto (-54), 3) := by decide +kernel
theorem d_M_number_99 : decode bc_M_number 99 = .ok (.iload_n 1, 1) := by decide +kernel
theorem d_M_number_100 : decode bc_M_number 100 = .ok (.ifCond .eq 8, 3) := by decide +kernel
theorem d_M_number_103 : decode bc_M_number 103 = .ok (.lload_n 2, 1) := by decide +kernel
theorem d_M_number_104 : decode bc_M_number 104 = .ok (.lneg, 1) := by decide +kernel
theorem d_M_number_105 : decode bc_M_number 105 = .ok (.goto 4, 3) := by decide +kernel
theorem d_M_number_108 : decode bc_M_number 108 = .ok (.lload_n 2, 1) := by decide +kernel
theorem d_M_number_109 : decode bc_M_number 109 = .ok (.lstore_n 2, 1) := by decide +kernel
theorem d_M_number_110 : decode bc_M_number 110 = .ok (.iload 4, 2) := by decide +kernel
theorem d_M_number_112 : decode bc_M_number 112 = .ok (.ifCond .le 22, 3) := by decide +kernel
theorem d_M_number_115 : decode bc_M_number 115 = .ok (.iload 4, 2) := by decide +kernel
theorem d_M_number_117 : decode bc_M_number 117 = .ok (.bipush 11, 2) := by decide +kernel
theorem d_M_number_119 : decode bc_M_number 119 = .ok (.if_icmp .ge 15, 3) := by decide +kernel
theorem d_M_number_122 : decode bc_M_number 122 = .ok (.lload_n 2, 1) := by decide +kernel
theorem d_M_number_123 : decode bc_M_number 123 = .ok (.lload_n 2, 1) := by decide +kernel
theorem d_M_number_124 : decode bc_M_number 124 = .ok (.l2i, 1) := by decide +kernel
theorem d_M_number_125 : decode bc_M_number 125 = .ok (.i2l, 1) := by decide +kernel
theorem d_M_number_126 : decode bc_M_number 126 = .ok (.lcmp, 1) := by decide +kernel
theorem d_M_number_127 : decode bc_M_number 127 = .ok (.ifCond .ne 7, 3) := by decide +kernel
theorem d_M_number_130 : decode bc_M_number 130 = .ok (.iconst 1, 1) := by decide +kernel
theorem d_M_number_131 : decode bc_M_number 131 = .ok (.goto 4, 3) := by decide +kernel
theorem d_M_number_134 : decode bc_M_number 134 = .ok (.iconst 0, 1) := by decide +kernel
theorem d_M_number_135 : decode bc_M_number 135 = .ok (.ireturn, 1) := by decide +kernel
def cw_M_number (G : Nat → ClassId) (a_t a_lengths a_text a_parent a_owner a_sort a_aim a_indexClass a_indexPath a_classes1 a_dValues a_dSets a_dNames a_values a_sets a_names a_draft a_classOfQuestion a_split a_steps a_what a_one a_two a_opened a_openedAt a_stands a_variable a_truth a_rest a_loopAt a_loopFound a_hits : Nat) (v_classes : Int32) (v_fields : Int32) (v_begun : Int32) (v_indexes : Int32) (v_made : Int32) (v_slotted : Int64) (v_half : Int32) (v_open : Int32) (v_known : Int64) (v_fresh : Int64) (v_changed : Int64) (v_renamed : Int32) (v_down : Int32) (v_armed : Int32) (v_written : Int32) (v_logged : Int32) (v_marked : Int32) (v_logSize : Int32) (v_drafted : Int32) (v_questions : Int32) (v_now : Int32) (v_at : Int32) (v_bad : Int32) (v_opens : Int32) (v_deep : Int32) (v_aimed : Int32) (v_truths : Int32) (v_loops : Int32) (v_valued : Int32) (v_value : Int32) (v_set : Int64) (v_latest : Int32) (v_fits : Int32) (v_total : Int64) (v_looked : Int32) (v_lengths : Nat → Int32) (v_text : Nat → Int32) : va_W := [(a_t, .inr (11, [.int v_classes, .ref a_parent, .int v_fields, .ref a_owner, .ref a_sort, .ref a_aim, .int v_begun, .int v_indexes, .ref a_indexClass, .ref a_indexPath, .int v_made, .ref a_classes1, .ref a_dValues, .ref a_dSets, .ref a_dNames, .ref a_values, .ref a_sets, .ref a_names, .long v_slotted, .int v_half, .int v_open, .long v_known, .long v_fresh, .long v_changed, .int v_renamed, .int v_down, .int v_armed, .int v_written, .int v_logged, .int v_marked, .int v_logSize, .int v_drafted, .ref a_draft, .int v_questions, .ref a_lengths, .ref a_text, .ref a_classOfQuestion, .ref a_split, .ref a_steps, .ref a_what, .ref a_one, .ref a_two, .int v_now, .int v_at, .int v_bad, .int v_opens, .ref a_opened, .ref a_openedAt, .int v_deep, .int v_aimed, .ref a_stands, .ref a_variable, .int v_truths, .ref a_truth, .int v_loops, .ref a_rest, .ref a_loopAt, .ref a_loopFound, .int v_valued, .int v_value, .long v_set, .int v_latest, .int v_fits, .ref a_hits, .long v_total, .int v_looked])), (a_lengths, .inl (G 0, 13, .inl v_lengths)), (a_text, .inl (G 0, 832, .inl v_text))]
def f_M_number_J109 (x109_4 : Int32) (y109_0 : Int64) (v_at_109 : Int32) : Option (Int32 × Int32) := if x109_4 ≤ 0 then (some (0, v_at_109)) else (if 11 ≤ x109_4 then (some (0, v_at_109)) else (if (lg_cmp y109_0 y109_0.toInt32.toInt64) = 0 then (some (1, v_at_109)) else (some (0, v_at_109))))
def f_M_number_J99 (x99_1 : Int32) (x99_2 : Int64) (x99_4 : Int32) (v_at_99 : Int32) : Option (Int32 × Int32) := if x99_1 = 0 then (f_M_number_J109 x99_4 x99_2 v_at_99) else (f_M_number_J109 x99_4 (-x99_2) v_at_99)
def f_M_number_B42 (v_now : Int32) (v_lengths : Nat → Int32) (v_text : Nat → Int32) (k42 : Int32 → Int64 → Int32 → Int32 → Option (Int32 × Int32)) (x42_1 : Int32) (x42_2 : Int64) (x42_4 : Int32) (v_at_42 : Int32) : Option (Int32 × Int32) := (f_M_charAt v_now v_lengths v_text v_at_42).bind fun o47 => ((f_M_digit o47).bind fun o50 => (if o50 = 0 then (f_M_number_J99 x42_1 x42_2 x42_4 v_at_42) else (if 11 ≤ x42_4 then (f_M_number_J99 x42_1 x42_2 x42_4 v_at_42) else ((f_M_charAt v_now v_lengths v_text v_at_42).bind fun o73 => (k42 x42_1 (((10 * x42_2) + o73.toInt64) - 48) (x42_4 + 1) (v_at_42 + 1))))))
def f_M_number_L42 (v_now : Int32) (v_lengths : Nat → Int32) (v_text : Nat → Int32) : Nat → Int32 → Int64 → Int32 → Int32 → Option (Int32 × Int32) := ob_lp4 (f_M_number_B42 v_now v_lengths v_text)
def f_M_number_J33 (v_now : Int32) (v_lengths : Nat → Int32) (v_text : Nat → Int32) (x33_1 : Int32) (y33_0 : Int32) (y33_1 : Int32) (v_at_33 : Int32) : Option (Int32 × Int32) := f_M_number_L42 v_now v_lengths v_text 1000 x33_1 0 0 (y33_1 + y33_0)
def f_M_number_J18 (v_now : Int32) (v_lengths : Nat → Int32) (v_text : Nat → Int32) (y18_0 : Int32) (v_at_18 : Int32) : Option (Int32 × Int32) := if y18_0 = 0 then (f_M_number_J33 v_now v_lengths v_text y18_0 0 v_at_18 v_at_18) else (f_M_number_J33 v_now v_lengths v_text y18_0 1 v_at_18 v_at_18)
def f_M_number (v_now : Int32) (v_at : Int32) (v_lengths : Nat → Int32) (v_text : Nat → Int32) : Option (Int32 × Int32) := (f_M_charAt v_now v_lengths v_text v_at).bind fun o5 => (if o5 = 45 then (f_M_number_J18 v_now v_lengths v_text 1 v_at) else (f_M_number_J18 v_now v_lengths v_text 0 v_at))
set_option maxHeartbeats 4000000 in
set_option maxRecDepth 100000 in
theorem c_M_number (l : Launch) (D : va_G) (G : Nat → ClassId) (a_t a_lengths a_text a_parent a_owner a_sort a_aim a_indexClass a_indexPath a_classes1 a_dValues a_dSets a_dNames a_values a_sets a_names a_draft a_classOfQuestion a_split a_steps a_what a_one a_two a_opened a_openedAt a_stands a_variable a_truth a_rest a_loopAt a_loopFound a_hits : Nat) (v_classes : Int32) (v_fields : Int32) (v_begun : Int32) (v_indexes : Int32) (v_made : Int32) (v_slotted : Int64) (v_half : Int32) (v_open : Int32) (v_known : Int64) (v_fresh : Int64) (v_changed : Int64) (v_renamed : Int32) (v_down : Int32) (v_armed : Int32) (v_written : Int32) (v_logged : Int32) (v_marked : Int32) (v_logSize : Int32) (v_drafted : Int32) (v_questions : Int32) (v_now : Int32) (v_at : Int32) (v_bad : Int32) (v_opens : Int32) (v_deep : Int32) (v_aimed : Int32) (v_truths : Int32) (v_loops : Int32) (v_valued : Int32) (v_value : Int32) (v_set : Int64) (v_latest : Int32) (v_fits : Int32) (v_total : Int64) (v_looked : Int32) (v_lengths : Nat → Int32) (v_text : Nat → Int32) (o : Int32 × Int32) (hf : f_M_number v_now v_at v_lengths v_text = some o) (sz : Nat) : MetI l y_M_number ws_M_number ({ frames := 1, cells := 0, slots := 0, locals := 21 }) D (obT G) (cw_M_number G a_t a_lengths a_text a_parent a_owner a_sort a_aim a_indexClass a_indexPath a_classes1 a_dValues a_dSets a_dNames a_values a_sets a_names a_draft a_classOfQuestion a_split a_steps a_what a_one a_two a_opened a_openedAt a_stands a_variable a_truth a_rest a_loopAt a_loopFound a_hits v_classes v_fields v_begun v_indexes v_made v_slotted v_half v_open v_known v_fresh v_changed v_renamed v_down v_armed v_written v_logged v_marked v_logSize v_drafted v_questions v_now v_at v_bad v_opens v_deep v_aimed v_truths v_loops v_valued v_value v_set v_latest v_fits v_total v_looked v_lengths v_text) (cw_M_number G a_t a_lengths a_text a_parent a_owner a_sort a_aim a_indexClass a_indexPath a_classes1 a_dValues a_dSets a_dNames a_values a_sets a_names a_draft a_classOfQuestion a_split a_steps a_what a_one a_two a_opened a_openedAt a_stands a_variable a_truth a_rest a_loopAt a_loopFound a_hits v_classes v_fields v_begun v_indexes v_made v_slotted v_half v_open v_known v_fresh v_changed v_renamed v_down v_armed v_written v_logged v_marked v_logSize v_drafted v_questions v_now o.2 v_bad v_opens v_deep v_aimed v_truths v_loops v_valued v_value v_set v_latest v_fits v_total v_looked v_lengths v_text) [.ref a_t] o.1 sz := by
  refine ob_of (cc := bc_M_number) (maxL := 5) (ret := (some .int)) (Qc := ObQi D (obT G) (cw_M_number G a_t a_lengths a_text a_parent a_owner a_sort a_aim a_indexClass a_indexPath a_classes1 a_dValues a_dSets a_dNames a_values a_sets a_names a_draft a_classOfQuestion a_split a_steps a_what a_one a_two a_opened a_openedAt a_stands a_variable a_truth a_rest a_loopAt a_loopFound a_hits v_classes v_fields v_begun v_indexes v_made v_slotted v_half v_open v_known v_fresh v_changed v_renamed v_down v_armed v_written v_logged v_marked v_logSize v_drafted v_questions v_now o.2 v_bad v_opens v_deep v_aimed v_truths v_loops v_valued v_value v_set v_latest v_fits v_total v_looked v_lengths v_text) o.1) (by decide) rfl (Nat.le_of_ble_eq_true rfl) ?_
  intro p e s m below meth c A ls H locs hx hb hr hml hts hown hlk hnm hZ hP hK hD hA hS hl
  have hret : ∀ (o' : Int32 × Int32) (H : Heap) (locs : List Loc) (pc : Nat) (ls : Array Slot), some o' = some o → va_P D vwCl (cw_M_number G a_t a_lengths a_text a_parent a_owner a_sort a_aim a_indexClass a_indexPath a_classes1 a_dValues a_dSets a_dNames a_values a_sets a_names a_draft a_classOfQuestion a_split a_steps a_what a_one a_two a_opened a_openedAt a_stands a_variable a_truth a_rest a_loopAt a_loopFound a_hits v_classes v_fields v_begun v_indexes v_made v_slotted v_half v_open v_known v_fresh v_changed v_renamed v_down v_armed v_written v_logged v_marked v_logSize v_drafted v_questions v_now o'.2 v_bad v_opens v_deep v_aimed v_truths v_loops v_valued v_value v_set v_latest v_fits v_total v_looked v_lengths v_text) H → va_D A (cw_M_number G a_t a_lengths a_text a_parent a_owner a_sort a_aim a_indexClass a_indexPath a_classes1 a_dValues a_dSets a_dNames a_values a_sets a_names a_draft a_classOfQuestion a_split a_steps a_what a_one a_two a_opened a_openedAt a_stands a_variable a_truth a_rest a_loopAt a_loopFound a_hits v_classes v_fields v_begun v_indexes v_made v_slotted v_half v_open v_known v_fresh v_changed v_renamed v_down v_armed v_written v_logged v_marked v_logSize v_drafted v_questions v_now o'.2 v_bad v_opens v_deep v_aimed v_truths v_loops v_valued v_value v_set v_latest v_fits v_total v_looked v_lengths v_text) → va_S A s.heap H locs → narrow .int (.int o'.1) = .int o'.1 → decode bc_M_number pc = .ok (.ireturn, 1) → W p l e { frames := 1, cells := 0, slots := 0, locals := 21 } s m ([.ref a_t] : List Value).toArray below meth c H locs 0 0 (MQ below (ObQi D (obT G) (cw_M_number G a_t a_lengths a_text a_parent a_owner a_sort a_aim a_indexClass a_indexPath a_classes1 a_dValues a_dSets a_dNames a_values a_sets a_names a_draft a_classOfQuestion a_split a_steps a_what a_one a_two a_opened a_openedAt a_stands a_variable a_truth a_rest a_loopAt a_loopFound a_hits v_classes v_fields v_begun v_indexes v_made v_slotted v_half v_open v_known v_fresh v_changed v_renamed v_down v_armed v_written v_logged v_marked v_logSize v_drafted v_questions v_now o.2 v_bad v_opens v_deep v_aimed v_truths v_loops v_valued v_value v_set v_latest v_fits v_total v_looked v_lengths v_text) o.1 A) ([.ref a_t] : List Value).toArray s 0 0 A) (F0 m pc ls [.int o'.1]) := by
    intro o' H locs pc ls he hP hD hS hn hd
    obtain rfl := Option.some.inj he
    exact ob_iret hx hb hr hlk hK hP hD hS hn hd
  generalize MQ below (ObQi D (obT G) (cw_M_number G a_t a_lengths a_text a_parent a_owner a_sort a_aim a_indexClass a_indexPath a_classes1 a_dValues a_dSets a_dNames a_values a_sets a_names a_draft a_classOfQuestion a_split a_steps a_what a_one a_two a_opened a_openedAt a_stands a_variable a_truth a_rest a_loopAt a_loopFound a_hits v_classes v_fields v_begun v_indexes v_made v_slotted v_half v_open v_known v_fresh v_changed v_renamed v_down v_armed v_written v_logged v_marked v_logSize v_drafted v_questions v_now o.2 v_bad v_opens v_deep v_aimed v_truths v_loops v_valued v_value v_set v_latest v_fits v_total v_looked v_lengths v_text) o.1 A) ([.ref a_t] : List Value).toArray s 0 0 A = Q at hret ⊢
  have hl : lv_has ls 5 [(0, .ref a_t)] := hl
  unfold f_M_number at hf
  have blk109 : ∀ (x109_4 : Int32) (y109_0 : Int64) (v_at_109 : Int32) (ls : Array Slot) (H : Heap) (locs : List Loc), lv_has ls 5 [(4, .int x109_4)] → va_P D vwCl (cw_M_number G a_t a_lengths a_text a_parent a_owner a_sort a_aim a_indexClass a_indexPath a_classes1 a_dValues a_dSets a_dNames a_values a_sets a_names a_draft a_classOfQuestion a_split a_steps a_what a_one a_two a_opened a_openedAt a_stands a_variable a_truth a_rest a_loopAt a_loopFound a_hits v_classes v_fields v_begun v_indexes v_made v_slotted v_half v_open v_known v_fresh v_changed v_renamed v_down v_armed v_written v_logged v_marked v_logSize v_drafted v_questions v_now v_at_109 v_bad v_opens v_deep v_aimed v_truths v_loops v_valued v_value v_set v_latest v_fits v_total v_looked v_lengths v_text) H → va_D A (cw_M_number G a_t a_lengths a_text a_parent a_owner a_sort a_aim a_indexClass a_indexPath a_classes1 a_dValues a_dSets a_dNames a_values a_sets a_names a_draft a_classOfQuestion a_split a_steps a_what a_one a_two a_opened a_openedAt a_stands a_variable a_truth a_rest a_loopAt a_loopFound a_hits v_classes v_fields v_begun v_indexes v_made v_slotted v_half v_open v_known v_fresh v_changed v_renamed v_down v_armed v_written v_logged v_marked v_logSize v_drafted v_questions v_now v_at_109 v_bad v_opens v_deep v_aimed v_truths v_loops v_valued v_value v_set v_latest v_fits v_total v_looked v_lengths v_text) → va_S A s.heap H locs → f_M_number_J109 x109_4 y109_0 v_at_109 = some o → W p l e ({ frames := 1, cells := 0, slots := 0, locals := 21 }) s m ([.ref a_t] : List Value).toArray below meth c H locs 0 0 Q (F0 m 109 ls [.long y109_0]) := by
    intro x109_4 y109_0 v_at_109 ls H locs hl hP hD hS hf
    unfold f_M_number_J109 at hf
    refine lv_lstore_n (lv' := [(2, .long y109_0), (4, .int x109_4)]) hx hb d_M_number_109 rfl hl (by decide) rfl (fun ls hl => ?_)
    refine lv_iload hx hb d_M_number_110 (lv_at hl 1 rfl) ?_
    refine lv_if_le (tgt := 134) hx hb d_M_number_112 (by decide) (fun hc112 => ?_) (fun hc112 => ?_)
    · have hf := ob_t hc112 hf
      refine lv_iconst (v := 0) hx hb d_M_number_134 (by decide) ?_
      exact hret (0, v_at_109) H locs _ ls hf hP hD hS rfl d_M_number_135
    · have hf := ob_f hc112 hf
      refine lv_iload hx hb d_M_number_115 (lv_at hl 1 rfl) ?_
      refine lv_bipush (v := 11) hx hb d_M_number_117 (by decide) ?_
      refine lv_icmp_ge (tgt := 134) hx hb d_M_number_119 (by decide) (fun hc119 => ?_) (fun hc119 => ?_)
      · have hf := ob_t hc119 hf
        refine lv_iconst (v := 0) hx hb d_M_number_134 (by decide) ?_
        exact hret (0, v_at_109) H locs _ ls hf hP hD hS rfl d_M_number_135
      · have hf := ob_f hc119 hf
        refine lv_lload_n hx hb d_M_number_122 rfl (lv_at hl 0 rfl) ?_
        refine lv_lload_n hx hb d_M_number_123 rfl (lv_at hl 0 rfl) ?_
        refine lv_l2i hx hb d_M_number_124 rfl ?_
        refine lv_i2l hx hb d_M_number_125 rfl ?_
        refine W.lcmp hx hb d_M_number_126 ?_
        refine lv_if_ne (tgt := 134) hx hb d_M_number_127 (by decide) (fun hc127 => ?_) (fun hc127 => ?_)
        · have hf := ob_f hc127 hf
          refine lv_iconst (v := 0) hx hb d_M_number_134 (by decide) ?_
          exact hret (0, v_at_109) H locs _ ls hf hP hD hS rfl d_M_number_135
        · have hf := ob_t hc127 hf
          refine lv_iconst (v := 1) hx hb d_M_number_130 (by decide) ?_
          refine lv_goto (tgt := 135) hx hb d_M_number_131 (by decide) ?_
          exact hret (1, v_at_109) H locs _ ls hf hP hD hS rfl d_M_number_135
  have blk99 : ∀ (x99_1 : Int32) (x99_2 : Int64) (x99_4 : Int32) (v_at_99 : Int32) (ls : Array Slot) (H : Heap) (locs : List Loc), lv_has ls 5 [(1, .int x99_1), (2, .long x99_2), (4, .int x99_4)] → va_P D vwCl (cw_M_number G a_t a_lengths a_text a_parent a_owner a_sort a_aim a_indexClass a_indexPath a_classes1 a_dValues a_dSets a_dNames a_values a_sets a_names a_draft a_classOfQuestion a_split a_steps a_what a_one a_two a_opened a_openedAt a_stands a_variable a_truth a_rest a_loopAt a_loopFound a_hits v_classes v_fields v_begun v_indexes v_made v_slotted v_half v_open v_known v_fresh v_changed v_renamed v_down v_armed v_written v_logged v_marked v_logSize v_drafted v_questions v_now v_at_99 v_bad v_opens v_deep v_aimed v_truths v_loops v_valued v_value v_set v_latest v_fits v_total v_looked v_lengths v_text) H → va_D A (cw_M_number G a_t a_lengths a_text a_parent a_owner a_sort a_aim a_indexClass a_indexPath a_classes1 a_dValues a_dSets a_dNames a_values a_sets a_names a_draft a_classOfQuestion a_split a_steps a_what a_one a_two a_opened a_openedAt a_stands a_variable a_truth a_rest a_loopAt a_loopFound a_hits v_classes v_fields v_begun v_indexes v_made v_slotted v_half v_open v_known v_fresh v_changed v_renamed v_down v_armed v_written v_logged v_marked v_logSize v_drafted v_questions v_now v_at_99 v_bad v_opens v_deep v_aimed v_truths v_loops v_valued v_value v_set v_latest v_fits v_total v_looked v_lengths v_text) → va_S A s.heap H locs → f_M_number_J99 x99_1 x99_2 x99_4 v_at_99 = some o → W p l e ({ frames := 1, cells := 0, slots := 0, locals := 21 }) s m ([.ref a_t] : List Value).toArray below meth c H locs 0 0 Q (F0 m 99 ls []) := by
    intro x99_1 x99_2 x99_4 v_at_99 ls H locs hl hP hD hS hf
    unfold f_M_number_J99 at hf
    refine lv_iload_n hx hb d_M_number_99 rfl (lv_at hl 0 rfl) ?_
    refine lv_if_eq (tgt := 108) hx hb d_M_number_100 (by decide) (fun hc100 => ?_) (fun hc100 => ?_)
    · have hf := ob_t hc100 hf
      refine lv_lload_n hx hb d_M_number_108 rfl (lv_at hl 1 rfl) ?_
      exact blk109 x99_4 x99_2 v_at_99 ls H locs (lv_sub hl [2] rfl) hP hD hS hf
    · have hf := ob_f hc100 hf
      refine lv_lload_n hx hb d_M_number_103 rfl (lv_at hl 1 rfl) ?_
      refine lv_lneg hx hb d_M_number_104 ?_
      refine lv_goto (tgt := 109) hx hb d_M_number_105 (by decide) ?_
      exact blk109 x99_4 (-x99_2) v_at_99 ls H locs (lv_sub hl [2] rfl) hP hD hS hf
  have loop42 : ∀ (n42 : Nat) (x42_1 : Int32) (x42_2 : Int64) (x42_4 : Int32) (v_at_42 : Int32) (ls : Array Slot) (H : Heap) (locs : List Loc), lv_has ls 5 [(0, .ref a_t), (1, .int x42_1), (2, .long x42_2), (4, .int x42_4)] → va_P D vwCl (cw_M_number G a_t a_lengths a_text a_parent a_owner a_sort a_aim a_indexClass a_indexPath a_classes1 a_dValues a_dSets a_dNames a_values a_sets a_names a_draft a_classOfQuestion a_split a_steps a_what a_one a_two a_opened a_openedAt a_stands a_variable a_truth a_rest a_loopAt a_loopFound a_hits v_classes v_fields v_begun v_indexes v_made v_slotted v_half v_open v_known v_fresh v_changed v_renamed v_down v_armed v_written v_logged v_marked v_logSize v_drafted v_questions v_now v_at_42 v_bad v_opens v_deep v_aimed v_truths v_loops v_valued v_value v_set v_latest v_fits v_total v_looked v_lengths v_text) H → va_D A (cw_M_number G a_t a_lengths a_text a_parent a_owner a_sort a_aim a_indexClass a_indexPath a_classes1 a_dValues a_dSets a_dNames a_values a_sets a_names a_draft a_classOfQuestion a_split a_steps a_what a_one a_two a_opened a_openedAt a_stands a_variable a_truth a_rest a_loopAt a_loopFound a_hits v_classes v_fields v_begun v_indexes v_made v_slotted v_half v_open v_known v_fresh v_changed v_renamed v_down v_armed v_written v_logged v_marked v_logSize v_drafted v_questions v_now v_at_42 v_bad v_opens v_deep v_aimed v_truths v_loops v_valued v_value v_set v_latest v_fits v_total v_looked v_lengths v_text) → va_S A s.heap H locs → f_M_number_L42 v_now v_lengths v_text n42 x42_1 x42_2 x42_4 v_at_42 = some o → W p l e ({ frames := 1, cells := 0, slots := 0, locals := 21 }) s m ([.ref a_t] : List Value).toArray below meth c H locs 0 0 Q (F0 m 42 ls []) := by
    intro n42
    induction n42 with
    | zero => intro x42_1 x42_2 x42_4 v_at_42 ls H locs hl hP hD hS hf; exact ob_no hf
    | succ n42 ih42 =>
      intro x42_1 x42_2 x42_4 v_at_42 ls H locs hl hP hD hS hf
      have hf : f_M_number_B42 v_now v_lengths v_text (f_M_number_L42 v_now v_lengths v_text n42) x42_1 x42_2 x42_4 v_at_42 = some o := hf
      unfold f_M_number_B42 at hf
      refine lv_aload_n hx hb d_M_number_42 rfl (lv_at hl 0 rfl) ?_
      refine lv_aload_n hx hb d_M_number_43 rfl (lv_at hl 0 rfl) ?_
      refine va_get (D := D) (ci := 11) (v := .int v_at_42) (C := "ObjectBaseModel") (T := TC_M) (N := 66) hx hb hts inC_M hown hK hP 0 rfl rfl 43 (by decide) (hts _ tw830) (fun _ h9 => h9) rfl d_M_number_44 ?_
      obtain ⟨o47, ho47, hf⟩ := ob_b hf
      refine ob_calli (w2 := (cw_M_number G a_t a_lengths a_text a_parent a_owner a_sort a_aim a_indexClass a_indexPath a_classes1 a_dValues a_dSets a_dNames a_values a_sets a_names a_draft a_classOfQuestion a_split a_steps a_what a_one a_two a_opened a_openedAt a_stands a_variable a_truth a_rest a_loopAt a_loopFound a_hits v_classes v_fields v_begun v_indexes v_made v_slotted v_half v_open v_known v_fresh v_changed v_renamed v_down v_armed v_written v_logged v_marked v_logSize v_drafted v_questions v_now v_at_42 v_bad v_opens v_deep v_aimed v_truths v_loops v_valued v_value v_set v_latest v_fits v_total v_looked v_lengths v_text)) (va_runV (As := [.int v_at_42]) (rest := []) ⟨hx, hb, hml, hown, hts⟩ (c_M_charAt l D G a_t a_lengths a_text a_parent a_owner a_sort a_aim a_indexClass a_indexPath a_classes1 a_dValues a_dSets a_dNames a_values a_sets a_names a_draft a_classOfQuestion a_split a_steps a_what a_one a_two a_opened a_openedAt a_stands a_variable a_truth a_rest a_loopAt a_loopFound a_hits v_classes v_fields v_begun v_indexes v_made v_slotted v_half v_open v_known v_fresh v_changed v_renamed v_down v_armed v_written v_logged v_marked v_logSize v_drafted v_questions v_now v_at_42 v_bad v_opens v_deep v_aimed v_truths v_loops v_valued v_value v_set v_latest v_fits v_total v_looked v_lengths v_text v_at_42 o47 ho47 H.size) (cwV 1 hts (gV tw1136 tw1138 tp40 tw11 tw1139) rfl rfl rfl (by decide +kernel) ⟨Nat.le_of_ble_eq_true rfl, Nat.le_of_ble_eq_true rfl⟩) (ob_preV (q0 := 0) (ci := 11) hZ hK hP hD [0, 1, 2] rfl rfl rfl rfl rfl) rfl rfl hl.1 rfl (lv_room (Nat.le_of_ble_eq_true rfl)) d_M_number_47 ⟨Nat.le_refl _, Nat.le_refl _⟩) hP hD hA hS [0, 1, 2] rfl rfl rfl rfl (fun H locs hP hD hS => ?_)
      obtain ⟨o50, ho50, hf⟩ := ob_b hf
      refine ob_calli (w2 := (cw_M_number G a_t a_lengths a_text a_parent a_owner a_sort a_aim a_indexClass a_indexPath a_classes1 a_dValues a_dSets a_dNames a_values a_sets a_names a_draft a_classOfQuestion a_split a_steps a_what a_one a_two a_opened a_openedAt a_stands a_variable a_truth a_rest a_loopAt a_loopFound a_hits v_classes v_fields v_begun v_indexes v_made v_slotted v_half v_open v_known v_fresh v_changed v_renamed v_down v_armed v_written v_logged v_marked v_logSize v_drafted v_questions v_now v_at_42 v_bad v_opens v_deep v_aimed v_truths v_loops v_valued v_value v_set v_latest v_fits v_total v_looked v_lengths v_text)) (va_runS (As := [.int o47]) (rest := []) ⟨hx, hb, hml, hown, hts⟩ (c_M_digit l D G  o47 o50 ho50 H.size) (va_cwS 1 hts (gS tw1172 tw1173 tw11 tw1174) rfl rfl rfl (by decide +kernel) ⟨Nat.le_of_ble_eq_true rfl, Nat.le_of_ble_eq_true rfl⟩) (ob_preS hZ hK hP hD [] rfl rfl) rfl rfl hl.1 rfl (lv_room (Nat.le_of_ble_eq_true rfl)) d_M_number_50 ⟨Nat.le_refl _, Nat.le_refl _⟩) hP hD hA hS [] rfl rfl rfl rfl (fun H locs hP hD hS => ?_)
      refine lv_if_eq (tgt := 99) hx hb d_M_number_53 (by decide) (fun hc53 => ?_) (fun hc53 => ?_)
      · have hf := ob_t hc53 hf
        exact blk99 x42_1 x42_2 x42_4 v_at_42 ls H locs (lv_sub hl [1, 2, 3] rfl) hP hD hS hf
      · have hf := ob_f hc53 hf
        refine lv_iload hx hb d_M_number_56 (lv_at hl 3 rfl) ?_
        refine lv_bipush (v := 11) hx hb d_M_number_58 (by decide) ?_
        refine lv_icmp_ge (tgt := 99) hx hb d_M_number_60 (by decide) (fun hc60 => ?_) (fun hc60 => ?_)
        · have hf := ob_t hc60 hf
          exact blk99 x42_1 x42_2 x42_4 v_at_42 ls H locs (lv_sub hl [1, 2, 3] rfl) hP hD hS hf
        · have hf := ob_f hc60 hf
          refine lv_ldc2 (v := 10) hx hb hown (hts _ tw1179) d_M_number_63 ?_
          refine lv_lload_n hx hb d_M_number_66 rfl (lv_at hl 2 rfl) ?_
          refine lv_lmul hx hb d_M_number_67 ?_
          refine lv_aload_n hx hb d_M_number_68 rfl (lv_at hl 0 rfl) ?_
          refine lv_aload_n hx hb d_M_number_69 rfl (lv_at hl 0 rfl) ?_
          refine va_get (D := D) (ci := 11) (v := .int v_at_42) (C := "ObjectBaseModel") (T := TC_M) (N := 66) hx hb hts inC_M hown hK hP 0 rfl rfl 43 (by decide) (hts _ tw830) (fun _ h9 => h9) rfl d_M_number_70 ?_
          obtain ⟨o73, ho73, hf⟩ := ob_b hf
          refine ob_calli (w2 := (cw_M_number G a_t a_lengths a_text a_parent a_owner a_sort a_aim a_indexClass a_indexPath a_classes1 a_dValues a_dSets a_dNames a_values a_sets a_names a_draft a_classOfQuestion a_split a_steps a_what a_one a_two a_opened a_openedAt a_stands a_variable a_truth a_rest a_loopAt a_loopFound a_hits v_classes v_fields v_begun v_indexes v_made v_slotted v_half v_open v_known v_fresh v_changed v_renamed v_down v_armed v_written v_logged v_marked v_logSize v_drafted v_questions v_now v_at_42 v_bad v_opens v_deep v_aimed v_truths v_loops v_valued v_value v_set v_latest v_fits v_total v_looked v_lengths v_text)) (va_runV (As := [.int v_at_42]) (rest := [.long (10 * x42_2)]) ⟨hx, hb, hml, hown, hts⟩ (c_M_charAt l D G a_t a_lengths a_text a_parent a_owner a_sort a_aim a_indexClass a_indexPath a_classes1 a_dValues a_dSets a_dNames a_values a_sets a_names a_draft a_classOfQuestion a_split a_steps a_what a_one a_two a_opened a_openedAt a_stands a_variable a_truth a_rest a_loopAt a_loopFound a_hits v_classes v_fields v_begun v_indexes v_made v_slotted v_half v_open v_known v_fresh v_changed v_renamed v_down v_armed v_written v_logged v_marked v_logSize v_drafted v_questions v_now v_at_42 v_bad v_opens v_deep v_aimed v_truths v_loops v_valued v_value v_set v_latest v_fits v_total v_looked v_lengths v_text v_at_42 o73 ho73 H.size) (cwV 1 hts (gV tw1136 tw1138 tp40 tw11 tw1139) rfl rfl rfl (by decide +kernel) ⟨Nat.le_of_ble_eq_true rfl, Nat.le_of_ble_eq_true rfl⟩) (ob_preV (q0 := 0) (ci := 11) hZ hK hP hD [0, 1, 2] rfl rfl rfl rfl rfl) rfl rfl hl.1 rfl (lv_room (Nat.le_of_ble_eq_true rfl)) d_M_number_73 ⟨Nat.le_refl _, Nat.le_refl _⟩) hP hD hA hS [0, 1, 2] rfl rfl rfl rfl (fun H locs hP hD hS => ?_)
          refine lv_i2l hx hb d_M_number_76 rfl ?_
          refine lv_ladd hx hb d_M_number_77 ?_
          refine lv_ldc2 (v := 48) hx hb hown (hts _ tw1180) d_M_number_78 ?_
          refine lv_lsub hx hb d_M_number_81 ?_
          refine lv_lstore_n (lv' := [(2, .long (((10 * x42_2) + o73.toInt64) - 48)), (0, .ref a_t), (1, .int x42_1), (4, .int x42_4)]) hx hb d_M_number_82 rfl hl (by decide) rfl (fun ls hl => ?_)
          refine lv_iinc (k := 3) (v := x42_4 + 1) (lv' := [(4, .int (x42_4 + 1)), (2, .long (((10 * x42_2) + o73.toInt64) - 48)), (0, .ref a_t), (1, .int x42_1)]) hx hb d_M_number_83 hl rfl (by rw [show Int32.ofInt 1 = (1 : Int32) from by decide]) (by decide) rfl (fun ls hl => ?_)
          refine lv_aload_n hx hb d_M_number_86 rfl (lv_at hl 2 rfl) ?_
          refine lv_dup hx hb d_M_number_87 rfl ?_
          refine va_get (D := D) (ci := 11) (v := .int v_at_42) (C := "ObjectBaseModel") (T := TC_M) (N := 66) hx hb hts inC_M hown hK hP 0 rfl rfl 43 (by decide) (hts _ tw830) (fun _ h9 => h9) rfl d_M_number_88 ?_
          refine lv_iconst (v := 1) hx hb d_M_number_91 (by decide) ?_
          refine lv_iadd hx hb d_M_number_92 ?_
          refine va_put (D := D) (ci := 11) (v := .int (v_at_42 + 1)) (ty := .int) (C := "ObjectBaseModel") (T := TC_M) (N := 66) hx hb hts inC_M tyC_M tyC_M_ok nmC_M hown hK hP hD hS 0 rfl rfl 43 (by decide) (hts _ tw830) (fun _ h9 => h9) rfl (by decide +kernel) rfl rfl (Nat.le_of_ble_eq_true rfl) d_M_number_93 (fun H locs hP hD hS => ?_)
          have hP : va_P D vwCl (cw_M_number G a_t a_lengths a_text a_parent a_owner a_sort a_aim a_indexClass a_indexPath a_classes1 a_dValues a_dSets a_dNames a_values a_sets a_names a_draft a_classOfQuestion a_split a_steps a_what a_one a_two a_opened a_openedAt a_stands a_variable a_truth a_rest a_loopAt a_loopFound a_hits v_classes v_fields v_begun v_indexes v_made v_slotted v_half v_open v_known v_fresh v_changed v_renamed v_down v_armed v_written v_logged v_marked v_logSize v_drafted v_questions v_now (v_at_42 + 1) v_bad v_opens v_deep v_aimed v_truths v_loops v_valued v_value v_set v_latest v_fits v_total v_looked v_lengths v_text) H := hP
          have hD : va_D A (cw_M_number G a_t a_lengths a_text a_parent a_owner a_sort a_aim a_indexClass a_indexPath a_classes1 a_dValues a_dSets a_dNames a_values a_sets a_names a_draft a_classOfQuestion a_split a_steps a_what a_one a_two a_opened a_openedAt a_stands a_variable a_truth a_rest a_loopAt a_loopFound a_hits v_classes v_fields v_begun v_indexes v_made v_slotted v_half v_open v_known v_fresh v_changed v_renamed v_down v_armed v_written v_logged v_marked v_logSize v_drafted v_questions v_now (v_at_42 + 1) v_bad v_opens v_deep v_aimed v_truths v_loops v_valued v_value v_set v_latest v_fits v_total v_looked v_lengths v_text) := hD
          refine lv_goto (tgt := 42) hx hb d_M_number_96 (by decide) ?_
          exact ih42 x42_1 (((10 * x42_2) + o73.toInt64) - 48) (x42_4 + 1) (v_at_42 + 1) ls H locs (lv_sub hl [2, 3, 1, 0] rfl) hP hD hS hf
  have blk33 : ∀ (x33_1 : Int32) (y33_0 : Int32) (y33_1 : Int32) (v_at_33 : Int32) (ls : Array Slot) (H : Heap) (locs : List Loc), lv_has ls 5 [(0, .ref a_t), (1, .int x33_1)] → va_P D vwCl (cw_M_number G a_t a_lengths a_text a_parent a_owner a_sort a_aim a_indexClass a_indexPath a_classes1 a_dValues a_dSets a_dNames a_values a_sets a_names a_draft a_classOfQuestion a_split a_steps a_what a_one a_two a_opened a_openedAt a_stands a_variable a_truth a_rest a_loopAt a_loopFound a_hits v_classes v_fields v_begun v_indexes v_made v_slotted v_half v_open v_known v_fresh v_changed v_renamed v_down v_armed v_written v_logged v_marked v_logSize v_drafted v_questions v_now v_at_33 v_bad v_opens v_deep v_aimed v_truths v_loops v_valued v_value v_set v_latest v_fits v_total v_looked v_lengths v_text) H → va_D A (cw_M_number G a_t a_lengths a_text a_parent a_owner a_sort a_aim a_indexClass a_indexPath a_classes1 a_dValues a_dSets a_dNames a_values a_sets a_names a_draft a_classOfQuestion a_split a_steps a_what a_one a_two a_opened a_openedAt a_stands a_variable a_truth a_rest a_loopAt a_loopFound a_hits v_classes v_fields v_begun v_indexes v_made v_slotted v_half v_open v_known v_fresh v_changed v_renamed v_down v_armed v_written v_logged v_marked v_logSize v_drafted v_questions v_now v_at_33 v_bad v_opens v_deep v_aimed v_truths v_loops v_valued v_value v_set v_latest v_fits v_total v_looked v_lengths v_text) → va_S A s.heap H locs → f_M_number_J33 v_now v_lengths v_text x33_1 y33_0 y33_1 v_at_33 = some o → W p l e ({ frames := 1, cells := 0, slots := 0, locals := 21 }) s m ([.ref a_t] : List Value).toArray below meth c H locs 0 0 Q (F0 m 33 ls [.int y33_0, .int y33_1, .ref a_t]) := by
    intro x33_1 y33_0 y33_1 v_at_33 ls H locs hl hP hD hS hf
    unfold f_M_number_J33 at hf
    refine lv_iadd hx hb d_M_number_33 ?_
    refine va_put (D := D) (ci := 11) (v := .int (y33_1 + y33_0)) (ty := .int) (C := "ObjectBaseModel") (T := TC_M) (N := 66) hx hb hts inC_M tyC_M tyC_M_ok nmC_M hown hK hP hD hS 0 rfl rfl 43 (by decide) (hts _ tw830) (fun _ h9 => h9) rfl (by decide +kernel) rfl rfl (Nat.le_of_ble_eq_true rfl) d_M_number_34 (fun H locs hP hD hS => ?_)
    have hP : va_P D vwCl (cw_M_number G a_t a_lengths a_text a_parent a_owner a_sort a_aim a_indexClass a_indexPath a_classes1 a_dValues a_dSets a_dNames a_values a_sets a_names a_draft a_classOfQuestion a_split a_steps a_what a_one a_two a_opened a_openedAt a_stands a_variable a_truth a_rest a_loopAt a_loopFound a_hits v_classes v_fields v_begun v_indexes v_made v_slotted v_half v_open v_known v_fresh v_changed v_renamed v_down v_armed v_written v_logged v_marked v_logSize v_drafted v_questions v_now (y33_1 + y33_0) v_bad v_opens v_deep v_aimed v_truths v_loops v_valued v_value v_set v_latest v_fits v_total v_looked v_lengths v_text) H := hP
    have hD : va_D A (cw_M_number G a_t a_lengths a_text a_parent a_owner a_sort a_aim a_indexClass a_indexPath a_classes1 a_dValues a_dSets a_dNames a_values a_sets a_names a_draft a_classOfQuestion a_split a_steps a_what a_one a_two a_opened a_openedAt a_stands a_variable a_truth a_rest a_loopAt a_loopFound a_hits v_classes v_fields v_begun v_indexes v_made v_slotted v_half v_open v_known v_fresh v_changed v_renamed v_down v_armed v_written v_logged v_marked v_logSize v_drafted v_questions v_now (y33_1 + y33_0) v_bad v_opens v_deep v_aimed v_truths v_loops v_valued v_value v_set v_latest v_fits v_total v_looked v_lengths v_text) := hD
    refine lv_lconst (v := 0) hx hb d_M_number_37 (by decide) ?_
    refine lv_lstore_n (lv' := [(2, .long 0), (0, .ref a_t), (1, .int x33_1)]) hx hb d_M_number_38 rfl hl (by decide) rfl (fun ls hl => ?_)
    refine lv_iconst (v := 0) hx hb d_M_number_39 (by decide) ?_
    refine lv_istore (lv' := [(4, .int 0), (2, .long 0), (0, .ref a_t), (1, .int x33_1)]) hx hb d_M_number_40 hl (by decide) rfl (fun ls hl => ?_)
    exact loop42 1000 x33_1 0 0 (y33_1 + y33_0) ls H locs (lv_sub hl [2, 3, 1, 0] rfl) hP hD hS hf
  have blk18 : ∀ (y18_0 : Int32) (v_at_18 : Int32) (ls : Array Slot) (H : Heap) (locs : List Loc), lv_has ls 5 [(0, .ref a_t)] → va_P D vwCl (cw_M_number G a_t a_lengths a_text a_parent a_owner a_sort a_aim a_indexClass a_indexPath a_classes1 a_dValues a_dSets a_dNames a_values a_sets a_names a_draft a_classOfQuestion a_split a_steps a_what a_one a_two a_opened a_openedAt a_stands a_variable a_truth a_rest a_loopAt a_loopFound a_hits v_classes v_fields v_begun v_indexes v_made v_slotted v_half v_open v_known v_fresh v_changed v_renamed v_down v_armed v_written v_logged v_marked v_logSize v_drafted v_questions v_now v_at_18 v_bad v_opens v_deep v_aimed v_truths v_loops v_valued v_value v_set v_latest v_fits v_total v_looked v_lengths v_text) H → va_D A (cw_M_number G a_t a_lengths a_text a_parent a_owner a_sort a_aim a_indexClass a_indexPath a_classes1 a_dValues a_dSets a_dNames a_values a_sets a_names a_draft a_classOfQuestion a_split a_steps a_what a_one a_two a_opened a_openedAt a_stands a_variable a_truth a_rest a_loopAt a_loopFound a_hits v_classes v_fields v_begun v_indexes v_made v_slotted v_half v_open v_known v_fresh v_changed v_renamed v_down v_armed v_written v_logged v_marked v_logSize v_drafted v_questions v_now v_at_18 v_bad v_opens v_deep v_aimed v_truths v_loops v_valued v_value v_set v_latest v_fits v_total v_looked v_lengths v_text) → va_S A s.heap H locs → f_M_number_J18 v_now v_lengths v_text y18_0 v_at_18 = some o → W p l e ({ frames := 1, cells := 0, slots := 0, locals := 21 }) s m ([.ref a_t] : List Value).toArray below meth c H locs 0 0 Q (F0 m 18 ls [.int y18_0]) := by
    intro y18_0 v_at_18 ls H locs hl hP hD hS hf
    unfold f_M_number_J18 at hf
    refine lv_istore_n (lv' := [(1, .int y18_0), (0, .ref a_t)]) hx hb d_M_number_18 rfl hl (by decide) rfl (fun ls hl => ?_)
    refine lv_aload_n hx hb d_M_number_19 rfl (lv_at hl 1 rfl) ?_
    refine lv_dup hx hb d_M_number_20 rfl ?_
    refine va_get (D := D) (ci := 11) (v := .int v_at_18) (C := "ObjectBaseModel") (T := TC_M) (N := 66) hx hb hts inC_M hown hK hP 0 rfl rfl 43 (by decide) (hts _ tw830) (fun _ h9 => h9) rfl d_M_number_21 ?_
    refine lv_iload_n hx hb d_M_number_24 rfl (lv_at hl 0 rfl) ?_
    refine lv_if_eq (tgt := 32) hx hb d_M_number_25 (by decide) (fun hc25 => ?_) (fun hc25 => ?_)
    · have hf := ob_t hc25 hf
      refine lv_iconst (v := 0) hx hb d_M_number_32 (by decide) ?_
      exact blk33 y18_0 0 v_at_18 v_at_18 ls H locs (lv_sub hl [1, 0] rfl) hP hD hS hf
    · have hf := ob_f hc25 hf
      refine lv_iconst (v := 1) hx hb d_M_number_28 (by decide) ?_
      refine lv_goto (tgt := 33) hx hb d_M_number_29 (by decide) ?_
      exact blk33 y18_0 1 v_at_18 v_at_18 ls H locs (lv_sub hl [1, 0] rfl) hP hD hS hf
  refine lv_aload_n hx hb d_M_number_0 rfl (lv_at hl 0 rfl) ?_
  refine lv_aload_n hx hb d_M_number_1 rfl (lv_at hl 0 rfl) ?_
  refine va_get (D := D) (ci := 11) (v := .int v_at) (C := "ObjectBaseModel") (T := TC_M) (N := 66) hx hb hts inC_M hown hK hP 0 rfl rfl 43 (by decide) (hts _ tw830) (fun _ h9 => h9) rfl d_M_number_2 ?_
  obtain ⟨o5, ho5, hf⟩ := ob_b hf
  refine ob_calli (w2 := (cw_M_number G a_t a_lengths a_text a_parent a_owner a_sort a_aim a_indexClass a_indexPath a_classes1 a_dValues a_dSets a_dNames a_values a_sets a_names a_draft a_classOfQuestion a_split a_steps a_what a_one a_two a_opened a_openedAt a_stands a_variable a_truth a_rest a_loopAt a_loopFound a_hits v_classes v_fields v_begun v_indexes v_made v_slotted v_half v_open v_known v_fresh v_changed v_renamed v_down v_armed v_written v_logged v_marked v_logSize v_drafted v_questions v_now v_at v_bad v_opens v_deep v_aimed v_truths v_loops v_valued v_value v_set v_latest v_fits v_total v_looked v_lengths v_text)) (va_runV (As := [.int v_at]) (rest := []) ⟨hx, hb, hml, hown, hts⟩ (c_M_charAt l D G a_t a_lengths a_text a_parent a_owner a_sort a_aim a_indexClass a_indexPath a_classes1 a_dValues a_dSets a_dNames a_values a_sets a_names a_draft a_classOfQuestion a_split a_steps a_what a_one a_two a_opened a_openedAt a_stands a_variable a_truth a_rest a_loopAt a_loopFound a_hits v_classes v_fields v_begun v_indexes v_made v_slotted v_half v_open v_known v_fresh v_changed v_renamed v_down v_armed v_written v_logged v_marked v_logSize v_drafted v_questions v_now v_at v_bad v_opens v_deep v_aimed v_truths v_loops v_valued v_value v_set v_latest v_fits v_total v_looked v_lengths v_text v_at o5 ho5 H.size) (cwV 1 hts (gV tw1136 tw1138 tp40 tw11 tw1139) rfl rfl rfl (by decide +kernel) ⟨Nat.le_of_ble_eq_true rfl, Nat.le_of_ble_eq_true rfl⟩) (ob_preV (q0 := 0) (ci := 11) hZ hK hP hD [0, 1, 2] rfl rfl rfl rfl rfl) rfl rfl hl.1 rfl (lv_room (Nat.le_of_ble_eq_true rfl)) d_M_number_5 ⟨Nat.le_refl _, Nat.le_refl _⟩) hP hD hA hS [0, 1, 2] rfl rfl rfl rfl (fun H locs hP hD hS => ?_)
  refine lv_bipush (v := 45) hx hb d_M_number_8 (by decide) ?_
  refine lv_icmp_ne (tgt := 17) hx hb d_M_number_10 (by decide) (fun hc10 => ?_) (fun hc10 => ?_)
  · have hf := ob_f hc10 hf
    refine lv_iconst (v := 0) hx hb d_M_number_17 (by decide) ?_
    exact blk18 0 v_at ls H locs (lv_sub hl [0] rfl) hP hD hS hf
  · have hf := ob_t hc10 hf
    refine lv_iconst (v := 1) hx hb d_M_number_13 (by decide) ?_
    refine lv_goto (tgt := 18) hx hb d_M_number_14 (by decide) ?_
    exact blk18 1 v_at ls H locs (lv_sub hl [0] rfl) hP hD hS hf
