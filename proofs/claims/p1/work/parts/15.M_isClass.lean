abbrev bc_M_isClass : ByteArray := prog_13_method_2_code
abbrev y_M_isClass : MethodName := ⟨"ObjectBaseModel", "isClass", "(I)Z"⟩
def ws_M_isClass : List Cond := .code y_M_isClass bc_M_isClass 2 (some .boolean) :: obW
theorem d_M_isClass_0 : decode bc_M_isClass 0 = .ok (.iload_n 1, 1) := by decide +kernel
theorem d_M_isClass_1 : decode bc_M_isClass 1 = .ok (.iconst 1, 1) := by decide +kernel
theorem d_M_isClass_2 : decode bc_M_isClass 2 = .ok (.if_icmp .lt 15, 3) := by decide +kernel
theorem d_M_isClass_5 : decode bc_M_isClass 5 = .ok (.iload_n 1, 1) := by decide +kernel
theorem d_M_isClass_6 : decode bc_M_isClass 6 = .ok (.aload_n 0, 1) := by decide +kernel
theorem d_M_isClass_7 : decode bc_M_isClass 7 = .ok (.getfield 109, 3) := by decide +kernel
theorem d_M_isClass_10 : decode bc_M_isClass 10 = .ok (.if_icmp .gt 7, 3) := by decide +kernel
theorem d_M_isClass_13 : decode bc_M_isClass 13 = .ok (.iconst 1, 1) := by decide +kernel
theorem d_M_isClass_14 : decode bc_M_isClass 14 = .ok (.goto 4, 3) := by decide +kernel
theorem d_M_isClass_17 : decode bc_M_isClass 17 = .ok (.iconst 0, 1) := by decide +kernel
theorem d_M_isClass_18 : decode bc_M_isClass 18 = .ok (.ireturn, 1) := by decide +kernel
def cw_M_isClass (G : Nat → ClassId) (a_t a_parent a_owner a_sort a_aim a_indexClass a_indexPath a_classes1 a_dValues a_dSets a_dNames a_values a_sets a_names a_draft a_lengths a_text a_classOfQuestion a_split a_steps a_what a_one a_two a_opened a_openedAt a_stands a_variable a_truth a_rest a_loopAt a_loopFound a_hits : Nat) (v_classes : Int32) (v_fields : Int32) (v_begun : Int32) (v_indexes : Int32) (v_made : Int32) (v_slotted : Int64) (v_half : Int32) (v_open : Int32) (v_known : Int64) (v_fresh : Int64) (v_changed : Int64) (v_renamed : Int32) (v_down : Int32) (v_armed : Int32) (v_written : Int32) (v_logged : Int32) (v_marked : Int32) (v_logSize : Int32) (v_drafted : Int32) (v_questions : Int32) (v_now : Int32) (v_at : Int32) (v_bad : Int32) (v_opens : Int32) (v_deep : Int32) (v_aimed : Int32) (v_truths : Int32) (v_loops : Int32) (v_valued : Int32) (v_value : Int32) (v_set : Int64) (v_latest : Int32) (v_fits : Int32) (v_total : Int64) (v_looked : Int32) : va_W := [(a_t, .inr (11, [.int v_classes, .ref a_parent, .int v_fields, .ref a_owner, .ref a_sort, .ref a_aim, .int v_begun, .int v_indexes, .ref a_indexClass, .ref a_indexPath, .int v_made, .ref a_classes1, .ref a_dValues, .ref a_dSets, .ref a_dNames, .ref a_values, .ref a_sets, .ref a_names, .long v_slotted, .int v_half, .int v_open, .long v_known, .long v_fresh, .long v_changed, .int v_renamed, .int v_down, .int v_armed, .int v_written, .int v_logged, .int v_marked, .int v_logSize, .int v_drafted, .ref a_draft, .int v_questions, .ref a_lengths, .ref a_text, .ref a_classOfQuestion, .ref a_split, .ref a_steps, .ref a_what, .ref a_one, .ref a_two, .int v_now, .int v_at, .int v_bad, .int v_opens, .ref a_opened, .ref a_openedAt, .int v_deep, .int v_aimed, .ref a_stands, .ref a_variable, .int v_truths, .ref a_truth, .int v_loops, .ref a_rest, .ref a_loopAt, .ref a_loopFound, .int v_valued, .int v_value, .long v_set, .int v_latest, .int v_fits, .ref a_hits, .long v_total, .int v_looked]))]
def f_M_isClass (v_classes : Int32) (p1 : Int32) : Option (Int32) := if p1 < 1 then (some 0) else (if v_classes < p1 then (some 0) else (some 1))
set_option maxHeartbeats 4000000 in
set_option maxRecDepth 100000 in
theorem c_M_isClass (l : Launch) (D : va_G) (G : Nat → ClassId) (a_t a_parent a_owner a_sort a_aim a_indexClass a_indexPath a_classes1 a_dValues a_dSets a_dNames a_values a_sets a_names a_draft a_lengths a_text a_classOfQuestion a_split a_steps a_what a_one a_two a_opened a_openedAt a_stands a_variable a_truth a_rest a_loopAt a_loopFound a_hits : Nat) (v_classes : Int32) (v_fields : Int32) (v_begun : Int32) (v_indexes : Int32) (v_made : Int32) (v_slotted : Int64) (v_half : Int32) (v_open : Int32) (v_known : Int64) (v_fresh : Int64) (v_changed : Int64) (v_renamed : Int32) (v_down : Int32) (v_armed : Int32) (v_written : Int32) (v_logged : Int32) (v_marked : Int32) (v_logSize : Int32) (v_drafted : Int32) (v_questions : Int32) (v_now : Int32) (v_at : Int32) (v_bad : Int32) (v_opens : Int32) (v_deep : Int32) (v_aimed : Int32) (v_truths : Int32) (v_loops : Int32) (v_valued : Int32) (v_value : Int32) (v_set : Int64) (v_latest : Int32) (v_fits : Int32) (v_total : Int64) (v_looked : Int32) (p1 : Int32) (o : Int32) (hf : f_M_isClass v_classes p1 = some o) (sz : Nat) : MetI l y_M_isClass ws_M_isClass ({ frames := 0, cells := 0, slots := 0, locals := 0 }) D (obT G) (cw_M_isClass G a_t a_parent a_owner a_sort a_aim a_indexClass a_indexPath a_classes1 a_dValues a_dSets a_dNames a_values a_sets a_names a_draft a_lengths a_text a_classOfQuestion a_split a_steps a_what a_one a_two a_opened a_openedAt a_stands a_variable a_truth a_rest a_loopAt a_loopFound a_hits v_classes v_fields v_begun v_indexes v_made v_slotted v_half v_open v_known v_fresh v_changed v_renamed v_down v_armed v_written v_logged v_marked v_logSize v_drafted v_questions v_now v_at v_bad v_opens v_deep v_aimed v_truths v_loops v_valued v_value v_set v_latest v_fits v_total v_looked) (cw_M_isClass G a_t a_parent a_owner a_sort a_aim a_indexClass a_indexPath a_classes1 a_dValues a_dSets a_dNames a_values a_sets a_names a_draft a_lengths a_text a_classOfQuestion a_split a_steps a_what a_one a_two a_opened a_openedAt a_stands a_variable a_truth a_rest a_loopAt a_loopFound a_hits v_classes v_fields v_begun v_indexes v_made v_slotted v_half v_open v_known v_fresh v_changed v_renamed v_down v_armed v_written v_logged v_marked v_logSize v_drafted v_questions v_now v_at v_bad v_opens v_deep v_aimed v_truths v_loops v_valued v_value v_set v_latest v_fits v_total v_looked) [.ref a_t, .int p1] o sz := by
  refine ob_of (cc := bc_M_isClass) (maxL := 2) (ret := (some .boolean)) (Qc := ObQi D (obT G) (cw_M_isClass G a_t a_parent a_owner a_sort a_aim a_indexClass a_indexPath a_classes1 a_dValues a_dSets a_dNames a_values a_sets a_names a_draft a_lengths a_text a_classOfQuestion a_split a_steps a_what a_one a_two a_opened a_openedAt a_stands a_variable a_truth a_rest a_loopAt a_loopFound a_hits v_classes v_fields v_begun v_indexes v_made v_slotted v_half v_open v_known v_fresh v_changed v_renamed v_down v_armed v_written v_logged v_marked v_logSize v_drafted v_questions v_now v_at v_bad v_opens v_deep v_aimed v_truths v_loops v_valued v_value v_set v_latest v_fits v_total v_looked) o) (by decide) rfl (Nat.le_of_ble_eq_true rfl) ?_
  intro p e s m below meth c A ls H locs hx hb hr hml hts hown hlk hnm hZ hP hK hD hA hS hl
  have hret : ∀ (o' : Int32) (H : Heap) (locs : List Loc) (pc : Nat) (ls : Array Slot), some o' = some o → va_P D vwCl (cw_M_isClass G a_t a_parent a_owner a_sort a_aim a_indexClass a_indexPath a_classes1 a_dValues a_dSets a_dNames a_values a_sets a_names a_draft a_lengths a_text a_classOfQuestion a_split a_steps a_what a_one a_two a_opened a_openedAt a_stands a_variable a_truth a_rest a_loopAt a_loopFound a_hits v_classes v_fields v_begun v_indexes v_made v_slotted v_half v_open v_known v_fresh v_changed v_renamed v_down v_armed v_written v_logged v_marked v_logSize v_drafted v_questions v_now v_at v_bad v_opens v_deep v_aimed v_truths v_loops v_valued v_value v_set v_latest v_fits v_total v_looked) H → va_D A (cw_M_isClass G a_t a_parent a_owner a_sort a_aim a_indexClass a_indexPath a_classes1 a_dValues a_dSets a_dNames a_values a_sets a_names a_draft a_lengths a_text a_classOfQuestion a_split a_steps a_what a_one a_two a_opened a_openedAt a_stands a_variable a_truth a_rest a_loopAt a_loopFound a_hits v_classes v_fields v_begun v_indexes v_made v_slotted v_half v_open v_known v_fresh v_changed v_renamed v_down v_armed v_written v_logged v_marked v_logSize v_drafted v_questions v_now v_at v_bad v_opens v_deep v_aimed v_truths v_loops v_valued v_value v_set v_latest v_fits v_total v_looked) → va_S A s.heap H locs → narrow .boolean (.int o') = .int o' → decode bc_M_isClass pc = .ok (.ireturn, 1) → W p l e { frames := 0, cells := 0, slots := 0, locals := 0 } s m ([.ref a_t, .int p1] : List Value).toArray below meth c H locs 0 0 (MQ below (ObQi D (obT G) (cw_M_isClass G a_t a_parent a_owner a_sort a_aim a_indexClass a_indexPath a_classes1 a_dValues a_dSets a_dNames a_values a_sets a_names a_draft a_lengths a_text a_classOfQuestion a_split a_steps a_what a_one a_two a_opened a_openedAt a_stands a_variable a_truth a_rest a_loopAt a_loopFound a_hits v_classes v_fields v_begun v_indexes v_made v_slotted v_half v_open v_known v_fresh v_changed v_renamed v_down v_armed v_written v_logged v_marked v_logSize v_drafted v_questions v_now v_at v_bad v_opens v_deep v_aimed v_truths v_loops v_valued v_value v_set v_latest v_fits v_total v_looked) o A) ([.ref a_t, .int p1] : List Value).toArray s 0 0 A) (F0 m pc ls [.int o']) := by
    intro o' H locs pc ls he hP hD hS hn hd
    obtain rfl := Option.some.inj he
    exact ob_iret hx hb hr hlk hK hP hD hS hn hd
  generalize MQ below (ObQi D (obT G) (cw_M_isClass G a_t a_parent a_owner a_sort a_aim a_indexClass a_indexPath a_classes1 a_dValues a_dSets a_dNames a_values a_sets a_names a_draft a_lengths a_text a_classOfQuestion a_split a_steps a_what a_one a_two a_opened a_openedAt a_stands a_variable a_truth a_rest a_loopAt a_loopFound a_hits v_classes v_fields v_begun v_indexes v_made v_slotted v_half v_open v_known v_fresh v_changed v_renamed v_down v_armed v_written v_logged v_marked v_logSize v_drafted v_questions v_now v_at v_bad v_opens v_deep v_aimed v_truths v_loops v_valued v_value v_set v_latest v_fits v_total v_looked) o A) ([.ref a_t, .int p1] : List Value).toArray s 0 0 A = Q at hret ⊢
  have hl : lv_has ls 2 [(0, .ref a_t), (1, .int p1)] := hl
  unfold f_M_isClass at hf
  refine lv_iload_n hx hb d_M_isClass_0 rfl (lv_at hl 1 rfl) ?_
  refine lv_iconst (v := 1) hx hb d_M_isClass_1 (by decide) ?_
  refine lv_icmp_lt (tgt := 17) hx hb d_M_isClass_2 (by decide) (fun hc2 => ?_) (fun hc2 => ?_)
  · have hf := ob_t hc2 hf
    refine lv_iconst (v := 0) hx hb d_M_isClass_17 (by decide) ?_
    exact hret 0 H locs _ ls hf hP hD hS narrow_b0 d_M_isClass_18
  · have hf := ob_f hc2 hf
    refine lv_iload_n hx hb d_M_isClass_5 rfl (lv_at hl 1 rfl) ?_
    refine lv_aload_n hx hb d_M_isClass_6 rfl (lv_at hl 0 rfl) ?_
    refine va_get (D := D) (ci := 11) (v := .int v_classes) (C := "ObjectBaseModel") (T := TC_M) (N := 66) hx hb hts inC_M hown hK hP 0 rfl rfl 0 (by decide) (hts _ tw787) (fun _ h9 => h9) rfl d_M_isClass_7 ?_
    refine lv_icmp_gt (tgt := 17) hx hb d_M_isClass_10 (by decide) (fun hc10 => ?_) (fun hc10 => ?_)
    · have hf := ob_t hc10 hf
      refine lv_iconst (v := 0) hx hb d_M_isClass_17 (by decide) ?_
      exact hret 0 H locs _ ls hf hP hD hS narrow_b0 d_M_isClass_18
    · have hf := ob_f hc10 hf
      refine lv_iconst (v := 1) hx hb d_M_isClass_13 (by decide) ?_
      refine lv_goto (tgt := 18) hx hb d_M_isClass_14 (by decide) ?_
      exact hret 1 H locs _ ls hf hP hD hS narrow_b1 d_M_isClass_18
abbrev bc_M_is : ByteArray := prog_13_method_3_code
abbrev y_M_is : MethodName := ⟨"ObjectBaseModel", "is", "(II)Z"⟩
def ws_M_is : List Cond := .code y_M_is bc_M_is 5 (some .boolean) :: obW
theorem d_M_is_0 : decode bc_M_is 0 = .ok (.iload_n 1, 1) := by decide +kernel
theorem d_M_is_1 : decode bc_M_is 1 = .ok (.istore_n 3, 1) := by decide +kernel
theorem d_M_is_2 : decode bc_M_is 2 = .ok (.iconst 0, 1) := by decide +kernel
theorem d_M_is_3 : decode bc_M_is 3 = .ok (.istore 4, 2) := by decide +kernel
theorem d_M_is_5 : decode bc_M_is 5 = .ok (.iload 4, 2) := by decide +kernel
theorem d_M_is_7 : decode bc_M_is 7 = .ok (.bipush 6, 2) := by decide +kernel
theorem d_M_is_9 : decode bc_M_is 9 = .ok (.if_icmp .ge 25, 3) := by decide +kernel
theorem d_M_is_12 : decode bc_M_is 12 = .ok (.iload_n 3, 1) := by decide +kernel
theorem d_M_is_13 : decode bc_M_is 13 = .ok (.ifCond .eq 21, 3) := by decide +kernel
theorem d_M_is_16 : decode bc_M_is 16 = .ok (.iload_n 3, 1) := by decide +kernel
theorem d_M_is_17 : decode bc_M_is 17 = .ok (.iload_n 2, 1) := by decide +kernel
theorem d_M_is_18 : decode bc_M_is 18 = .ok (.if_icmp .eq 16, 3) := by decide +kernel
theorem d_M_is_21 : decode bc_M_is 21 = .ok (.aload_n 0, 1) := by decide +kernel
theorem d_M_is_22 : decode bc_M_is 22 = .ok (.getfield 7, 3) := by decide +kernel
theorem d_M_is_25 : decode bc_M_is 25 = .ok (.iload_n 3, 1) := by decide +kernel
theorem d_M_is_26 : decode bc_M_is 26 = .ok (.iaload, 1) := by decide +kernel
theorem d_M_is_27 : decode bc_M_is 27 = .ok (.istore_n 3, 1) := by decide +kernel
theorem d_M_is_28 : decode bc_M_is 28 = .ok (.iinc 4 1, 3) := by decide +kernel
theorem d_M_is_31 : decode bc_M_is 31 = .ok (.goto (-26), 3) := by decide +kernel
theorem d_M_is_34 : decode bc_M_is 34 = .ok (.iload_n 1, 1) := by decide +kernel
theorem d_M_is_35 : decode bc_M_is 35 = .ok (.ifCond .eq 12, 3) := by decide +kernel
theorem d_M_is_38 : decode bc_M_is 38 = .ok (.iload_n 3, 1) := by decide +kernel
theorem d_M_is_39 : decode bc_M_is 39 = .ok (.iload_n 2, 1) := by decide +kernel
theorem d_M_is_40 : decode bc_M_is 40 = .ok (.if_icmp .ne 7, 3) := by decide +kernel
theorem d_M_is_43 : decode bc_M_is 43 = .ok (.iconst 1, 1) := by decide +kernel
theorem d_M_is_44 : decode bc_M_is 44 = .ok (.goto 4, 3) := by decide +kernel
theorem d_M_is_47 : decode bc_M_is 47 = .ok (.iconst 0, 1) := by decide +kernel
theorem d_M_is_48 : decode bc_M_is 48 = .ok (.ireturn, 1) := by decide +kernel
def cw_M_is (G : Nat → ClassId) (a_t a_parent a_owner a_sort a_aim a_indexClass a_indexPath a_classes1 a_dValues a_dSets a_dNames a_values a_sets a_names a_draft a_lengths a_text a_classOfQuestion a_split a_steps a_what a_one a_two a_opened a_openedAt a_stands a_variable a_truth a_rest a_loopAt a_loopFound a_hits : Nat) (v_classes : Int32) (v_fields : Int32) (v_begun : Int32) (v_indexes : Int32) (v_made : Int32) (v_slotted : Int64) (v_half : Int32) (v_open : Int32) (v_known : Int64) (v_fresh : Int64) (v_changed : Int64) (v_renamed : Int32) (v_down : Int32) (v_armed : Int32) (v_written : Int32) (v_logged : Int32) (v_marked : Int32) (v_logSize : Int32) (v_drafted : Int32) (v_questions : Int32) (v_now : Int32) (v_at : Int32) (v_bad : Int32) (v_opens : Int32) (v_deep : Int32) (v_aimed : Int32) (v_truths : Int32) (v_loops : Int32) (v_valued : Int32) (v_value : Int32) (v_set : Int64) (v_latest : Int32) (v_fits : Int32) (v_total : Int64) (v_looked : Int32) (v_parent : Nat → Int32) : va_W := [(a_t, .inr (11, [.int v_classes, .ref a_parent, .int v_fields, .ref a_owner, .ref a_sort, .ref a_aim, .int v_begun, .int v_indexes, .ref a_indexClass, .ref a_indexPath, .int v_made, .ref a_classes1, .ref a_dValues, .ref a_dSets, .ref a_dNames, .ref a_values, .ref a_sets, .ref a_names, .long v_slotted, .int v_half, .int v_open, .long v_known, .long v_fresh, .long v_changed, .int v_renamed, .int v_down, .int v_armed, .int v_written, .int v_logged, .int v_marked, .int v_logSize, .int v_drafted, .ref a_draft, .int v_questions, .ref a_lengths, .ref a_text, .ref a_classOfQuestion, .ref a_split, .ref a_steps, .ref a_what, .ref a_one, .ref a_two, .int v_now, .int v_at, .int v_bad, .int v_opens, .ref a_opened, .ref a_openedAt, .int v_deep, .int v_aimed, .ref a_stands, .ref a_variable, .int v_truths, .ref a_truth, .int v_loops, .ref a_rest, .ref a_loopAt, .ref a_loopFound, .int v_valued, .int v_value, .long v_set, .int v_latest, .int v_fits, .ref a_hits, .long v_total, .int v_looked])), (a_parent, .inl (G 0, 6, .inl v_parent))]
def f_M_is_J34 (p1 : Int32) (p2 : Int32) (x34_3 : Int32) : Option (Int32) := if p1 = 0 then (some 0) else (if x34_3 = p2 then (some 1) else (some 0))
def f_M_is_B5 (p1 : Int32) (p2 : Int32) (v_parent : Nat → Int32) (k5 : Int32 → Int32 → Option (Int32)) (x5_3 : Int32) (x5_4 : Int32) : Option (Int32) := if 6 ≤ x5_4 then (f_M_is_J34 p1 p2 x5_3) else (if x5_3 = 0 then (f_M_is_J34 p1 p2 x5_3) else (if x5_3 = p2 then (f_M_is_J34 p1 p2 x5_3) else (ob_iv x5_3 6 (k5 (v_parent x5_3.toNatClampNeg) (x5_4 + 1)))))
def f_M_is_L5 (p1 : Int32) (p2 : Int32) (v_parent : Nat → Int32) : Nat → Int32 → Int32 → Option (Int32) := ob_lp2 (f_M_is_B5 p1 p2 v_parent)
def f_M_is (v_parent : Nat → Int32) (p1 : Int32) (p2 : Int32) : Option (Int32) := f_M_is_L5 p1 p2 v_parent 1000 p1 0
set_option maxHeartbeats 4000000 in
set_option maxRecDepth 100000 in
theorem c_M_is (l : Launch) (D : va_G) (G : Nat → ClassId) (a_t a_parent a_owner a_sort a_aim a_indexClass a_indexPath a_classes1 a_dValues a_dSets a_dNames a_values a_sets a_names a_draft a_lengths a_text a_classOfQuestion a_split a_steps a_what a_one a_two a_opened a_openedAt a_stands a_variable a_truth a_rest a_loopAt a_loopFound a_hits : Nat) (v_classes : Int32) (v_fields : Int32) (v_begun : Int32) (v_indexes : Int32) (v_made : Int32) (v_slotted : Int64) (v_half : Int32) (v_open : Int32) (v_known : Int64) (v_fresh : Int64) (v_changed : Int64) (v_renamed : Int32) (v_down : Int32) (v_armed : Int32) (v_written : Int32) (v_logged : Int32) (v_marked : Int32) (v_logSize : Int32) (v_drafted : Int32) (v_questions : Int32) (v_now : Int32) (v_at : Int32) (v_bad : Int32) (v_opens : Int32) (v_deep : Int32) (v_aimed : Int32) (v_truths : Int32) (v_loops : Int32) (v_valued : Int32) (v_value : Int32) (v_set : Int64) (v_latest : Int32) (v_fits : Int32) (v_total : Int64) (v_looked : Int32) (v_parent : Nat → Int32) (p1 : Int32) (p2 : Int32) (o : Int32) (hf : f_M_is v_parent p1 p2 = some o) (sz : Nat) : MetI l y_M_is ws_M_is ({ frames := 0, cells := 0, slots := 0, locals := 0 }) D (obT G) (cw_M_is G a_t a_parent a_owner a_sort a_aim a_indexClass a_indexPath a_classes1 a_dValues a_dSets a_dNames a_values a_sets a_names a_draft a_lengths a_text a_classOfQuestion a_split a_steps a_what a_one a_two a_opened a_openedAt a_stands a_variable a_truth a_rest a_loopAt a_loopFound a_hits v_classes v_fields v_begun v_indexes v_made v_slotted v_half v_open v_known v_fresh v_changed v_renamed v_down v_armed v_written v_logged v_marked v_logSize v_drafted v_questions v_now v_at v_bad v_opens v_deep v_aimed v_truths v_loops v_valued v_value v_set v_latest v_fits v_total v_looked v_parent) (cw_M_is G a_t a_parent a_owner a_sort a_aim a_indexClass a_indexPath a_classes1 a_dValues a_dSets a_dNames a_values a_sets a_names a_draft a_lengths a_text a_classOfQuestion a_split a_steps a_what a_one a_two a_opened a_openedAt a_stands a_variable a_truth a_rest a_loopAt a_loopFound a_hits v_classes v_fields v_begun v_indexes v_made v_slotted v_half v_open v_known v_fresh v_changed v_renamed v_down v_armed v_written v_logged v_marked v_logSize v_drafted v_questions v_now v_at v_bad v_opens v_deep v_aimed v_truths v_loops v_valued v_value v_set v_latest v_fits v_total v_looked v_parent) [.ref a_t, .int p1, .int p2] o sz := by
  refine ob_of (cc := bc_M_is) (maxL := 5) (ret := (some .boolean)) (Qc := ObQi D (obT G) (cw_M_is G a_t a_parent a_owner a_sort a_aim a_indexClass a_indexPath a_classes1 a_dValues a_dSets a_dNames a_values a_sets a_names a_draft a_lengths a_text a_classOfQuestion a_split a_steps a_what a_one a_two a_opened a_openedAt a_stands a_variable a_truth a_rest a_loopAt a_loopFound a_hits v_classes v_fields v_begun v_indexes v_made v_slotted v_half v_open v_known v_fresh v_changed v_renamed v_down v_armed v_written v_logged v_marked v_logSize v_drafted v_questions v_now v_at v_bad v_opens v_deep v_aimed v_truths v_loops v_valued v_value v_set v_latest v_fits v_total v_looked v_parent) o) (by decide) rfl (Nat.le_of_ble_eq_true rfl) ?_
  intro p e s m below meth c A ls H locs hx hb hr hml hts hown hlk hnm hZ hP hK hD hA hS hl
  have hret : ∀ (o' : Int32) (H : Heap) (locs : List Loc) (pc : Nat) (ls : Array Slot), some o' = some o → va_P D vwCl (cw_M_is G a_t a_parent a_owner a_sort a_aim a_indexClass a_indexPath a_classes1 a_dValues a_dSets a_dNames a_values a_sets a_names a_draft a_lengths a_text a_classOfQuestion a_split a_steps a_what a_one a_two a_opened a_openedAt a_stands a_variable a_truth a_rest a_loopAt a_loopFound a_hits v_classes v_fields v_begun v_indexes v_made v_slotted v_half v_open v_known v_fresh v_changed v_renamed v_down v_armed v_written v_logged v_marked v_logSize v_drafted v_questions v_now v_at v_bad v_opens v_deep v_aimed v_truths v_loops v_valued v_value v_set v_latest v_fits v_total v_looked v_parent) H → va_D A (cw_M_is G a_t a_parent a_owner a_sort a_aim a_indexClass a_indexPath a_classes1 a_dValues a_dSets a_dNames a_values a_sets a_names a_draft a_lengths a_text a_classOfQuestion a_split a_steps a_what a_one a_two a_opened a_openedAt a_stands a_variable a_truth a_rest a_loopAt a_loopFound a_hits v_classes v_fields v_begun v_indexes v_made v_slotted v_half v_open v_known v_fresh v_changed v_renamed v_down v_armed v_written v_logged v_marked v_logSize v_drafted v_questions v_now v_at v_bad v_opens v_deep v_aimed v_truths v_loops v_valued v_value v_set v_latest v_fits v_total v_looked v_parent) → va_S A s.heap H locs → narrow .boolean (.int o') = .int o' → decode bc_M_is pc = .ok (.ireturn, 1) → W p l e { frames := 0, cells := 0, slots := 0, locals := 0 } s m ([.ref a_t, .int p1, .int p2] : List Value).toArray below meth c H locs 0 0 (MQ below (ObQi D (obT G) (cw_M_is G a_t a_parent a_owner a_sort a_aim a_indexClass a_indexPath a_classes1 a_dValues a_dSets a_dNames a_values a_sets a_names a_draft a_lengths a_text a_classOfQuestion a_split a_steps a_what a_one a_two a_opened a_openedAt a_stands a_variable a_truth a_rest a_loopAt a_loopFound a_hits v_classes v_fields v_begun v_indexes v_made v_slotted v_half v_open v_known v_fresh v_changed v_renamed v_down v_armed v_written v_logged v_marked v_logSize v_drafted v_questions v_now v_at v_bad v_opens v_deep v_aimed v_truths v_loops v_valued v_value v_set v_latest v_fits v_total v_looked v_parent) o A) ([.ref a_t, .int p1, .int p2] : List Value).toArray s 0 0 A) (F0 m pc ls [.int o']) := by
    intro o' H locs pc ls he hP hD hS hn hd
    obtain rfl := Option.some.inj he
    exact ob_iret hx hb hr hlk hK hP hD hS hn hd
  generalize MQ below (ObQi D (obT G) (cw_M_is G a_t a_parent a_owner a_sort a_aim a_indexClass a_indexPath a_classes1 a_dValues a_dSets a_dNames a_values a_sets a_names a_draft a_lengths a_text a_classOfQuestion a_split a_steps a_what a_one a_two a_opened a_openedAt a_stands a_variable a_truth a_rest a_loopAt a_loopFound a_hits v_classes v_fields v_begun v_indexes v_made v_slotted v_half v_open v_known v_fresh v_changed v_renamed v_down v_armed v_written v_logged v_marked v_logSize v_drafted v_questions v_now v_at v_bad v_opens v_deep v_aimed v_truths v_loops v_valued v_value v_set v_latest v_fits v_total v_looked v_parent) o A) ([.ref a_t, .int p1, .int p2] : List Value).toArray s 0 0 A = Q at hret ⊢
  have hl : lv_has ls 5 [(0, .ref a_t), (1, .int p1), (2, .int p2)] := hl
  unfold f_M_is at hf
  have blk34 : ∀ (x34_3 : Int32) (ls : Array Slot) (H : Heap) (locs : List Loc), lv_has ls 5 [(1, .int p1), (2, .int p2), (3, .int x34_3)] → va_P D vwCl (cw_M_is G a_t a_parent a_owner a_sort a_aim a_indexClass a_indexPath a_classes1 a_dValues a_dSets a_dNames a_values a_sets a_names a_draft a_lengths a_text a_classOfQuestion a_split a_steps a_what a_one a_two a_opened a_openedAt a_stands a_variable a_truth a_rest a_loopAt a_loopFound a_hits v_classes v_fields v_begun v_indexes v_made v_slotted v_half v_open v_known v_fresh v_changed v_renamed v_down v_armed v_written v_logged v_marked v_logSize v_drafted v_questions v_now v_at v_bad v_opens v_deep v_aimed v_truths v_loops v_valued v_value v_set v_latest v_fits v_total v_looked v_parent) H → va_D A (cw_M_is G a_t a_parent a_owner a_sort a_aim a_indexClass a_indexPath a_classes1 a_dValues a_dSets a_dNames a_values a_sets a_names a_draft a_lengths a_text a_classOfQuestion a_split a_steps a_what a_one a_two a_opened a_openedAt a_stands a_variable a_truth a_rest a_loopAt a_loopFound a_hits v_classes v_fields v_begun v_indexes v_made v_slotted v_half v_open v_known v_fresh v_changed v_renamed v_down v_armed v_written v_logged v_marked v_logSize v_drafted v_questions v_now v_at v_bad v_opens v_deep v_aimed v_truths v_loops v_valued v_value v_set v_latest v_fits v_total v_looked v_parent) → va_S A s.heap H locs → f_M_is_J34 p1 p2 x34_3 = some o → W p l e ({ frames := 0, cells := 0, slots := 0, locals := 0 }) s m ([.ref a_t, .int p1, .int p2] : List Value).toArray below meth c H locs 0 0 Q (F0 m 34 ls []) := by
    intro x34_3 ls H locs hl hP hD hS hf
    unfold f_M_is_J34 at hf
    refine lv_iload_n hx hb d_M_is_34 rfl (lv_at hl 0 rfl) ?_
    refine lv_if_eq (tgt := 47) hx hb d_M_is_35 (by decide) (fun hc35 => ?_) (fun hc35 => ?_)
    · have hf := ob_t hc35 hf
      refine lv_iconst (v := 0) hx hb d_M_is_47 (by decide) ?_
      exact hret 0 H locs _ ls hf hP hD hS narrow_b0 d_M_is_48
    · have hf := ob_f hc35 hf
      refine lv_iload_n hx hb d_M_is_38 rfl (lv_at hl 2 rfl) ?_
      refine lv_iload_n hx hb d_M_is_39 rfl (lv_at hl 1 rfl) ?_
      refine lv_icmp_ne (tgt := 47) hx hb d_M_is_40 (by decide) (fun hc40 => ?_) (fun hc40 => ?_)
      · have hf := ob_f hc40 hf
        refine lv_iconst (v := 0) hx hb d_M_is_47 (by decide) ?_
        exact hret 0 H locs _ ls hf hP hD hS narrow_b0 d_M_is_48
      · have hf := ob_t hc40 hf
        refine lv_iconst (v := 1) hx hb d_M_is_43 (by decide) ?_
        refine lv_goto (tgt := 48) hx hb d_M_is_44 (by decide) ?_
        exact hret 1 H locs _ ls hf hP hD hS narrow_b1 d_M_is_48
  have loop5 : ∀ (n5 : Nat) (x5_3 : Int32) (x5_4 : Int32) (ls : Array Slot) (H : Heap) (locs : List Loc), lv_has ls 5 [(0, .ref a_t), (1, .int p1), (2, .int p2), (3, .int x5_3), (4, .int x5_4)] → va_P D vwCl (cw_M_is G a_t a_parent a_owner a_sort a_aim a_indexClass a_indexPath a_classes1 a_dValues a_dSets a_dNames a_values a_sets a_names a_draft a_lengths a_text a_classOfQuestion a_split a_steps a_what a_one a_two a_opened a_openedAt a_stands a_variable a_truth a_rest a_loopAt a_loopFound a_hits v_classes v_fields v_begun v_indexes v_made v_slotted v_half v_open v_known v_fresh v_changed v_renamed v_down v_armed v_written v_logged v_marked v_logSize v_drafted v_questions v_now v_at v_bad v_opens v_deep v_aimed v_truths v_loops v_valued v_value v_set v_latest v_fits v_total v_looked v_parent) H → va_D A (cw_M_is G a_t a_parent a_owner a_sort a_aim a_indexClass a_indexPath a_classes1 a_dValues a_dSets a_dNames a_values a_sets a_names a_draft a_lengths a_text a_classOfQuestion a_split a_steps a_what a_one a_two a_opened a_openedAt a_stands a_variable a_truth a_rest a_loopAt a_loopFound a_hits v_classes v_fields v_begun v_indexes v_made v_slotted v_half v_open v_known v_fresh v_changed v_renamed v_down v_armed v_written v_logged v_marked v_logSize v_drafted v_questions v_now v_at v_bad v_opens v_deep v_aimed v_truths v_loops v_valued v_value v_set v_latest v_fits v_total v_looked v_parent) → va_S A s.heap H locs → f_M_is_L5 p1 p2 v_parent n5 x5_3 x5_4 = some o → W p l e ({ frames := 0, cells := 0, slots := 0, locals := 0 }) s m ([.ref a_t, .int p1, .int p2] : List Value).toArray below meth c H locs 0 0 Q (F0 m 5 ls []) := by
    intro n5
    induction n5 with
    | zero => intro x5_3 x5_4 ls H locs hl hP hD hS hf; exact ob_no hf
    | succ n5 ih5 =>
      intro x5_3 x5_4 ls H locs hl hP hD hS hf
      have hf : f_M_is_B5 p1 p2 v_parent (f_M_is_L5 p1 p2 v_parent n5) x5_3 x5_4 = some o := hf
      unfold f_M_is_B5 at hf
      refine lv_iload hx hb d_M_is_5 (lv_at hl 4 rfl) ?_
      refine lv_bipush (v := 6) hx hb d_M_is_7 (by decide) ?_
      refine lv_icmp_ge (tgt := 34) hx hb d_M_is_9 (by decide) (fun hc9 => ?_) (fun hc9 => ?_)
      · have hf := ob_t hc9 hf
        exact blk34 x5_3 ls H locs (lv_sub hl [1, 2, 3] rfl) hP hD hS hf
      · have hf := ob_f hc9 hf
        refine lv_iload_n hx hb d_M_is_12 rfl (lv_at hl 3 rfl) ?_
        refine lv_if_eq (tgt := 34) hx hb d_M_is_13 (by decide) (fun hc13 => ?_) (fun hc13 => ?_)
        · have hf := ob_t hc13 hf
          exact blk34 x5_3 ls H locs (lv_sub hl [1, 2, 3] rfl) hP hD hS hf
        · have hf := ob_f hc13 hf
          refine lv_iload_n hx hb d_M_is_16 rfl (lv_at hl 3 rfl) ?_
          refine lv_iload_n hx hb d_M_is_17 rfl (lv_at hl 2 rfl) ?_
          refine lv_icmp_eq (tgt := 34) hx hb d_M_is_18 (by decide) (fun hc18 => ?_) (fun hc18 => ?_)
          · have hf := ob_t hc18 hf
            exact blk34 x5_3 ls H locs (lv_sub hl [1, 2, 3] rfl) hP hD hS hf
          · have hf := ob_f hc18 hf
            refine lv_aload_n hx hb d_M_is_21 rfl (lv_at hl 0 rfl) ?_
            refine va_get (D := D) (ci := 11) (v := .ref a_parent) (C := "ObjectBaseModel") (T := TC_M) (N := 66) hx hb hts inC_M hown hK hP 0 rfl rfl 1 (by decide) (hts _ tw788) (fun _ h9 => h9) rfl d_M_is_22 ?_
            refine lv_iload_n hx hb d_M_is_25 rfl (lv_at hl 3 rfl) ?_
            obtain ⟨hg26, hf⟩ := ob_iv_g hf
            refine va_iald hx hb hK hP 1 0 rfl rfl hg26 d_M_is_26 ?_
            refine lv_istore_n (lv' := [(3, .int (v_parent x5_3.toNatClampNeg)), (0, .ref a_t), (1, .int p1), (2, .int p2), (4, .int x5_4)]) hx hb d_M_is_27 rfl hl (by decide) rfl (fun ls hl => ?_)
            refine lv_iinc (k := 4) (v := x5_4 + 1) (lv' := [(4, .int (x5_4 + 1)), (3, .int (v_parent x5_3.toNatClampNeg)), (0, .ref a_t), (1, .int p1), (2, .int p2)]) hx hb d_M_is_28 hl rfl (by rw [show Int32.ofInt 1 = (1 : Int32) from by decide]) (by decide) rfl (fun ls hl => ?_)
            refine lv_goto (tgt := 5) hx hb d_M_is_31 (by decide) ?_
            exact ih5 (v_parent x5_3.toNatClampNeg) (x5_4 + 1) ls H locs (lv_sub hl [2, 3, 4, 1, 0] rfl) hP hD hS hf
  refine lv_iload_n hx hb d_M_is_0 rfl (lv_at hl 1 rfl) ?_
  refine lv_istore_n (lv' := [(3, .int p1), (0, .ref a_t), (1, .int p1), (2, .int p2)]) hx hb d_M_is_1 rfl hl (by decide) rfl (fun ls hl => ?_)
  refine lv_iconst (v := 0) hx hb d_M_is_2 (by decide) ?_
  refine lv_istore (lv' := [(4, .int 0), (3, .int p1), (0, .ref a_t), (1, .int p1), (2, .int p2)]) hx hb d_M_is_3 hl (by decide) rfl (fun ls hl => ?_)
  exact loop5 1000 p1 0 ls H locs (lv_sub hl [2, 3, 4, 1, 0] rfl) hP hD hS hf
abbrev bc_M_type : ByteArray := prog_13_method_4_code
abbrev y_M_type : MethodName := ⟨"ObjectBaseModel", "type", "(I)I"⟩
def ws_M_type : List Cond := .code y_M_type bc_M_type 2 (some .int) :: obW
theorem d_M_type_0 : decode bc_M_type 0 = .ok (.aload_n 0, 1) := by decide +kernel
theorem d_M_type_1 : decode bc_M_type 1 = .ok (.getfield 112, 3) := by decide +kernel
theorem d_M_type_4 : decode bc_M_type 4 = .ok (.ifCond .eq 6, 3) := by decide +kernel
theorem d_M_type_7 : decode bc_M_type 7 = .ok (.bipush (-4), 2) := by decide +kernel
theorem d_M_type_9 : decode bc_M_type 9 = .ok (.ireturn, 1) := by decide +kernel
theorem d_M_type_10 : decode bc_M_type 10 = .ok (.iload_n 1, 1) := by decide +kernel
theorem d_M_type_11 : decode bc_M_type 11 = .ok (.ifCond .lt 26, 3) := by decide +kernel
theorem d_M_type_14 : decode bc_M_type 14 = .ok (.iload_n 1, 1) := by decide +kernel
theorem d_M_type_15 : decode bc_M_type 15 = .ok (.aload_n 0, 1) := by decide +kernel
theorem d_M_type_16 : decode bc_M_type 16 = .ok (.getfield 109, 3) := by decide +kernel
theorem d_M_type_19 : decode bc_M_type 19 = .ok (.if_icmp .gt 18, 3) := by decide +kernel
theorem d_M_type_22 : decode bc_M_type 22 = .ok (.aload_n 0, 1) := by decide +kernel
theorem d_M_type_23 : decode bc_M_type 23 = .ok (.getfield 109, 3) := by decide +kernel
theorem d_M_type_26 : decode bc_M_type 26 = .ok (.iconst 5, 1) := by decide +kernel
theorem d_M_type_27 : decode bc_M_type 27 = .ok (.if_icmp .eq 10, 3) := by decide +kernel
theorem d_M_type_30 : decode bc_M_type 30 = .ok (.aload_n 0, 1) := by decide +kernel
theorem d_M_type_31 : decode bc_M_type 31 = .ok (.getfield 116, 3) := by decide +kernel
theorem d_M_type_34 : decode bc_M_type 34 = .ok (.ifCond .eq 5, 3) := by decide +kernel
theorem d_M_type_37 : decode bc_M_type 37 = .ok (.iconst (-1), 1) := by decide +kernel
theorem d_M_type_38 : decode bc_M_type 38 = .ok (.ireturn, 1) := by decide +kernel
theorem d_M_type_39 : decode bc_M_type 39 = .ok (.aload_n 0, 1) := by decide +kernel
theorem d_M_type_40 : decode bc_M_type 40 = .ok (.dup, 1) := by decide +kernel
theorem d_M_type_41 : decode bc_M_type 41 = .ok (.getfield 109, 3) := by decide +kernel
theorem d_M_type_44 : decode bc_M_type 44 = .ok (.iconst 1, 1) := by decide +kernel
theorem d_M_type_45 : decode bc_M_type 45 = .ok (.iadd, 1) := by decide +kernel
theorem d_M_type_46 : decode bc_M_type 46 = .ok (.putfield 109, 3) := by decide +kernel
theorem d_M_type_49 : decode bc_M_type 49 = .ok (.aload_n 0, 1) := by decide +kernel
theorem d_M_type_50 : decode bc_M_type 50 = .ok (.getfield 7, 3) := by decide +kernel
theorem d_M_type_53 : decode bc_M_type 53 = .ok (.aload_n 0, 1) := by decide +kernel
theorem d_M_type_54 : decode bc_M_type 54 = .ok (.getfield 109, 3) := by decide +kernel
theorem d_M_type_57 : decode bc_M_type 57 = .ok (.iload_n 1, 1) := by decide +kernel
theorem d_M_type_58 : decode bc_M_type 58 = .ok (.iastore, 1) := by decide +kernel
theorem d_M_type_59 : decode bc_M_type 59 = .ok (.aload_n 0, 1) := by decide +kernel
theorem d_M_type_60 : decode bc_M_type 60 = .ok (.getfield 109, 3) := by decide +kernel
theorem d_M_type_63 : decode bc_M_type 63 = .ok (.ireturn, 1) := by decide +kernel
def cw_M_type (G : Nat → ClassId) (a_t a_parent a_owner a_sort a_aim a_indexClass a_indexPath a_classes1 a_dValues a_dSets a_dNames a_values a_sets a_names a_draft a_lengths a_text a_classOfQuestion a_split a_steps a_what a_one a_two a_opened a_openedAt a_stands a_variable a_truth a_rest a_loopAt a_loopFound a_hits : Nat) (v_classes : Int32) (v_fields : Int32) (v_begun : Int32) (v_indexes : Int32) (v_made : Int32) (v_slotted : Int64) (v_half : Int32) (v_open : Int32) (v_known : Int64) (v_fresh : Int64) (v_changed : Int64) (v_renamed : Int32) (v_down : Int32) (v_armed : Int32) (v_written : Int32) (v_logged : Int32) (v_marked : Int32) (v_logSize : Int32) (v_drafted : Int32) (v_questions : Int32) (v_now : Int32) (v_at : Int32) (v_bad : Int32) (v_opens : Int32) (v_deep : Int32) (v_aimed : Int32) (v_truths : Int32) (v_loops : Int32) (v_valued : Int32) (v_value : Int32) (v_set : Int64) (v_latest : Int32) (v_fits : Int32) (v_total : Int64) (v_looked : Int32) (v_parent : Nat → Int32) : va_W := [(a_t, .inr (11, [.int v_classes, .ref a_parent, .int v_fields, .ref a_owner, .ref a_sort, .ref a_aim, .int v_begun, .int v_indexes, .ref a_indexClass, .ref a_indexPath, .int v_made, .ref a_classes1, .ref a_dValues, .ref a_dSets, .ref a_dNames, .ref a_values, .ref a_sets, .ref a_names, .long v_slotted, .int v_half, .int v_open, .long v_known, .long v_fresh, .long v_changed, .int v_renamed, .int v_down, .int v_armed, .int v_written, .int v_logged, .int v_marked, .int v_logSize, .int v_drafted, .ref a_draft, .int v_questions, .ref a_lengths, .ref a_text, .ref a_classOfQuestion, .ref a_split, .ref a_steps, .ref a_what, .ref a_one, .ref a_two, .int v_now, .int v_at, .int v_bad, .int v_opens, .ref a_opened, .ref a_openedAt, .int v_deep, .int v_aimed, .ref a_stands, .ref a_variable, .int v_truths, .ref a_truth, .int v_loops, .ref a_rest, .ref a_loopAt, .ref a_loopFound, .int v_valued, .int v_value, .long v_set, .int v_latest, .int v_fits, .ref a_hits, .long v_total, .int v_looked])), (a_parent, .inl (G 0, 6, .inl v_parent))]
def f_M_type (v_classes : Int32) (v_begun : Int32) (v_down : Int32) (v_parent : Nat → Int32) (p1 : Int32) : Option (Int32 × Int32 × (Nat → Int32)) := if v_down = 0 then (if p1 < 0 then (some ((-1), v_classes, v_parent)) else (if v_classes < p1 then (some ((-1), v_classes, v_parent)) else (if v_classes = 5 then (some ((-1), v_classes, v_parent)) else (if v_begun = 0 then (ob_iv (v_classes + 1) 6 (some (v_classes + 1, v_classes + 1, upd v_parent (v_classes + 1).toNatClampNeg p1))) else (some ((-1), v_classes, v_parent)))))) else (some ((-4), v_classes, v_parent))
set_option maxHeartbeats 4000000 in
set_option maxRecDepth 100000 in
theorem c_M_type (l : Launch) (D : va_G) (G : Nat → ClassId) (a_t a_parent a_owner a_sort a_aim a_indexClass a_indexPath a_classes1 a_dValues a_dSets a_dNames a_values a_sets a_names a_draft a_lengths a_text a_classOfQuestion a_split a_steps a_what a_one a_two a_opened a_openedAt a_stands a_variable a_truth a_rest a_loopAt a_loopFound a_hits : Nat) (v_classes : Int32) (v_fields : Int32) (v_begun : Int32) (v_indexes : Int32) (v_made : Int32) (v_slotted : Int64) (v_half : Int32) (v_open : Int32) (v_known : Int64) (v_fresh : Int64) (v_changed : Int64) (v_renamed : Int32) (v_down : Int32) (v_armed : Int32) (v_written : Int32) (v_logged : Int32) (v_marked : Int32) (v_logSize : Int32) (v_drafted : Int32) (v_questions : Int32) (v_now : Int32) (v_at : Int32) (v_bad : Int32) (v_opens : Int32) (v_deep : Int32) (v_aimed : Int32) (v_truths : Int32) (v_loops : Int32) (v_valued : Int32) (v_value : Int32) (v_set : Int64) (v_latest : Int32) (v_fits : Int32) (v_total : Int64) (v_looked : Int32) (v_parent : Nat → Int32) (p1 : Int32) (o : Int32 × Int32 × (Nat → Int32)) (hf : f_M_type v_classes v_begun v_down v_parent p1 = some o) (sz : Nat) : MetI l y_M_type ws_M_type ({ frames := 0, cells := 0, slots := 0, locals := 0 }) D (obT G) (cw_M_type G a_t a_parent a_owner a_sort a_aim a_indexClass a_indexPath a_classes1 a_dValues a_dSets a_dNames a_values a_sets a_names a_draft a_lengths a_text a_classOfQuestion a_split a_steps a_what a_one a_two a_opened a_openedAt a_stands a_variable a_truth a_rest a_loopAt a_loopFound a_hits v_classes v_fields v_begun v_indexes v_made v_slotted v_half v_open v_known v_fresh v_changed v_renamed v_down v_armed v_written v_logged v_marked v_logSize v_drafted v_questions v_now v_at v_bad v_opens v_deep v_aimed v_truths v_loops v_valued v_value v_set v_latest v_fits v_total v_looked v_parent) (cw_M_type G a_t a_parent a_owner a_sort a_aim a_indexClass a_indexPath a_classes1 a_dValues a_dSets a_dNames a_values a_sets a_names a_draft a_lengths a_text a_classOfQuestion a_split a_steps a_what a_one a_two a_opened a_openedAt a_stands a_variable a_truth a_rest a_loopAt a_loopFound a_hits o.2.1 v_fields v_begun v_indexes v_made v_slotted v_half v_open v_known v_fresh v_changed v_renamed v_down v_armed v_written v_logged v_marked v_logSize v_drafted v_questions v_now v_at v_bad v_opens v_deep v_aimed v_truths v_loops v_valued v_value v_set v_latest v_fits v_total v_looked o.2.2) [.ref a_t, .int p1] o.1 sz := by
  refine ob_of (cc := bc_M_type) (maxL := 2) (ret := (some .int)) (Qc := ObQi D (obT G) (cw_M_type G a_t a_parent a_owner a_sort a_aim a_indexClass a_indexPath a_classes1 a_dValues a_dSets a_dNames a_values a_sets a_names a_draft a_lengths a_text a_classOfQuestion a_split a_steps a_what a_one a_two a_opened a_openedAt a_stands a_variable a_truth a_rest a_loopAt a_loopFound a_hits o.2.1 v_fields v_begun v_indexes v_made v_slotted v_half v_open v_known v_fresh v_changed v_renamed v_down v_armed v_written v_logged v_marked v_logSize v_drafted v_questions v_now v_at v_bad v_opens v_deep v_aimed v_truths v_loops v_valued v_value v_set v_latest v_fits v_total v_looked o.2.2) o.1) (by decide) rfl (Nat.le_of_ble_eq_true rfl) ?_
  intro p e s m below meth c A ls H locs hx hb hr hml hts hown hlk hnm hZ hP hK hD hA hS hl
  have hret : ∀ (o' : Int32 × Int32 × (Nat → Int32)) (H : Heap) (locs : List Loc) (pc : Nat) (ls : Array Slot), some o' = some o → va_P D vwCl (cw_M_type G a_t a_parent a_owner a_sort a_aim a_indexClass a_indexPath a_classes1 a_dValues a_dSets a_dNames a_values a_sets a_names a_draft a_lengths a_text a_classOfQuestion a_split a_steps a_what a_one a_two a_opened a_openedAt a_stands a_variable a_truth a_rest a_loopAt a_loopFound a_hits o'.2.1 v_fields v_begun v_indexes v_made v_slotted v_half v_open v_known v_fresh v_changed v_renamed v_down v_armed v_written v_logged v_marked v_logSize v_drafted v_questions v_now v_at v_bad v_opens v_deep v_aimed v_truths v_loops v_valued v_value v_set v_latest v_fits v_total v_looked o'.2.2) H → va_D A (cw_M_type G a_t a_parent a_owner a_sort a_aim a_indexClass a_indexPath a_classes1 a_dValues a_dSets a_dNames a_values a_sets a_names a_draft a_lengths a_text a_classOfQuestion a_split a_steps a_what a_one a_two a_opened a_openedAt a_stands a_variable a_truth a_rest a_loopAt a_loopFound a_hits o'.2.1 v_fields v_begun v_indexes v_made v_slotted v_half v_open v_known v_fresh v_changed v_renamed v_down v_armed v_written v_logged v_marked v_logSize v_drafted v_questions v_now v_at v_bad v_opens v_deep v_aimed v_truths v_loops v_valued v_value v_set v_latest v_fits v_total v_looked o'.2.2) → va_S A s.heap H locs → narrow .int (.int o'.1) = .int o'.1 → decode bc_M_type pc = .ok (.ireturn, 1) → W p l e { frames := 0, cells := 0, slots := 0, locals := 0 } s m ([.ref a_t, .int p1] : List Value).toArray below meth c H locs 0 0 (MQ below (ObQi D (obT G) (cw_M_type G a_t a_parent a_owner a_sort a_aim a_indexClass a_indexPath a_classes1 a_dValues a_dSets a_dNames a_values a_sets a_names a_draft a_lengths a_text a_classOfQuestion a_split a_steps a_what a_one a_two a_opened a_openedAt a_stands a_variable a_truth a_rest a_loopAt a_loopFound a_hits o.2.1 v_fields v_begun v_indexes v_made v_slotted v_half v_open v_known v_fresh v_changed v_renamed v_down v_armed v_written v_logged v_marked v_logSize v_drafted v_questions v_now v_at v_bad v_opens v_deep v_aimed v_truths v_loops v_valued v_value v_set v_latest v_fits v_total v_looked o.2.2) o.1 A) ([.ref a_t, .int p1] : List Value).toArray s 0 0 A) (F0 m pc ls [.int o'.1]) := by
    intro o' H locs pc ls he hP hD hS hn hd
    obtain rfl := Option.some.inj he
    exact ob_iret hx hb hr hlk hK hP hD hS hn hd
  generalize MQ below (ObQi D (obT G) (cw_M_type G a_t a_parent a_owner a_sort a_aim a_indexClass a_indexPath a_classes1 a_dValues a_dSets a_dNames a_values a_sets a_names a_draft a_lengths a_text a_classOfQuestion a_split a_steps a_what a_one a_two a_opened a_openedAt a_stands a_variable a_truth a_rest a_loopAt a_loopFound a_hits o.2.1 v_fields v_begun v_indexes v_made v_slotted v_half v_open v_known v_fresh v_changed v_renamed v_down v_armed v_written v_logged v_marked v_logSize v_drafted v_questions v_now v_at v_bad v_opens v_deep v_aimed v_truths v_loops v_valued v_value v_set v_latest v_fits v_total v_looked o.2.2) o.1 A) ([.ref a_t, .int p1] : List Value).toArray s 0 0 A = Q at hret ⊢
  have hl : lv_has ls 2 [(0, .ref a_t), (1, .int p1)] := hl
  unfold f_M_type at hf
  refine lv_aload_n hx hb d_M_type_0 rfl (lv_at hl 0 rfl) ?_
  refine va_get (D := D) (ci := 11) (v := .int v_down) (C := "ObjectBaseModel") (T := TC_M) (N := 66) hx hb hts inC_M hown hK hP 0 rfl rfl 25 (by decide) (hts _ tw812) (fun _ h9 => h9) rfl d_M_type_1 ?_
  refine lv_if_eq (tgt := 10) hx hb d_M_type_4 (by decide) (fun hc4 => ?_) (fun hc4 => ?_)
  · have hf := ob_t hc4 hf
    refine lv_iload_n hx hb d_M_type_10 rfl (lv_at hl 1 rfl) ?_
    refine lv_if_lt (tgt := 37) hx hb d_M_type_11 (by decide) (fun hc11 => ?_) (fun hc11 => ?_)
    · have hf := ob_t hc11 hf
      refine lv_iconst (v := (-1)) hx hb d_M_type_37 (by decide) ?_
      exact hret ((-1), v_classes, v_parent) H locs _ ls hf hP hD hS rfl d_M_type_38
    · have hf := ob_f hc11 hf
      refine lv_iload_n hx hb d_M_type_14 rfl (lv_at hl 1 rfl) ?_
      refine lv_aload_n hx hb d_M_type_15 rfl (lv_at hl 0 rfl) ?_
      refine va_get (D := D) (ci := 11) (v := .int v_classes) (C := "ObjectBaseModel") (T := TC_M) (N := 66) hx hb hts inC_M hown hK hP 0 rfl rfl 0 (by decide) (hts _ tw787) (fun _ h9 => h9) rfl d_M_type_16 ?_
      refine lv_icmp_gt (tgt := 37) hx hb d_M_type_19 (by decide) (fun hc19 => ?_) (fun hc19 => ?_)
      · have hf := ob_t hc19 hf
        refine lv_iconst (v := (-1)) hx hb d_M_type_37 (by decide) ?_
        exact hret ((-1), v_classes, v_parent) H locs _ ls hf hP hD hS rfl d_M_type_38
      · have hf := ob_f hc19 hf
        refine lv_aload_n hx hb d_M_type_22 rfl (lv_at hl 0 rfl) ?_
        refine va_get (D := D) (ci := 11) (v := .int v_classes) (C := "ObjectBaseModel") (T := TC_M) (N := 66) hx hb hts inC_M hown hK hP 0 rfl rfl 0 (by decide) (hts _ tw787) (fun _ h9 => h9) rfl d_M_type_23 ?_
        refine lv_iconst (v := 5) hx hb d_M_type_26 (by decide) ?_
        refine lv_icmp_eq (tgt := 37) hx hb d_M_type_27 (by decide) (fun hc27 => ?_) (fun hc27 => ?_)
        · have hf := ob_t hc27 hf
          refine lv_iconst (v := (-1)) hx hb d_M_type_37 (by decide) ?_
          exact hret ((-1), v_classes, v_parent) H locs _ ls hf hP hD hS rfl d_M_type_38
        · have hf := ob_f hc27 hf
          refine lv_aload_n hx hb d_M_type_30 rfl (lv_at hl 0 rfl) ?_
          refine va_get (D := D) (ci := 11) (v := .int v_begun) (C := "ObjectBaseModel") (T := TC_M) (N := 66) hx hb hts inC_M hown hK hP 0 rfl rfl 6 (by decide) (hts _ tw793) (fun _ h9 => h9) rfl d_M_type_31 ?_
          refine lv_if_eq (tgt := 39) hx hb d_M_type_34 (by decide) (fun hc34 => ?_) (fun hc34 => ?_)
          · have hf := ob_t hc34 hf
            refine lv_aload_n hx hb d_M_type_39 rfl (lv_at hl 0 rfl) ?_
            refine lv_dup hx hb d_M_type_40 rfl ?_
            refine va_get (D := D) (ci := 11) (v := .int v_classes) (C := "ObjectBaseModel") (T := TC_M) (N := 66) hx hb hts inC_M hown hK hP 0 rfl rfl 0 (by decide) (hts _ tw787) (fun _ h9 => h9) rfl d_M_type_41 ?_
            refine lv_iconst (v := 1) hx hb d_M_type_44 (by decide) ?_
            refine lv_iadd hx hb d_M_type_45 ?_
            refine va_put (D := D) (ci := 11) (v := .int (v_classes + 1)) (ty := .int) (C := "ObjectBaseModel") (T := TC_M) (N := 66) hx hb hts inC_M tyC_M tyC_M_ok nmC_M hown hK hP hD hS 0 rfl rfl 0 (by decide) (hts _ tw787) (fun _ h9 => h9) rfl (by decide +kernel) rfl rfl (Nat.le_of_ble_eq_true rfl) d_M_type_46 (fun H locs hP hD hS => ?_)
            have hP : va_P D vwCl (cw_M_type G a_t a_parent a_owner a_sort a_aim a_indexClass a_indexPath a_classes1 a_dValues a_dSets a_dNames a_values a_sets a_names a_draft a_lengths a_text a_classOfQuestion a_split a_steps a_what a_one a_two a_opened a_openedAt a_stands a_variable a_truth a_rest a_loopAt a_loopFound a_hits (v_classes + 1) v_fields v_begun v_indexes v_made v_slotted v_half v_open v_known v_fresh v_changed v_renamed v_down v_armed v_written v_logged v_marked v_logSize v_drafted v_questions v_now v_at v_bad v_opens v_deep v_aimed v_truths v_loops v_valued v_value v_set v_latest v_fits v_total v_looked v_parent) H := hP
            have hD : va_D A (cw_M_type G a_t a_parent a_owner a_sort a_aim a_indexClass a_indexPath a_classes1 a_dValues a_dSets a_dNames a_values a_sets a_names a_draft a_lengths a_text a_classOfQuestion a_split a_steps a_what a_one a_two a_opened a_openedAt a_stands a_variable a_truth a_rest a_loopAt a_loopFound a_hits (v_classes + 1) v_fields v_begun v_indexes v_made v_slotted v_half v_open v_known v_fresh v_changed v_renamed v_down v_armed v_written v_logged v_marked v_logSize v_drafted v_questions v_now v_at v_bad v_opens v_deep v_aimed v_truths v_loops v_valued v_value v_set v_latest v_fits v_total v_looked v_parent) := hD
            refine lv_aload_n hx hb d_M_type_49 rfl (lv_at hl 0 rfl) ?_
            refine va_get (D := D) (ci := 11) (v := .ref a_parent) (C := "ObjectBaseModel") (T := TC_M) (N := 66) hx hb hts inC_M hown hK hP 0 rfl rfl 1 (by decide) (hts _ tw788) (fun _ h9 => h9) rfl d_M_type_50 ?_
            refine lv_aload_n hx hb d_M_type_53 rfl (lv_at hl 0 rfl) ?_
            refine va_get (D := D) (ci := 11) (v := .int (v_classes + 1)) (C := "ObjectBaseModel") (T := TC_M) (N := 66) hx hb hts inC_M hown hK hP 0 rfl rfl 0 (by decide) (hts _ tw787) (fun _ h9 => h9) rfl d_M_type_54 ?_
            refine lv_iload_n hx hb d_M_type_57 rfl (lv_at hl 1 rfl) ?_
            obtain ⟨hg58, hf⟩ := ob_iv_g hf
            refine va_iast hx hb hK hP hD hS 1 0 rfl rfl hg58 d_M_type_58 (fun H locs hP hD hS => ?_)
            have hP : va_P D vwCl (cw_M_type G a_t a_parent a_owner a_sort a_aim a_indexClass a_indexPath a_classes1 a_dValues a_dSets a_dNames a_values a_sets a_names a_draft a_lengths a_text a_classOfQuestion a_split a_steps a_what a_one a_two a_opened a_openedAt a_stands a_variable a_truth a_rest a_loopAt a_loopFound a_hits (v_classes + 1) v_fields v_begun v_indexes v_made v_slotted v_half v_open v_known v_fresh v_changed v_renamed v_down v_armed v_written v_logged v_marked v_logSize v_drafted v_questions v_now v_at v_bad v_opens v_deep v_aimed v_truths v_loops v_valued v_value v_set v_latest v_fits v_total v_looked (upd v_parent (v_classes + 1).toNatClampNeg p1)) H := hP
            have hD : va_D A (cw_M_type G a_t a_parent a_owner a_sort a_aim a_indexClass a_indexPath a_classes1 a_dValues a_dSets a_dNames a_values a_sets a_names a_draft a_lengths a_text a_classOfQuestion a_split a_steps a_what a_one a_two a_opened a_openedAt a_stands a_variable a_truth a_rest a_loopAt a_loopFound a_hits (v_classes + 1) v_fields v_begun v_indexes v_made v_slotted v_half v_open v_known v_fresh v_changed v_renamed v_down v_armed v_written v_logged v_marked v_logSize v_drafted v_questions v_now v_at v_bad v_opens v_deep v_aimed v_truths v_loops v_valued v_value v_set v_latest v_fits v_total v_looked (upd v_parent (v_classes + 1).toNatClampNeg p1)) := hD
            refine lv_aload_n hx hb d_M_type_59 rfl (lv_at hl 0 rfl) ?_
            refine va_get (D := D) (ci := 11) (v := .int (v_classes + 1)) (C := "ObjectBaseModel") (T := TC_M) (N := 66) hx hb hts inC_M hown hK hP 0 rfl rfl 0 (by decide) (hts _ tw787) (fun _ h9 => h9) rfl d_M_type_60 ?_
            exact hret (v_classes + 1, v_classes + 1, upd v_parent (v_classes + 1).toNatClampNeg p1) H locs _ ls hf hP hD hS rfl d_M_type_63
          · have hf := ob_f hc34 hf
            refine lv_iconst (v := (-1)) hx hb d_M_type_37 (by decide) ?_
            exact hret ((-1), v_classes, v_parent) H locs _ ls hf hP hD hS rfl d_M_type_38
  · have hf := ob_f hc4 hf
    refine lv_bipush (v := (-4)) hx hb d_M_type_7 (by decide) ?_
    exact hret ((-4), v_classes, v_parent) H locs _ ls hf hP hD hS rfl d_M_type_9
abbrev bc_M_field : ByteArray := prog_13_method_5_code
abbrev y_M_field : MethodName := ⟨"ObjectBaseModel", "field", "(III)I"⟩
def ws_M_field : List Cond := .code y_M_field bc_M_field 4 (some .int) :: obW
theorem d_M_field_0 : decode bc_M_field 0 = .ok (.aload_n 0, 1) := by decide +kernel
theorem d_M_field_1 : decode bc_M_field 1 = .ok (.getfield 112, 3) := by decide +kernel
theorem d_M_field_4 : decode bc_M_field 4 = .ok (.ifCond .eq 6, 3) := by decide +kernel
theorem d_M_field_7 : decode bc_M_field 7 = .ok (.bipush (-4), 2) := by decide +kernel
theorem d_M_field_9 : decode bc_M_field 9 = .ok (.ireturn, 1) := by decide +kernel
theorem d_M_field_10 : decode bc_M_field 10 = .ok (.aload_n 0, 1) := by decide +kernel
theorem d_M_field_11 : decode bc_M_field 11 = .ok (.iload_n 1, 1) := by decide +kernel
theorem d_M_field_12 : decode bc_M_field 12 = .ok (.invokevirtual 119, 3) := by decide +kernel
theorem d_M_field_15 : decode bc_M_field 15 = .ok (.ifCond .eq 40, 3) := by decide +kernel
theorem d_M_field_18 : decode bc_M_field 18 = .ok (.iload_n 2, 1) := by decide +kernel
theorem d_M_field_19 : decode bc_M_field 19 = .ok (.ifCond .lt 36, 3) := by decide +kernel
theorem d_M_field_22 : decode bc_M_field 22 = .ok (.iload_n 2, 1) := by decide +kernel
theorem d_M_field_23 : decode bc_M_field 23 = .ok (.iconst 2, 1) := by decide +kernel
theorem d_M_field_24 : decode bc_M_field 24 = .ok (.if_icmp .gt 31, 3) := by decide +kernel
theorem d_M_field_27 : decode bc_M_field 27 = .ok (.iload_n 2, 1) := by decide +kernel
theorem d_M_field_28 : decode bc_M_field 28 = .ok (.ifCond .eq 11, 3) := by decide +kernel
theorem d_M_field_31 : decode bc_M_field 31 = .ok (.aload_n 0, 1) := by decide +kernel
theorem d_M_field_32 : decode bc_M_field 32 = .ok (.iload_n 3, 1) := by decide +kernel
theorem d_M_field_33 : decode bc_M_field 33 = .ok (.invokevirtual 119, 3) := by decide +kernel
theorem d_M_field_36 : decode bc_M_field 36 = .ok (.ifCond .eq 19, 3) := by decide +kernel
theorem d_M_field_39 : decode bc_M_field 39 = .ok (.aload_n 0, 1) := by decide +kernel
theorem d_M_field_40 : decode bc_M_field 40 = .ok (.getfield 123, 3) := by decide +kernel
theorem d_M_field_43 : decode bc_M_field 43 = .ok (.bipush 8, 2) := by decide +kernel
theorem d_M_field_45 : decode bc_M_field 45 = .ok (.if_icmp .eq 10, 3) := by decide +kernel
theorem d_M_field_48 : decode bc_M_field 48 = .ok (.aload_n 0, 1) := by decide +kernel
theorem d_M_field_49 : decode bc_M_field 49 = .ok (.getfield 116, 3) := by decide +kernel
theorem d_M_field_52 : decode bc_M_field 52 = .ok (.ifCond .eq 5, 3) := by decide +kernel
theorem d_M_field_55 : decode bc_M_field 55 = .ok (.iconst (-1), 1) := by decide +kernel
theorem d_M_field_56 : decode bc_M_field 56 = .ok (.ireturn, 1) := by decide +kernel
theorem d_M_field_57 : decode bc_M_field 57 = .ok (.aload_n 0, 1) := by decide +kernel
theorem d_M_field_58 : decode bc_M_field 58 = .ok (.getfield 13, 3) := by decide +kernel
theorem d_M_field_61 : decode bc_M_field 61 = .ok (.aload_n 0, 1) := by decide +kernel
theorem d_M_field_62 : decode bc_M_field 62 = .ok (.getfield 123, 3) := by decide +kernel
theorem d_M_field_65 : decode bc_M_field 65 = .ok (.iload_n 1, 1) := by decide +kernel
theorem d_M_field_66 : decode bc_M_field 66 = .ok (.iastore, 1) := by decide +kernel
theorem d_M_field_67 : decode bc_M_field 67 = .ok (.aload_n 0, 1) := by decide +kernel
theorem d_M_field_68 : decode bc_M_field 68 = .ok (.getfield 16, 3) := by decide +kernel
theorem d_M_field_71 : decode bc_M_field 71 = .ok (.aload_n 0, 1) := by decide +kernel
theorem d_M_field_72 : decode bc_M_field 72 = .ok (.getfield 123, 3) := by decide +kernel
theorem d_M_field_75 : decode bc_M_field 75 = .ok (.iload_n 2, 1) := by decide +kernel
theorem d_M_field_76 : decode bc_M_field 76 = .ok (.iastore, 1) := by decide +kernel
theorem d_M_field_77 : decode bc_M_field 77 = .ok (.aload_n 0, 1) := by decide +kernel
theorem d_M_field_78 : decode bc_M_field 78 = .ok (.getfield 19, 3) := by decide +kernel
theorem d_M_field_81 : decode bc_M_field 81 = .ok (.aload_n 0, 1) := by decide +kernel
theorem d_M_field_82 : decode bc_M_field 82 = .ok (.getfield 123, 3) := by decide +kernel
theorem d_M_field_85 : decode bc_M_field 85 = .ok (.iload_n 3, 1) := by decide +kernel
theorem d_M_field_86 : decode bc_M_field 86 = .ok (.iastore, 1) := by decide +kernel
theorem d_M_field_87 : decode bc_M_field 87 = .ok (.aload_n 0, 1) := by decide +kernel
theorem d_M_field_88 : decode bc_M_field 88 = .ok (.dup, 1) := by decide +kernel
theorem d_M_field_89 : decode bc_M_field 89 = .ok (.getfield 123, 3) := by decide +kernel
theorem d_M_field_92 : decode bc_M_field 92 = .ok (.iconst 1, 1) := by decide +kernel
theorem d_M_field_93 : decode bc_M_field 93 = .ok (.iadd, 1) := by decide +kernel
theorem d_M_field_94 : decode bc_M_field 94 = .ok (.putfield 123, 3) := by decide +kernel
theorem d_M_field_97 : decode bc_M_field 97 = .ok (.aload_n 0, 1) := by decide +kernel
theorem d_M_field_98 : decode bc_M_field 98 = .ok (.getfield 123, 3) := by decide +kernel
theorem d_M_field_101 : decode bc_M_field 101 = .ok (.iconst 1, 1) := by decide +kernel
theorem d_M_field_102 : decode bc_M_field 102 = .ok (.isub, 1) := by decide +kernel
theorem d_M_field_103 : decode bc_M_field 103 = .ok (.ireturn, 1) := by decide +kernel
def cw_M_field (G : Nat → ClassId) (a_t a_owner a_sort a_aim a_parent a_indexClass a_indexPath a_classes1 a_dValues a_dSets a_dNames a_values a_sets a_names a_draft a_lengths a_text a_classOfQuestion a_split a_steps a_what a_one a_two a_opened a_openedAt a_stands a_variable a_truth a_rest a_loopAt a_loopFound a_hits : Nat) (v_classes : Int32) (v_fields : Int32) (v_begun : Int32) (v_indexes : Int32) (v_made : Int32) (v_slotted : Int64) (v_half : Int32) (v_open : Int32) (v_known : Int64) (v_fresh : Int64) (v_changed : Int64) (v_renamed : Int32) (v_down : Int32) (v_armed : Int32) (v_written : Int32) (v_logged : Int32) (v_marked : Int32) (v_logSize : Int32) (v_drafted : Int32) (v_questions : Int32) (v_now : Int32) (v_at : Int32) (v_bad : Int32) (v_opens : Int32) (v_deep : Int32) (v_aimed : Int32) (v_truths : Int32) (v_loops : Int32) (v_valued : Int32) (v_value : Int32) (v_set : Int64) (v_latest : Int32) (v_fits : Int32) (v_total : Int64) (v_looked : Int32) (v_owner : Nat → Int32) (v_sort : Nat → Int32) (v_aim : Nat → Int32) : va_W := [(a_t, .inr (11, [.int v_classes, .ref a_parent, .int v_fields, .ref a_owner, .ref a_sort, .ref a_aim, .int v_begun, .int v_indexes, .ref a_indexClass, .ref a_indexPath, .int v_made, .ref a_classes1, .ref a_dValues, .ref a_dSets, .ref a_dNames, .ref a_values, .ref a_sets, .ref a_names, .long v_slotted, .int v_half, .int v_open, .long v_known, .long v_fresh, .long v_changed, .int v_renamed, .int v_down, .int v_armed, .int v_written, .int v_logged, .int v_marked, .int v_logSize, .int v_drafted, .ref a_draft, .int v_questions, .ref a_lengths, .ref a_text, .ref a_classOfQuestion, .ref a_split, .ref a_steps, .ref a_what, .ref a_one, .ref a_two, .int v_now, .int v_at, .int v_bad, .int v_opens, .ref a_opened, .ref a_openedAt, .int v_deep, .int v_aimed, .ref a_stands, .ref a_variable, .int v_truths, .ref a_truth, .int v_loops, .ref a_rest, .ref a_loopAt, .ref a_loopFound, .int v_valued, .int v_value, .long v_set, .int v_latest, .int v_fits, .ref a_hits, .long v_total, .int v_looked])), (a_owner, .inl (G 0, 8, .inl v_owner)), (a_sort, .inl (G 0, 8, .inl v_sort)), (a_aim, .inl (G 0, 8, .inl v_aim))]
def f_M_field_J39 (v_begun : Int32) (p1 : Int32) (p2 : Int32) (p3 : Int32) (v_fields_39 : Int32) (v_owner_39 : Nat → Int32) (v_sort_39 : Nat → Int32) (v_aim_39 : Nat → Int32) : Option (Int32 × Int32 × (Nat → Int32) × (Nat → Int32) × (Nat → Int32)) := if v_fields_39 = 8 then (some ((-1), v_fields_39, v_owner_39, v_sort_39, v_aim_39)) else (if v_begun = 0 then (ob_iv v_fields_39 8 (ob_iv v_fields_39 8 (ob_iv v_fields_39 8 (some ((v_fields_39 + 1) - 1, v_fields_39 + 1, upd v_owner_39 v_fields_39.toNatClampNeg p1, upd v_sort_39 v_fields_39.toNatClampNeg p2, upd v_aim_39 v_fields_39.toNatClampNeg p3))))) else (some ((-1), v_fields_39, v_owner_39, v_sort_39, v_aim_39)))
def f_M_field (v_classes : Int32) (v_fields : Int32) (v_begun : Int32) (v_down : Int32) (v_owner : Nat → Int32) (v_sort : Nat → Int32) (v_aim : Nat → Int32) (p1 : Int32) (p2 : Int32) (p3 : Int32) : Option (Int32 × Int32 × (Nat → Int32) × (Nat → Int32) × (Nat → Int32)) := if v_down = 0 then ((f_M_isClass v_classes p1).bind fun o12 => (if o12 = 0 then (some ((-1), v_fields, v_owner, v_sort, v_aim)) else (if p2 < 0 then (some ((-1), v_fields, v_owner, v_sort, v_aim)) else (if 2 < p2 then (some ((-1), v_fields, v_owner, v_sort, v_aim)) else (if p2 = 0 then (f_M_field_J39 v_begun p1 p2 p3 v_fields v_owner v_sort v_aim) else ((f_M_isClass v_classes p3).bind fun o33 => (if o33 = 0 then (some ((-1), v_fields, v_owner, v_sort, v_aim)) else (f_M_field_J39 v_begun p1 p2 p3 v_fields v_owner v_sort v_aim)))))))) else (some ((-4), v_fields, v_owner, v_sort, v_aim))
set_option maxHeartbeats 4000000 in
set_option maxRecDepth 100000 in
theorem c_M_field (l : Launch) (D : va_G) (G : Nat → ClassId) (a_t a_owner a_sort a_aim a_parent a_indexClass a_indexPath a_classes1 a_dValues a_dSets a_dNames a_values a_sets a_names a_draft a_lengths a_text a_classOfQuestion a_split a_steps a_what a_one a_two a_opened a_openedAt a_stands a_variable a_truth a_rest a_loopAt a_loopFound a_hits : Nat) (v_classes : Int32) (v_fields : Int32) (v_begun : Int32) (v_indexes : Int32) (v_made : Int32) (v_slotted : Int64) (v_half : Int32) (v_open : Int32) (v_known : Int64) (v_fresh : Int64) (v_changed : Int64) (v_renamed : Int32) (v_down : Int32) (v_armed : Int32) (v_written : Int32) (v_logged : Int32) (v_marked : Int32) (v_logSize : Int32) (v_drafted : Int32) (v_questions : Int32) (v_now : Int32) (v_at : Int32) (v_bad : Int32) (v_opens : Int32) (v_deep : Int32) (v_aimed : Int32) (v_truths : Int32) (v_loops : Int32) (v_valued : Int32) (v_value : Int32) (v_set : Int64) (v_latest : Int32) (v_fits : Int32) (v_total : Int64) (v_looked : Int32) (v_owner : Nat → Int32) (v_sort : Nat → Int32) (v_aim : Nat → Int32) (p1 : Int32) (p2 : Int32) (p3 : Int32) (o : Int32 × Int32 × (Nat → Int32) × (Nat → Int32) × (Nat → Int32)) (hf : f_M_field v_classes v_fields v_begun v_down v_owner v_sort v_aim p1 p2 p3 = some o) (sz : Nat) : MetI l y_M_field ws_M_field ({ frames := 1, cells := 0, slots := 0, locals := 21 }) D (obT G) (cw_M_field G a_t a_owner a_sort a_aim a_parent a_indexClass a_indexPath a_classes1 a_dValues a_dSets a_dNames a_values a_sets a_names a_draft a_lengths a_text a_classOfQuestion a_split a_steps a_what a_one a_two a_opened a_openedAt a_stands a_variable a_truth a_rest a_loopAt a_loopFound a_hits v_classes v_fields v_begun v_indexes v_made v_slotted v_half v_open v_known v_fresh v_changed v_renamed v_down v_armed v_written v_logged v_marked v_logSize v_drafted v_questions v_now v_at v_bad v_opens v_deep v_aimed v_truths v_loops v_valued v_value v_set v_latest v_fits v_total v_looked v_owner v_sort v_aim) (cw_M_field G a_t a_owner a_sort a_aim a_parent a_indexClass a_indexPath a_classes1 a_dValues a_dSets a_dNames a_values a_sets a_names a_draft a_lengths a_text a_classOfQuestion a_split a_steps a_what a_one a_two a_opened a_openedAt a_stands a_variable a_truth a_rest a_loopAt a_loopFound a_hits v_classes o.2.1 v_begun v_indexes v_made v_slotted v_half v_open v_known v_fresh v_changed v_renamed v_down v_armed v_written v_logged v_marked v_logSize v_drafted v_questions v_now v_at v_bad v_opens v_deep v_aimed v_truths v_loops v_valued v_value v_set v_latest v_fits v_total v_looked o.2.2.1 o.2.2.2.1 o.2.2.2.2) [.ref a_t, .int p1, .int p2, .int p3] o.1 sz := by
  refine ob_of (cc := bc_M_field) (maxL := 4) (ret := (some .int)) (Qc := ObQi D (obT G) (cw_M_field G a_t a_owner a_sort a_aim a_parent a_indexClass a_indexPath a_classes1 a_dValues a_dSets a_dNames a_values a_sets a_names a_draft a_lengths a_text a_classOfQuestion a_split a_steps a_what a_one a_two a_opened a_openedAt a_stands a_variable a_truth a_rest a_loopAt a_loopFound a_hits v_classes o.2.1 v_begun v_indexes v_made v_slotted v_half v_open v_known v_fresh v_changed v_renamed v_down v_armed v_written v_logged v_marked v_logSize v_drafted v_questions v_now v_at v_bad v_opens v_deep v_aimed v_truths v_loops v_valued v_value v_set v_latest v_fits v_total v_looked o.2.2.1 o.2.2.2.1 o.2.2.2.2) o.1) (by decide) rfl (Nat.le_of_ble_eq_true rfl) ?_
  intro p e s m below meth c A ls H locs hx hb hr hml hts hown hlk hnm hZ hP hK hD hA hS hl
  have hret : ∀ (o' : Int32 × Int32 × (Nat → Int32) × (Nat → Int32) × (Nat → Int32)) (H : Heap) (locs : List Loc) (pc : Nat) (ls : Array Slot), some o' = some o → va_P D vwCl (cw_M_field G a_t a_owner a_sort a_aim a_parent a_indexClass a_indexPath a_classes1 a_dValues a_dSets a_dNames a_values a_sets a_names a_draft a_lengths a_text a_classOfQuestion a_split a_steps a_what a_one a_two a_opened a_openedAt a_stands a_variable a_truth a_rest a_loopAt a_loopFound a_hits v_classes o'.2.1 v_begun v_indexes v_made v_slotted v_half v_open v_known v_fresh v_changed v_renamed v_down v_armed v_written v_logged v_marked v_logSize v_drafted v_questions v_now v_at v_bad v_opens v_deep v_aimed v_truths v_loops v_valued v_value v_set v_latest v_fits v_total v_looked o'.2.2.1 o'.2.2.2.1 o'.2.2.2.2) H → va_D A (cw_M_field G a_t a_owner a_sort a_aim a_parent a_indexClass a_indexPath a_classes1 a_dValues a_dSets a_dNames a_values a_sets a_names a_draft a_lengths a_text a_classOfQuestion a_split a_steps a_what a_one a_two a_opened a_openedAt a_stands a_variable a_truth a_rest a_loopAt a_loopFound a_hits v_classes o'.2.1 v_begun v_indexes v_made v_slotted v_half v_open v_known v_fresh v_changed v_renamed v_down v_armed v_written v_logged v_marked v_logSize v_drafted v_questions v_now v_at v_bad v_opens v_deep v_aimed v_truths v_loops v_valued v_value v_set v_latest v_fits v_total v_looked o'.2.2.1 o'.2.2.2.1 o'.2.2.2.2) → va_S A s.heap H locs → narrow .int (.int o'.1) = .int o'.1 → decode bc_M_field pc = .ok (.ireturn, 1) → W p l e { frames := 1, cells := 0, slots := 0, locals := 21 } s m ([.ref a_t, .int p1, .int p2, .int p3] : List Value).toArray below meth c H locs 0 0 (MQ below (ObQi D (obT G) (cw_M_field G a_t a_owner a_sort a_aim a_parent a_indexClass a_indexPath a_classes1 a_dValues a_dSets a_dNames a_values a_sets a_names a_draft a_lengths a_text a_classOfQuestion a_split a_steps a_what a_one a_two a_opened a_openedAt a_stands a_variable a_truth a_rest a_loopAt a_loopFound a_hits v_classes o.2.1 v_begun v_indexes v_made v_slotted v_half v_open v_known v_fresh v_changed v_renamed v_down v_armed v_written v_logged v_marked v_logSize v_drafted v_questions v_now v_at v_bad v_opens v_deep v_aimed v_truths v_loops v_valued v_value v_set v_latest v_fits v_total v_looked o.2.2.1 o.2.2.2.1 o.2.2.2.2) o.1 A) ([.ref a_t, .int p1, .int p2, .int p3] : List Value).toArray s 0 0 A) (F0 m pc ls [.int o'.1]) := by
    intro o' H locs pc ls he hP hD hS hn hd
    obtain rfl := Option.some.inj he
    exact ob_iret hx hb hr hlk hK hP hD hS hn hd
  generalize MQ below (ObQi D (obT G) (cw_M_field G a_t a_owner a_sort a_aim a_parent a_indexClass a_indexPath a_classes1 a_dValues a_dSets a_dNames a_values a_sets a_names a_draft a_lengths a_text a_classOfQuestion a_split a_steps a_what a_one a_two a_opened a_openedAt a_stands a_variable a_truth a_rest a_loopAt a_loopFound a_hits v_classes o.2.1 v_begun v_indexes v_made v_slotted v_half v_open v_known v_fresh v_changed v_renamed v_down v_armed v_written v_logged v_marked v_logSize v_drafted v_questions v_now v_at v_bad v_opens v_deep v_aimed v_truths v_loops v_valued v_value v_set v_latest v_fits v_total v_looked o.2.2.1 o.2.2.2.1 o.2.2.2.2) o.1 A) ([.ref a_t, .int p1, .int p2, .int p3] : List Value).toArray s 0 0 A = Q at hret ⊢
  have hl : lv_has ls 4 [(0, .ref a_t), (1, .int p1), (2, .int p2), (3, .int p3)] := hl
  unfold f_M_field at hf
  have blk39 : ∀ (v_fields_39 : Int32) (v_owner_39 : Nat → Int32) (v_sort_39 : Nat → Int32) (v_aim_39 : Nat → Int32) (ls : Array Slot) (H : Heap) (locs : List Loc), lv_has ls 4 [(0, .ref a_t), (1, .int p1), (2, .int p2), (3, .int p3)] → va_P D vwCl (cw_M_field G a_t a_owner a_sort a_aim a_parent a_indexClass a_indexPath a_classes1 a_dValues a_dSets a_dNames a_values a_sets a_names a_draft a_lengths a_text a_classOfQuestion a_split a_steps a_what a_one a_two a_opened a_openedAt a_stands a_variable a_truth a_rest a_loopAt a_loopFound a_hits v_classes v_fields_39 v_begun v_indexes v_made v_slotted v_half v_open v_known v_fresh v_changed v_renamed v_down v_armed v_written v_logged v_marked v_logSize v_drafted v_questions v_now v_at v_bad v_opens v_deep v_aimed v_truths v_loops v_valued v_value v_set v_latest v_fits v_total v_looked v_owner_39 v_sort_39 v_aim_39) H → va_D A (cw_M_field G a_t a_owner a_sort a_aim a_parent a_indexClass a_indexPath a_classes1 a_dValues a_dSets a_dNames a_values a_sets a_names a_draft a_lengths a_text a_classOfQuestion a_split a_steps a_what a_one a_two a_opened a_openedAt a_stands a_variable a_truth a_rest a_loopAt a_loopFound a_hits v_classes v_fields_39 v_begun v_indexes v_made v_slotted v_half v_open v_known v_fresh v_changed v_renamed v_down v_armed v_written v_logged v_marked v_logSize v_drafted v_questions v_now v_at v_bad v_opens v_deep v_aimed v_truths v_loops v_valued v_value v_set v_latest v_fits v_total v_looked v_owner_39 v_sort_39 v_aim_39) → va_S A s.heap H locs → f_M_field_J39 v_begun p1 p2 p3 v_fields_39 v_owner_39 v_sort_39 v_aim_39 = some o → W p l e ({ frames := 1, cells := 0, slots := 0, locals := 21 }) s m ([.ref a_t, .int p1, .int p2, .int p3] : List Value).toArray below meth c H locs 0 0 Q (F0 m 39 ls []) := by
    intro v_fields_39 v_owner_39 v_sort_39 v_aim_39 ls H locs hl hP hD hS hf
    unfold f_M_field_J39 at hf
    refine lv_aload_n hx hb d_M_field_39 rfl (lv_at hl 0 rfl) ?_
    refine va_get (D := D) (ci := 11) (v := .int v_fields_39) (C := "ObjectBaseModel") (T := TC_M) (N := 66) hx hb hts inC_M hown hK hP 0 rfl rfl 2 (by decide) (hts _ tw789) (fun _ h9 => h9) rfl d_M_field_40 ?_
    refine lv_bipush (v := 8) hx hb d_M_field_43 (by decide) ?_
    refine lv_icmp_eq (tgt := 55) hx hb d_M_field_45 (by decide) (fun hc45 => ?_) (fun hc45 => ?_)
    · have hf := ob_t hc45 hf
      refine lv_iconst (v := (-1)) hx hb d_M_field_55 (by decide) ?_
      exact hret ((-1), v_fields_39, v_owner_39, v_sort_39, v_aim_39) H locs _ ls hf hP hD hS rfl d_M_field_56
    · have hf := ob_f hc45 hf
      refine lv_aload_n hx hb d_M_field_48 rfl (lv_at hl 0 rfl) ?_
      refine va_get (D := D) (ci := 11) (v := .int v_begun) (C := "ObjectBaseModel") (T := TC_M) (N := 66) hx hb hts inC_M hown hK hP 0 rfl rfl 6 (by decide) (hts _ tw793) (fun _ h9 => h9) rfl d_M_field_49 ?_
      refine lv_if_eq (tgt := 57) hx hb d_M_field_52 (by decide) (fun hc52 => ?_) (fun hc52 => ?_)
      · have hf := ob_t hc52 hf
        refine lv_aload_n hx hb d_M_field_57 rfl (lv_at hl 0 rfl) ?_
        refine va_get (D := D) (ci := 11) (v := .ref a_owner) (C := "ObjectBaseModel") (T := TC_M) (N := 66) hx hb hts inC_M hown hK hP 0 rfl rfl 3 (by decide) (hts _ tw790) (fun _ h9 => h9) rfl d_M_field_58 ?_
        refine lv_aload_n hx hb d_M_field_61 rfl (lv_at hl 0 rfl) ?_
        refine va_get (D := D) (ci := 11) (v := .int v_fields_39) (C := "ObjectBaseModel") (T := TC_M) (N := 66) hx hb hts inC_M hown hK hP 0 rfl rfl 2 (by decide) (hts _ tw789) (fun _ h9 => h9) rfl d_M_field_62 ?_
        refine lv_iload_n hx hb d_M_field_65 rfl (lv_at hl 1 rfl) ?_
        obtain ⟨hg66, hf⟩ := ob_iv_g hf
        refine va_iast hx hb hK hP hD hS 1 0 rfl rfl hg66 d_M_field_66 (fun H locs hP hD hS => ?_)
        have hP : va_P D vwCl (cw_M_field G a_t a_owner a_sort a_aim a_parent a_indexClass a_indexPath a_classes1 a_dValues a_dSets a_dNames a_values a_sets a_names a_draft a_lengths a_text a_classOfQuestion a_split a_steps a_what a_one a_two a_opened a_openedAt a_stands a_variable a_truth a_rest a_loopAt a_loopFound a_hits v_classes v_fields_39 v_begun v_indexes v_made v_slotted v_half v_open v_known v_fresh v_changed v_renamed v_down v_armed v_written v_logged v_marked v_logSize v_drafted v_questions v_now v_at v_bad v_opens v_deep v_aimed v_truths v_loops v_valued v_value v_set v_latest v_fits v_total v_looked (upd v_owner_39 v_fields_39.toNatClampNeg p1) v_sort_39 v_aim_39) H := hP
        have hD : va_D A (cw_M_field G a_t a_owner a_sort a_aim a_parent a_indexClass a_indexPath a_classes1 a_dValues a_dSets a_dNames a_values a_sets a_names a_draft a_lengths a_text a_classOfQuestion a_split a_steps a_what a_one a_two a_opened a_openedAt a_stands a_variable a_truth a_rest a_loopAt a_loopFound a_hits v_classes v_fields_39 v_begun v_indexes v_made v_slotted v_half v_open v_known v_fresh v_changed v_renamed v_down v_armed v_written v_logged v_marked v_logSize v_drafted v_questions v_now v_at v_bad v_opens v_deep v_aimed v_truths v_loops v_valued v_value v_set v_latest v_fits v_total v_looked (upd v_owner_39 v_fields_39.toNatClampNeg p1) v_sort_39 v_aim_39) := hD
        refine lv_aload_n hx hb d_M_field_67 rfl (lv_at hl 0 rfl) ?_
        refine va_get (D := D) (ci := 11) (v := .ref a_sort) (C := "ObjectBaseModel") (T := TC_M) (N := 66) hx hb hts inC_M hown hK hP 0 rfl rfl 4 (by decide) (hts _ tw791) (fun _ h9 => h9) rfl d_M_field_68 ?_
        refine lv_aload_n hx hb d_M_field_71 rfl (lv_at hl 0 rfl) ?_
        refine va_get (D := D) (ci := 11) (v := .int v_fields_39) (C := "ObjectBaseModel") (T := TC_M) (N := 66) hx hb hts inC_M hown hK hP 0 rfl rfl 2 (by decide) (hts _ tw789) (fun _ h9 => h9) rfl d_M_field_72 ?_
        refine lv_iload_n hx hb d_M_field_75 rfl (lv_at hl 2 rfl) ?_
        obtain ⟨hg76, hf⟩ := ob_iv_g hf
        refine va_iast hx hb hK hP hD hS 2 0 rfl rfl hg76 d_M_field_76 (fun H locs hP hD hS => ?_)
        have hP : va_P D vwCl (cw_M_field G a_t a_owner a_sort a_aim a_parent a_indexClass a_indexPath a_classes1 a_dValues a_dSets a_dNames a_values a_sets a_names a_draft a_lengths a_text a_classOfQuestion a_split a_steps a_what a_one a_two a_opened a_openedAt a_stands a_variable a_truth a_rest a_loopAt a_loopFound a_hits v_classes v_fields_39 v_begun v_indexes v_made v_slotted v_half v_open v_known v_fresh v_changed v_renamed v_down v_armed v_written v_logged v_marked v_logSize v_drafted v_questions v_now v_at v_bad v_opens v_deep v_aimed v_truths v_loops v_valued v_value v_set v_latest v_fits v_total v_looked (upd v_owner_39 v_fields_39.toNatClampNeg p1) (upd v_sort_39 v_fields_39.toNatClampNeg p2) v_aim_39) H := hP
        have hD : va_D A (cw_M_field G a_t a_owner a_sort a_aim a_parent a_indexClass a_indexPath a_classes1 a_dValues a_dSets a_dNames a_values a_sets a_names a_draft a_lengths a_text a_classOfQuestion a_split a_steps a_what a_one a_two a_opened a_openedAt a_stands a_variable a_truth a_rest a_loopAt a_loopFound a_hits v_classes v_fields_39 v_begun v_indexes v_made v_slotted v_half v_open v_known v_fresh v_changed v_renamed v_down v_armed v_written v_logged v_marked v_logSize v_drafted v_questions v_now v_at v_bad v_opens v_deep v_aimed v_truths v_loops v_valued v_value v_set v_latest v_fits v_total v_looked (upd v_owner_39 v_fields_39.toNatClampNeg p1) (upd v_sort_39 v_fields_39.toNatClampNeg p2) v_aim_39) := hD
        refine lv_aload_n hx hb d_M_field_77 rfl (lv_at hl 0 rfl) ?_
        refine va_get (D := D) (ci := 11) (v := .ref a_aim) (C := "ObjectBaseModel") (T := TC_M) (N := 66) hx hb hts inC_M hown hK hP 0 rfl rfl 5 (by decide) (hts _ tw792) (fun _ h9 => h9) rfl d_M_field_78 ?_
        refine lv_aload_n hx hb d_M_field_81 rfl (lv_at hl 0 rfl) ?_
        refine va_get (D := D) (ci := 11) (v := .int v_fields_39) (C := "ObjectBaseModel") (T := TC_M) (N := 66) hx hb hts inC_M hown hK hP 0 rfl rfl 2 (by decide) (hts _ tw789) (fun _ h9 => h9) rfl d_M_field_82 ?_
        refine lv_iload_n hx hb d_M_field_85 rfl (lv_at hl 3 rfl) ?_
        obtain ⟨hg86, hf⟩ := ob_iv_g hf
        refine va_iast hx hb hK hP hD hS 3 0 rfl rfl hg86 d_M_field_86 (fun H locs hP hD hS => ?_)
        have hP : va_P D vwCl (cw_M_field G a_t a_owner a_sort a_aim a_parent a_indexClass a_indexPath a_classes1 a_dValues a_dSets a_dNames a_values a_sets a_names a_draft a_lengths a_text a_classOfQuestion a_split a_steps a_what a_one a_two a_opened a_openedAt a_stands a_variable a_truth a_rest a_loopAt a_loopFound a_hits v_classes v_fields_39 v_begun v_indexes v_made v_slotted v_half v_open v_known v_fresh v_changed v_renamed v_down v_armed v_written v_logged v_marked v_logSize v_drafted v_questions v_now v_at v_bad v_opens v_deep v_aimed v_truths v_loops v_valued v_value v_set v_latest v_fits v_total v_looked (upd v_owner_39 v_fields_39.toNatClampNeg p1) (upd v_sort_39 v_fields_39.toNatClampNeg p2) (upd v_aim_39 v_fields_39.toNatClampNeg p3)) H := hP
        have hD : va_D A (cw_M_field G a_t a_owner a_sort a_aim a_parent a_indexClass a_indexPath a_classes1 a_dValues a_dSets a_dNames a_values a_sets a_names a_draft a_lengths a_text a_classOfQuestion a_split a_steps a_what a_one a_two a_opened a_openedAt a_stands a_variable a_truth a_rest a_loopAt a_loopFound a_hits v_classes v_fields_39 v_begun v_indexes v_made v_slotted v_half v_open v_known v_fresh v_changed v_renamed v_down v_armed v_written v_logged v_marked v_logSize v_drafted v_questions v_now v_at v_bad v_opens v_deep v_aimed v_truths v_loops v_valued v_value v_set v_latest v_fits v_total v_looked (upd v_owner_39 v_fields_39.toNatClampNeg p1) (upd v_sort_39 v_fields_39.toNatClampNeg p2) (upd v_aim_39 v_fields_39.toNatClampNeg p3)) := hD
        refine lv_aload_n hx hb d_M_field_87 rfl (lv_at hl 0 rfl) ?_
        refine lv_dup hx hb d_M_field_88 rfl ?_
        refine va_get (D := D) (ci := 11) (v := .int v_fields_39) (C := "ObjectBaseModel") (T := TC_M) (N := 66) hx hb hts inC_M hown hK hP 0 rfl rfl 2 (by decide) (hts _ tw789) (fun _ h9 => h9) rfl d_M_field_89 ?_
        refine lv_iconst (v := 1) hx hb d_M_field_92 (by decide) ?_
        refine lv_iadd hx hb d_M_field_93 ?_
        refine va_put (D := D) (ci := 11) (v := .int (v_fields_39 + 1)) (ty := .int) (C := "ObjectBaseModel") (T := TC_M) (N := 66) hx hb hts inC_M tyC_M tyC_M_ok nmC_M hown hK hP hD hS 0 rfl rfl 2 (by decide) (hts _ tw789) (fun _ h9 => h9) rfl (by decide +kernel) rfl rfl (Nat.le_of_ble_eq_true rfl) d_M_field_94 (fun H locs hP hD hS => ?_)
        have hP : va_P D vwCl (cw_M_field G a_t a_owner a_sort a_aim a_parent a_indexClass a_indexPath a_classes1 a_dValues a_dSets a_dNames a_values a_sets a_names a_draft a_lengths a_text a_classOfQuestion a_split a_steps a_what a_one a_two a_opened a_openedAt a_stands a_variable a_truth a_rest a_loopAt a_loopFound a_hits v_classes (v_fields_39 + 1) v_begun v_indexes v_made v_slotted v_half v_open v_known v_fresh v_changed v_renamed v_down v_armed v_written v_logged v_marked v_logSize v_drafted v_questions v_now v_at v_bad v_opens v_deep v_aimed v_truths v_loops v_valued v_value v_set v_latest v_fits v_total v_looked (upd v_owner_39 v_fields_39.toNatClampNeg p1) (upd v_sort_39 v_fields_39.toNatClampNeg p2) (upd v_aim_39 v_fields_39.toNatClampNeg p3)) H := hP
        have hD : va_D A (cw_M_field G a_t a_owner a_sort a_aim a_parent a_indexClass a_indexPath a_classes1 a_dValues a_dSets a_dNames a_values a_sets a_names a_draft a_lengths a_text a_classOfQuestion a_split a_steps a_what a_one a_two a_opened a_openedAt a_stands a_variable a_truth a_rest a_loopAt a_loopFound a_hits v_classes (v_fields_39 + 1) v_begun v_indexes v_made v_slotted v_half v_open v_known v_fresh v_changed v_renamed v_down v_armed v_written v_logged v_marked v_logSize v_drafted v_questions v_now v_at v_bad v_opens v_deep v_aimed v_truths v_loops v_valued v_value v_set v_latest v_fits v_total v_looked (upd v_owner_39 v_fields_39.toNatClampNeg p1) (upd v_sort_39 v_fields_39.toNatClampNeg p2) (upd v_aim_39 v_fields_39.toNatClampNeg p3)) := hD
        refine lv_aload_n hx hb d_M_field_97 rfl (lv_at hl 0 rfl) ?_
        refine va_get (D := D) (ci := 11) (v := .int (v_fields_39 + 1)) (C := "ObjectBaseModel") (T := TC_M) (N := 66) hx hb hts inC_M hown hK hP 0 rfl rfl 2 (by decide) (hts _ tw789) (fun _ h9 => h9) rfl d_M_field_98 ?_
        refine lv_iconst (v := 1) hx hb d_M_field_101 (by decide) ?_
        refine lv_isub hx hb d_M_field_102 ?_
        exact hret ((v_fields_39 + 1) - 1, v_fields_39 + 1, upd v_owner_39 v_fields_39.toNatClampNeg p1, upd v_sort_39 v_fields_39.toNatClampNeg p2, upd v_aim_39 v_fields_39.toNatClampNeg p3) H locs _ ls hf hP hD hS rfl d_M_field_103
      · have hf := ob_f hc52 hf
        refine lv_iconst (v := (-1)) hx hb d_M_field_55 (by decide) ?_
        exact hret ((-1), v_fields_39, v_owner_39, v_sort_39, v_aim_39) H locs _ ls hf hP hD hS rfl d_M_field_56
  refine lv_aload_n hx hb d_M_field_0 rfl (lv_at hl 0 rfl) ?_
  refine va_get (D := D) (ci := 11) (v := .int v_down) (C := "ObjectBaseModel") (T := TC_M) (N := 66) hx hb hts inC_M hown hK hP 0 rfl rfl 25 (by decide) (hts _ tw812) (fun _ h9 => h9) rfl d_M_field_1 ?_
  refine lv_if_eq (tgt := 10) hx hb d_M_field_4 (by decide) (fun hc4 => ?_) (fun hc4 => ?_)
  · have hf := ob_t hc4 hf
    refine lv_aload_n hx hb d_M_field_10 rfl (lv_at hl 0 rfl) ?_
    refine lv_iload_n hx hb d_M_field_11 rfl (lv_at hl 1 rfl) ?_
    obtain ⟨o12, ho12, hf⟩ := ob_b hf
    refine ob_calli (w2 := (cw_M_field G a_t a_owner a_sort a_aim a_parent a_indexClass a_indexPath a_classes1 a_dValues a_dSets a_dNames a_values a_sets a_names a_draft a_lengths a_text a_classOfQuestion a_split a_steps a_what a_one a_two a_opened a_openedAt a_stands a_variable a_truth a_rest a_loopAt a_loopFound a_hits v_classes v_fields v_begun v_indexes v_made v_slotted v_half v_open v_known v_fresh v_changed v_renamed v_down v_armed v_written v_logged v_marked v_logSize v_drafted v_questions v_now v_at v_bad v_opens v_deep v_aimed v_truths v_loops v_valued v_value v_set v_latest v_fits v_total v_looked v_owner v_sort v_aim)) (va_runV (As := [.int p1]) (rest := []) ⟨hx, hb, hml, hown, hts⟩ (c_M_isClass l D G a_t a_parent a_owner a_sort a_aim a_indexClass a_indexPath a_classes1 a_dValues a_dSets a_dNames a_values a_sets a_names a_draft a_lengths a_text a_classOfQuestion a_split a_steps a_what a_one a_two a_opened a_openedAt a_stands a_variable a_truth a_rest a_loopAt a_loopFound a_hits v_classes v_fields v_begun v_indexes v_made v_slotted v_half v_open v_known v_fresh v_changed v_renamed v_down v_armed v_written v_logged v_marked v_logSize v_drafted v_questions v_now v_at v_bad v_opens v_deep v_aimed v_truths v_loops v_valued v_value v_set v_latest v_fits v_total v_looked p1 o12 ho12 H.size) (cwV 1 hts (gV tw995 tw997 tp28 tw11 tw998) rfl rfl rfl (by decide +kernel) ⟨Nat.le_of_ble_eq_true rfl, Nat.le_of_ble_eq_true rfl⟩) (ob_preV (q0 := 0) (ci := 11) hZ hK hP hD [0] rfl rfl rfl rfl rfl) rfl rfl hl.1 rfl (lv_room (Nat.le_of_ble_eq_true rfl)) d_M_field_12 ⟨Nat.le_refl _, Nat.le_refl _⟩) hP hD hA hS [0] rfl rfl rfl rfl (fun H locs hP hD hS => ?_)
    refine lv_if_eq (tgt := 55) hx hb d_M_field_15 (by decide) (fun hc15 => ?_) (fun hc15 => ?_)
    · have hf := ob_t hc15 hf
      refine lv_iconst (v := (-1)) hx hb d_M_field_55 (by decide) ?_
      exact hret ((-1), v_fields, v_owner, v_sort, v_aim) H locs _ ls hf hP hD hS rfl d_M_field_56
    · have hf := ob_f hc15 hf
      refine lv_iload_n hx hb d_M_field_18 rfl (lv_at hl 2 rfl) ?_
      refine lv_if_lt (tgt := 55) hx hb d_M_field_19 (by decide) (fun hc19 => ?_) (fun hc19 => ?_)
      · have hf := ob_t hc19 hf
        refine lv_iconst (v := (-1)) hx hb d_M_field_55 (by decide) ?_
        exact hret ((-1), v_fields, v_owner, v_sort, v_aim) H locs _ ls hf hP hD hS rfl d_M_field_56
      · have hf := ob_f hc19 hf
        refine lv_iload_n hx hb d_M_field_22 rfl (lv_at hl 2 rfl) ?_
        refine lv_iconst (v := 2) hx hb d_M_field_23 (by decide) ?_
        refine lv_icmp_gt (tgt := 55) hx hb d_M_field_24 (by decide) (fun hc24 => ?_) (fun hc24 => ?_)
        · have hf := ob_t hc24 hf
          refine lv_iconst (v := (-1)) hx hb d_M_field_55 (by decide) ?_
          exact hret ((-1), v_fields, v_owner, v_sort, v_aim) H locs _ ls hf hP hD hS rfl d_M_field_56
        · have hf := ob_f hc24 hf
          refine lv_iload_n hx hb d_M_field_27 rfl (lv_at hl 2 rfl) ?_
          refine lv_if_eq (tgt := 39) hx hb d_M_field_28 (by decide) (fun hc28 => ?_) (fun hc28 => ?_)
          · have hf := ob_t hc28 hf
            exact blk39 v_fields v_owner v_sort v_aim ls H locs (lv_sub hl [0, 1, 2, 3] rfl) hP hD hS hf
          · have hf := ob_f hc28 hf
            refine lv_aload_n hx hb d_M_field_31 rfl (lv_at hl 0 rfl) ?_
            refine lv_iload_n hx hb d_M_field_32 rfl (lv_at hl 3 rfl) ?_
            obtain ⟨o33, ho33, hf⟩ := ob_b hf
            refine ob_calli (w2 := (cw_M_field G a_t a_owner a_sort a_aim a_parent a_indexClass a_indexPath a_classes1 a_dValues a_dSets a_dNames a_values a_sets a_names a_draft a_lengths a_text a_classOfQuestion a_split a_steps a_what a_one a_two a_opened a_openedAt a_stands a_variable a_truth a_rest a_loopAt a_loopFound a_hits v_classes v_fields v_begun v_indexes v_made v_slotted v_half v_open v_known v_fresh v_changed v_renamed v_down v_armed v_written v_logged v_marked v_logSize v_drafted v_questions v_now v_at v_bad v_opens v_deep v_aimed v_truths v_loops v_valued v_value v_set v_latest v_fits v_total v_looked v_owner v_sort v_aim)) (va_runV (As := [.int p3]) (rest := []) ⟨hx, hb, hml, hown, hts⟩ (c_M_isClass l D G a_t a_parent a_owner a_sort a_aim a_indexClass a_indexPath a_classes1 a_dValues a_dSets a_dNames a_values a_sets a_names a_draft a_lengths a_text a_classOfQuestion a_split a_steps a_what a_one a_two a_opened a_openedAt a_stands a_variable a_truth a_rest a_loopAt a_loopFound a_hits v_classes v_fields v_begun v_indexes v_made v_slotted v_half v_open v_known v_fresh v_changed v_renamed v_down v_armed v_written v_logged v_marked v_logSize v_drafted v_questions v_now v_at v_bad v_opens v_deep v_aimed v_truths v_loops v_valued v_value v_set v_latest v_fits v_total v_looked p3 o33 ho33 H.size) (cwV 1 hts (gV tw995 tw997 tp28 tw11 tw998) rfl rfl rfl (by decide +kernel) ⟨Nat.le_of_ble_eq_true rfl, Nat.le_of_ble_eq_true rfl⟩) (ob_preV (q0 := 0) (ci := 11) hZ hK hP hD [0] rfl rfl rfl rfl rfl) rfl rfl hl.1 rfl (lv_room (Nat.le_of_ble_eq_true rfl)) d_M_field_33 ⟨Nat.le_refl _, Nat.le_refl _⟩) hP hD hA hS [0] rfl rfl rfl rfl (fun H locs hP hD hS => ?_)
            refine lv_if_eq (tgt := 55) hx hb d_M_field_36 (by decide) (fun hc36 => ?_) (fun hc36 => ?_)
            · have hf := ob_t hc36 hf
              refine lv_iconst (v := (-1)) hx hb d_M_field_55 (by decide) ?_
              exact hret ((-1), v_fields, v_owner, v_sort, v_aim) H locs _ ls hf hP hD hS rfl d_M_field_56
            · have hf := ob_f hc36 hf
              exact blk39 v_fields v_owner v_sort v_aim ls H locs (lv_sub hl [0, 1, 2, 3] rfl) hP hD hS hf
  · have hf := ob_f hc4 hf
    refine lv_bipush (v := (-4)) hx hb d_M_field_7 (by decide) ?_
    exact hret ((-4), v_fields, v_owner, v_sort, v_aim) H locs _ ls hf hP hD hS rfl d_M_field_9
