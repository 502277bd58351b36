abbrev bc_M_has : ByteArray := prog_13_method_6_code
abbrev y_M_has : MethodName := ⟨"ObjectBaseModel", "has", "(III)Z"⟩
def ws_M_has : List Cond := .code y_M_has bc_M_has 4 (some .boolean) :: obW
theorem d_M_has_0 : decode bc_M_has 0 = .ok (.iload_n 2, 1) := by decide +kernel
theorem d_M_has_1 : decode bc_M_has 1 = .ok (.ifCond .lt 43, 3) := by decide +kernel
theorem d_M_has_4 : decode bc_M_has 4 = .ok (.iload_n 2, 1) := by decide +kernel
theorem d_M_has_5 : decode bc_M_has 5 = .ok (.aload_n 0, 1) := by decide +kernel
theorem d_M_has_6 : decode bc_M_has 6 = .ok (.getfield 123, 3) := by decide +kernel
theorem d_M_has_9 : decode bc_M_has 9 = .ok (.if_icmp .ge 35, 3) := by decide +kernel
theorem d_M_has_12 : decode bc_M_has 12 = .ok (.aload_n 0, 1) := by decide +kernel
theorem d_M_has_13 : decode bc_M_has 13 = .ok (.iload_n 1, 1) := by decide +kernel
theorem d_M_has_14 : decode bc_M_has 14 = .ok (.aload_n 0, 1) := by decide +kernel
theorem d_M_has_15 : decode bc_M_has 15 = .ok (.getfield 13, 3) := by decide +kernel
theorem d_M_has_18 : decode bc_M_has 18 = .ok (.iload_n 2, 1) := by decide +kernel
theorem d_M_has_19 : decode bc_M_has 19 = .ok (.iaload, 1) := by decide +kernel
theorem d_M_has_20 : decode bc_M_has 20 = .ok (.invokevirtual 126, 3) := by decide +kernel
theorem d_M_has_23 : decode bc_M_has 23 = .ok (.ifCond .eq 21, 3) := by decide +kernel
theorem d_M_has_26 : decode bc_M_has 26 = .ok (.iload_n 3, 1) := by decide +kernel
theorem d_M_has_27 : decode bc_M_has 27 = .ok (.ifCond .lt 13, 3) := by decide +kernel
theorem d_M_has_30 : decode bc_M_has 30 = .ok (.aload_n 0, 1) := by decide +kernel
theorem d_M_has_31 : decode bc_M_has 31 = .ok (.getfield 16, 3) := by decide +kernel
theorem d_M_has_34 : decode bc_M_has 34 = .ok (.iload_n 2, 1) := by decide +kernel
theorem d_M_has_35 : decode bc_M_has 35 = .ok (.iaload, 1) := by decide +kernel
theorem d_M_has_36 : decode bc_M_has 36 = .ok (.iload_n 3, 1) := by decide +kernel
theorem d_M_has_37 : decode bc_M_has 37 = .ok (.if_icmp .ne 7, 3) := by decide +kernel
theorem d_M_has_40 : decode bc_M_has 40 = .ok (.iconst 1, 1) := by decide +kernel
theorem d_M_has_41 : decode bc_M_has 41 = .ok (.goto 4, 3) := by decide +kernel
theorem d_M_has_44 : decode bc_M_has 44 = .ok (.iconst 0, 1) := by decide +kernel
theorem d_M_has_45 : decode bc_M_has 45 = .ok (.ireturn, 1) := by decide +kernel
def cw_M_has (G : Nat → ClassId) (a_t a_owner a_parent a_sort a_aim a_indexClass a_indexPath a_classes1 a_dValues a_dSets a_dNames a_values a_sets a_names a_draft a_lengths a_text a_classOfQuestion a_split a_steps a_what a_one a_two a_opened a_openedAt a_stands a_variable a_truth a_rest a_loopAt a_loopFound a_hits : Nat) (v_classes : Int32) (v_fields : Int32) (v_begun : Int32) (v_indexes : Int32) (v_made : Int32) (v_slotted : Int64) (v_half : Int32) (v_open : Int32) (v_known : Int64) (v_fresh : Int64) (v_changed : Int64) (v_renamed : Int32) (v_down : Int32) (v_armed : Int32) (v_written : Int32) (v_logged : Int32) (v_marked : Int32) (v_logSize : Int32) (v_drafted : Int32) (v_questions : Int32) (v_now : Int32) (v_at : Int32) (v_bad : Int32) (v_opens : Int32) (v_deep : Int32) (v_aimed : Int32) (v_truths : Int32) (v_loops : Int32) (v_valued : Int32) (v_value : Int32) (v_set : Int64) (v_latest : Int32) (v_fits : Int32) (v_total : Int64) (v_looked : Int32) (v_owner : Nat → Int32) (v_parent : Nat → Int32) (v_sort : Nat → Int32) : va_W := [(a_t, .inr (11, [.int v_classes, .ref a_parent, .int v_fields, .ref a_owner, .ref a_sort, .ref a_aim, .int v_begun, .int v_indexes, .ref a_indexClass, .ref a_indexPath, .int v_made, .ref a_classes1, .ref a_dValues, .ref a_dSets, .ref a_dNames, .ref a_values, .ref a_sets, .ref a_names, .long v_slotted, .int v_half, .int v_open, .long v_known, .long v_fresh, .long v_changed, .int v_renamed, .int v_down, .int v_armed, .int v_written, .int v_logged, .int v_marked, .int v_logSize, .int v_drafted, .ref a_draft, .int v_questions, .ref a_lengths, .ref a_text, .ref a_classOfQuestion, .ref a_split, .ref a_steps, .ref a_what, .ref a_one, .ref a_two, .int v_now, .int v_at, .int v_bad, .int v_opens, .ref a_opened, .ref a_openedAt, .int v_deep, .int v_aimed, .ref a_stands, .ref a_variable, .int v_truths, .ref a_truth, .int v_loops, .ref a_rest, .ref a_loopAt, .ref a_loopFound, .int v_valued, .int v_value, .long v_set, .int v_latest, .int v_fits, .ref a_hits, .long v_total, .int v_looked])), (a_owner, .inl (G 0, 8, .inl v_owner)), (a_parent, .inl (G 0, 6, .inl v_parent)), (a_sort, .inl (G 0, 8, .inl v_sort))]
def f_M_has (v_fields : Int32) (v_owner : Nat → Int32) (v_parent : Nat → Int32) (v_sort : Nat → Int32) (p1 : Int32) (p2 : Int32) (p3 : Int32) : Option (Int32) := if p2 < 0 then (some 0) else (if v_fields ≤ p2 then (some 0) else (ob_iv p2 8 ((f_M_is v_parent p1 (v_owner p2.toNatClampNeg)).bind fun o20 => (if o20 = 0 then (some 0) else (if p3 < 0 then (some 1) else (ob_iv p2 8 (if (v_sort p2.toNatClampNeg) = p3 then (some 1) else (some 0))))))))
set_option maxHeartbeats 4000000 in
set_option maxRecDepth 100000 in
theorem c_M_has (l : Launch) (D : va_G) (G : Nat → ClassId) (a_t a_owner a_parent a_sort a_aim a_indexClass a_indexPath a_classes1 a_dValues a_dSets a_dNames a_values a_sets a_names a_draft a_lengths a_text a_classOfQuestion a_split a_steps a_what a_one a_two a_opened a_openedAt a_stands a_variable a_truth a_rest a_loopAt a_loopFound a_hits : Nat) (v_classes : Int32) (v_fields : Int32) (v_begun : Int32) (v_indexes : Int32) (v_made : Int32) (v_slotted : Int64) (v_half : Int32) (v_open : Int32) (v_known : Int64) (v_fresh : Int64) (v_changed : Int64) (v_renamed : Int32) (v_down : Int32) (v_armed : Int32) (v_written : Int32) (v_logged : Int32) (v_marked : Int32) (v_logSize : Int32) (v_drafted : Int32) (v_questions : Int32) (v_now : Int32) (v_at : Int32) (v_bad : Int32) (v_opens : Int32) (v_deep : Int32) (v_aimed : Int32) (v_truths : Int32) (v_loops : Int32) (v_valued : Int32) (v_value : Int32) (v_set : Int64) (v_latest : Int32) (v_fits : Int32) (v_total : Int64) (v_looked : Int32) (v_owner : Nat → Int32) (v_parent : Nat → Int32) (v_sort : Nat → Int32) (p1 : Int32) (p2 : Int32) (p3 : Int32) (o : Int32) (hf : f_M_has v_fields v_owner v_parent v_sort p1 p2 p3 = some o) (sz : Nat) : MetI l y_M_has ws_M_has ({ frames := 1, cells := 0, slots := 0, locals := 24 }) D (obT G) (cw_M_has G a_t a_owner a_parent a_sort a_aim a_indexClass a_indexPath a_classes1 a_dValues a_dSets a_dNames a_values a_sets a_names a_draft a_lengths a_text a_classOfQuestion a_split a_steps a_what a_one a_two a_opened a_openedAt a_stands a_variable a_truth a_rest a_loopAt a_loopFound a_hits v_classes v_fields v_begun v_indexes v_made v_slotted v_half v_open v_known v_fresh v_changed v_renamed v_down v_armed v_written v_logged v_marked v_logSize v_drafted v_questions v_now v_at v_bad v_opens v_deep v_aimed v_truths v_loops v_valued v_value v_set v_latest v_fits v_total v_looked v_owner v_parent v_sort) (cw_M_has G a_t a_owner a_parent a_sort a_aim a_indexClass a_indexPath a_classes1 a_dValues a_dSets a_dNames a_values a_sets a_names a_draft a_lengths a_text a_classOfQuestion a_split a_steps a_what a_one a_two a_opened a_openedAt a_stands a_variable a_truth a_rest a_loopAt a_loopFound a_hits v_classes v_fields v_begun v_indexes v_made v_slotted v_half v_open v_known v_fresh v_changed v_renamed v_down v_armed v_written v_logged v_marked v_logSize v_drafted v_questions v_now v_at v_bad v_opens v_deep v_aimed v_truths v_loops v_valued v_value v_set v_latest v_fits v_total v_looked v_owner v_parent v_sort) [.ref a_t, .int p1, .int p2, .int p3] o sz := by
  refine ob_of (cc := bc_M_has) (maxL := 4) (ret := (some .boolean)) (Qc := ObQi D (obT G) (cw_M_has G a_t a_owner a_parent a_sort a_aim a_indexClass a_indexPath a_classes1 a_dValues a_dSets a_dNames a_values a_sets a_names a_draft a_lengths a_text a_classOfQuestion a_split a_steps a_what a_one a_two a_opened a_openedAt a_stands a_variable a_truth a_rest a_loopAt a_loopFound a_hits v_classes v_fields v_begun v_indexes v_made v_slotted v_half v_open v_known v_fresh v_changed v_renamed v_down v_armed v_written v_logged v_marked v_logSize v_drafted v_questions v_now v_at v_bad v_opens v_deep v_aimed v_truths v_loops v_valued v_value v_set v_latest v_fits v_total v_looked v_owner v_parent v_sort) o) (by decide) rfl (Nat.le_of_ble_eq_true rfl) ?_
  intro p e s m below meth c A ls H locs hx hb hr hml hts hown hlk hnm hZ hP hK hD hA hS hl
  have hret : ∀ (o' : Int32) (H : Heap) (locs : List Loc) (pc : Nat) (ls : Array Slot), some o' = some o → va_P D vwCl (cw_M_has G a_t a_owner a_parent a_sort a_aim a_indexClass a_indexPath a_classes1 a_dValues a_dSets a_dNames a_values a_sets a_names a_draft a_lengths a_text a_classOfQuestion a_split a_steps a_what a_one a_two a_opened a_openedAt a_stands a_variable a_truth a_rest a_loopAt a_loopFound a_hits v_classes v_fields v_begun v_indexes v_made v_slotted v_half v_open v_known v_fresh v_changed v_renamed v_down v_armed v_written v_logged v_marked v_logSize v_drafted v_questions v_now v_at v_bad v_opens v_deep v_aimed v_truths v_loops v_valued v_value v_set v_latest v_fits v_total v_looked v_owner v_parent v_sort) H → va_D A (cw_M_has G a_t a_owner a_parent a_sort a_aim a_indexClass a_indexPath a_classes1 a_dValues a_dSets a_dNames a_values a_sets a_names a_draft a_lengths a_text a_classOfQuestion a_split a_steps a_what a_one a_two a_opened a_openedAt a_stands a_variable a_truth a_rest a_loopAt a_loopFound a_hits v_classes v_fields v_begun v_indexes v_made v_slotted v_half v_open v_known v_fresh v_changed v_renamed v_down v_armed v_written v_logged v_marked v_logSize v_drafted v_questions v_now v_at v_bad v_opens v_deep v_aimed v_truths v_loops v_valued v_value v_set v_latest v_fits v_total v_looked v_owner v_parent v_sort) → va_S A s.heap H locs → narrow .boolean (.int o') = .int o' → decode bc_M_has pc = .ok (.ireturn, 1) → W p l e { frames := 1, cells := 0, slots := 0, locals := 24 } s m ([.ref a_t, .int p1, .int p2, .int p3] : List Value).toArray below meth c H locs 0 0 (MQ below (ObQi D (obT G) (cw_M_has G a_t a_owner a_parent a_sort a_aim a_indexClass a_indexPath a_classes1 a_dValues a_dSets a_dNames a_values a_sets a_names a_draft a_lengths a_text a_classOfQuestion a_split a_steps a_what a_one a_two a_opened a_openedAt a_stands a_variable a_truth a_rest a_loopAt a_loopFound a_hits v_classes v_fields v_begun v_indexes v_made v_slotted v_half v_open v_known v_fresh v_changed v_renamed v_down v_armed v_written v_logged v_marked v_logSize v_drafted v_questions v_now v_at v_bad v_opens v_deep v_aimed v_truths v_loops v_valued v_value v_set v_latest v_fits v_total v_looked v_owner v_parent v_sort) o A) ([.ref a_t, .int p1, .int p2, .int p3] : List Value).toArray s 0 0 A) (F0 m pc ls [.int o']) := by
    intro o' H locs pc ls he hP hD hS hn hd
    obtain rfl := Option.some.inj he
    exact ob_iret hx hb hr hlk hK hP hD hS hn hd
  generalize MQ below (ObQi D (obT G) (cw_M_has G a_t a_owner a_parent a_sort a_aim a_indexClass a_indexPath a_classes1 a_dValues a_dSets a_dNames a_values a_sets a_names a_draft a_lengths a_text a_classOfQuestion a_split a_steps a_what a_one a_two a_opened a_openedAt a_stands a_variable a_truth a_rest a_loopAt a_loopFound a_hits v_classes v_fields v_begun v_indexes v_made v_slotted v_half v_open v_known v_fresh v_changed v_renamed v_down v_armed v_written v_logged v_marked v_logSize v_drafted v_questions v_now v_at v_bad v_opens v_deep v_aimed v_truths v_loops v_valued v_value v_set v_latest v_fits v_total v_looked v_owner v_parent v_sort) o A) ([.ref a_t, .int p1, .int p2, .int p3] : List Value).toArray s 0 0 A = Q at hret ⊢
  have hl : lv_has ls 4 [(0, .ref a_t), (1, .int p1), (2, .int p2), (3, .int p3)] := hl
  unfold f_M_has at hf
  refine lv_iload_n hx hb d_M_has_0 rfl (lv_at hl 2 rfl) ?_
  refine lv_if_lt (tgt := 44) hx hb d_M_has_1 (by decide) (fun hc1 => ?_) (fun hc1 => ?_)
  · have hf := ob_t hc1 hf
    refine lv_iconst (v := 0) hx hb d_M_has_44 (by decide) ?_
    exact hret 0 H locs _ ls hf hP hD hS narrow_b0 d_M_has_45
  · have hf := ob_f hc1 hf
    refine lv_iload_n hx hb d_M_has_4 rfl (lv_at hl 2 rfl) ?_
    refine lv_aload_n hx hb d_M_has_5 rfl (lv_at hl 0 rfl) ?_
    refine va_get (D := D) (ci := 11) (v := .int v_fields) (C := "ObjectBaseModel") (T := TC_M) (N := 66) hx hb hts inC_M hown hK hP 0 rfl rfl 2 (by decide) (hts _ tw789) (fun _ h9 => h9) rfl d_M_has_6 ?_
    refine lv_icmp_ge (tgt := 44) hx hb d_M_has_9 (by decide) (fun hc9 => ?_) (fun hc9 => ?_)
    · have hf := ob_t hc9 hf
      refine lv_iconst (v := 0) hx hb d_M_has_44 (by decide) ?_
      exact hret 0 H locs _ ls hf hP hD hS narrow_b0 d_M_has_45
    · have hf := ob_f hc9 hf
      refine lv_aload_n hx hb d_M_has_12 rfl (lv_at hl 0 rfl) ?_
      refine lv_iload_n hx hb d_M_has_13 rfl (lv_at hl 1 rfl) ?_
      refine lv_aload_n hx hb d_M_has_14 rfl (lv_at hl 0 rfl) ?_
      refine va_get (D := D) (ci := 11) (v := .ref a_owner) (C := "ObjectBaseModel") (T := TC_M) (N := 66) hx hb hts inC_M hown hK hP 0 rfl rfl 3 (by decide) (hts _ tw790) (fun _ h9 => h9) rfl d_M_has_15 ?_
      refine lv_iload_n hx hb d_M_has_18 rfl (lv_at hl 2 rfl) ?_
      obtain ⟨hg19, hf⟩ := ob_iv_g hf
      refine va_iald hx hb hK hP 1 0 rfl rfl hg19 d_M_has_19 ?_
      obtain ⟨o20, ho20, hf⟩ := ob_b hf
      have hRun := va_runV (R := ({ frames := 1, cells := 0, slots := 0, locals := 24 })) (locs := locs) (H := H) (l := l) (e := e) (below := below) (meth := meth) (cells := 0) (slots := 0) (g := F0 m 20 ls [.int (v_owner p2.toNatClampNeg), .int p1, .ref a_t]) (As := [.int p1, .int (v_owner p2.toNatClampNeg)]) (rest := []) ⟨hx, hb, hml, hown, hts⟩ (c_M_is l D G a_t a_parent a_owner a_sort a_aim a_indexClass a_indexPath a_classes1 a_dValues a_dSets a_dNames a_values a_sets a_names a_draft a_lengths a_text a_classOfQuestion a_split a_steps a_what a_one a_two a_opened a_openedAt a_stands a_variable a_truth a_rest a_loopAt a_loopFound a_hits v_classes v_fields v_begun v_indexes v_made v_slotted v_half v_open v_known v_fresh v_changed v_renamed v_down v_armed v_written v_logged v_marked v_logSize v_drafted v_questions v_now v_at v_bad v_opens v_deep v_aimed v_truths v_loops v_valued v_value v_set v_latest v_fits v_total v_looked v_parent p1 (v_owner p2.toNatClampNeg) o20 ho20 H.size) (cwV 2 hts (gV tw1007 tw1009 tp30 tw11 tw1010) rfl rfl rfl (by decide +kernel) ⟨Nat.le_of_ble_eq_true rfl, Nat.le_of_ble_eq_true rfl⟩) (ob_preV (q0 := 0) (ci := 11) hZ hK hP hD [0, 2] rfl rfl rfl rfl rfl) rfl rfl hl.1 rfl (lv_room (Nat.le_of_ble_eq_true rfl)) d_M_has_20 ⟨Nat.le_refl _, Nat.le_refl _⟩
      refine ob_calli (wc := (cw_M_is G a_t a_parent a_owner a_sort a_aim a_indexClass a_indexPath a_classes1 a_dValues a_dSets a_dNames a_values a_sets a_names a_draft a_lengths a_text a_classOfQuestion a_split a_steps a_what a_one a_two a_opened a_openedAt a_stands a_variable a_truth a_rest a_loopAt a_loopFound a_hits v_classes v_fields v_begun v_indexes v_made v_slotted v_half v_open v_known v_fresh v_changed v_renamed v_down v_armed v_written v_logged v_marked v_logSize v_drafted v_questions v_now v_at v_bad v_opens v_deep v_aimed v_truths v_loops v_valued v_value v_set v_latest v_fits v_total v_looked v_parent)) (wc1 := (cw_M_is G a_t a_parent a_owner a_sort a_aim a_indexClass a_indexPath a_classes1 a_dValues a_dSets a_dNames a_values a_sets a_names a_draft a_lengths a_text a_classOfQuestion a_split a_steps a_what a_one a_two a_opened a_openedAt a_stands a_variable a_truth a_rest a_loopAt a_loopFound a_hits v_classes v_fields v_begun v_indexes v_made v_slotted v_half v_open v_known v_fresh v_changed v_renamed v_down v_armed v_written v_logged v_marked v_logSize v_drafted v_questions v_now v_at v_bad v_opens v_deep v_aimed v_truths v_loops v_valued v_value v_set v_latest v_fits v_total v_looked v_parent)) (r := o20) (w2 := (cw_M_has G a_t a_owner a_parent a_sort a_aim a_indexClass a_indexPath a_classes1 a_dValues a_dSets a_dNames a_values a_sets a_names a_draft a_lengths a_text a_classOfQuestion a_split a_steps a_what a_one a_two a_opened a_openedAt a_stands a_variable a_truth a_rest a_loopAt a_loopFound a_hits v_classes v_fields v_begun v_indexes v_made v_slotted v_half v_open v_known v_fresh v_changed v_renamed v_down v_armed v_written v_logged v_marked v_logSize v_drafted v_questions v_now v_at v_bad v_opens v_deep v_aimed v_truths v_loops v_valued v_value v_set v_latest v_fits v_total v_looked v_owner v_parent v_sort)) hRun hP hD hA hS [0, 2] rfl rfl rfl rfl (fun H locs hP hD hS => ?_)
      clear hRun
      refine lv_if_eq (tgt := 44) hx hb d_M_has_23 (by decide) (fun hc23 => ?_) (fun hc23 => ?_)
      · have hf := ob_t hc23 hf
        refine lv_iconst (v := 0) hx hb d_M_has_44 (by decide) ?_
        exact hret 0 H locs _ ls hf hP hD hS narrow_b0 d_M_has_45
      · have hf := ob_f hc23 hf
        refine lv_iload_n hx hb d_M_has_26 rfl (lv_at hl 3 rfl) ?_
        refine lv_if_lt (tgt := 40) hx hb d_M_has_27 (by decide) (fun hc27 => ?_) (fun hc27 => ?_)
        · have hf := ob_t hc27 hf
          refine lv_iconst (v := 1) hx hb d_M_has_40 (by decide) ?_
          refine lv_goto (tgt := 45) hx hb d_M_has_41 (by decide) ?_
          exact hret 1 H locs _ ls hf hP hD hS narrow_b1 d_M_has_45
        · have hf := ob_f hc27 hf
          refine lv_aload_n hx hb d_M_has_30 rfl (lv_at hl 0 rfl) ?_
          refine va_get (D := D) (ci := 11) (v := .ref a_sort) (C := "ObjectBaseModel") (T := TC_M) (N := 66) hx hb hts inC_M hown hK hP 0 rfl rfl 4 (by decide) (hts _ tw791) (fun _ h9 => h9) rfl d_M_has_31 ?_
          refine lv_iload_n hx hb d_M_has_34 rfl (lv_at hl 2 rfl) ?_
          obtain ⟨hg35, hf⟩ := ob_iv_g hf
          refine va_iald hx hb hK hP 3 0 rfl rfl hg35 d_M_has_35 ?_
          refine lv_iload_n hx hb d_M_has_36 rfl (lv_at hl 3 rfl) ?_
          refine lv_icmp_ne (tgt := 44) hx hb d_M_has_37 (by decide) (fun hc37 => ?_) (fun hc37 => ?_)
          · have hf := ob_f hc37 hf
            refine lv_iconst (v := 0) hx hb d_M_has_44 (by decide) ?_
            exact hret 0 H locs _ ls hf hP hD hS narrow_b0 d_M_has_45
          · have hf := ob_t hc37 hf
            refine lv_iconst (v := 1) hx hb d_M_has_40 (by decide) ?_
            refine lv_goto (tgt := 45) hx hb d_M_has_41 (by decide) ?_
            exact hret 1 H locs _ ls hf hP hD hS narrow_b1 d_M_has_45
