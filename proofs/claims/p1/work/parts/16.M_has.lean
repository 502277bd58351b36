abbrev bc_M_has : ByteArray := prog_13_method_6_code
abbrev y_M_has : MethodName := ⟨"ObjectBaseModel", "has", "(III)Z"⟩
def ws_M_has : List Cond := .code y_M_has bc_M_has 4 (some .boolean) :: obW
theorem d_M_has_0 : decode bc_M_has 0 = .ok (.iload_n 2, 1) := by decide +kernel
theorem d_M_has_1 : decode bc_M_has 1 = .ok (.ifCond .lt 43, 3) := by decide +kernel
theorem d_M_has_4 : decode bc_M_has 4 = .ok (.iload_n 2, 1) := by decide +kernel
theorem d_M_has_5 : decode bc_M_has 5 = .ok (.aload_n 0, 1) := by decide +kernel
theorem d_M_has_6 : decode bc_M_has 6 = .ok (.getfield 123, 3) := by decide +kernel
theorem d_M_has_9 : decode bc_M_has 9 = .ok (.if_icmp .ge 35, 3) := by decide +kernel
theorem d_M_has_12 : decode bc_M_has 12 = .ok (.aload_n 0, 1) := by decide +kernel
theorem d_M_has_13 : decode bc_M_has 13 = .ok (.iload_n 1, 1) := by decide +kernel
theorem d_M_has_14 : decode bc_M_has 14 = .ok (.aload_n 0, 1) := by decide +kernel
theorem d_M_has_15 : decode bc_M_has 15 = .ok (.getfield 13, 3) := by decide +kernel
theorem d_M_has_18 : decode bc_M_has 18 = .ok (.iload_n 2, 1) := by decide +kernel
theorem d_M_has_19 : decode bc_M_has 19 = .ok (.iaload, 1) := by decide +kernel
theorem d_M_has_20 : decode bc_M_has 20 = .ok (.invokevirtual 126, 3) := by decide +kernel
theorem d_M_has_23 : decode bc_M_has 23 = .ok (.ifCond .eq 21, 3) := by decide +kernel
theorem d_M_has_26 : decode bc_M_has 26 = .ok (.iload_n 3, 1) := by decide +kernel
theorem d_M_has_27 : decode bc_M_has 27 = .ok (.ifCond .lt 13, 3) := by decide +kernel
theorem d_M_has_30 : decode bc_M_has 30 = .ok (.aload_n 0, 1) := by decide +kernel
theorem d_M_has_31 : decode bc_M_has 31 = .ok (.getfield 16, 3) := by decide +kernel
theorem d_M_has_34 : decode bc_M_has 34 = .ok (.iload_n 2, 1) := by decide +kernel
theorem d_M_has_35 : decode bc_M_has 35 = .ok (.iaload, 1) := by decide +kernel
theorem d_M_has_36 : decode bc_M_has 36 = .ok (.iload_n 3, 1) := by decide +kernel
theorem d_M_has_37 : decode bc_M_has 37 = .ok (.if_icmp .ne 7, 3) := by decide +kernel
theorem d_M_has_40 : decode bc_M_has 40 = .ok (.iconst 1, 1) := by decide +kernel
theorem d_M_has_41 : decode bc_M_has 41 = .ok (.goto 4, 3) := by decide +kernel
theorem d_M_has_44 : decode bc_M_has 44 = .ok (.iconst 0, 1) := by decide +kernel
theorem d_M_has_45 : decode bc_M_has 45 = .ok (.ireturn, 1) := by decide +kernel
def cw_M_has (G : Nat → ClassId) (a_t a_owner a_parent a_sort a_aim a_indexClass a_indexPath a_classes1 a_dValues a_dSets a_dNames a_values a_sets a_names a_draft a_lengths a_text a_classOfQuestion a_split a_steps a_what a_one a_two a_opened a_openedAt a_stands a_variable a_truth a_rest a_loopAt a_loopFound a_hits : Nat) (v_classes : Int32) (v_fields : Int32) (v_begun : Int32) (v_indexes : Int32) (v_made : Int32) (v_slotted : Int64) (v_half : Int32) (v_open : Int32) (v_known : Int64) (v_fresh : Int64) (v_changed : Int64) (v_renamed : Int32) (v_down : Int32) (v_armed : Int32) (v_written : Int32) (v_logged : Int32) (v_marked : Int32) (v_logSize : Int32) (v_drafted : Int32) (v_questions : Int32) (v_now : Int32) (v_at : Int32) (v_bad : Int32) (v_opens : Int32) (v_deep : Int32) (v_aimed : Int32) (v_truths : Int32) (v_loops : Int32) (v_valued : Int32) (v_value : Int32) (v_set : Int64) (v_latest : Int32) (v_fits : Int32) (v_total : Int64) (v_looked : Int32) (v_owner : Nat → Int32) (v_parent : Nat → Int32) (v_sort : Nat → Int32) : va_W := [(a_t, .inr (11, [.int v_classes, .ref a_parent, .int v_fields, .ref a_owner, .ref a_sort, .ref a_aim, .int v_begun, .int v_indexes, .ref a_indexClass, .ref a_indexPath, .int v_made, .ref a_classes1, .ref a_dValues, .ref a_dSets, .ref a_dNames, .ref a_values, .ref a_sets, .ref a_names, .long v_slotted, .int v_half, .int v_open, .long v_known, .long v_fresh, .long v_changed, .int v_renamed, .int v_down, .int v_armed, .int v_written, .int v_logged, .int v_marked, .int v_logSize, .int v_drafted, .ref a_draft, .int v_questions, .ref a_lengths, .ref a_text, .ref a_classOfQuestion, .ref a_split, .ref a_steps, .ref a_what, .ref a_one, .ref a_two, .int v_now, .int v_at, .int v_bad, .int v_opens, .ref a_opened, .ref a_openedAt, .int v_deep, .int v_aimed, .ref a_stands, .ref a_variable, .int v_truths, .ref a_truth, .int v_loops, .ref a_rest, .ref a_loopAt, .ref a_loopFound, .int v_valued, .int v_value, .long v_set, .int v_latest, .int v_fits, .ref a_hits, .long v_total, .int v_looked])), (a_owner, .inl (G 0, 8, .inl v_owner)), (a_parent, .inl (G 0, 6, .inl v_parent)), (a_sort, .inl (G 0, 8, .inl v_sort))]
def f_M_has (v_fields : Int32) (v_owner : Nat → Int32) (v_parent : Nat → Int32) (v_sort : Nat → Int32) (p1 : Int32) (p2 : Int32) (p3 : Int32) : Option (Int32) := if p2 < 0 then (some 0) else (if v_fields ≤ p2 then (some 0) else (ob_iv p2 8 ((f_M_is v_parent p1 (v_owner p2.toNatClampNeg)).bind fun o20 => (if o20 = 0 then (some 0) else (if p3 < 0 then (some 1) else (ob_iv p2 8 (if (v_sort p2.toNatClampNeg) = p3 then (some 1) else (some 0))))))))
set_option maxHeartbeats 4000000 in
set_option maxRecDepth 100000 in
theorem c_M_has (l : Launch) (D : va_G) (G : Nat → ClassId) (a_t a_owner a_parent a_sort a_aim a_indexClass a_indexPath a_classes1 a_dValues a_dSets a_dNames a_values a_sets a_names a_draft a_lengths a_text a_classOfQuestion a_split a_steps a_what a_one a_two a_opened a_openedAt a_stands a_variable a_truth a_rest a_loopAt a_loopFound a_hits : Nat) (v_classes : Int32) (v_fields : Int32) (v_begun : Int32) (v_indexes : Int32) (v_made : Int32) (v_slotted : Int64) (v_half : Int32) (v_open : Int32) (v_known : Int64) (v_fresh : Int64) (v_changed : Int64) (v_renamed : Int32) (v_down : Int32) (v_armed : Int32) (v_written : Int32) (v_logged : Int32) (v_marked : Int32) (v_logSize : Int32) (v_drafted : Int32) (v_questions : Int32) (v_now : Int32) (v_at : Int32) (v_bad : Int32) (v_opens : Int32) (v_deep : Int32) (v_aimed : Int32) (v_truths : Int32) (v_loops : Int32) (v_valued : Int32) (v_value : Int32) (v_set : Int64) (v_latest : Int32) (v_fits : Int32) (v_total : Int64) (v_looked : Int32) (v_owner : Nat → Int32) (v_parent : Nat → Int32) (v_sort : Nat → Int32) (p1 : Int32) (p2 : Int32) (p3 : Int32) (o : Int32) (hf : f_M_has v_fields v_owner v_parent v_sort p1 p2 p3 = some o) (sz : Nat) : MetI l y_M_has ws_M_has ({ frames := 1, cells := 0, slots := 0, locals := 24 }) D (obT G) (cw_M_has G a_t a_owner a_parent a_sort a_aim a_indexClass a_indexPath a_classes1 a_dValues a_dSets a_dNames a_values a_sets a_names a_draft a_lengths a_text a_classOfQuestion a_split a_steps a_what a_one a_two a_opened a_openedAt a_stands a_variable a_truth a_rest a_loopAt a_loopFound a_hits v_classes v_fields v_begun v_indexes v_made v_slotted v_half v_open v_known v_fresh v_changed v_renamed v_down v_armed v_written v_logged v_marked v_logSize v_drafted v_questions v_now v_at v_bad v_opens v_deep v_aimed v_truths v_loops v_valued v_value v_set v_latest v_fits v_total v_looked v_owner v_parent v_sort) (cw_M_has G a_t a_owner a_parent a_sort a_aim a_indexClass a_indexPath a_classes1 a_dValues a_dSets a_dNames a_values a_sets a_names a_draft a_lengths a_text a_classOfQuestion a_split a_steps a_what a_one a_two a_opened a_openedAt a_stands a_variable a_truth a_rest a_loopAt a_loopFound a_hits v_classes v_fields v_begun v_indexes v_made v_slotted v_half v_open v_known v_fresh v_changed v_renamed v_down v_armed v_written v_logged v_marked v_logSize v_drafted v_questions v_now v_at v_bad v_opens v_deep v_aimed v_truths v_loops v_valued v_value v_set v_latest v_fits v_total v_looked v_owner v_parent v_sort) [.ref a_t, .int p1, .int p2, .int p3] o sz := by
  refine ob_of (cc := bc_M_has) (maxL := 4) (ret := (some .boolean)) (Qc := ObQi D (obT G) (cw_M_has G a_t a_owner a_parent a_sort a_aim a_indexClass a_indexPath a_classes1 a_dValues a_dSets a_dNames a_values a_sets a_names a_draft a_lengths a_text a_classOfQuestion a_split a_steps a_what a_one a_two a_opened a_openedAt a_stands a_variable a_truth a_rest a_loopAt a_loopFound a_hits v_classes v_fields v_begun v_indexes v_made v_slotted v_half v_open v_known v_fresh v_changed v_renamed v_down v_armed v_written v_logged v_marked v_logSize v_drafted v_questions v_now v_at v_bad v_opens v_deep v_aimed v_truths v_loops v_valued v_value v_set v_latest v_fits v_total v_looked v_owner v_parent v_sort) o) (by decide) rfl (Nat.le_of_ble_eq_true rfl) ?_
  intro p e s m below meth c A ls H locs hx hb hr hml hts hown hlk hnm hZ hP hK hD hA hS hl
  have hret : ∀ (o' : Int32) (H : Heap) (locs : List Loc) (pc : Nat) (ls : Array Slot), some o' = some o → va_P D vwCl (cw_M_has G a_t a_owner a_parent a_sort a_aim a_indexClass a_indexPath a_classes1 a_dValues a_dSets a_dNames a_values a_sets a_names a_draft a_lengths a_text a_classOfQuestion a_split a_steps a_what a_one a_two a_opened a_openedAt a_stands a_variable a_truth a_rest a_loopAt a_loopFound a_hits v_classes v_fields v_begun v_indexes v_made v_slotted v_half v_open v_known v_fresh v_changed v_renamed v_down v_armed v_written v_logged v_marked v_logSize v_drafted v_questions v_now v_at v_bad v_opens v_deep v_aimed v_truths v_loops v_valued v_value v_set v_latest v_fits v_total v_looked v_owner v_parent v_sort) H → va_D A (cw_M_has G a_t a_owner a_parent a_sort a_aim a_indexClass a_indexPath a_classes1 a_dValues a_dSets a_dNames a_values a_sets a_names a_draft a_lengths a_text a_classOfQuestion a_split a_steps a_what a_one a_two a_opened a_openedAt a_stands a_variable a_truth a_rest a_loopAt a_loopFound a_hits v_classes v_fields v_begun v_indexes v_made v_slotted v_half v_open v_known v_fresh v_changed v_renamed v_down v_armed v_written v_logged v_marked v_logSize v_drafted v_questions v_now v_at v_bad v_opens v_deep v_aimed v_truths v_loops v_valued v_value v_set v_latest v_fits v_total v_looked v_owner v_parent v_sort) → va_S A s.heap H locs → narrow .boolean (.int o') = .int o' → decode bc_M_has pc = .ok (.ireturn, 1) → W p l e { frames := 1, cells := 0, slots := 0, locals := 24 } s m ([.ref a_t, .int p1, .int p2, .int p3] : List Value).toArray below meth c H locs 0 0 (MQ below (ObQi D (obT G) (cw_M_has G a_t a_owner a_parent a_sort a_aim a_indexClass a_indexPath a_classes1 a_dValues a_dSets a_dNames a_values a_sets a_names a_draft a_lengths a_text a_classOfQuestion a_split a_steps a_what a_one a_two a_opened a_openedAt a_stands a_variable a_truth a_rest a_loopAt a_loopFound a_hits v_classes v_fields v_begun v_indexes v_made v_slotted v_half v_open v_known v_fresh v_changed v_renamed v_down v_armed v_written v_logged v_marked v_logSize v_drafted v_questions v_now v_at v_bad v_opens v_deep v_aimed v_truths v_loops v_valued v_value v_set v_latest v_fits v_total v_looked v_owner v_parent v_sort) o A) ([.ref a_t, .int p1, .int p2, .int p3] : List Value).toArray s 0 0 A) (F0 m pc ls [.int o']) := by
    intro o' H locs pc ls he hP hD hS hn hd
    obtain rfl := Option.some.inj he
    exact ob_iret hx hb hr hlk hK hP hD hS hn hd
  generalize MQ below (ObQi D (obT G) (cw_M_has G a_t a_owner a_parent a_sort a_aim a_indexClass a_indexPath a_classes1 a_dValues a_dSets a_dNames a_values a_sets a_names a_draft a_lengths a_text a_classOfQuestion a_split a_steps a_what a_one a_two a_opened a_openedAt a_stands a_variable a_truth a_rest a_loopAt a_loopFound a_hits v_classes v_fields v_begun v_indexes v_made v_slotted v_half v_open v_known v_fresh v_changed v_renamed v_down v_armed v_written v_logged v_marked v_logSize v_drafted v_questions v_now v_at v_bad v_opens v_deep v_aimed v_truths v_loops v_valued v_value v_set v_latest v_fits v_total v_looked v_owner v_parent v_sort) o A) ([.ref a_t, .int p1, .int p2, .int p3] : List Value).toArray s 0 0 A = Q at hret ⊢
  have hl : lv_has ls 4 [(0, .ref a_t), (1, .int p1), (2, .int p2), (3, .int p3)] := hl
  unfold f_M_has at hf
  refine lv_iload_n hx hb d_M_has_0 rfl (lv_at hl 2 rfl) ?_
  refine lv_if_lt (tgt := 44) hx hb d_M_has_1 (by decide) (fun hc1 => ?_) (fun hc1 => ?_)
  · have hf := ob_t hc1 hf
    refine lv_iconst (v := 0) hx hb d_M_has_44 (by decide) ?_
    exact hret 0 H locs _ ls hf hP hD hS narrow_b0 d_M_has_45
  · have hf := ob_f hc1 hf
    refine lv_iload_n hx hb d_M_has_4 rfl (lv_at hl 2 rfl) ?_
    refine lv_aload_n hx hb d_M_has_5 rfl (lv_at hl 0 rfl) ?_
    refine va_get (D := D) (ci := 11) (v := .int v_fields) (C := "ObjectBaseModel") (T := TC_M) (N := 66) hx hb hts inC_M hown hK hP 0 rfl rfl 2 (by decide) (hts _ tw789) (fun _ h9 => h9) rfl d_M_has_6 ?_
    refine lv_icmp_ge (tgt := 44) hx hb d_M_has_9 (by decide) (fun hc9 => ?_) (fun hc9 => ?_)
    · have hf := ob_t hc9 hf
      refine lv_iconst (v := 0) hx hb d_M_has_44 (by decide) ?_
      exact hret 0 H locs _ ls hf hP hD hS narrow_b0 d_M_has_45
    · have hf := ob_f hc9 hf
      refine lv_aload_n hx hb d_M_has_12 rfl (lv_at hl 0 rfl) ?_
      refine lv_iload_n hx hb d_M_has_13 rfl (lv_at hl 1 rfl) ?_
      refine lv_aload_n hx hb d_M_has_14 rfl (lv_at hl 0 rfl) ?_
      refine va_get (D := D) (ci := 11) (v := .ref a_owner) (C := "ObjectBaseModel") (T := TC_M) (N := 66) hx hb hts inC_M hown hK hP 0 rfl rfl 3 (by decide) (hts _ tw790) (fun _ h9 => h9) rfl d_M_has_15 ?_
      refine lv_iload_n hx hb d_M_has_18 rfl (lv_at hl 2 rfl) ?_
      obtain ⟨hg19, hf⟩ := ob_iv_g hf
      refine va_iald hx hb hK hP 1 0 rfl rfl hg19 d_M_has_19 ?_
      obtain ⟨o20, ho20, hf⟩ := ob_b hf
      refine ob_calli (w2 := (cw_M_has G a_t a_owner a_parent a_sort a_aim a_indexClass a_indexPath a_classes1 a_dValues a_dSets a_dNames a_values a_sets a_names a_draft a_lengths a_text a_classOfQuestion a_split a_steps a_what a_one a_two a_opened a_openedAt a_stands a_variable a_truth a_rest a_loopAt a_loopFound a_hits v_classes v_fields v_begun v_indexes v_made v_slotted v_half v_open v_known v_fresh v_changed v_renamed v_down v_armed v_written v_logged v_marked v_logSize v_drafted v_questions v_now v_at v_bad v_opens v_deep v_aimed v_truths v_loops v_valued v_value v_set v_latest v_fits v_total v_looked v_owner v_parent v_sort)) (va_runV (As := [.int p1, .int (v_owner p2.toNatClampNeg)]) (rest := []) ⟨hx, hb, hml, hown, hts⟩ (c_M_is l D G a_t a_parent a_owner a_sort a_aim a_indexClass a_indexPath a_classes1 a_dValues a_dSets a_dNames a_values a_sets a_names a_draft a_lengths a_text a_classOfQuestion a_split a_steps a_what a_one a_two a_opened a_openedAt a_stands a_variable a_truth a_rest a_loopAt a_loopFound a_hits v_classes v_fields v_begun v_indexes v_made v_slotted v_half v_open v_known v_fresh v_changed v_renamed v_down v_armed v_written v_logged v_marked v_logSize v_drafted v_questions v_now v_at v_bad v_opens v_deep v_aimed v_truths v_loops v_valued v_value v_set v_latest v_fits v_total v_looked v_parent p1 (v_owner p2.toNatClampNeg) o20 ho20 H.size) (cwV 2 hts (gV tw1007 tw1009 tp30 tw11 tw1010) rfl rfl rfl (by decide +kernel) ⟨Nat.le_of_ble_eq_true rfl, Nat.le_of_ble_eq_true rfl⟩) (ob_preV (q0 := 0) (ci := 11) hZ hK hP hD [0, 2] rfl rfl rfl rfl rfl) rfl rfl hl.1 rfl (lv_room (Nat.le_of_ble_eq_true rfl)) d_M_has_20 ⟨Nat.le_refl _, Nat.le_refl _⟩) hP hD hA hS [0, 2] rfl rfl rfl rfl (fun H locs hP hD hS => ?_)
      refine lv_if_eq (tgt := 44) hx hb d_M_has_23 (by decide) (fun hc23 => ?_) (fun hc23 => ?_)
      · have hf := ob_t hc23 hf
        refine lv_iconst (v := 0) hx hb d_M_has_44 (by decide) ?_
        exact hret 0 H locs _ ls hf hP hD hS narrow_b0 d_M_has_45
      · have hf := ob_f hc23 hf
        refine lv_iload_n hx hb d_M_has_26 rfl (lv_at hl 3 rfl) ?_
        refine lv_if_lt (tgt := 40) hx hb d_M_has_27 (by decide) (fun hc27 => ?_) (fun hc27 => ?_)
        · have hf := ob_t hc27 hf
          refine lv_iconst (v := 1) hx hb d_M_has_40 (by decide) ?_
          refine lv_goto (tgt := 45) hx hb d_M_has_41 (by decide) ?_
          exact hret 1 H locs _ ls hf hP hD hS narrow_b1 d_M_has_45
        · have hf := ob_f hc27 hf
          refine lv_aload_n hx hb d_M_has_30 rfl (lv_at hl 0 rfl) ?_
          refine va_get (D := D) (ci := 11) (v := .ref a_sort) (C := "ObjectBaseModel") (T := TC_M) (N := 66) hx hb hts inC_M hown hK hP 0 rfl rfl 4 (by decide) (hts _ tw791) (fun _ h9 => h9) rfl d_M_has_31 ?_
          refine lv_iload_n hx hb d_M_has_34 rfl (lv_at hl 2 rfl) ?_
          obtain ⟨hg35, hf⟩ := ob_iv_g hf
          refine va_iald hx hb hK hP 3 0 rfl rfl hg35 d_M_has_35 ?_
          refine lv_iload_n hx hb d_M_has_36 rfl (lv_at hl 3 rfl) ?_
          refine lv_icmp_ne (tgt := 44) hx hb d_M_has_37 (by decide) (fun hc37 => ?_) (fun hc37 => ?_)
          · have hf := ob_f hc37 hf
            refine lv_iconst (v := 0) hx hb d_M_has_44 (by decide) ?_
            exact hret 0 H locs _ ls hf hP hD hS narrow_b0 d_M_has_45
          · have hf := ob_t hc37 hf
            refine lv_iconst (v := 1) hx hb d_M_has_40 (by decide) ?_
            refine lv_goto (tgt := 45) hx hb d_M_has_41 (by decide) ?_
            exact hret 1 H locs _ ls hf hP hD hS narrow_b1 d_M_has_45
abbrev bc_M_index : ByteArray := prog_13_method_7_code
abbrev y_M_index : MethodName := ⟨"ObjectBaseModel", "index", "(IIII)I"⟩
def ws_M_index : List Cond := .code y_M_index bc_M_index 6 (some .int) :: obW
theorem d_M_index_0 : decode bc_M_index 0 = .ok (.aload_n 0, 1) := by decide +kernel
theorem d_M_index_1 : decode bc_M_index 1 = .ok (.getfield 112, 3) := by decide +kernel
theorem d_M_index_4 : decode bc_M_index 4 = .ok (.ifCond .eq 6, 3) := by decide +kernel
theorem d_M_index_7 : decode bc_M_index 7 = .ok (.bipush (-4), 2) := by decide +kernel
theorem d_M_index_9 : decode bc_M_index 9 = .ok (.ireturn, 1) := by decide +kernel
theorem d_M_index_10 : decode bc_M_index 10 = .ok (.aload_n 0, 1) := by decide +kernel
theorem d_M_index_11 : decode bc_M_index 11 = .ok (.getfield 130, 3) := by decide +kernel
theorem d_M_index_14 : decode bc_M_index 14 = .ok (.ifCond .ne 35, 3) := by decide +kernel
theorem d_M_index_17 : decode bc_M_index 17 = .ok (.aload_n 0, 1) := by decide +kernel
theorem d_M_index_18 : decode bc_M_index 18 = .ok (.iload_n 1, 1) := by decide +kernel
theorem d_M_index_19 : decode bc_M_index 19 = .ok (.invokevirtual 119, 3) := by decide +kernel
theorem d_M_index_22 : decode bc_M_index 22 = .ok (.ifCond .eq 27, 3) := by decide +kernel
theorem d_M_index_25 : decode bc_M_index 25 = .ok (.aload_n 0, 1) := by decide +kernel
theorem d_M_index_26 : decode bc_M_index 26 = .ok (.getfield 133, 3) := by decide +kernel
theorem d_M_index_29 : decode bc_M_index 29 = .ok (.iconst 3, 1) := by decide +kernel
theorem d_M_index_30 : decode bc_M_index 30 = .ok (.if_icmp .eq 19, 3) := by decide +kernel
theorem d_M_index_33 : decode bc_M_index 33 = .ok (.iload_n 2, 1) := by decide +kernel
theorem d_M_index_34 : decode bc_M_index 34 = .ok (.iconst (-1), 1) := by decide +kernel
theorem d_M_index_35 : decode bc_M_index 35 = .ok (.if_icmp .eq 14, 3) := by decide +kernel
theorem d_M_index_38 : decode bc_M_index 38 = .ok (.iload_n 3, 1) := by decide +kernel
theorem d_M_index_39 : decode bc_M_index 39 = .ok (.iconst (-1), 1) := by decide +kernel
theorem d_M_index_40 : decode bc_M_index 40 = .ok (.if_icmp .ne 11, 3) := by decide +kernel
theorem d_M_index_43 : decode bc_M_index 43 = .ok (.iload 4, 2) := by decide +kernel
theorem d_M_index_45 : decode bc_M_index 45 = .ok (.iconst (-1), 1) := by decide +kernel
theorem d_M_index_46 : decode bc_M_index 46 = .ok (.if_icmp .eq 5, 3) := by decide +kernel
theorem d_M_index_49 : decode bc_M_index 49 = .ok (.iconst (-1), 1) := by decide +kernel
theorem d_M_index_50 : decode bc_M_index 50 = .ok (.ireturn, 1) := by decide +kernel
theorem d_M_index_51 : decode bc_M_index 51 = .ok (.aload_n 0, 1) := by decide +kernel
theorem d_M_index_52 : decode bc_M_index 52 = .ok (.iload_n 1, 1) := by decide +kernel
theorem d_M_index_53 : decode bc_M_index 53 = .ok (.iload_n 2, 1) := by decide +kernel
theorem d_M_index_54 : decode bc_M_index 54 = .ok (.iload_n 3, 1) := by decide +kernel
theorem d_M_index_55 : decode bc_M_index 55 = .ok (.iconst (-1), 1) := by decide +kernel
theorem d_M_index_56 : decode bc_M_index 56 = .ok (.if_icmp .ne 7, 3) := by decide +kernel
theorem d_M_index_59 : decode bc_M_index 59 = .ok (.iconst 0, 1) := by decide +kernel
theorem d_M_index_60 : decode bc_M_index 60 = .ok (.goto 4, 3) := by decide +kernel
theorem d_M_index_63 : decode bc_M_index 63 = .ok (.iconst 1, 1) := by decide +kernel
theorem d_M_index_64 : decode bc_M_index 64 = .ok (.invokevirtual 136, 3) := by decide +kernel
theorem d_M_index_67 : decode bc_M_index 67 = .ok (.istore 5, 2) := by decide +kernel
theorem d_M_index_69 : decode bc_M_index 69 = .ok (.iload 5, 2) := by decide +kernel
theorem d_M_index_71 : decode bc_M_index 71 = .ok (.ifCond .eq 32, 3) := by decide +kernel
theorem d_M_index_74 : decode bc_M_index 74 = .ok (.iload_n 3, 1) := by decide +kernel
theorem d_M_index_75 : decode bc_M_index 75 = .ok (.iconst (-1), 1) := by decide +kernel
theorem d_M_index_76 : decode bc_M_index 76 = .ok (.if_icmp .eq 27, 3) := by decide +kernel
theorem d_M_index_79 : decode bc_M_index 79 = .ok (.aload_n 0, 1) := by decide +kernel
theorem d_M_index_80 : decode bc_M_index 80 = .ok (.aload_n 0, 1) := by decide +kernel
theorem d_M_index_81 : decode bc_M_index 81 = .ok (.getfield 19, 3) := by decide +kernel
theorem d_M_index_84 : decode bc_M_index 84 = .ok (.iload_n 2, 1) := by decide +kernel
theorem d_M_index_85 : decode bc_M_index 85 = .ok (.iaload, 1) := by decide +kernel
theorem d_M_index_86 : decode bc_M_index 86 = .ok (.iload_n 3, 1) := by decide +kernel
theorem d_M_index_87 : decode bc_M_index 87 = .ok (.iload 4, 2) := by decide +kernel
theorem d_M_index_89 : decode bc_M_index 89 = .ok (.iconst (-1), 1) := by decide +kernel
theorem d_M_index_90 : decode bc_M_index 90 = .ok (.if_icmp .ne 7, 3) := by decide +kernel
theorem d_M_index_93 : decode bc_M_index 93 = .ok (.iconst 0, 1) := by decide +kernel
theorem d_M_index_94 : decode bc_M_index 94 = .ok (.goto 4, 3) := by decide +kernel
theorem d_M_index_97 : decode bc_M_index 97 = .ok (.iconst 1, 1) := by decide +kernel
theorem d_M_index_98 : decode bc_M_index 98 = .ok (.invokevirtual 136, 3) := by decide +kernel
theorem d_M_index_101 : decode bc_M_index 101 = .ok (.istore 5, 2) := by decide +kernel
theorem d_M_index_103 : decode bc_M_index 103 = .ok (.iload 5, 2) := by decide +kernel
theorem d_M_index_105 : decode bc_M_index 105 = .ok (.ifCond .eq 29, 3) := by decide +kernel
theorem d_M_index_108 : decode bc_M_index 108 = .ok (.iload_n 3, 1) := by decide +kernel
theorem d_M_index_109 : decode bc_M_index 109 = .ok (.iconst (-1), 1) := by decide +kernel
theorem d_M_index_110 : decode bc_M_index 110 = .ok (.if_icmp .eq 24, 3) := by decide +kernel
theorem d_M_index_113 : decode bc_M_index 113 = .ok (.iload 4, 2) := by decide +kernel
theorem d_M_index_115 : decode bc_M_index 115 = .ok (.iconst (-1), 1) := by decide +kernel
theorem d_M_index_116 : decode bc_M_index 116 = .ok (.if_icmp .eq 18, 3) := by decide +kernel
theorem d_M_index_119 : decode bc_M_index 119 = .ok (.aload_n 0, 1) := by decide +kernel
theorem d_M_index_120 : decode bc_M_index 120 = .ok (.aload_n 0, 1) := by decide +kernel
theorem d_M_index_121 : decode bc_M_index 121 = .ok (.getfield 19, 3) := by decide +kernel
theorem d_M_index_124 : decode bc_M_index 124 = .ok (.iload_n 3, 1) := by decide +kernel
theorem d_M_index_125 : decode bc_M_index 125 = .ok (.iaload, 1) := by decide +kernel
theorem d_M_index_126 : decode bc_M_index 126 = .ok (.iload 4, 2) := by decide +kernel
theorem d_M_index_128 : decode bc_M_index 128 = .ok (.iconst 0, 1) := by decide +kernel
theorem d_M_index_129 : decode bc_M_index 129 = .ok (.invokevirtual 136, 3) := by decide +kernel
theorem d_M_index_132 : decode bc_M_index 132 = .ok (.istore 5, 2) := by decide +kernel
theorem d_M_index_134 : decode bc_M_index 134 = .ok (.iload 5, 2) := by decide +kernel
theorem d_M_index_136 : decode bc_M_index 136 = .ok (.ifCond .ne 5, 3) := by decide +kernel
theorem d_M_index_139 : decode bc_M_index 139 = .ok (.iconst (-1), 1) := by decide +kernel
theorem d_M_index_140 : decode bc_M_index 140 = .ok (.ireturn, 1) := by decide +kernel
theorem d_M_index_141 : decode bc_M_index 141 = .ok (.aload_n 0, 1) := by decide +kernel
theorem d_M_index_142 : decode bc_M_index 142 = .ok (.getfield 22, 3) := by decide +kernel
theorem d_M_index_145 : decode bc_M_index 145 = .ok (.aload_n 0, 1) := by decide +kernel
theorem d_M_index_146 : decode bc_M_index 146 = .ok (.getfield 133, 3) := by decide +kernel
theorem d_M_index_149 : decode bc_M_index 149 = .ok (.iload_n 1, 1) := by decide +kernel
theorem d_M_index_150 : decode bc_M_index 150 = .ok (.iastore, 1) := by decide +kernel
theorem d_M_index_151 : decode bc_M_index 151 = .ok (.aload_n 0, 1) := by decide +kernel
theorem d_M_index_152 : decode bc_M_index 152 = .ok (.getfield 25, 3) := by decide +kernel
theorem d_M_index_155 : decode bc_M_index 155 = .ok (.iconst 3, 1) := by decide +kernel
theorem d_M_index_156 : decode bc_M_index 156 = .ok (.aload_n 0, 1) := by decide +kernel
theorem d_M_index_157 : decode bc_M_index 157 = .ok (.getfield 133, 3) := by decide +kernel
theorem d_M_index_160 : decode bc_M_index 160 = .ok (.imul, 1) := by decide +kernel
theorem d_M_index_161 : decode bc_M_index 161 = .ok (.iload_n 2, 1) := by decide +kernel
theorem d_M_index_162 : decode bc_M_index 162 = .ok (.iastore, 1) := by decide +kernel
theorem d_M_index_163 : decode bc_M_index 163 = .ok (.aload_n 0, 1) := by decide +kernel
theorem d_M_index_164 : decode bc_M_index 164 = .ok (.getfield 25, 3) := by decide +kernel
theorem d_M_index_167 : decode bc_M_index 167 = .ok (.iconst 3, 1) := by decide +kernel
theorem d_M_index_168 : decode bc_M_index 168 = .ok (.aload_n 0, 1) := by decide +kernel
theorem d_M_index_169 : decode bc_M_index 169 = .ok (.getfield 133, 3) := by decide +kernel
theorem d_M_index_172 : decode bc_M_index 172 = .ok (.imul, 1) := by decide +kernel
theorem d_M_index_173 : decode bc_M_index 173 = .ok (.iconst 1, 1) := by decide +kernel
theorem d_M_index_174 : decode bc_M_index 174 = .ok (.iadd, 1) := by decide +kernel
theorem d_M_index_175 : decode bc_M_index 175 = .ok (.iload_n 3, 1) := by decide +kernel
theorem d_M_index_176 : decode bc_M_index 176 = .ok (.iastore, 1) := by decide +kernel
theorem d_M_index_177 : decode bc_M_index 177 = .ok (.aload_n 0, 1) := by decide +kernel
theorem d_M_index_178 : decode bc_M_index 178 = .ok (.getfield 25, 3) := by decide +kernel
theorem d_M_index_181 : decode bc_M_index 181 = .ok (.iconst 3, 1) := by decide +kernel
theorem d_M_index_182 : decode bc_M_index 182 = .ok (.aload_n 0, 1) := by decide +kernel
theorem d_M_index_183 : decode bc_M_index 183 = .ok (.getfield 133, 3) := by decide +kernel
theorem d_M_index_186 : decode bc_M_index 186 = .ok (.imul, 1) := by decide +kernel
theorem d_M_index_187 : decode bc_M_index 187 = .ok (.iconst 2, 1) := by decide +kernel
theorem d_M_index_188 : decode bc_M_index 188 = .ok (.iadd, 1) := by decide +kernel
theorem d_M_index_189 : decode bc_M_index 189 = .ok (.iload 4, 2) := by decide +kernel
theorem d_M_index_191 : decode bc_M_index 191 = .ok (.iastore, 1) := by decide +kernel
theorem d_M_index_192 : decode bc_M_index 192 = .ok (.aload_n 0, 1) := by decide +kernel
theorem d_M_index_193 : decode bc_M_index 193 = .ok (.dup, 1) := by decide +kernel
theorem d_M_index_194 : decode bc_M_index 194 = .ok (.getfield 133, 3) := by decide +kernel
theorem d_M_index_197 : decode bc_M_index 197 = .ok (.iconst 1, 1) := by decide +kernel
theorem d_M_index_198 : decode bc_M_index 198 = .ok (.iadd, 1) := by decide +kernel
theorem d_M_index_199 : decode bc_M_index 199 = .ok (.putfield 133, 3) := by decide +kernel
theorem d_M_index_202 : decode bc_M_index 202 = .ok (.aload_n 0, 1) := by decide +kernel
theorem d_M_index_203 : decode bc_M_index 203 = .ok (.getfield 133, 3) := by decide +kernel
theorem d_M_index_206 : decode bc_M_index 206 = .ok (.iconst 1, 1) := by decide +kernel
theorem d_M_index_207 : decode bc_M_index 207 = .ok (.isub, 1) := by decide +kernel
theorem d_M_index_208 : decode bc_M_index 208 = .ok (.ireturn, 1) := by decide +kernel
def cw_M_index (G : Nat → ClassId) (a_t a_owner a_parent a_sort a_indexClass a_indexPath a_aim a_classes1 a_dValues a_dSets a_dNames a_values a_sets a_names a_draft a_lengths a_text a_classOfQuestion a_split a_steps a_what a_one a_two a_opened a_openedAt a_stands a_variable a_truth a_rest a_loopAt a_loopFound a_hits : Nat) (v_classes : Int32) (v_fields : Int32) (v_begun : Int32) (v_indexes : Int32) (v_made : Int32) (v_slotted : Int64) (v_half : Int32) (v_open : Int32) (v_known : Int64) (v_fresh : Int64) (v_changed : Int64) (v_renamed : Int32) (v_down : Int32) (v_armed : Int32) (v_written : Int32) (v_logged : Int32) (v_marked : Int32) (v_logSize : Int32) (v_drafted : Int32) (v_questions : Int32) (v_now : Int32) (v_at : Int32) (v_bad : Int32) (v_opens : Int32) (v_deep : Int32) (v_aimed : Int32) (v_truths : Int32) (v_loops : Int32) (v_valued : Int32) (v_value : Int32) (v_set : Int64) (v_latest : Int32) (v_fits : Int32) (v_total : Int64) (v_looked : Int32) (v_owner : Nat → Int32) (v_parent : Nat → Int32) (v_sort : Nat → Int32) (v_indexClass : Nat → Int32) (v_indexPath : Nat → Int32) (v_aim : Nat → Int32) : va_W := [(a_t, .inr (11, [.int v_classes, .ref a_parent, .int v_fields, .ref a_owner, .ref a_sort, .ref a_aim, .int v_begun, .int v_indexes, .ref a_indexClass, .ref a_indexPath, .int v_made, .ref a_classes1, .ref a_dValues, .ref a_dSets, .ref a_dNames, .ref a_values, .ref a_sets, .ref a_names, .long v_slotted, .int v_half, .int v_open, .long v_known, .long v_fresh, .long v_changed, .int v_renamed, .int v_down, .int v_armed, .int v_written, .int v_logged, .int v_marked, .int v_logSize, .int v_drafted, .ref a_draft, .int v_questions, .ref a_lengths, .ref a_text, .ref a_classOfQuestion, .ref a_split, .ref a_steps, .ref a_what, .ref a_one, .ref a_two, .int v_now, .int v_at, .int v_bad, .int v_opens, .ref a_opened, .ref a_openedAt, .int v_deep, .int v_aimed, .ref a_stands, .ref a_variable, .int v_truths, .ref a_truth, .int v_loops, .ref a_rest, .ref a_loopAt, .ref a_loopFound, .int v_valued, .int v_value, .long v_set, .int v_latest, .int v_fits, .ref a_hits, .long v_total, .int v_looked])), (a_owner, .inl (G 0, 8, .inl v_owner)), (a_parent, .inl (G 0, 6, .inl v_parent)), (a_sort, .inl (G 0, 8, .inl v_sort)), (a_indexClass, .inl (G 0, 3, .inl v_indexClass)), (a_indexPath, .inl (G 0, 9, .inl v_indexPath)), (a_aim, .inl (G 0, 8, .inl v_aim))]
def f_M_index_J134 (p1 : Int32) (p2 : Int32) (p3 : Int32) (p4 : Int32) (x134_5 : Int32) (v_indexes_134 : Int32) (v_indexClass_134 : Nat → Int32) (v_indexPath_134 : Nat → Int32) : Option (Int32 × Int32 × (Nat → Int32) × (Nat → Int32)) := if x134_5 = 0 then (some ((-1), v_indexes_134, v_indexClass_134, v_indexPath_134)) else (ob_iv v_indexes_134 3 (ob_iv (3 * v_indexes_134) 9 (ob_iv ((3 * v_indexes_134) + 1) 9 (ob_iv ((3 * v_indexes_134) + 2) 9 (some ((v_indexes_134 + 1) - 1, v_indexes_134 + 1, upd v_indexClass_134 v_indexes_134.toNatClampNeg p1, upd (upd (upd v_indexPath_134 (3 * v_indexes_134).toNatClampNeg p2) ((3 * v_indexes_134) + 1).toNatClampNeg p3) ((3 * v_indexes_134) + 2).toNatClampNeg p4))))))
def f_M_index_J103 (p1 : Int32) (p2 : Int32) (p3 : Int32) (p4 : Int32) (v_fields : Int32) (v_owner : Nat → Int32) (v_parent : Nat → Int32) (v_sort : Nat → Int32) (v_aim : Nat → Int32) (x103_5 : Int32) (v_indexes_103 : Int32) (v_indexClass_103 : Nat → Int32) (v_indexPath_103 : Nat → Int32) : Option (Int32 × Int32 × (Nat → Int32) × (Nat → Int32)) := if x103_5 = 0 then (f_M_index_J134 p1 p2 p3 p4 x103_5 v_indexes_103 v_indexClass_103 v_indexPath_103) else (if p3 = (-1) then (f_M_index_J134 p1 p2 p3 p4 x103_5 v_indexes_103 v_indexClass_103 v_indexPath_103) else (if p4 = (-1) then (f_M_index_J134 p1 p2 p3 p4 x103_5 v_indexes_103 v_indexClass_103 v_indexPath_103) else (ob_iv p3 8 ((f_M_has v_fields v_owner v_parent v_sort (v_aim p3.toNatClampNeg) p4 0).bind fun o129 => (f_M_index_J134 p1 p2 p3 p4 o129 v_indexes_103 v_indexClass_103 v_indexPath_103)))))
def f_M_index_J98 (v_fields : Int32) (v_owner : Nat → Int32) (v_parent : Nat → Int32) (v_sort : Nat → Int32) (p1 : Int32) (p2 : Int32) (p3 : Int32) (p4 : Int32) (v_aim : Nat → Int32) (y98_0 : Int32) (y98_1 : Int32) (y98_2 : Int32) (v_indexes_98 : Int32) (v_indexClass_98 : Nat → Int32) (v_indexPath_98 : Nat → Int32) : Option (Int32 × Int32 × (Nat → Int32) × (Nat → Int32)) := (f_M_has v_fields v_owner v_parent v_sort y98_2 y98_1 y98_0).bind fun o98 => (f_M_index_J103 p1 p2 p3 p4 v_fields v_owner v_parent v_sort v_aim o98 v_indexes_98 v_indexClass_98 v_indexPath_98)
def f_M_index_J64 (v_fields : Int32) (v_owner : Nat → Int32) (v_parent : Nat → Int32) (v_sort : Nat → Int32) (p1 : Int32) (p2 : Int32) (p3 : Int32) (p4 : Int32) (v_aim : Nat → Int32) (y64_0 : Int32) (y64_1 : Int32) (y64_2 : Int32) (v_indexes_64 : Int32) (v_indexClass_64 : Nat → Int32) (v_indexPath_64 : Nat → Int32) : Option (Int32 × Int32 × (Nat → Int32) × (Nat → Int32)) := (f_M_has v_fields v_owner v_parent v_sort y64_2 y64_1 y64_0).bind fun o64 => (if o64 = 0 then (f_M_index_J103 p1 p2 p3 p4 v_fields v_owner v_parent v_sort v_aim o64 v_indexes_64 v_indexClass_64 v_indexPath_64) else (if p3 = (-1) then (f_M_index_J103 p1 p2 p3 p4 v_fields v_owner v_parent v_sort v_aim o64 v_indexes_64 v_indexClass_64 v_indexPath_64) else (ob_iv p2 8 (if p4 = (-1) then (f_M_index_J98 v_fields v_owner v_parent v_sort p1 p2 p3 p4 v_aim 0 p3 (v_aim p2.toNatClampNeg) v_indexes_64 v_indexClass_64 v_indexPath_64) else (f_M_index_J98 v_fields v_owner v_parent v_sort p1 p2 p3 p4 v_aim 1 p3 (v_aim p2.toNatClampNeg) v_indexes_64 v_indexClass_64 v_indexPath_64)))))
def f_M_index_J51 (p3 : Int32) (v_fields : Int32) (v_owner : Nat → Int32) (v_parent : Nat → Int32) (v_sort : Nat → Int32) (p1 : Int32) (p2 : Int32) (p4 : Int32) (v_aim : Nat → Int32) (v_indexes_51 : Int32) (v_indexClass_51 : Nat → Int32) (v_indexPath_51 : Nat → Int32) : Option (Int32 × Int32 × (Nat → Int32) × (Nat → Int32)) := if p3 = (-1) then (f_M_index_J64 v_fields v_owner v_parent v_sort p1 p2 p3 p4 v_aim 0 p2 p1 v_indexes_51 v_indexClass_51 v_indexPath_51) else (f_M_index_J64 v_fields v_owner v_parent v_sort p1 p2 p3 p4 v_aim 1 p2 p1 v_indexes_51 v_indexClass_51 v_indexPath_51)
def f_M_index (v_classes : Int32) (v_fields : Int32) (v_indexes : Int32) (v_open : Int32) (v_down : Int32) (v_owner : Nat → Int32) (v_parent : Nat → Int32) (v_sort : Nat → Int32) (v_indexClass : Nat → Int32) (v_indexPath : Nat → Int32) (v_aim : Nat → Int32) (p1 : Int32) (p2 : Int32) (p3 : Int32) (p4 : Int32) : Option (Int32 × Int32 × (Nat → Int32) × (Nat → Int32)) := if v_down = 0 then (if v_open = 0 then ((f_M_isClass v_classes p1).bind fun o19 => (if o19 = 0 then (some ((-1), v_indexes, v_indexClass, v_indexPath)) else (if v_indexes = 3 then (some ((-1), v_indexes, v_indexClass, v_indexPath)) else (if p2 = (-1) then (some ((-1), v_indexes, v_indexClass, v_indexPath)) else (if p3 = (-1) then (if p4 = (-1) then (f_M_index_J51 p3 v_fields v_owner v_parent v_sort p1 p2 p4 v_aim v_indexes v_indexClass v_indexPath) else (some ((-1), v_indexes, v_indexClass, v_indexPath))) else (f_M_index_J51 p3 v_fields v_owner v_parent v_sort p1 p2 p4 v_aim v_indexes v_indexClass v_indexPath)))))) else (some ((-1), v_indexes, v_indexClass, v_indexPath))) else (some ((-4), v_indexes, v_indexClass, v_indexPath))
set_option maxHeartbeats 4000000 in
set_option maxRecDepth 100000 in
theorem c_M_index (l : Launch) (D : va_G) (G : Nat → ClassId) (a_t a_owner a_parent a_sort a_indexClass a_indexPath a_aim a_classes1 a_dValues a_dSets a_dNames a_values a_sets a_names a_draft a_lengths a_text a_classOfQuestion a_split a_steps a_what a_one a_two a_opened a_openedAt a_stands a_variable a_truth a_rest a_loopAt a_loopFound a_hits : Nat) (v_classes : Int32) (v_fields : Int32) (v_begun : Int32) (v_indexes : Int32) (v_made : Int32) (v_slotted : Int64) (v_half : Int32) (v_open : Int32) (v_known : Int64) (v_fresh : Int64) (v_changed : Int64) (v_renamed : Int32) (v_down : Int32) (v_armed : Int32) (v_written : Int32) (v_logged : Int32) (v_marked : Int32) (v_logSize : Int32) (v_drafted : Int32) (v_questions : Int32) (v_now : Int32) (v_at : Int32) (v_bad : Int32) (v_opens : Int32) (v_deep : Int32) (v_aimed : Int32) (v_truths : Int32) (v_loops : Int32) (v_valued : Int32) (v_value : Int32) (v_set : Int64) (v_latest : Int32) (v_fits : Int32) (v_total : Int64) (v_looked : Int32) (v_owner : Nat → Int32) (v_parent : Nat → Int32) (v_sort : Nat → Int32) (v_indexClass : Nat → Int32) (v_indexPath : Nat → Int32) (v_aim : Nat → Int32) (p1 : Int32) (p2 : Int32) (p3 : Int32) (p4 : Int32) (o : Int32 × Int32 × (Nat → Int32) × (Nat → Int32)) (hf : f_M_index v_classes v_fields v_indexes v_open v_down v_owner v_parent v_sort v_indexClass v_indexPath v_aim p1 p2 p3 p4 = some o) (sz : Nat) : MetI l y_M_index ws_M_index ({ frames := 2, cells := 0, slots := 0, locals := 47 }) D (obT G) (cw_M_index G a_t a_owner a_parent a_sort a_indexClass a_indexPath a_aim a_classes1 a_dValues a_dSets a_dNames a_values a_sets a_names a_draft a_lengths a_text a_classOfQuestion a_split a_steps a_what a_one a_two a_opened a_openedAt a_stands a_variable a_truth a_rest a_loopAt a_loopFound a_hits v_classes v_fields v_begun v_indexes v_made v_slotted v_half v_open v_known v_fresh v_changed v_renamed v_down v_armed v_written v_logged v_marked v_logSize v_drafted v_questions v_now v_at v_bad v_opens v_deep v_aimed v_truths v_loops v_valued v_value v_set v_latest v_fits v_total v_looked v_owner v_parent v_sort v_indexClass v_indexPath v_aim) (cw_M_index G a_t a_owner a_parent a_sort a_indexClass a_indexPath a_aim a_classes1 a_dValues a_dSets a_dNames a_values a_sets a_names a_draft a_lengths a_text a_classOfQuestion a_split a_steps a_what a_one a_two a_opened a_openedAt a_stands a_variable a_truth a_rest a_loopAt a_loopFound a_hits v_classes v_fields v_begun o.2.1 v_made v_slotted v_half v_open v_known v_fresh v_changed v_renamed v_down v_armed v_written v_logged v_marked v_logSize v_drafted v_questions v_now v_at v_bad v_opens v_deep v_aimed v_truths v_loops v_valued v_value v_set v_latest v_fits v_total v_looked v_owner v_parent v_sort o.2.2.1 o.2.2.2 v_aim) [.ref a_t, .int p1, .int p2, .int p3, .int p4] o.1 sz := by
  refine ob_of (cc := bc_M_index) (maxL := 6) (ret := (some .int)) (Qc := ObQi D (obT G) (cw_M_index G a_t a_owner a_parent a_sort a_indexClass a_indexPath a_aim a_classes1 a_dValues a_dSets a_dNames a_values a_sets a_names a_draft a_lengths a_text a_classOfQuestion a_split a_steps a_what a_one a_two a_opened a_openedAt a_stands a_variable a_truth a_rest a_loopAt a_loopFound a_hits v_classes v_fields v_begun o.2.1 v_made v_slotted v_half v_open v_known v_fresh v_changed v_renamed v_down v_armed v_written v_logged v_marked v_logSize v_drafted v_questions v_now v_at v_bad v_opens v_deep v_aimed v_truths v_loops v_valued v_value v_set v_latest v_fits v_total v_looked v_owner v_parent v_sort o.2.2.1 o.2.2.2 v_aim) o.1) (by decide) rfl (Nat.le_of_ble_eq_true rfl) ?_
  intro p e s m below meth c A ls H locs hx hb hr hml hts hown hlk hnm hZ hP hK hD hA hS hl
  have hret : ∀ (o' : Int32 × Int32 × (Nat → Int32) × (Nat → Int32)) (H : Heap) (locs : List Loc) (pc : Nat) (ls : Array Slot), some o' = some o → va_P D vwCl (cw_M_index G a_t a_owner a_parent a_sort a_indexClass a_indexPath a_aim a_classes1 a_dValues a_dSets a_dNames a_values a_sets a_names a_draft a_lengths a_text a_classOfQuestion a_split a_steps a_what a_one a_two a_opened a_openedAt a_stands a_variable a_truth a_rest a_loopAt a_loopFound a_hits v_classes v_fields v_begun o'.2.1 v_made v_slotted v_half v_open v_known v_fresh v_changed v_renamed v_down v_armed v_written v_logged v_marked v_logSize v_drafted v_questions v_now v_at v_bad v_opens v_deep v_aimed v_truths v_loops v_valued v_value v_set v_latest v_fits v_total v_looked v_owner v_parent v_sort o'.2.2.1 o'.2.2.2 v_aim) H → va_D A (cw_M_index G a_t a_owner a_parent a_sort a_indexClass a_indexPath a_aim a_classes1 a_dValues a_dSets a_dNames a_values a_sets a_names a_draft a_lengths a_text a_classOfQuestion a_split a_steps a_what a_one a_two a_opened a_openedAt a_stands a_variable a_truth a_rest a_loopAt a_loopFound a_hits v_classes v_fields v_begun o'.2.1 v_made v_slotted v_half v_open v_known v_fresh v_changed v_renamed v_down v_armed v_written v_logged v_marked v_logSize v_drafted v_questions v_now v_at v_bad v_opens v_deep v_aimed v_truths v_loops v_valued v_value v_set v_latest v_fits v_total v_looked v_owner v_parent v_sort o'.2.2.1 o'.2.2.2 v_aim) → va_S A s.heap H locs → narrow .int (.int o'.1) = .int o'.1 → decode bc_M_index pc = .ok (.ireturn, 1) → W p l e { frames := 2, cells := 0, slots := 0, locals := 47 } s m ([.ref a_t, .int p1, .int p2, .int p3, .int p4] : List Value).toArray below meth c H locs 0 0 (MQ below (ObQi D (obT G) (cw_M_index G a_t a_owner a_parent a_sort a_indexClass a_indexPath a_aim a_classes1 a_dValues a_dSets a_dNames a_values a_sets a_names a_draft a_lengths a_text a_classOfQuestion a_split a_steps a_what a_one a_two a_opened a_openedAt a_stands a_variable a_truth a_rest a_loopAt a_loopFound a_hits v_classes v_fields v_begun o.2.1 v_made v_slotted v_half v_open v_known v_fresh v_changed v_renamed v_down v_armed v_written v_logged v_marked v_logSize v_drafted v_questions v_now v_at v_bad v_opens v_deep v_aimed v_truths v_loops v_valued v_value v_set v_latest v_fits v_total v_looked v_owner v_parent v_sort o.2.2.1 o.2.2.2 v_aim) o.1 A) ([.ref a_t, .int p1, .int p2, .int p3, .int p4] : List Value).toArray s 0 0 A) (F0 m pc ls [.int o'.1]) := by
    intro o' H locs pc ls he hP hD hS hn hd
    obtain rfl := Option.some.inj he
    exact ob_iret hx hb hr hlk hK hP hD hS hn hd
  generalize MQ below (ObQi D (obT G) (cw_M_index G a_t a_owner a_parent a_sort a_indexClass a_indexPath a_aim a_classes1 a_dValues a_dSets a_dNames a_values a_sets a_names a_draft a_lengths a_text a_classOfQuestion a_split a_steps a_what a_one a_two a_opened a_openedAt a_stands a_variable a_truth a_rest a_loopAt a_loopFound a_hits v_classes v_fields v_begun o.2.1 v_made v_slotted v_half v_open v_known v_fresh v_changed v_renamed v_down v_armed v_written v_logged v_marked v_logSize v_drafted v_questions v_now v_at v_bad v_opens v_deep v_aimed v_truths v_loops v_valued v_value v_set v_latest v_fits v_total v_looked v_owner v_parent v_sort o.2.2.1 o.2.2.2 v_aim) o.1 A) ([.ref a_t, .int p1, .int p2, .int p3, .int p4] : List Value).toArray s 0 0 A = Q at hret ⊢
  have hl : lv_has ls 6 [(0, .ref a_t), (1, .int p1), (2, .int p2), (3, .int p3), (4, .int p4)] := hl
  unfold f_M_index at hf
  have blk134 : ∀ (x134_5 : Int32) (v_indexes_134 : Int32) (v_indexClass_134 : Nat → Int32) (v_indexPath_134 : Nat → Int32) (ls : Array Slot) (H : Heap) (locs : List Loc), lv_has ls 6 [(0, .ref a_t), (1, .int p1), (2, .int p2), (3, .int p3), (4, .int p4), (5, .int x134_5)] → va_P D vwCl (cw_M_index G a_t a_owner a_parent a_sort a_indexClass a_indexPath a_aim a_classes1 a_dValues a_dSets a_dNames a_values a_sets a_names a_draft a_lengths a_text a_classOfQuestion a_split a_steps a_what a_one a_two a_opened a_openedAt a_stands a_variable a_truth a_rest a_loopAt a_loopFound a_hits v_classes v_fields v_begun v_indexes_134 v_made v_slotted v_half v_open v_known v_fresh v_changed v_renamed v_down v_armed v_written v_logged v_marked v_logSize v_drafted v_questions v_now v_at v_bad v_opens v_deep v_aimed v_truths v_loops v_valued v_value v_set v_latest v_fits v_total v_looked v_owner v_parent v_sort v_indexClass_134 v_indexPath_134 v_aim) H → va_D A (cw_M_index G a_t a_owner a_parent a_sort a_indexClass a_indexPath a_aim a_classes1 a_dValues a_dSets a_dNames a_values a_sets a_names a_draft a_lengths a_text a_classOfQuestion a_split a_steps a_what a_one a_two a_opened a_openedAt a_stands a_variable a_truth a_rest a_loopAt a_loopFound a_hits v_classes v_fields v_begun v_indexes_134 v_made v_slotted v_half v_open v_known v_fresh v_changed v_renamed v_down v_armed v_written v_logged v_marked v_logSize v_drafted v_questions v_now v_at v_bad v_opens v_deep v_aimed v_truths v_loops v_valued v_value v_set v_latest v_fits v_total v_looked v_owner v_parent v_sort v_indexClass_134 v_indexPath_134 v_aim) → va_S A s.heap H locs → f_M_index_J134 p1 p2 p3 p4 x134_5 v_indexes_134 v_indexClass_134 v_indexPath_134 = some o → W p l e ({ frames := 2, cells := 0, slots := 0, locals := 47 }) s m ([.ref a_t, .int p1, .int p2, .int p3, .int p4] : List Value).toArray below meth c H locs 0 0 Q (F0 m 134 ls []) := by
    intro x134_5 v_indexes_134 v_indexClass_134 v_indexPath_134 ls H locs hl hP hD hS hf
    unfold f_M_index_J134 at hf
    refine lv_iload hx hb d_M_index_134 (lv_at hl 5 rfl) ?_
    refine lv_if_ne (tgt := 141) hx hb d_M_index_136 (by decide) (fun hc136 => ?_) (fun hc136 => ?_)
    · have hf := ob_f hc136 hf
      refine lv_aload_n hx hb d_M_index_141 rfl (lv_at hl 0 rfl) ?_
      refine va_get (D := D) (ci := 11) (v := .ref a_indexClass) (C := "ObjectBaseModel") (T := TC_M) (N := 66) hx hb hts inC_M hown hK hP 0 rfl rfl 8 (by decide) (hts _ tw795) (fun _ h9 => h9) rfl d_M_index_142 ?_
      refine lv_aload_n hx hb d_M_index_145 rfl (lv_at hl 0 rfl) ?_
      refine va_get (D := D) (ci := 11) (v := .int v_indexes_134) (C := "ObjectBaseModel") (T := TC_M) (N := 66) hx hb hts inC_M hown hK hP 0 rfl rfl 7 (by decide) (hts _ tw794) (fun _ h9 => h9) rfl d_M_index_146 ?_
      refine lv_iload_n hx hb d_M_index_149 rfl (lv_at hl 1 rfl) ?_
      obtain ⟨hg150, hf⟩ := ob_iv_g hf
      refine va_iast hx hb hK hP hD hS 4 0 rfl rfl hg150 d_M_index_150 (fun H locs hP hD hS => ?_)
      have hP : va_P D vwCl (cw_M_index G a_t a_owner a_parent a_sort a_indexClass a_indexPath a_aim a_classes1 a_dValues a_dSets a_dNames a_values a_sets a_names a_draft a_lengths a_text a_classOfQuestion a_split a_steps a_what a_one a_two a_opened a_openedAt a_stands a_variable a_truth a_rest a_loopAt a_loopFound a_hits v_classes v_fields v_begun v_indexes_134 v_made v_slotted v_half v_open v_known v_fresh v_changed v_renamed v_down v_armed v_written v_logged v_marked v_logSize v_drafted v_questions v_now v_at v_bad v_opens v_deep v_aimed v_truths v_loops v_valued v_value v_set v_latest v_fits v_total v_looked v_owner v_parent v_sort (upd v_indexClass_134 v_indexes_134.toNatClampNeg p1) v_indexPath_134 v_aim) H := hP
      have hD : va_D A (cw_M_index G a_t a_owner a_parent a_sort a_indexClass a_indexPath a_aim a_classes1 a_dValues a_dSets a_dNames a_values a_sets a_names a_draft a_lengths a_text a_classOfQuestion a_split a_steps a_what a_one a_two a_opened a_openedAt a_stands a_variable a_truth a_rest a_loopAt a_loopFound a_hits v_classes v_fields v_begun v_indexes_134 v_made v_slotted v_half v_open v_known v_fresh v_changed v_renamed v_down v_armed v_written v_logged v_marked v_logSize v_drafted v_questions v_now v_at v_bad v_opens v_deep v_aimed v_truths v_loops v_valued v_value v_set v_latest v_fits v_total v_looked v_owner v_parent v_sort (upd v_indexClass_134 v_indexes_134.toNatClampNeg p1) v_indexPath_134 v_aim) := hD
      refine lv_aload_n hx hb d_M_index_151 rfl (lv_at hl 0 rfl) ?_
      refine va_get (D := D) (ci := 11) (v := .ref a_indexPath) (C := "ObjectBaseModel") (T := TC_M) (N := 66) hx hb hts inC_M hown hK hP 0 rfl rfl 9 (by decide) (hts _ tw796) (fun _ h9 => h9) rfl d_M_index_152 ?_
      refine lv_iconst (v := 3) hx hb d_M_index_155 (by decide) ?_
      refine lv_aload_n hx hb d_M_index_156 rfl (lv_at hl 0 rfl) ?_
      refine va_get (D := D) (ci := 11) (v := .int v_indexes_134) (C := "ObjectBaseModel") (T := TC_M) (N := 66) hx hb hts inC_M hown hK hP 0 rfl rfl 7 (by decide) (hts _ tw794) (fun _ h9 => h9) rfl d_M_index_157 ?_
      refine lv_imul hx hb d_M_index_160 ?_
      refine lv_iload_n hx hb d_M_index_161 rfl (lv_at hl 2 rfl) ?_
      obtain ⟨hg162, hf⟩ := ob_iv_g hf
      refine va_iast hx hb hK hP hD hS 5 0 rfl rfl hg162 d_M_index_162 (fun H locs hP hD hS => ?_)
      have hP : va_P D vwCl (cw_M_index G a_t a_owner a_parent a_sort a_indexClass a_indexPath a_aim a_classes1 a_dValues a_dSets a_dNames a_values a_sets a_names a_draft a_lengths a_text a_classOfQuestion a_split a_steps a_what a_one a_two a_opened a_openedAt a_stands a_variable a_truth a_rest a_loopAt a_loopFound a_hits v_classes v_fields v_begun v_indexes_134 v_made v_slotted v_half v_open v_known v_fresh v_changed v_renamed v_down v_armed v_written v_logged v_marked v_logSize v_drafted v_questions v_now v_at v_bad v_opens v_deep v_aimed v_truths v_loops v_valued v_value v_set v_latest v_fits v_total v_looked v_owner v_parent v_sort (upd v_indexClass_134 v_indexes_134.toNatClampNeg p1) (upd v_indexPath_134 (3 * v_indexes_134).toNatClampNeg p2) v_aim) H := hP
      have hD : va_D A (cw_M_index G a_t a_owner a_parent a_sort a_indexClass a_indexPath a_aim a_classes1 a_dValues a_dSets a_dNames a_values a_sets a_names a_draft a_lengths a_text a_classOfQuestion a_split a_steps a_what a_one a_two a_opened a_openedAt a_stands a_variable a_truth a_rest a_loopAt a_loopFound a_hits v_classes v_fields v_begun v_indexes_134 v_made v_slotted v_half v_open v_known v_fresh v_changed v_renamed v_down v_armed v_written v_logged v_marked v_logSize v_drafted v_questions v_now v_at v_bad v_opens v_deep v_aimed v_truths v_loops v_valued v_value v_set v_latest v_fits v_total v_looked v_owner v_parent v_sort (upd v_indexClass_134 v_indexes_134.toNatClampNeg p1) (upd v_indexPath_134 (3 * v_indexes_134).toNatClampNeg p2) v_aim) := hD
      refine lv_aload_n hx hb d_M_index_163 rfl (lv_at hl 0 rfl) ?_
      refine va_get (D := D) (ci := 11) (v := .ref a_indexPath) (C := "ObjectBaseModel") (T := TC_M) (N := 66) hx hb hts inC_M hown hK hP 0 rfl rfl 9 (by decide) (hts _ tw796) (fun _ h9 => h9) rfl d_M_index_164 ?_
      refine lv_iconst (v := 3) hx hb d_M_index_167 (by decide) ?_
      refine lv_aload_n hx hb d_M_index_168 rfl (lv_at hl 0 rfl) ?_
      refine va_get (D := D) (ci := 11) (v := .int v_indexes_134) (C := "ObjectBaseModel") (T := TC_M) (N := 66) hx hb hts inC_M hown hK hP 0 rfl rfl 7 (by decide) (hts _ tw794) (fun _ h9 => h9) rfl d_M_index_169 ?_
      refine lv_imul hx hb d_M_index_172 ?_
      refine lv_iconst (v := 1) hx hb d_M_index_173 (by decide) ?_
      refine lv_iadd hx hb d_M_index_174 ?_
      refine lv_iload_n hx hb d_M_index_175 rfl (lv_at hl 3 rfl) ?_
      obtain ⟨hg176, hf⟩ := ob_iv_g hf
      refine va_iast hx hb hK hP hD hS 5 0 rfl rfl hg176 d_M_index_176 (fun H locs hP hD hS => ?_)
      have hP : va_P D vwCl (cw_M_index G a_t a_owner a_parent a_sort a_indexClass a_indexPath a_aim a_classes1 a_dValues a_dSets a_dNames a_values a_sets a_names a_draft a_lengths a_text a_classOfQuestion a_split a_steps a_what a_one a_two a_opened a_openedAt a_stands a_variable a_truth a_rest a_loopAt a_loopFound a_hits v_classes v_fields v_begun v_indexes_134 v_made v_slotted v_half v_open v_known v_fresh v_changed v_renamed v_down v_armed v_written v_logged v_marked v_logSize v_drafted v_questions v_now v_at v_bad v_opens v_deep v_aimed v_truths v_loops v_valued v_value v_set v_latest v_fits v_total v_looked v_owner v_parent v_sort (upd v_indexClass_134 v_indexes_134.toNatClampNeg p1) (upd (upd v_indexPath_134 (3 * v_indexes_134).toNatClampNeg p2) ((3 * v_indexes_134) + 1).toNatClampNeg p3) v_aim) H := hP
      have hD : va_D A (cw_M_index G a_t a_owner a_parent a_sort a_indexClass a_indexPath a_aim a_classes1 a_dValues a_dSets a_dNames a_values a_sets a_names a_draft a_lengths a_text a_classOfQuestion a_split a_steps a_what a_one a_two a_opened a_openedAt a_stands a_variable a_truth a_rest a_loopAt a_loopFound a_hits v_classes v_fields v_begun v_indexes_134 v_made v_slotted v_half v_open v_known v_fresh v_changed v_renamed v_down v_armed v_written v_logged v_marked v_logSize v_drafted v_questions v_now v_at v_bad v_opens v_deep v_aimed v_truths v_loops v_valued v_value v_set v_latest v_fits v_total v_looked v_owner v_parent v_sort (upd v_indexClass_134 v_indexes_134.toNatClampNeg p1) (upd (upd v_indexPath_134 (3 * v_indexes_134).toNatClampNeg p2) ((3 * v_indexes_134) + 1).toNatClampNeg p3) v_aim) := hD
      refine lv_aload_n hx hb d_M_index_177 rfl (lv_at hl 0 rfl) ?_
      refine va_get (D := D) (ci := 11) (v := .ref a_indexPath) (C := "ObjectBaseModel") (T := TC_M) (N := 66) hx hb hts inC_M hown hK hP 0 rfl rfl 9 (by decide) (hts _ tw796) (fun _ h9 => h9) rfl d_M_index_178 ?_
      refine lv_iconst (v := 3) hx hb d_M_index_181 (by decide) ?_
      refine lv_aload_n hx hb d_M_index_182 rfl (lv_at hl 0 rfl) ?_
      refine va_get (D := D) (ci := 11) (v := .int v_indexes_134) (C := "ObjectBaseModel") (T := TC_M) (N := 66) hx hb hts inC_M hown hK hP 0 rfl rfl 7 (by decide) (hts _ tw794) (fun _ h9 => h9) rfl d_M_index_183 ?_
      refine lv_imul hx hb d_M_index_186 ?_
      refine lv_iconst (v := 2) hx hb d_M_index_187 (by decide) ?_
      refine lv_iadd hx hb d_M_index_188 ?_
      refine lv_iload hx hb d_M_index_189 (lv_at hl 4 rfl) ?_
      obtain ⟨hg191, hf⟩ := ob_iv_g hf
      refine va_iast hx hb hK hP hD hS 5 0 rfl rfl hg191 d_M_index_191 (fun H locs hP hD hS => ?_)
      have hP : va_P D vwCl (cw_M_index G a_t a_owner a_parent a_sort a_indexClass a_indexPath a_aim a_classes1 a_dValues a_dSets a_dNames a_values a_sets a_names a_draft a_lengths a_text a_classOfQuestion a_split a_steps a_what a_one a_two a_opened a_openedAt a_stands a_variable a_truth a_rest a_loopAt a_loopFound a_hits v_classes v_fields v_begun v_indexes_134 v_made v_slotted v_half v_open v_known v_fresh v_changed v_renamed v_down v_armed v_written v_logged v_marked v_logSize v_drafted v_questions v_now v_at v_bad v_opens v_deep v_aimed v_truths v_loops v_valued v_value v_set v_latest v_fits v_total v_looked v_owner v_parent v_sort (upd v_indexClass_134 v_indexes_134.toNatClampNeg p1) (upd (upd (upd v_indexPath_134 (3 * v_indexes_134).toNatClampNeg p2) ((3 * v_indexes_134) + 1).toNatClampNeg p3) ((3 * v_indexes_134) + 2).toNatClampNeg p4) v_aim) H := hP
      have hD : va_D A (cw_M_index G a_t a_owner a_parent a_sort a_indexClass a_indexPath a_aim a_classes1 a_dValues a_dSets a_dNames a_values a_sets a_names a_draft a_lengths a_text a_classOfQuestion a_split a_steps a_what a_one a_two a_opened a_openedAt a_stands a_variable a_truth a_rest a_loopAt a_loopFound a_hits v_classes v_fields v_begun v_indexes_134 v_made v_slotted v_half v_open v_known v_fresh v_changed v_renamed v_down v_armed v_written v_logged v_marked v_logSize v_drafted v_questions v_now v_at v_bad v_opens v_deep v_aimed v_truths v_loops v_valued v_value v_set v_latest v_fits v_total v_looked v_owner v_parent v_sort (upd v_indexClass_134 v_indexes_134.toNatClampNeg p1) (upd (upd (upd v_indexPath_134 (3 * v_indexes_134).toNatClampNeg p2) ((3 * v_indexes_134) + 1).toNatClampNeg p3) ((3 * v_indexes_134) + 2).toNatClampNeg p4) v_aim) := hD
      refine lv_aload_n hx hb d_M_index_192 rfl (lv_at hl 0 rfl) ?_
      refine lv_dup hx hb d_M_index_193 rfl ?_
      refine va_get (D := D) (ci := 11) (v := .int v_indexes_134) (C := "ObjectBaseModel") (T := TC_M) (N := 66) hx hb hts inC_M hown hK hP 0 rfl rfl 7 (by decide) (hts _ tw794) (fun _ h9 => h9) rfl d_M_index_194 ?_
      refine lv_iconst (v := 1) hx hb d_M_index_197 (by decide) ?_
      refine lv_iadd hx hb d_M_index_198 ?_
      refine va_put (D := D) (ci := 11) (v := .int (v_indexes_134 + 1)) (ty := .int) (C := "ObjectBaseModel") (T := TC_M) (N := 66) hx hb hts inC_M tyC_M tyC_M_ok nmC_M hown hK hP hD hS 0 rfl rfl 7 (by decide) (hts _ tw794) (fun _ h9 => h9) rfl (by decide +kernel) rfl rfl (Nat.le_of_ble_eq_true rfl) d_M_index_199 (fun H locs hP hD hS => ?_)
      have hP : va_P D vwCl (cw_M_index G a_t a_owner a_parent a_sort a_indexClass a_indexPath a_aim a_classes1 a_dValues a_dSets a_dNames a_values a_sets a_names a_draft a_lengths a_text a_classOfQuestion a_split a_steps a_what a_one a_two a_opened a_openedAt a_stands a_variable a_truth a_rest a_loopAt a_loopFound a_hits v_classes v_fields v_begun (v_indexes_134 + 1) v_made v_slotted v_half v_open v_known v_fresh v_changed v_renamed v_down v_armed v_written v_logged v_marked v_logSize v_drafted v_questions v_now v_at v_bad v_opens v_deep v_aimed v_truths v_loops v_valued v_value v_set v_latest v_fits v_total v_looked v_owner v_parent v_sort (upd v_indexClass_134 v_indexes_134.toNatClampNeg p1) (upd (upd (upd v_indexPath_134 (3 * v_indexes_134).toNatClampNeg p2) ((3 * v_indexes_134) + 1).toNatClampNeg p3) ((3 * v_indexes_134) + 2).toNatClampNeg p4) v_aim) H := hP
      have hD : va_D A (cw_M_index G a_t a_owner a_parent a_sort a_indexClass a_indexPath a_aim a_classes1 a_dValues a_dSets a_dNames a_values a_sets a_names a_draft a_lengths a_text a_classOfQuestion a_split a_steps a_what a_one a_two a_opened a_openedAt a_stands a_variable a_truth a_rest a_loopAt a_loopFound a_hits v_classes v_fields v_begun (v_indexes_134 + 1) v_made v_slotted v_half v_open v_known v_fresh v_changed v_renamed v_down v_armed v_written v_logged v_marked v_logSize v_drafted v_questions v_now v_at v_bad v_opens v_deep v_aimed v_truths v_loops v_valued v_value v_set v_latest v_fits v_total v_looked v_owner v_parent v_sort (upd v_indexClass_134 v_indexes_134.toNatClampNeg p1) (upd (upd (upd v_indexPath_134 (3 * v_indexes_134).toNatClampNeg p2) ((3 * v_indexes_134) + 1).toNatClampNeg p3) ((3 * v_indexes_134) + 2).toNatClampNeg p4) v_aim) := hD
      refine lv_aload_n hx hb d_M_index_202 rfl (lv_at hl 0 rfl) ?_
      refine va_get (D := D) (ci := 11) (v := .int (v_indexes_134 + 1)) (C := "ObjectBaseModel") (T := TC_M) (N := 66) hx hb hts inC_M hown hK hP 0 rfl rfl 7 (by decide) (hts _ tw794) (fun _ h9 => h9) rfl d_M_index_203 ?_
      refine lv_iconst (v := 1) hx hb d_M_index_206 (by decide) ?_
      refine lv_isub hx hb d_M_index_207 ?_
      exact hret ((v_indexes_134 + 1) - 1, v_indexes_134 + 1, upd v_indexClass_134 v_indexes_134.toNatClampNeg p1, upd (upd (upd v_indexPath_134 (3 * v_indexes_134).toNatClampNeg p2) ((3 * v_indexes_134) + 1).toNatClampNeg p3) ((3 * v_indexes_134) + 2).toNatClampNeg p4) H locs _ ls hf hP hD hS rfl d_M_index_208
    · have hf := ob_t hc136 hf
      refine lv_iconst (v := (-1)) hx hb d_M_index_139 (by decide) ?_
      exact hret ((-1), v_indexes_134, v_indexClass_134, v_indexPath_134) H locs _ ls hf hP hD hS rfl d_M_index_140
  have blk103 : ∀ (x103_5 : Int32) (v_indexes_103 : Int32) (v_indexClass_103 : Nat → Int32) (v_indexPath_103 : Nat → Int32) (ls : Array Slot) (H : Heap) (locs : List Loc), lv_has ls 6 [(0, .ref a_t), (1, .int p1), (2, .int p2), (3, .int p3), (4, .int p4), (5, .int x103_5)] → va_P D vwCl (cw_M_index G a_t a_owner a_parent a_sort a_indexClass a_indexPath a_aim a_classes1 a_dValues a_dSets a_dNames a_values a_sets a_names a_draft a_lengths a_text a_classOfQuestion a_split a_steps a_what a_one a_two a_opened a_openedAt a_stands a_variable a_truth a_rest a_loopAt a_loopFound a_hits v_classes v_fields v_begun v_indexes_103 v_made v_slotted v_half v_open v_known v_fresh v_changed v_renamed v_down v_armed v_written v_logged v_marked v_logSize v_drafted v_questions v_now v_at v_bad v_opens v_deep v_aimed v_truths v_loops v_valued v_value v_set v_latest v_fits v_total v_looked v_owner v_parent v_sort v_indexClass_103 v_indexPath_103 v_aim) H → va_D A (cw_M_index G a_t a_owner a_parent a_sort a_indexClass a_indexPath a_aim a_classes1 a_dValues a_dSets a_dNames a_values a_sets a_names a_draft a_lengths a_text a_classOfQuestion a_split a_steps a_what a_one a_two a_opened a_openedAt a_stands a_variable a_truth a_rest a_loopAt a_loopFound a_hits v_classes v_fields v_begun v_indexes_103 v_made v_slotted v_half v_open v_known v_fresh v_changed v_renamed v_down v_armed v_written v_logged v_marked v_logSize v_drafted v_questions v_now v_at v_bad v_opens v_deep v_aimed v_truths v_loops v_valued v_value v_set v_latest v_fits v_total v_looked v_owner v_parent v_sort v_indexClass_103 v_indexPath_103 v_aim) → va_S A s.heap H locs → f_M_index_J103 p1 p2 p3 p4 v_fields v_owner v_parent v_sort v_aim x103_5 v_indexes_103 v_indexClass_103 v_indexPath_103 = some o → W p l e ({ frames := 2, cells := 0, slots := 0, locals := 47 }) s m ([.ref a_t, .int p1, .int p2, .int p3, .int p4] : List Value).toArray below meth c H locs 0 0 Q (F0 m 103 ls []) := by
    intro x103_5 v_indexes_103 v_indexClass_103 v_indexPath_103 ls H locs hl hP hD hS hf
    unfold f_M_index_J103 at hf
    refine lv_iload hx hb d_M_index_103 (lv_at hl 5 rfl) ?_
    refine lv_if_eq (tgt := 134) hx hb d_M_index_105 (by decide) (fun hc105 => ?_) (fun hc105 => ?_)
    · have hf := ob_t hc105 hf
      exact blk134 x103_5 v_indexes_103 v_indexClass_103 v_indexPath_103 ls H locs (lv_sub hl [0, 1, 2, 3, 4, 5] rfl) hP hD hS hf
    · have hf := ob_f hc105 hf
      refine lv_iload_n hx hb d_M_index_108 rfl (lv_at hl 3 rfl) ?_
      refine lv_iconst (v := (-1)) hx hb d_M_index_109 (by decide) ?_
      refine lv_icmp_eq (tgt := 134) hx hb d_M_index_110 (by decide) (fun hc110 => ?_) (fun hc110 => ?_)
      · have hf := ob_t hc110 hf
        exact blk134 x103_5 v_indexes_103 v_indexClass_103 v_indexPath_103 ls H locs (lv_sub hl [0, 1, 2, 3, 4, 5] rfl) hP hD hS hf
      · have hf := ob_f hc110 hf
        refine lv_iload hx hb d_M_index_113 (lv_at hl 4 rfl) ?_
        refine lv_iconst (v := (-1)) hx hb d_M_index_115 (by decide) ?_
        refine lv_icmp_eq (tgt := 134) hx hb d_M_index_116 (by decide) (fun hc116 => ?_) (fun hc116 => ?_)
        · have hf := ob_t hc116 hf
          exact blk134 x103_5 v_indexes_103 v_indexClass_103 v_indexPath_103 ls H locs (lv_sub hl [0, 1, 2, 3, 4, 5] rfl) hP hD hS hf
        · have hf := ob_f hc116 hf
          refine lv_aload_n hx hb d_M_index_119 rfl (lv_at hl 0 rfl) ?_
          refine lv_aload_n hx hb d_M_index_120 rfl (lv_at hl 0 rfl) ?_
          refine va_get (D := D) (ci := 11) (v := .ref a_aim) (C := "ObjectBaseModel") (T := TC_M) (N := 66) hx hb hts inC_M hown hK hP 0 rfl rfl 5 (by decide) (hts _ tw792) (fun _ h9 => h9) rfl d_M_index_121 ?_
          refine lv_iload_n hx hb d_M_index_124 rfl (lv_at hl 3 rfl) ?_
          obtain ⟨hg125, hf⟩ := ob_iv_g hf
          refine va_iald hx hb hK hP 6 0 rfl rfl hg125 d_M_index_125 ?_
          refine lv_iload hx hb d_M_index_126 (lv_at hl 4 rfl) ?_
          refine lv_iconst (v := 0) hx hb d_M_index_128 (by decide) ?_
          obtain ⟨o129, ho129, hf⟩ := ob_b hf
          refine ob_calli (w2 := (cw_M_index G a_t a_owner a_parent a_sort a_indexClass a_indexPath a_aim a_classes1 a_dValues a_dSets a_dNames a_values a_sets a_names a_draft a_lengths a_text a_classOfQuestion a_split a_steps a_what a_one a_two a_opened a_openedAt a_stands a_variable a_truth a_rest a_loopAt a_loopFound a_hits v_classes v_fields v_begun v_indexes_103 v_made v_slotted v_half v_open v_known v_fresh v_changed v_renamed v_down v_armed v_written v_logged v_marked v_logSize v_drafted v_questions v_now v_at v_bad v_opens v_deep v_aimed v_truths v_loops v_valued v_value v_set v_latest v_fits v_total v_looked v_owner v_parent v_sort v_indexClass_103 v_indexPath_103 v_aim)) (va_runV (As := [.int (v_aim p3.toNatClampNeg), .int p4, .int 0]) (rest := []) ⟨hx, hb, hml, hown, hts⟩ (c_M_has l D G a_t a_owner a_parent a_sort a_aim a_indexClass a_indexPath a_classes1 a_dValues a_dSets a_dNames a_values a_sets a_names a_draft a_lengths a_text a_classOfQuestion a_split a_steps a_what a_one a_two a_opened a_openedAt a_stands a_variable a_truth a_rest a_loopAt a_loopFound a_hits v_classes v_fields v_begun v_indexes_103 v_made v_slotted v_half v_open v_known v_fresh v_changed v_renamed v_down v_armed v_written v_logged v_marked v_logSize v_drafted v_questions v_now v_at v_bad v_opens v_deep v_aimed v_truths v_loops v_valued v_value v_set v_latest v_fits v_total v_looked v_owner v_parent v_sort (v_aim p3.toNatClampNeg) p4 0 o129 ho129 H.size) (cwV 3 hts (gV tw1003 tw1005 tp29 tw11 tw1006) rfl rfl rfl (by decide +kernel) ⟨Nat.le_of_ble_eq_true rfl, Nat.le_of_ble_eq_true rfl⟩) (ob_preV (q0 := 0) (ci := 11) hZ hK hP hD [0, 1, 2, 3] rfl rfl rfl rfl rfl) rfl rfl hl.1 rfl (lv_room (Nat.le_of_ble_eq_true rfl)) d_M_index_129 ⟨Nat.le_refl _, Nat.le_refl _⟩) hP hD hA hS [0, 1, 2, 3] rfl rfl rfl rfl (fun H locs hP hD hS => ?_)
          refine lv_istore (lv' := [(5, .int o129), (0, .ref a_t), (1, .int p1), (2, .int p2), (3, .int p3), (4, .int p4)]) hx hb d_M_index_132 hl (by decide) rfl (fun ls hl => ?_)
          exact blk134 o129 v_indexes_103 v_indexClass_103 v_indexPath_103 ls H locs (lv_sub hl [1, 2, 3, 4, 5, 0] rfl) hP hD hS hf
  have blk98 : ∀ (y98_0 : Int32) (y98_1 : Int32) (y98_2 : Int32) (v_indexes_98 : Int32) (v_indexClass_98 : Nat → Int32) (v_indexPath_98 : Nat → Int32) (ls : Array Slot) (H : Heap) (locs : List Loc), lv_has ls 6 [(0, .ref a_t), (1, .int p1), (2, .int p2), (3, .int p3), (4, .int p4)] → va_P D vwCl (cw_M_index G a_t a_owner a_parent a_sort a_indexClass a_indexPath a_aim a_classes1 a_dValues a_dSets a_dNames a_values a_sets a_names a_draft a_lengths a_text a_classOfQuestion a_split a_steps a_what a_one a_two a_opened a_openedAt a_stands a_variable a_truth a_rest a_loopAt a_loopFound a_hits v_classes v_fields v_begun v_indexes_98 v_made v_slotted v_half v_open v_known v_fresh v_changed v_renamed v_down v_armed v_written v_logged v_marked v_logSize v_drafted v_questions v_now v_at v_bad v_opens v_deep v_aimed v_truths v_loops v_valued v_value v_set v_latest v_fits v_total v_looked v_owner v_parent v_sort v_indexClass_98 v_indexPath_98 v_aim) H → va_D A (cw_M_index G a_t a_owner a_parent a_sort a_indexClass a_indexPath a_aim a_classes1 a_dValues a_dSets a_dNames a_values a_sets a_names a_draft a_lengths a_text a_classOfQuestion a_split a_steps a_what a_one a_two a_opened a_openedAt a_stands a_variable a_truth a_rest a_loopAt a_loopFound a_hits v_classes v_fields v_begun v_indexes_98 v_made v_slotted v_half v_open v_known v_fresh v_changed v_renamed v_down v_armed v_written v_logged v_marked v_logSize v_drafted v_questions v_now v_at v_bad v_opens v_deep v_aimed v_truths v_loops v_valued v_value v_set v_latest v_fits v_total v_looked v_owner v_parent v_sort v_indexClass_98 v_indexPath_98 v_aim) → va_S A s.heap H locs → f_M_index_J98 v_fields v_owner v_parent v_sort p1 p2 p3 p4 v_aim y98_0 y98_1 y98_2 v_indexes_98 v_indexClass_98 v_indexPath_98 = some o → W p l e ({ frames := 2, cells := 0, slots := 0, locals := 47 }) s m ([.ref a_t, .int p1, .int p2, .int p3, .int p4] : List Value).toArray below meth c H locs 0 0 Q (F0 m 98 ls [.int y98_0, .int y98_1, .int y98_2, .ref a_t]) := by
    intro y98_0 y98_1 y98_2 v_indexes_98 v_indexClass_98 v_indexPath_98 ls H locs hl hP hD hS hf
    unfold f_M_index_J98 at hf
    obtain ⟨o98, ho98, hf⟩ := ob_b hf
    refine ob_calli (w2 := (cw_M_index G a_t a_owner a_parent a_sort a_indexClass a_indexPath a_aim a_classes1 a_dValues a_dSets a_dNames a_values a_sets a_names a_draft a_lengths a_text a_classOfQuestion a_split a_steps a_what a_one a_two a_opened a_openedAt a_stands a_variable a_truth a_rest a_loopAt a_loopFound a_hits v_classes v_fields v_begun v_indexes_98 v_made v_slotted v_half v_open v_known v_fresh v_changed v_renamed v_down v_armed v_written v_logged v_marked v_logSize v_drafted v_questions v_now v_at v_bad v_opens v_deep v_aimed v_truths v_loops v_valued v_value v_set v_latest v_fits v_total v_looked v_owner v_parent v_sort v_indexClass_98 v_indexPath_98 v_aim)) (va_runV (As := [.int y98_2, .int y98_1, .int y98_0]) (rest := []) ⟨hx, hb, hml, hown, hts⟩ (c_M_has l D G a_t a_owner a_parent a_sort a_aim a_indexClass a_indexPath a_classes1 a_dValues a_dSets a_dNames a_values a_sets a_names a_draft a_lengths a_text a_classOfQuestion a_split a_steps a_what a_one a_two a_opened a_openedAt a_stands a_variable a_truth a_rest a_loopAt a_loopFound a_hits v_classes v_fields v_begun v_indexes_98 v_made v_slotted v_half v_open v_known v_fresh v_changed v_renamed v_down v_armed v_written v_logged v_marked v_logSize v_drafted v_questions v_now v_at v_bad v_opens v_deep v_aimed v_truths v_loops v_valued v_value v_set v_latest v_fits v_total v_looked v_owner v_parent v_sort y98_2 y98_1 y98_0 o98 ho98 H.size) (cwV 3 hts (gV tw1003 tw1005 tp29 tw11 tw1006) rfl rfl rfl (by decide +kernel) ⟨Nat.le_of_ble_eq_true rfl, Nat.le_of_ble_eq_true rfl⟩) (ob_preV (q0 := 0) (ci := 11) hZ hK hP hD [0, 1, 2, 3] rfl rfl rfl rfl rfl) rfl rfl hl.1 rfl (lv_room (Nat.le_of_ble_eq_true rfl)) d_M_index_98 ⟨Nat.le_refl _, Nat.le_refl _⟩) hP hD hA hS [0, 1, 2, 3] rfl rfl rfl rfl (fun H locs hP hD hS => ?_)
    refine lv_istore (lv' := [(5, .int o98), (0, .ref a_t), (1, .int p1), (2, .int p2), (3, .int p3), (4, .int p4)]) hx hb d_M_index_101 hl (by decide) rfl (fun ls hl => ?_)
    exact blk103 o98 v_indexes_98 v_indexClass_98 v_indexPath_98 ls H locs (lv_sub hl [1, 2, 3, 4, 5, 0] rfl) hP hD hS hf
  have blk64 : ∀ (y64_0 : Int32) (y64_1 : Int32) (y64_2 : Int32) (v_indexes_64 : Int32) (v_indexClass_64 : Nat → Int32) (v_indexPath_64 : Nat → Int32) (ls : Array Slot) (H : Heap) (locs : List Loc), lv_has ls 6 [(0, .ref a_t), (1, .int p1), (2, .int p2), (3, .int p3), (4, .int p4)] → va_P D vwCl (cw_M_index G a_t a_owner a_parent a_sort a_indexClass a_indexPath a_aim a_classes1 a_dValues a_dSets a_dNames a_values a_sets a_names a_draft a_lengths a_text a_classOfQuestion a_split a_steps a_what a_one a_two a_opened a_openedAt a_stands a_variable a_truth a_rest a_loopAt a_loopFound a_hits v_classes v_fields v_begun v_indexes_64 v_made v_slotted v_half v_open v_known v_fresh v_changed v_renamed v_down v_armed v_written v_logged v_marked v_logSize v_drafted v_questions v_now v_at v_bad v_opens v_deep v_aimed v_truths v_loops v_valued v_value v_set v_latest v_fits v_total v_looked v_owner v_parent v_sort v_indexClass_64 v_indexPath_64 v_aim) H → va_D A (cw_M_index G a_t a_owner a_parent a_sort a_indexClass a_indexPath a_aim a_classes1 a_dValues a_dSets a_dNames a_values a_sets a_names a_draft a_lengths a_text a_classOfQuestion a_split a_steps a_what a_one a_two a_opened a_openedAt a_stands a_variable a_truth a_rest a_loopAt a_loopFound a_hits v_classes v_fields v_begun v_indexes_64 v_made v_slotted v_half v_open v_known v_fresh v_changed v_renamed v_down v_armed v_written v_logged v_marked v_logSize v_drafted v_questions v_now v_at v_bad v_opens v_deep v_aimed v_truths v_loops v_valued v_value v_set v_latest v_fits v_total v_looked v_owner v_parent v_sort v_indexClass_64 v_indexPath_64 v_aim) → va_S A s.heap H locs → f_M_index_J64 v_fields v_owner v_parent v_sort p1 p2 p3 p4 v_aim y64_0 y64_1 y64_2 v_indexes_64 v_indexClass_64 v_indexPath_64 = some o → W p l e ({ frames := 2, cells := 0, slots := 0, locals := 47 }) s m ([.ref a_t, .int p1, .int p2, .int p3, .int p4] : List Value).toArray below meth c H locs 0 0 Q (F0 m 64 ls [.int y64_0, .int y64_1, .int y64_2, .ref a_t]) := by
    intro y64_0 y64_1 y64_2 v_indexes_64 v_indexClass_64 v_indexPath_64 ls H locs hl hP hD hS hf
    unfold f_M_index_J64 at hf
    obtain ⟨o64, ho64, hf⟩ := ob_b hf
    refine ob_calli (w2 := (cw_M_index G a_t a_owner a_parent a_sort a_indexClass a_indexPath a_aim a_classes1 a_dValues a_dSets a_dNames a_values a_sets a_names a_draft a_lengths a_text a_classOfQuestion a_split a_steps a_what a_one a_two a_opened a_openedAt a_stands a_variable a_truth a_rest a_loopAt a_loopFound a_hits v_classes v_fields v_begun v_indexes_64 v_made v_slotted v_half v_open v_known v_fresh v_changed v_renamed v_down v_armed v_written v_logged v_marked v_logSize v_drafted v_questions v_now v_at v_bad v_opens v_deep v_aimed v_truths v_loops v_valued v_value v_set v_latest v_fits v_total v_looked v_owner v_parent v_sort v_indexClass_64 v_indexPath_64 v_aim)) (va_runV (As := [.int y64_2, .int y64_1, .int y64_0]) (rest := []) ⟨hx, hb, hml, hown, hts⟩ (c_M_has l D G a_t a_owner a_parent a_sort a_aim a_indexClass a_indexPath a_classes1 a_dValues a_dSets a_dNames a_values a_sets a_names a_draft a_lengths a_text a_classOfQuestion a_split a_steps a_what a_one a_two a_opened a_openedAt a_stands a_variable a_truth a_rest a_loopAt a_loopFound a_hits v_classes v_fields v_begun v_indexes_64 v_made v_slotted v_half v_open v_known v_fresh v_changed v_renamed v_down v_armed v_written v_logged v_marked v_logSize v_drafted v_questions v_now v_at v_bad v_opens v_deep v_aimed v_truths v_loops v_valued v_value v_set v_latest v_fits v_total v_looked v_owner v_parent v_sort y64_2 y64_1 y64_0 o64 ho64 H.size) (cwV 3 hts (gV tw1003 tw1005 tp29 tw11 tw1006) rfl rfl rfl (by decide +kernel) ⟨Nat.le_of_ble_eq_true rfl, Nat.le_of_ble_eq_true rfl⟩) (ob_preV (q0 := 0) (ci := 11) hZ hK hP hD [0, 1, 2, 3] rfl rfl rfl rfl rfl) rfl rfl hl.1 rfl (lv_room (Nat.le_of_ble_eq_true rfl)) d_M_index_64 ⟨Nat.le_refl _, Nat.le_refl _⟩) hP hD hA hS [0, 1, 2, 3] rfl rfl rfl rfl (fun H locs hP hD hS => ?_)
    refine lv_istore (lv' := [(5, .int o64), (0, .ref a_t), (1, .int p1), (2, .int p2), (3, .int p3), (4, .int p4)]) hx hb d_M_index_67 hl (by decide) rfl (fun ls hl => ?_)
    refine lv_iload hx hb d_M_index_69 (lv_at hl 0 rfl) ?_
    refine lv_if_eq (tgt := 103) hx hb d_M_index_71 (by decide) (fun hc71 => ?_) (fun hc71 => ?_)
    · have hf := ob_t hc71 hf
      exact blk103 o64 v_indexes_64 v_indexClass_64 v_indexPath_64 ls H locs (lv_sub hl [1, 2, 3, 4, 5, 0] rfl) hP hD hS hf
    · have hf := ob_f hc71 hf
      refine lv_iload_n hx hb d_M_index_74 rfl (lv_at hl 4 rfl) ?_
      refine lv_iconst (v := (-1)) hx hb d_M_index_75 (by decide) ?_
      refine lv_icmp_eq (tgt := 103) hx hb d_M_index_76 (by decide) (fun hc76 => ?_) (fun hc76 => ?_)
      · have hf := ob_t hc76 hf
        exact blk103 o64 v_indexes_64 v_indexClass_64 v_indexPath_64 ls H locs (lv_sub hl [1, 2, 3, 4, 5, 0] rfl) hP hD hS hf
      · have hf := ob_f hc76 hf
        refine lv_aload_n hx hb d_M_index_79 rfl (lv_at hl 1 rfl) ?_
        refine lv_aload_n hx hb d_M_index_80 rfl (lv_at hl 1 rfl) ?_
        refine va_get (D := D) (ci := 11) (v := .ref a_aim) (C := "ObjectBaseModel") (T := TC_M) (N := 66) hx hb hts inC_M hown hK hP 0 rfl rfl 5 (by decide) (hts _ tw792) (fun _ h9 => h9) rfl d_M_index_81 ?_
        refine lv_iload_n hx hb d_M_index_84 rfl (lv_at hl 3 rfl) ?_
        obtain ⟨hg85, hf⟩ := ob_iv_g hf
        refine va_iald hx hb hK hP 6 0 rfl rfl hg85 d_M_index_85 ?_
        refine lv_iload_n hx hb d_M_index_86 rfl (lv_at hl 4 rfl) ?_
        refine lv_iload hx hb d_M_index_87 (lv_at hl 5 rfl) ?_
        refine lv_iconst (v := (-1)) hx hb d_M_index_89 (by decide) ?_
        refine lv_icmp_ne (tgt := 97) hx hb d_M_index_90 (by decide) (fun hc90 => ?_) (fun hc90 => ?_)
        · have hf := ob_f hc90 hf
          refine lv_iconst (v := 1) hx hb d_M_index_97 (by decide) ?_
          exact blk98 1 p3 (v_aim p2.toNatClampNeg) v_indexes_64 v_indexClass_64 v_indexPath_64 ls H locs (lv_sub hl [1, 2, 3, 4, 5] rfl) hP hD hS hf
        · have hf := ob_t hc90 hf
          refine lv_iconst (v := 0) hx hb d_M_index_93 (by decide) ?_
          refine lv_goto (tgt := 98) hx hb d_M_index_94 (by decide) ?_
          exact blk98 0 p3 (v_aim p2.toNatClampNeg) v_indexes_64 v_indexClass_64 v_indexPath_64 ls H locs (lv_sub hl [1, 2, 3, 4, 5] rfl) hP hD hS hf
  have blk51 : ∀ (v_indexes_51 : Int32) (v_indexClass_51 : Nat → Int32) (v_indexPath_51 : Nat → Int32) (ls : Array Slot) (H : Heap) (locs : List Loc), lv_has ls 6 [(0, .ref a_t), (1, .int p1), (2, .int p2), (3, .int p3), (4, .int p4)] → va_P D vwCl (cw_M_index G a_t a_owner a_parent a_sort a_indexClass a_indexPath a_aim a_classes1 a_dValues a_dSets a_dNames a_values a_sets a_names a_draft a_lengths a_text a_classOfQuestion a_split a_steps a_what a_one a_two a_opened a_openedAt a_stands a_variable a_truth a_rest a_loopAt a_loopFound a_hits v_classes v_fields v_begun v_indexes_51 v_made v_slotted v_half v_open v_known v_fresh v_changed v_renamed v_down v_armed v_written v_logged v_marked v_logSize v_drafted v_questions v_now v_at v_bad v_opens v_deep v_aimed v_truths v_loops v_valued v_value v_set v_latest v_fits v_total v_looked v_owner v_parent v_sort v_indexClass_51 v_indexPath_51 v_aim) H → va_D A (cw_M_index G a_t a_owner a_parent a_sort a_indexClass a_indexPath a_aim a_classes1 a_dValues a_dSets a_dNames a_values a_sets a_names a_draft a_lengths a_text a_classOfQuestion a_split a_steps a_what a_one a_two a_opened a_openedAt a_stands a_variable a_truth a_rest a_loopAt a_loopFound a_hits v_classes v_fields v_begun v_indexes_51 v_made v_slotted v_half v_open v_known v_fresh v_changed v_renamed v_down v_armed v_written v_logged v_marked v_logSize v_drafted v_questions v_now v_at v_bad v_opens v_deep v_aimed v_truths v_loops v_valued v_value v_set v_latest v_fits v_total v_looked v_owner v_parent v_sort v_indexClass_51 v_indexPath_51 v_aim) → va_S A s.heap H locs → f_M_index_J51 p3 v_fields v_owner v_parent v_sort p1 p2 p4 v_aim v_indexes_51 v_indexClass_51 v_indexPath_51 = some o → W p l e ({ frames := 2, cells := 0, slots := 0, locals := 47 }) s m ([.ref a_t, .int p1, .int p2, .int p3, .int p4] : List Value).toArray below meth c H locs 0 0 Q (F0 m 51 ls []) := by
    intro v_indexes_51 v_indexClass_51 v_indexPath_51 ls H locs hl hP hD hS hf
    unfold f_M_index_J51 at hf
    refine lv_aload_n hx hb d_M_index_51 rfl (lv_at hl 0 rfl) ?_
    refine lv_iload_n hx hb d_M_index_52 rfl (lv_at hl 1 rfl) ?_
    refine lv_iload_n hx hb d_M_index_53 rfl (lv_at hl 2 rfl) ?_
    refine lv_iload_n hx hb d_M_index_54 rfl (lv_at hl 3 rfl) ?_
    refine lv_iconst (v := (-1)) hx hb d_M_index_55 (by decide) ?_
    refine lv_icmp_ne (tgt := 63) hx hb d_M_index_56 (by decide) (fun hc56 => ?_) (fun hc56 => ?_)
    · have hf := ob_f hc56 hf
      refine lv_iconst (v := 1) hx hb d_M_index_63 (by decide) ?_
      exact blk64 1 p2 p1 v_indexes_51 v_indexClass_51 v_indexPath_51 ls H locs (lv_sub hl [0, 1, 2, 3, 4] rfl) hP hD hS hf
    · have hf := ob_t hc56 hf
      refine lv_iconst (v := 0) hx hb d_M_index_59 (by decide) ?_
      refine lv_goto (tgt := 64) hx hb d_M_index_60 (by decide) ?_
      exact blk64 0 p2 p1 v_indexes_51 v_indexClass_51 v_indexPath_51 ls H locs (lv_sub hl [0, 1, 2, 3, 4] rfl) hP hD hS hf
  refine lv_aload_n hx hb d_M_index_0 rfl (lv_at hl 0 rfl) ?_
  refine va_get (D := D) (ci := 11) (v := .int v_down) (C := "ObjectBaseModel") (T := TC_M) (N := 66) hx hb hts inC_M hown hK hP 0 rfl rfl 25 (by decide) (hts _ tw812) (fun _ h9 => h9) rfl d_M_index_1 ?_
  refine lv_if_eq (tgt := 10) hx hb d_M_index_4 (by decide) (fun hc4 => ?_) (fun hc4 => ?_)
  · have hf := ob_t hc4 hf
    refine lv_aload_n hx hb d_M_index_10 rfl (lv_at hl 0 rfl) ?_
    refine va_get (D := D) (ci := 11) (v := .int v_open) (C := "ObjectBaseModel") (T := TC_M) (N := 66) hx hb hts inC_M hown hK hP 0 rfl rfl 20 (by decide) (hts _ tw807) (fun _ h9 => h9) rfl d_M_index_11 ?_
    refine lv_if_ne (tgt := 49) hx hb d_M_index_14 (by decide) (fun hc14 => ?_) (fun hc14 => ?_)
    · have hf := ob_f hc14 hf
      refine lv_iconst (v := (-1)) hx hb d_M_index_49 (by decide) ?_
      exact hret ((-1), v_indexes, v_indexClass, v_indexPath) H locs _ ls hf hP hD hS rfl d_M_index_50
    · have hf := ob_t hc14 hf
      refine lv_aload_n hx hb d_M_index_17 rfl (lv_at hl 0 rfl) ?_
      refine lv_iload_n hx hb d_M_index_18 rfl (lv_at hl 1 rfl) ?_
      obtain ⟨o19, ho19, hf⟩ := ob_b hf
      refine ob_calli (w2 := (cw_M_index G a_t a_owner a_parent a_sort a_indexClass a_indexPath a_aim a_classes1 a_dValues a_dSets a_dNames a_values a_sets a_names a_draft a_lengths a_text a_classOfQuestion a_split a_steps a_what a_one a_two a_opened a_openedAt a_stands a_variable a_truth a_rest a_loopAt a_loopFound a_hits v_classes v_fields v_begun v_indexes v_made v_slotted v_half v_open v_known v_fresh v_changed v_renamed v_down v_armed v_written v_logged v_marked v_logSize v_drafted v_questions v_now v_at v_bad v_opens v_deep v_aimed v_truths v_loops v_valued v_value v_set v_latest v_fits v_total v_looked v_owner v_parent v_sort v_indexClass v_indexPath v_aim)) (va_runV (As := [.int p1]) (rest := []) ⟨hx, hb, hml, hown, hts⟩ (c_M_isClass l D G a_t a_parent a_owner a_sort a_aim a_indexClass a_indexPath a_classes1 a_dValues a_dSets a_dNames a_values a_sets a_names a_draft a_lengths a_text a_classOfQuestion a_split a_steps a_what a_one a_two a_opened a_openedAt a_stands a_variable a_truth a_rest a_loopAt a_loopFound a_hits v_classes v_fields v_begun v_indexes v_made v_slotted v_half v_open v_known v_fresh v_changed v_renamed v_down v_armed v_written v_logged v_marked v_logSize v_drafted v_questions v_now v_at v_bad v_opens v_deep v_aimed v_truths v_loops v_valued v_value v_set v_latest v_fits v_total v_looked p1 o19 ho19 H.size) (cwV 1 hts (gV tw995 tw997 tp28 tw11 tw998) rfl rfl rfl (by decide +kernel) ⟨Nat.le_of_ble_eq_true rfl, Nat.le_of_ble_eq_true rfl⟩) (ob_preV (q0 := 0) (ci := 11) hZ hK hP hD [0] rfl rfl rfl rfl rfl) rfl rfl hl.1 rfl (lv_room (Nat.le_of_ble_eq_true rfl)) d_M_index_19 ⟨Nat.le_refl _, Nat.le_refl _⟩) hP hD hA hS [0] rfl rfl rfl rfl (fun H locs hP hD hS => ?_)
      refine lv_if_eq (tgt := 49) hx hb d_M_index_22 (by decide) (fun hc22 => ?_) (fun hc22 => ?_)
      · have hf := ob_t hc22 hf
        refine lv_iconst (v := (-1)) hx hb d_M_index_49 (by decide) ?_
        exact hret ((-1), v_indexes, v_indexClass, v_indexPath) H locs _ ls hf hP hD hS rfl d_M_index_50
      · have hf := ob_f hc22 hf
        refine lv_aload_n hx hb d_M_index_25 rfl (lv_at hl 0 rfl) ?_
        refine va_get (D := D) (ci := 11) (v := .int v_indexes) (C := "ObjectBaseModel") (T := TC_M) (N := 66) hx hb hts inC_M hown hK hP 0 rfl rfl 7 (by decide) (hts _ tw794) (fun _ h9 => h9) rfl d_M_index_26 ?_
        refine lv_iconst (v := 3) hx hb d_M_index_29 (by decide) ?_
        refine lv_icmp_eq (tgt := 49) hx hb d_M_index_30 (by decide) (fun hc30 => ?_) (fun hc30 => ?_)
        · have hf := ob_t hc30 hf
          refine lv_iconst (v := (-1)) hx hb d_M_index_49 (by decide) ?_
          exact hret ((-1), v_indexes, v_indexClass, v_indexPath) H locs _ ls hf hP hD hS rfl d_M_index_50
        · have hf := ob_f hc30 hf
          refine lv_iload_n hx hb d_M_index_33 rfl (lv_at hl 2 rfl) ?_
          refine lv_iconst (v := (-1)) hx hb d_M_index_34 (by decide) ?_
          refine lv_icmp_eq (tgt := 49) hx hb d_M_index_35 (by decide) (fun hc35 => ?_) (fun hc35 => ?_)
          · have hf := ob_t hc35 hf
            refine lv_iconst (v := (-1)) hx hb d_M_index_49 (by decide) ?_
            exact hret ((-1), v_indexes, v_indexClass, v_indexPath) H locs _ ls hf hP hD hS rfl d_M_index_50
          · have hf := ob_f hc35 hf
            refine lv_iload_n hx hb d_M_index_38 rfl (lv_at hl 3 rfl) ?_
            refine lv_iconst (v := (-1)) hx hb d_M_index_39 (by decide) ?_
            refine lv_icmp_ne (tgt := 51) hx hb d_M_index_40 (by decide) (fun hc40 => ?_) (fun hc40 => ?_)
            · have hf := ob_f hc40 hf
              exact blk51 v_indexes v_indexClass v_indexPath ls H locs (lv_sub hl [0, 1, 2, 3, 4] rfl) hP hD hS hf
            · have hf := ob_t hc40 hf
              refine lv_iload hx hb d_M_index_43 (lv_at hl 4 rfl) ?_
              refine lv_iconst (v := (-1)) hx hb d_M_index_45 (by decide) ?_
              refine lv_icmp_eq (tgt := 51) hx hb d_M_index_46 (by decide) (fun hc46 => ?_) (fun hc46 => ?_)
              · have hf := ob_t hc46 hf
                exact blk51 v_indexes v_indexClass v_indexPath ls H locs (lv_sub hl [0, 1, 2, 3, 4] rfl) hP hD hS hf
              · have hf := ob_f hc46 hf
                refine lv_iconst (v := (-1)) hx hb d_M_index_49 (by decide) ?_
                exact hret ((-1), v_indexes, v_indexClass, v_indexPath) H locs _ ls hf hP hD hS rfl d_M_index_50
  · have hf := ob_f hc4 hf
    refine lv_bipush (v := (-4)) hx hb d_M_index_7 (by decide) ?_
    exact hret ((-4), v_indexes, v_indexClass, v_indexPath) H locs _ ls hf hP hD hS rfl d_M_index_9
abbrev bc_M_bit : ByteArray := prog_13_method_8_code
abbrev y_M_bit : MethodName := ⟨"ObjectBaseModel", "bit", "(I)J"⟩
def ws_M_bit : List Cond := .code y_M_bit bc_M_bit 1 (some .long) :: obW
theorem d_M_bit_0 : decode bc_M_bit 0 = .ok (.iload_n 0, 1) := by decide +kernel
theorem d_M_bit_1 : decode bc_M_bit 1 = .ok (.ifCond .le 9, 3) := by decide +kernel
theorem d_M_bit_4 : decode bc_M_bit 4 = .ok (.lconst 1, 1) := by decide +kernel
theorem d_M_bit_5 : decode bc_M_bit 5 = .ok (.iload_n 0, 1) := by decide +kernel
theorem d_M_bit_6 : decode bc_M_bit 6 = .ok (.lshl, 1) := by decide +kernel
theorem d_M_bit_7 : decode bc_M_bit 7 = .ok (.goto 4, 3) := by decide +kernel
theorem d_M_bit_10 : decode bc_M_bit 10 = .ok (.lconst 0, 1) := by decide +kernel
theorem d_M_bit_11 : decode bc_M_bit 11 = .ok (.lreturn, 1) := by decide +kernel
def cw_M_bit (G : Nat → ClassId) : va_W := []
def f_M_bit (p0 : Int32) : Option (Int64) := if p0 ≤ 0 then (some 0) else (some (1 <<< (p0.toInt64 &&& 63)))
set_option maxHeartbeats 4000000 in
set_option maxRecDepth 100000 in
theorem c_M_bit (l : Launch) (D : va_G) (G : Nat → ClassId) (p0 : Int32) (o : Int64) (hf : f_M_bit p0 = some o) (sz : Nat) : MetL l y_M_bit ws_M_bit ({ frames := 0, cells := 0, slots := 0, locals := 0 }) D (obT G) (cw_M_bit G) (cw_M_bit G) [.int p0] o sz := by
  refine ob_of (cc := bc_M_bit) (maxL := 1) (ret := (some .long)) (Qc := ObQl D (obT G) (cw_M_bit G) o) (by decide) rfl (Nat.le_of_ble_eq_true rfl) ?_
  intro p e s m below meth c A ls H locs hx hb hr hml hts hown hlk hnm hZ hP hK hD hA hS hl
  have hret : ∀ (o' : Int64) (H : Heap) (locs : List Loc) (pc : Nat) (ls : Array Slot), some o' = some o → va_P D vwCl (cw_M_bit G) H → va_D A (cw_M_bit G) → va_S A s.heap H locs → decode bc_M_bit pc = .ok (.lreturn, 1) → W p l e { frames := 0, cells := 0, slots := 0, locals := 0 } s m ([.int p0] : List Value).toArray below meth c H locs 0 0 (MQ below (ObQl D (obT G) (cw_M_bit G) o A) ([.int p0] : List Value).toArray s 0 0 A) (F0 m pc ls [.long o']) := by
    intro o' H locs pc ls he hP hD hS hd
    obtain rfl := Option.some.inj he
    exact ob_lret hx hb hr hlk hK hP hD hS hd
  generalize MQ below (ObQl D (obT G) (cw_M_bit G) o A) ([.int p0] : List Value).toArray s 0 0 A = Q at hret ⊢
  have hl : lv_has ls 1 [(0, .int p0)] := hl
  unfold f_M_bit at hf
  refine lv_iload_n hx hb d_M_bit_0 rfl (lv_at hl 0 rfl) ?_
  refine lv_if_le (tgt := 10) hx hb d_M_bit_1 (by decide) (fun hc1 => ?_) (fun hc1 => ?_)
  · have hf := ob_t hc1 hf
    refine lv_lconst (v := 0) hx hb d_M_bit_10 (by decide) ?_
    exact hret 0 H locs _ ls hf hP hD hS d_M_bit_11
  · have hf := ob_f hc1 hf
    refine lv_lconst (v := 1) hx hb d_M_bit_4 (by decide) ?_
    refine lv_iload_n hx hb d_M_bit_5 rfl (lv_at hl 0 rfl) ?_
    refine lv_lshl hx hb d_M_bit_6 rfl ?_
    refine lv_goto (tgt := 11) hx hb d_M_bit_7 (by decide) ?_
    exact hret (1 <<< (p0.toInt64 &&& 63)) H locs _ ls hf hP hD hS d_M_bit_11
