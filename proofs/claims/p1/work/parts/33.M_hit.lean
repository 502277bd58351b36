abbrev bc_M_hit : ByteArray := prog_13_method_69_code
abbrev y_M_hit : MethodName := ⟨"ObjectBaseModel", "hit", "(I)I"⟩
def ws_M_hit : List Cond := .code y_M_hit bc_M_hit 2 (some .int) :: obW
theorem d_M_hit_0 : decode bc_M_hit 0 = .ok (.aload_n 0, 1) := by decide +kernel
theorem d_M_hit_1 : decode bc_M_hit 1 = .ok (.getfield 112, 3) := by decide +kernel
theorem d_M_hit_4 : decode bc_M_hit 4 = .ok (.ifCond .eq 6, 3) := by decide +kernel
theorem d_M_hit_7 : decode bc_M_hit 7 = .ok (.bipush (-4), 2) := by decide +kernel
theorem d_M_hit_9 : decode bc_M_hit 9 = .ok (.ireturn, 1) := by decide +kernel
theorem d_M_hit_10 : decode bc_M_hit 10 = .ok (.aload_n 0, 1) := by decide +kernel
theorem d_M_hit_11 : decode bc_M_hit 11 = .ok (.getfield 195, 3) := by decide +kernel
theorem d_M_hit_14 : decode bc_M_hit 14 = .ok (.bipush 42, 2) := by decide +kernel
theorem d_M_hit_16 : decode bc_M_hit 16 = .ok (.if_icmp .ne 24, 3) := by decide +kernel
theorem d_M_hit_19 : decode bc_M_hit 19 = .ok (.iload_n 1, 1) := by decide +kernel
theorem d_M_hit_20 : decode bc_M_hit 20 = .ok (.ifCond .lt 20, 3) := by decide +kernel
theorem d_M_hit_23 : decode bc_M_hit 23 = .ok (.iload_n 1, 1) := by decide +kernel
theorem d_M_hit_24 : decode bc_M_hit 24 = .ok (.aload_n 0, 1) := by decide +kernel
theorem d_M_hit_25 : decode bc_M_hit 25 = .ok (.getfield 198, 3) := by decide +kernel
theorem d_M_hit_28 : decode bc_M_hit 28 = .ok (.if_icmp .ge 12, 3) := by decide +kernel
theorem d_M_hit_31 : decode bc_M_hit 31 = .ok (.aload_n 0, 1) := by decide +kernel
theorem d_M_hit_32 : decode bc_M_hit 32 = .ok (.getfield 106, 3) := by decide +kernel
theorem d_M_hit_35 : decode bc_M_hit 35 = .ok (.iload_n 1, 1) := by decide +kernel
theorem d_M_hit_36 : decode bc_M_hit 36 = .ok (.iaload, 1) := by decide +kernel
theorem d_M_hit_37 : decode bc_M_hit 37 = .ok (.goto 4, 3) := by decide +kernel
theorem d_M_hit_40 : decode bc_M_hit 40 = .ok (.iconst (-1), 1) := by decide +kernel
theorem d_M_hit_41 : decode bc_M_hit 41 = .ok (.ireturn, 1) := by decide +kernel
def cw_M_hit (G : Nat → ClassId) (a_t a_hits a_parent a_owner a_sort a_aim a_indexClass a_indexPath a_classes1 a_dValues a_dSets a_dNames a_values a_sets a_names a_draft a_lengths a_text a_classOfQuestion a_split a_steps a_what a_one a_two a_opened a_openedAt a_stands a_variable a_truth a_rest a_loopAt a_loopFound : Nat) (v_classes : Int32) (v_fields : Int32) (v_begun : Int32) (v_indexes : Int32) (v_made : Int32) (v_slotted : Int64) (v_half : Int32) (v_open : Int32) (v_known : Int64) (v_fresh : Int64) (v_changed : Int64) (v_renamed : Int32) (v_down : Int32) (v_armed : Int32) (v_written : Int32) (v_logged : Int32) (v_marked : Int32) (v_logSize : Int32) (v_drafted : Int32) (v_questions : Int32) (v_now : Int32) (v_at : Int32) (v_bad : Int32) (v_opens : Int32) (v_deep : Int32) (v_aimed : Int32) (v_truths : Int32) (v_loops : Int32) (v_valued : Int32) (v_value : Int32) (v_set : Int64) (v_latest : Int32) (v_fits : Int32) (v_total : Int64) (v_looked : Int32) (v_hits : Nat → Int32) : va_W := [(a_t, .inr (11, [.int v_classes, .ref a_parent, .int v_fields, .ref a_owner, .ref a_sort, .ref a_aim, .int v_begun, .int v_indexes, .ref a_indexClass, .ref a_indexPath, .int v_made, .ref a_classes1, .ref a_dValues, .ref a_dSets, .ref a_dNames, .ref a_values, .ref a_sets, .ref a_names, .long v_slotted, .int v_half, .int v_open, .long v_known, .long v_fresh, .long v_changed, .int v_renamed, .int v_down, .int v_armed, .int v_written, .int v_logged, .int v_marked, .int v_logSize, .int v_drafted, .ref a_draft, .int v_questions, .ref a_lengths, .ref a_text, .ref a_classOfQuestion, .ref a_split, .ref a_steps, .ref a_what, .ref a_one, .ref a_two, .int v_now, .int v_at, .int v_bad, .int v_opens, .ref a_opened, .ref a_openedAt, .int v_deep, .int v_aimed, .ref a_stands, .ref a_variable, .int v_truths, .ref a_truth, .int v_loops, .ref a_rest, .ref a_loopAt, .ref a_loopFound, .int v_valued, .int v_value, .long v_set, .int v_latest, .int v_fits, .ref a_hits, .long v_total, .int v_looked])), (a_hits, .inl (G 0, 62, .inl v_hits))]
def f_M_hit (v_down : Int32) (v_latest : Int32) (v_fits : Int32) (v_hits : Nat → Int32) (p1 : Int32) : Option (Int32) := if v_down = 0 then (if v_latest = 42 then (if p1 < 0 then (some (-1)) else (if v_fits ≤ p1 then (some (-1)) else (ob_iv p1 62 (some (v_hits p1.toNatClampNeg))))) else (some (-1))) else (some (-4))
set_option maxHeartbeats 4000000 in
set_option maxRecDepth 100000 in
theorem c_M_hit (l : Launch) (D : va_G) (G : Nat → ClassId) (a_t a_hits a_parent a_owner a_sort a_aim a_indexClass a_indexPath a_classes1 a_dValues a_dSets a_dNames a_values a_sets a_names a_draft a_lengths a_text a_classOfQuestion a_split a_steps a_what a_one a_two a_opened a_openedAt a_stands a_variable a_truth a_rest a_loopAt a_loopFound : Nat) (v_classes : Int32) (v_fields : Int32) (v_begun : Int32) (v_indexes : Int32) (v_made : Int32) (v_slotted : Int64) (v_half : Int32) (v_open : Int32) (v_known : Int64) (v_fresh : Int64) (v_changed : Int64) (v_renamed : Int32) (v_down : Int32) (v_armed : Int32) (v_written : Int32) (v_logged : Int32) (v_marked : Int32) (v_logSize : Int32) (v_drafted : Int32) (v_questions : Int32) (v_now : Int32) (v_at : Int32) (v_bad : Int32) (v_opens : Int32) (v_deep : Int32) (v_aimed : Int32) (v_truths : Int32) (v_loops : Int32) (v_valued : Int32) (v_value : Int32) (v_set : Int64) (v_latest : Int32) (v_fits : Int32) (v_total : Int64) (v_looked : Int32) (v_hits : Nat → Int32) (p1 : Int32) (o : Int32) (hf : f_M_hit v_down v_latest v_fits v_hits p1 = some o) (sz : Nat) : MetI l y_M_hit ws_M_hit ({ frames := 0, cells := 0, slots := 0, locals := 0 }) D (obT G) (cw_M_hit G a_t a_hits a_parent a_owner a_sort a_aim a_indexClass a_indexPath a_classes1 a_dValues a_dSets a_dNames a_values a_sets a_names a_draft a_lengths a_text a_classOfQuestion a_split a_steps a_what a_one a_two a_opened a_openedAt a_stands a_variable a_truth a_rest a_loopAt a_loopFound v_classes v_fields v_begun v_indexes v_made v_slotted v_half v_open v_known v_fresh v_changed v_renamed v_down v_armed v_written v_logged v_marked v_logSize v_drafted v_questions v_now v_at v_bad v_opens v_deep v_aimed v_truths v_loops v_valued v_value v_set v_latest v_fits v_total v_looked v_hits) (cw_M_hit G a_t a_hits a_parent a_owner a_sort a_aim a_indexClass a_indexPath a_classes1 a_dValues a_dSets a_dNames a_values a_sets a_names a_draft a_lengths a_text a_classOfQuestion a_split a_steps a_what a_one a_two a_opened a_openedAt a_stands a_variable a_truth a_rest a_loopAt a_loopFound v_classes v_fields v_begun v_indexes v_made v_slotted v_half v_open v_known v_fresh v_changed v_renamed v_down v_armed v_written v_logged v_marked v_logSize v_drafted v_questions v_now v_at v_bad v_opens v_deep v_aimed v_truths v_loops v_valued v_value v_set v_latest v_fits v_total v_looked v_hits) [.ref a_t, .int p1] o sz := by
  refine ob_of (cc := bc_M_hit) (maxL := 2) (ret := (some .int)) (Qc := ObQi D (obT G) (cw_M_hit G a_t a_hits a_parent a_owner a_sort a_aim a_indexClass a_indexPath a_classes1 a_dValues a_dSets a_dNames a_values a_sets a_names a_draft a_lengths a_text a_classOfQuestion a_split a_steps a_what a_one a_two a_opened a_openedAt a_stands a_variable a_truth a_rest a_loopAt a_loopFound v_classes v_fields v_begun v_indexes v_made v_slotted v_half v_open v_known v_fresh v_changed v_renamed v_down v_armed v_written v_logged v_marked v_logSize v_drafted v_questions v_now v_at v_bad v_opens v_deep v_aimed v_truths v_loops v_valued v_value v_set v_latest v_fits v_total v_looked v_hits) o) (by decide) rfl (Nat.le_of_ble_eq_true rfl) ?_
  intro p e s m below meth c A ls H locs hx hb hr hml hts hown hlk hnm hZ hP hK hD hA hS hl
  have hret : ∀ (o' : Int32) (H : Heap) (locs : List Loc) (pc : Nat) (ls : Array Slot), some o' = some o → va_P D vwCl (cw_M_hit G a_t a_hits a_parent a_owner a_sort a_aim a_indexClass a_indexPath a_classes1 a_dValues a_dSets a_dNames a_values a_sets a_names a_draft a_lengths a_text a_classOfQuestion a_split a_steps a_what a_one a_two a_opened a_openedAt a_stands a_variable a_truth a_rest a_loopAt a_loopFound v_classes v_fields v_begun v_indexes v_made v_slotted v_half v_open v_known v_fresh v_changed v_renamed v_down v_armed v_written v_logged v_marked v_logSize v_drafted v_questions v_now v_at v_bad v_opens v_deep v_aimed v_truths v_loops v_valued v_value v_set v_latest v_fits v_total v_looked v_hits) H → va_D A (cw_M_hit G a_t a_hits a_parent a_owner a_sort a_aim a_indexClass a_indexPath a_classes1 a_dValues a_dSets a_dNames a_values a_sets a_names a_draft a_lengths a_text a_classOfQuestion a_split a_steps a_what a_one a_two a_opened a_openedAt a_stands a_variable a_truth a_rest a_loopAt a_loopFound v_classes v_fields v_begun v_indexes v_made v_slotted v_half v_open v_known v_fresh v_changed v_renamed v_down v_armed v_written v_logged v_marked v_logSize v_drafted v_questions v_now v_at v_bad v_opens v_deep v_aimed v_truths v_loops v_valued v_value v_set v_latest v_fits v_total v_looked v_hits) → va_S A s.heap H locs → narrow .int (.int o') = .int o' → decode bc_M_hit pc = .ok (.ireturn, 1) → W p l e { frames := 0, cells := 0, slots := 0, locals := 0 } s m ([.ref a_t, .int p1] : List Value).toArray below meth c H locs 0 0 (MQ below (ObQi D (obT G) (cw_M_hit G a_t a_hits a_parent a_owner a_sort a_aim a_indexClass a_indexPath a_classes1 a_dValues a_dSets a_dNames a_values a_sets a_names a_draft a_lengths a_text a_classOfQuestion a_split a_steps a_what a_one a_two a_opened a_openedAt a_stands a_variable a_truth a_rest a_loopAt a_loopFound v_classes v_fields v_begun v_indexes v_made v_slotted v_half v_open v_known v_fresh v_changed v_renamed v_down v_armed v_written v_logged v_marked v_logSize v_drafted v_questions v_now v_at v_bad v_opens v_deep v_aimed v_truths v_loops v_valued v_value v_set v_latest v_fits v_total v_looked v_hits) o A) ([.ref a_t, .int p1] : List Value).toArray s 0 0 A) (F0 m pc ls [.int o']) := by
    intro o' H locs pc ls he hP hD hS hn hd
    obtain rfl := Option.some.inj he
    exact ob_iret hx hb hr hlk hK hP hD hS hn hd
  generalize MQ below (ObQi D (obT G) (cw_M_hit G a_t a_hits a_parent a_owner a_sort a_aim a_indexClass a_indexPath a_classes1 a_dValues a_dSets a_dNames a_values a_sets a_names a_draft a_lengths a_text a_classOfQuestion a_split a_steps a_what a_one a_two a_opened a_openedAt a_stands a_variable a_truth a_rest a_loopAt a_loopFound v_classes v_fields v_begun v_indexes v_made v_slotted v_half v_open v_known v_fresh v_changed v_renamed v_down v_armed v_written v_logged v_marked v_logSize v_drafted v_questions v_now v_at v_bad v_opens v_deep v_aimed v_truths v_loops v_valued v_value v_set v_latest v_fits v_total v_looked v_hits) o A) ([.ref a_t, .int p1] : List Value).toArray s 0 0 A = Q at hret ⊢
  have hl : lv_has ls 2 [(0, .ref a_t), (1, .int p1)] := hl
  unfold f_M_hit at hf
  refine lv_aload_n hx hb d_M_hit_0 rfl (lv_at hl 0 rfl) ?_
  refine va_get (D := D) (ci := 11) (v := .int v_down) (C := "ObjectBaseModel") (T := TC_M) (N := 66) hx hb hts inC_M hown hK hP 0 rfl rfl 25 (by decide) (hts _ tw812) (fun _ h9 => h9) rfl d_M_hit_1 ?_
  refine lv_if_eq (tgt := 10) hx hb d_M_hit_4 (by decide) (fun hc4 => ?_) (fun hc4 => ?_)
  · have hf := ob_t hc4 hf
    refine lv_aload_n hx hb d_M_hit_10 rfl (lv_at hl 0 rfl) ?_
    refine va_get (D := D) (ci := 11) (v := .int v_latest) (C := "ObjectBaseModel") (T := TC_M) (N := 66) hx hb hts inC_M hown hK hP 0 rfl rfl 61 (by decide) (hts _ tw848) (fun _ h9 => h9) rfl d_M_hit_11 ?_
    refine lv_bipush (v := 42) hx hb d_M_hit_14 (by decide) ?_
    refine lv_icmp_ne (tgt := 40) hx hb d_M_hit_16 (by decide) (fun hc16 => ?_) (fun hc16 => ?_)
    · have hf := ob_f hc16 hf
      refine lv_iconst (v := (-1)) hx hb d_M_hit_40 (by decide) ?_
      exact hret (-1) H locs _ ls hf hP hD hS rfl d_M_hit_41
    · have hf := ob_t hc16 hf
      refine lv_iload_n hx hb d_M_hit_19 rfl (lv_at hl 1 rfl) ?_
      refine lv_if_lt (tgt := 40) hx hb d_M_hit_20 (by decide) (fun hc20 => ?_) (fun hc20 => ?_)
      · have hf := ob_t hc20 hf
        refine lv_iconst (v := (-1)) hx hb d_M_hit_40 (by decide) ?_
        exact hret (-1) H locs _ ls hf hP hD hS rfl d_M_hit_41
      · have hf := ob_f hc20 hf
        refine lv_iload_n hx hb d_M_hit_23 rfl (lv_at hl 1 rfl) ?_
        refine lv_aload_n hx hb d_M_hit_24 rfl (lv_at hl 0 rfl) ?_
        refine va_get (D := D) (ci := 11) (v := .int v_fits) (C := "ObjectBaseModel") (T := TC_M) (N := 66) hx hb hts inC_M hown hK hP 0 rfl rfl 62 (by decide) (hts _ tw849) (fun _ h9 => h9) rfl d_M_hit_25 ?_
        refine lv_icmp_ge (tgt := 40) hx hb d_M_hit_28 (by decide) (fun hc28 => ?_) (fun hc28 => ?_)
        · have hf := ob_t hc28 hf
          refine lv_iconst (v := (-1)) hx hb d_M_hit_40 (by decide) ?_
          exact hret (-1) H locs _ ls hf hP hD hS rfl d_M_hit_41
        · have hf := ob_f hc28 hf
          refine lv_aload_n hx hb d_M_hit_31 rfl (lv_at hl 0 rfl) ?_
          refine va_get (D := D) (ci := 11) (v := .ref a_hits) (C := "ObjectBaseModel") (T := TC_M) (N := 66) hx hb hts inC_M hown hK hP 0 rfl rfl 63 (by decide) (hts _ tw850) (fun _ h9 => h9) rfl d_M_hit_32 ?_
          refine lv_iload_n hx hb d_M_hit_35 rfl (lv_at hl 1 rfl) ?_
          obtain ⟨hg36, hf⟩ := ob_iv_g hf
          refine va_iald hx hb hK hP 1 0 rfl rfl hg36 d_M_hit_36 ?_
          refine lv_goto (tgt := 41) hx hb d_M_hit_37 (by decide) ?_
          exact hret (v_hits p1.toNatClampNeg) H locs _ ls hf hP hD hS rfl d_M_hit_41
  · have hf := ob_f hc4 hf
    refine lv_bipush (v := (-4)) hx hb d_M_hit_7 (by decide) ?_
    exact hret (-4) H locs _ ls hf hP hD hS rfl d_M_hit_9
abbrev bc_M_look : ByteArray := prog_13_method_70_code
abbrev y_M_look : MethodName := ⟨"ObjectBaseModel", "look", "(I)I"⟩
def ws_M_look : List Cond := .code y_M_look bc_M_look 2 (some .int) :: obW
theorem d_M_look_0 : decode bc_M_look 0 = .ok (.aload_n 0, 1) := by decide +kernel
theorem d_M_look_1 : decode bc_M_look 1 = .ok (.getfield 112, 3) := by decide +kernel
theorem d_M_look_4 : decode bc_M_look 4 = .ok (.ifCond .eq 15, 3) := by decide +kernel
theorem d_M_look_7 : decode bc_M_look 7 = .ok (.iload_n 1, 1) := by decide +kernel
theorem d_M_look_8 : decode bc_M_look 8 = .ok (.ifCond .lt 11, 3) := by decide +kernel
theorem d_M_look_11 : decode bc_M_look 11 = .ok (.iload_n 1, 1) := by decide +kernel
theorem d_M_look_12 : decode bc_M_look 12 = .ok (.iconst 3, 1) := by decide +kernel
theorem d_M_look_13 : decode bc_M_look 13 = .ok (.if_icmp .gt 6, 3) := by decide +kernel
theorem d_M_look_16 : decode bc_M_look 16 = .ok (.bipush (-4), 2) := by decide +kernel
theorem d_M_look_18 : decode bc_M_look 18 = .ok (.ireturn, 1) := by decide +kernel
theorem d_M_look_19 : decode bc_M_look 19 = .ok (.iload_n 1, 1) := by decide +kernel
theorem d_M_look_20 : decode bc_M_look 20 = .ok (.tableswitch 120 0 8 #[52, 60, 69, 74, 79, 84, 89, 102, 115], 52) := by decide +kernel
theorem d_M_look_72 : decode bc_M_look 72 = .ok (.aload_n 0, 1) := by decide +kernel
theorem d_M_look_73 : decode bc_M_look 73 = .ok (.getfield 155, 3) := by decide +kernel
theorem d_M_look_76 : decode bc_M_look 76 = .ok (.invokestatic 210, 3) := by decide +kernel
theorem d_M_look_79 : decode bc_M_look 79 = .ok (.ireturn, 1) := by decide +kernel
theorem d_M_look_80 : decode bc_M_look 80 = .ok (.aload_n 0, 1) := by decide +kernel
theorem d_M_look_81 : decode bc_M_look 81 = .ok (.iconst 1, 1) := by decide +kernel
theorem d_M_look_82 : decode bc_M_look 82 = .ok (.invokevirtual 168, 3) := by decide +kernel
theorem d_M_look_85 : decode bc_M_look 85 = .ok (.invokestatic 210, 3) := by decide +kernel
theorem d_M_look_88 : decode bc_M_look 88 = .ok (.ireturn, 1) := by decide +kernel
theorem d_M_look_89 : decode bc_M_look 89 = .ok (.aload_n 0, 1) := by decide +kernel
theorem d_M_look_90 : decode bc_M_look 90 = .ok (.getfield 144, 3) := by decide +kernel
theorem d_M_look_93 : decode bc_M_look 93 = .ok (.ireturn, 1) := by decide +kernel
theorem d_M_look_94 : decode bc_M_look 94 = .ok (.aload_n 0, 1) := by decide +kernel
theorem d_M_look_95 : decode bc_M_look 95 = .ok (.getfield 224, 3) := by decide +kernel
theorem d_M_look_98 : decode bc_M_look 98 = .ok (.ireturn, 1) := by decide +kernel
theorem d_M_look_99 : decode bc_M_look 99 = .ok (.aload_n 0, 1) := by decide +kernel
theorem d_M_look_100 : decode bc_M_look 100 = .ok (.getfield 192, 3) := by decide +kernel
theorem d_M_look_103 : decode bc_M_look 103 = .ok (.ireturn, 1) := by decide +kernel
theorem d_M_look_104 : decode bc_M_look 104 = .ok (.aload_n 0, 1) := by decide +kernel
theorem d_M_look_105 : decode bc_M_look 105 = .ok (.getfield 50, 3) := by decide +kernel
theorem d_M_look_108 : decode bc_M_look 108 = .ok (.ireturn, 1) := by decide +kernel
theorem d_M_look_109 : decode bc_M_look 109 = .ok (.aload_n 0, 1) := by decide +kernel
theorem d_M_look_110 : decode bc_M_look 110 = .ok (.getfield 112, 3) := by decide +kernel
theorem d_M_look_113 : decode bc_M_look 113 = .ok (.ifCond .eq 7, 3) := by decide +kernel
theorem d_M_look_116 : decode bc_M_look 116 = .ok (.iconst 1, 1) := by decide +kernel
theorem d_M_look_117 : decode bc_M_look 117 = .ok (.goto 4, 3) := by decide +kernel
theorem d_M_look_120 : decode bc_M_look 120 = .ok (.iconst 0, 1) := by decide +kernel
theorem d_M_look_121 : decode bc_M_look 121 = .ok (.ireturn, 1) := by decide +kernel
theorem d_M_look_122 : decode bc_M_look 122 = .ok (.aload_n 0, 1) := by decide +kernel
theorem d_M_look_123 : decode bc_M_look 123 = .ok (.getfield 130, 3) := by decide +kernel
theorem d_M_look_126 : decode bc_M_look 126 = .ok (.ifCond .eq 7, 3) := by decide +kernel
theorem d_M_look_129 : decode bc_M_look 129 = .ok (.iconst 1, 1) := by decide +kernel
theorem d_M_look_130 : decode bc_M_look 130 = .ok (.goto 4, 3) := by decide +kernel
theorem d_M_look_133 : decode bc_M_look 133 = .ok (.iconst 0, 1) := by decide +kernel
theorem d_M_look_134 : decode bc_M_look 134 = .ok (.ireturn, 1) := by decide +kernel
theorem d_M_look_135 : decode bc_M_look 135 = .ok (.aload_n 0, 1) := by decide +kernel
theorem d_M_look_136 : decode bc_M_look 136 = .ok (.getfield 204, 3) := by decide +kernel
theorem d_M_look_139 : decode bc_M_look 139 = .ok (.ireturn, 1) := by decide +kernel
theorem d_M_look_140 : decode bc_M_look 140 = .ok (.iconst (-1), 1) := by decide +kernel
theorem d_M_look_141 : decode bc_M_look 141 = .ok (.ireturn, 1) := by decide +kernel
def cw_M_look (G : Nat → ClassId) (a_t a_classes1 a_owner a_parent a_sort a_sets a_dSets a_values a_dValues a_names a_dNames a_aim a_indexClass a_indexPath a_draft a_lengths a_text a_classOfQuestion a_split a_steps a_what a_one a_two a_opened a_openedAt a_stands a_variable a_truth a_rest a_loopAt a_loopFound a_hits : Nat) (v_classes : Int32) (v_fields : Int32) (v_begun : Int32) (v_indexes : Int32) (v_made : Int32) (v_slotted : Int64) (v_half : Int32) (v_open : Int32) (v_known : Int64) (v_fresh : Int64) (v_changed : Int64) (v_renamed : Int32) (v_down : Int32) (v_armed : Int32) (v_written : Int32) (v_logged : Int32) (v_marked : Int32) (v_logSize : Int32) (v_drafted : Int32) (v_questions : Int32) (v_now : Int32) (v_at : Int32) (v_bad : Int32) (v_opens : Int32) (v_deep : Int32) (v_aimed : Int32) (v_truths : Int32) (v_loops : Int32) (v_valued : Int32) (v_value : Int32) (v_set : Int64) (v_latest : Int32) (v_fits : Int32) (v_total : Int64) (v_looked : Int32) (v_classes1 : Nat → Int32) (v_owner : Nat → Int32) (v_parent : Nat → Int32) (v_sort : Nat → Int32) (v_sets : Nat → Int64) (v_dSets : Nat → Int64) (v_values : Nat → Int32) (v_dValues : Nat → Int32) (v_names : Nat → Int32) (v_dNames : Nat → Int32) : va_W := [(a_t, .inr (11, [.int v_classes, .ref a_parent, .int v_fields, .ref a_owner, .ref a_sort, .ref a_aim, .int v_begun, .int v_indexes, .ref a_indexClass, .ref a_indexPath, .int v_made, .ref a_classes1, .ref a_dValues, .ref a_dSets, .ref a_dNames, .ref a_values, .ref a_sets, .ref a_names, .long v_slotted, .int v_half, .int v_open, .long v_known, .long v_fresh, .long v_changed, .int v_renamed, .int v_down, .int v_armed, .int v_written, .int v_logged, .int v_marked, .int v_logSize, .int v_drafted, .ref a_draft, .int v_questions, .ref a_lengths, .ref a_text, .ref a_classOfQuestion, .ref a_split, .ref a_steps, .ref a_what, .ref a_one, .ref a_two, .int v_now, .int v_at, .int v_bad, .int v_opens, .ref a_opened, .ref a_openedAt, .int v_deep, .int v_aimed, .ref a_stands, .ref a_variable, .int v_truths, .ref a_truth, .int v_loops, .ref a_rest, .ref a_loopAt, .ref a_loopFound, .int v_valued, .int v_value, .long v_set, .int v_latest, .int v_fits, .ref a_hits, .long v_total, .int v_looked])), (a_classes1, .inl (G 0, 63, .inl v_classes1)), (a_owner, .inl (G 0, 8, .inl v_owner)), (a_parent, .inl (G 0, 6, .inl v_parent)), (a_sort, .inl (G 0, 8, .inl v_sort)), (a_sets, .inl (G 1, 504, .inr (.inl v_sets))), (a_dSets, .inl (G 1, 504, .inr (.inl v_dSets))), (a_values, .inl (G 0, 504, .inl v_values)), (a_dValues, .inl (G 0, 504, .inl v_dValues)), (a_names, .inl (G 0, 4, .inl v_names)), (a_dNames, .inl (G 0, 4, .inl v_dNames))]
def f_M_look_J19 (p1 : Int32) (v_slotted : Int64) (v_fields : Int32) (v_made : Int32) (v_classes1 : Nat → Int32) (v_owner : Nat → Int32) (v_parent : Nat → Int32) (v_sort : Nat → Int32) (v_sets : Nat → Int64) (v_dSets : Nat → Int64) (v_values : Nat → Int32) (v_dValues : Nat → Int32) (v_names : Nat → Int32) (v_dNames : Nat → Int32) (v_half : Int32) (v_written : Int32) (v_armed : Int32) (v_down : Int32) (v_open : Int32) (v_looked : Int32) : Option (Int32) := if p1 = 0 then ((f_M_count v_slotted).bind fun o76 => (some o76)) else (if p1 = 1 then ((f_M_reachedFrom v_fields v_made v_classes1 v_owner v_parent v_sort v_sets v_dSets v_values v_dValues v_names v_dNames 1).bind fun o82 => ((f_M_count o82).bind fun o85 => (some o85))) else (if p1 = 2 then (some v_made) else (if p1 = 3 then (some v_half) else (if p1 = 4 then (some v_written) else (if p1 = 5 then (some v_armed) else (if p1 = 6 then (if v_down = 0 then (some 0) else (some 1)) else (if p1 = 7 then (if v_open = 0 then (some 0) else (some 1)) else (if p1 = 8 then (some v_looked) else (some (-1))))))))))
def f_M_look (v_fields : Int32) (v_made : Int32) (v_slotted : Int64) (v_half : Int32) (v_open : Int32) (v_down : Int32) (v_armed : Int32) (v_written : Int32) (v_looked : Int32) (v_classes1 : Nat → Int32) (v_owner : Nat → Int32) (v_parent : Nat → Int32) (v_sort : Nat → Int32) (v_sets : Nat → Int64) (v_dSets : Nat → Int64) (v_values : Nat → Int32) (v_dValues : Nat → Int32) (v_names : Nat → Int32) (v_dNames : Nat → Int32) (p1 : Int32) : Option (Int32) := if v_down = 0 then (f_M_look_J19 p1 v_slotted v_fields v_made v_classes1 v_owner v_parent v_sort v_sets v_dSets v_values v_dValues v_names v_dNames v_half v_written v_armed v_down v_open v_looked) else (if p1 < 0 then (f_M_look_J19 p1 v_slotted v_fields v_made v_classes1 v_owner v_parent v_sort v_sets v_dSets v_values v_dValues v_names v_dNames v_half v_written v_armed v_down v_open v_looked) else (if 3 < p1 then (f_M_look_J19 p1 v_slotted v_fields v_made v_classes1 v_owner v_parent v_sort v_sets v_dSets v_values v_dValues v_names v_dNames v_half v_written v_armed v_down v_open v_looked) else (some (-4))))
set_option maxHeartbeats 4000000 in
set_option maxRecDepth 100000 in
theorem c_M_look (l : Launch) (D : va_G) (G : Nat → ClassId) (a_t a_classes1 a_owner a_parent a_sort a_sets a_dSets a_values a_dValues a_names a_dNames a_aim a_indexClass a_indexPath a_draft a_lengths a_text a_classOfQuestion a_split a_steps a_what a_one a_two a_opened a_openedAt a_stands a_variable a_truth a_rest a_loopAt a_loopFound a_hits : Nat) (v_classes : Int32) (v_fields : Int32) (v_begun : Int32) (v_indexes : Int32) (v_made : Int32) (v_slotted : Int64) (v_half : Int32) (v_open : Int32) (v_known : Int64) (v_fresh : Int64) (v_changed : Int64) (v_renamed : Int32) (v_down : Int32) (v_armed : Int32) (v_written : Int32) (v_logged : Int32) (v_marked : Int32) (v_logSize : Int32) (v_drafted : Int32) (v_questions : Int32) (v_now : Int32) (v_at : Int32) (v_bad : Int32) (v_opens : Int32) (v_deep : Int32) (v_aimed : Int32) (v_truths : Int32) (v_loops : Int32) (v_valued : Int32) (v_value : Int32) (v_set : Int64) (v_latest : Int32) (v_fits : Int32) (v_total : Int64) (v_looked : Int32) (v_classes1 : Nat → Int32) (v_owner : Nat → Int32) (v_parent : Nat → Int32) (v_sort : Nat → Int32) (v_sets : Nat → Int64) (v_dSets : Nat → Int64) (v_values : Nat → Int32) (v_dValues : Nat → Int32) (v_names : Nat → Int32) (v_dNames : Nat → Int32) (p1 : Int32) (o : Int32) (hf : f_M_look v_fields v_made v_slotted v_half v_open v_down v_armed v_written v_looked v_classes1 v_owner v_parent v_sort v_sets v_dSets v_values v_dValues v_names v_dNames p1 = some o) (sz : Nat) : MetI l y_M_look ws_M_look ({ frames := 4, cells := 0, slots := 0, locals := 100 }) D (obT G) (cw_M_look G a_t a_classes1 a_owner a_parent a_sort a_sets a_dSets a_values a_dValues a_names a_dNames a_aim a_indexClass a_indexPath a_draft a_lengths a_text a_classOfQuestion a_split a_steps a_what a_one a_two a_opened a_openedAt a_stands a_variable a_truth a_rest a_loopAt a_loopFound a_hits v_classes v_fields v_begun v_indexes v_made v_slotted v_half v_open v_known v_fresh v_changed v_renamed v_down v_armed v_written v_logged v_marked v_logSize v_drafted v_questions v_now v_at v_bad v_opens v_deep v_aimed v_truths v_loops v_valued v_value v_set v_latest v_fits v_total v_looked v_classes1 v_owner v_parent v_sort v_sets v_dSets v_values v_dValues v_names v_dNames) (cw_M_look G a_t a_classes1 a_owner a_parent a_sort a_sets a_dSets a_values a_dValues a_names a_dNames a_aim a_indexClass a_indexPath a_draft a_lengths a_text a_classOfQuestion a_split a_steps a_what a_one a_two a_opened a_openedAt a_stands a_variable a_truth a_rest a_loopAt a_loopFound a_hits v_classes v_fields v_begun v_indexes v_made v_slotted v_half v_open v_known v_fresh v_changed v_renamed v_down v_armed v_written v_logged v_marked v_logSize v_drafted v_questions v_now v_at v_bad v_opens v_deep v_aimed v_truths v_loops v_valued v_value v_set v_latest v_fits v_total v_looked v_classes1 v_owner v_parent v_sort v_sets v_dSets v_values v_dValues v_names v_dNames) [.ref a_t, .int p1] o sz := by
  refine ob_of (cc := bc_M_look) (maxL := 2) (ret := (some .int)) (Qc := ObQi D (obT G) (cw_M_look G a_t a_classes1 a_owner a_parent a_sort a_sets a_dSets a_values a_dValues a_names a_dNames a_aim a_indexClass a_indexPath a_draft a_lengths a_text a_classOfQuestion a_split a_steps a_what a_one a_two a_opened a_openedAt a_stands a_variable a_truth a_rest a_loopAt a_loopFound a_hits v_classes v_fields v_begun v_indexes v_made v_slotted v_half v_open v_known v_fresh v_changed v_renamed v_down v_armed v_written v_logged v_marked v_logSize v_drafted v_questions v_now v_at v_bad v_opens v_deep v_aimed v_truths v_loops v_valued v_value v_set v_latest v_fits v_total v_looked v_classes1 v_owner v_parent v_sort v_sets v_dSets v_values v_dValues v_names v_dNames) o) (by decide) rfl (Nat.le_of_ble_eq_true rfl) ?_
  intro p e s m below meth c A ls H locs hx hb hr hml hts hown hlk hnm hZ hP hK hD hA hS hl
  have hret : ∀ (o' : Int32) (H : Heap) (locs : List Loc) (pc : Nat) (ls : Array Slot), some o' = some o → va_P D vwCl (cw_M_look G a_t a_classes1 a_owner a_parent a_sort a_sets a_dSets a_values a_dValues a_names a_dNames a_aim a_indexClass a_indexPath a_draft a_lengths a_text a_classOfQuestion a_split a_steps a_what a_one a_two a_opened a_openedAt a_stands a_variable a_truth a_rest a_loopAt a_loopFound a_hits v_classes v_fields v_begun v_indexes v_made v_slotted v_half v_open v_known v_fresh v_changed v_renamed v_down v_armed v_written v_logged v_marked v_logSize v_drafted v_questions v_now v_at v_bad v_opens v_deep v_aimed v_truths v_loops v_valued v_value v_set v_latest v_fits v_total v_looked v_classes1 v_owner v_parent v_sort v_sets v_dSets v_values v_dValues v_names v_dNames) H → va_D A (cw_M_look G a_t a_classes1 a_owner a_parent a_sort a_sets a_dSets a_values a_dValues a_names a_dNames a_aim a_indexClass a_indexPath a_draft a_lengths a_text a_classOfQuestion a_split a_steps a_what a_one a_two a_opened a_openedAt a_stands a_variable a_truth a_rest a_loopAt a_loopFound a_hits v_classes v_fields v_begun v_indexes v_made v_slotted v_half v_open v_known v_fresh v_changed v_renamed v_down v_armed v_written v_logged v_marked v_logSize v_drafted v_questions v_now v_at v_bad v_opens v_deep v_aimed v_truths v_loops v_valued v_value v_set v_latest v_fits v_total v_looked v_classes1 v_owner v_parent v_sort v_sets v_dSets v_values v_dValues v_names v_dNames) → va_S A s.heap H locs → narrow .int (.int o') = .int o' → decode bc_M_look pc = .ok (.ireturn, 1) → W p l e { frames := 4, cells := 0, slots := 0, locals := 100 } s m ([.ref a_t, .int p1] : List Value).toArray below meth c H locs 0 0 (MQ below (ObQi D (obT G) (cw_M_look G a_t a_classes1 a_owner a_parent a_sort a_sets a_dSets a_values a_dValues a_names a_dNames a_aim a_indexClass a_indexPath a_draft a_lengths a_text a_classOfQuestion a_split a_steps a_what a_one a_two a_opened a_openedAt a_stands a_variable a_truth a_rest a_loopAt a_loopFound a_hits v_classes v_fields v_begun v_indexes v_made v_slotted v_half v_open v_known v_fresh v_changed v_renamed v_down v_armed v_written v_logged v_marked v_logSize v_drafted v_questions v_now v_at v_bad v_opens v_deep v_aimed v_truths v_loops v_valued v_value v_set v_latest v_fits v_total v_looked v_classes1 v_owner v_parent v_sort v_sets v_dSets v_values v_dValues v_names v_dNames) o A) ([.ref a_t, .int p1] : List Value).toArray s 0 0 A) (F0 m pc ls [.int o']) := by
    intro o' H locs pc ls he hP hD hS hn hd
    obtain rfl := Option.some.inj he
    exact ob_iret hx hb hr hlk hK hP hD hS hn hd
  generalize MQ below (ObQi D (obT G) (cw_M_look G a_t a_classes1 a_owner a_parent a_sort a_sets a_dSets a_values a_dValues a_names a_dNames a_aim a_indexClass a_indexPath a_draft a_lengths a_text a_classOfQuestion a_split a_steps a_what a_one a_two a_opened a_openedAt a_stands a_variable a_truth a_rest a_loopAt a_loopFound a_hits v_classes v_fields v_begun v_indexes v_made v_slotted v_half v_open v_known v_fresh v_changed v_renamed v_down v_armed v_written v_logged v_marked v_logSize v_drafted v_questions v_now v_at v_bad v_opens v_deep v_aimed v_truths v_loops v_valued v_value v_set v_latest v_fits v_total v_looked v_classes1 v_owner v_parent v_sort v_sets v_dSets v_values v_dValues v_names v_dNames) o A) ([.ref a_t, .int p1] : List Value).toArray s 0 0 A = Q at hret ⊢
  have hl : lv_has ls 2 [(0, .ref a_t), (1, .int p1)] := hl
  unfold f_M_look at hf
  have blk19 : ∀ (ls : Array Slot) (H : Heap) (locs : List Loc), lv_has ls 2 [(0, .ref a_t), (1, .int p1)] → va_P D vwCl (cw_M_look G a_t a_classes1 a_owner a_parent a_sort a_sets a_dSets a_values a_dValues a_names a_dNames a_aim a_indexClass a_indexPath a_draft a_lengths a_text a_classOfQuestion a_split a_steps a_what a_one a_two a_opened a_openedAt a_stands a_variable a_truth a_rest a_loopAt a_loopFound a_hits v_classes v_fields v_begun v_indexes v_made v_slotted v_half v_open v_known v_fresh v_changed v_renamed v_down v_armed v_written v_logged v_marked v_logSize v_drafted v_questions v_now v_at v_bad v_opens v_deep v_aimed v_truths v_loops v_valued v_value v_set v_latest v_fits v_total v_looked v_classes1 v_owner v_parent v_sort v_sets v_dSets v_values v_dValues v_names v_dNames) H → va_D A (cw_M_look G a_t a_classes1 a_owner a_parent a_sort a_sets a_dSets a_values a_dValues a_names a_dNames a_aim a_indexClass a_indexPath a_draft a_lengths a_text a_classOfQuestion a_split a_steps a_what a_one a_two a_opened a_openedAt a_stands a_variable a_truth a_rest a_loopAt a_loopFound a_hits v_classes v_fields v_begun v_indexes v_made v_slotted v_half v_open v_known v_fresh v_changed v_renamed v_down v_armed v_written v_logged v_marked v_logSize v_drafted v_questions v_now v_at v_bad v_opens v_deep v_aimed v_truths v_loops v_valued v_value v_set v_latest v_fits v_total v_looked v_classes1 v_owner v_parent v_sort v_sets v_dSets v_values v_dValues v_names v_dNames) → va_S A s.heap H locs → f_M_look_J19 p1 v_slotted v_fields v_made v_classes1 v_owner v_parent v_sort v_sets v_dSets v_values v_dValues v_names v_dNames v_half v_written v_armed v_down v_open v_looked = some o → W p l e ({ frames := 4, cells := 0, slots := 0, locals := 100 }) s m ([.ref a_t, .int p1] : List Value).toArray below meth c H locs 0 0 Q (F0 m 19 ls []) := by
    intro ls H locs hl hP hD hS hf
    unfold f_M_look_J19 at hf
    refine lv_iload_n hx hb d_M_look_19 rfl (lv_at hl 1 rfl) ?_
    by_cases hc20_0 : p1 = 0
    · have hf := ob_t hc20_0 hf
      refine lv_tableIn (off := 52) (tgt := 72) hx hb d_M_look_20 (by rw [hc20_0]; decide) (by rw [hc20_0]; decide) (by rw [hc20_0]; rfl) (by decide) ?_
      refine lv_aload_n hx hb d_M_look_72 rfl (lv_at hl 0 rfl) ?_
      refine va_get (D := D) (ci := 11) (v := .long v_slotted) (C := "ObjectBaseModel") (T := TC_M) (N := 66) hx hb hts inC_M hown hK hP 0 rfl rfl 18 (by decide) (hts _ tw805) (fun _ h9 => h9) rfl d_M_look_73 ?_
      obtain ⟨o76, ho76, hf⟩ := ob_b hf
      refine ob_calli (w2 := (cw_M_look G a_t a_classes1 a_owner a_parent a_sort a_sets a_dSets a_values a_dValues a_names a_dNames a_aim a_indexClass a_indexPath a_draft a_lengths a_text a_classOfQuestion a_split a_steps a_what a_one a_two a_opened a_openedAt a_stands a_variable a_truth a_rest a_loopAt a_loopFound a_hits v_classes v_fields v_begun v_indexes v_made v_slotted v_half v_open v_known v_fresh v_changed v_renamed v_down v_armed v_written v_logged v_marked v_logSize v_drafted v_questions v_now v_at v_bad v_opens v_deep v_aimed v_truths v_loops v_valued v_value v_set v_latest v_fits v_total v_looked v_classes1 v_owner v_parent v_sort v_sets v_dSets v_values v_dValues v_names v_dNames)) (va_runS (As := [.long v_slotted]) (rest := []) ⟨hx, hb, hml, hown, hts⟩ (c_M_count l D G  v_slotted o76 ho76 H.size) (va_cwS 1 hts (gS tw1062 tw1063 tw11 tw1064) rfl rfl rfl (by decide +kernel) ⟨Nat.le_of_ble_eq_true rfl, Nat.le_of_ble_eq_true rfl⟩) (ob_preS hZ hK hP hD [] rfl rfl) rfl rfl hl.1 rfl (lv_room (Nat.le_of_ble_eq_true rfl)) d_M_look_76 ⟨Nat.le_refl _, Nat.le_refl _⟩) hP hD hA hS [] rfl rfl rfl rfl (fun H locs hP hD hS => ?_)
      exact hret o76 H locs _ ls hf hP hD hS rfl d_M_look_79
    have hf := ob_f hc20_0 hf
    by_cases hc20_1 : p1 = 1
    · have hf := ob_t hc20_1 hf
      refine lv_tableIn (off := 60) (tgt := 80) hx hb d_M_look_20 (by rw [hc20_1]; decide) (by rw [hc20_1]; decide) (by rw [hc20_1]; rfl) (by decide) ?_
      refine lv_aload_n hx hb d_M_look_80 rfl (lv_at hl 0 rfl) ?_
      refine lv_iconst (v := 1) hx hb d_M_look_81 (by decide) ?_
      obtain ⟨o82, ho82, hf⟩ := ob_b hf
      refine ob_calll (w2 := (cw_M_look G a_t a_classes1 a_owner a_parent a_sort a_sets a_dSets a_values a_dValues a_names a_dNames a_aim a_indexClass a_indexPath a_draft a_lengths a_text a_classOfQuestion a_split a_steps a_what a_one a_two a_opened a_openedAt a_stands a_variable a_truth a_rest a_loopAt a_loopFound a_hits v_classes v_fields v_begun v_indexes v_made v_slotted v_half v_open v_known v_fresh v_changed v_renamed v_down v_armed v_written v_logged v_marked v_logSize v_drafted v_questions v_now v_at v_bad v_opens v_deep v_aimed v_truths v_loops v_valued v_value v_set v_latest v_fits v_total v_looked v_classes1 v_owner v_parent v_sort v_sets v_dSets v_values v_dValues v_names v_dNames)) (va_runV (As := [.int 1]) (rest := []) ⟨hx, hb, hml, hown, hts⟩ (c_M_reachedFrom l D G a_t a_classes1 a_owner a_parent a_sort a_sets a_dSets a_values a_dValues a_names a_dNames a_aim a_indexClass a_indexPath a_draft a_lengths a_text a_classOfQuestion a_split a_steps a_what a_one a_two a_opened a_openedAt a_stands a_variable a_truth a_rest a_loopAt a_loopFound a_hits v_classes v_fields v_begun v_indexes v_made v_slotted v_half v_open v_known v_fresh v_changed v_renamed v_down v_armed v_written v_logged v_marked v_logSize v_drafted v_questions v_now v_at v_bad v_opens v_deep v_aimed v_truths v_loops v_valued v_value v_set v_latest v_fits v_total v_looked v_classes1 v_owner v_parent v_sort v_sets v_dSets v_values v_dValues v_names v_dNames 1 o82 ho82 H.size) (cwV 1 hts (gV tw1015 tw1017 tp31 tw11 tw1018) rfl rfl rfl (by decide +kernel) ⟨Nat.le_of_ble_eq_true rfl, Nat.le_of_ble_eq_true rfl⟩) (ob_preV (q0 := 0) (ci := 11) hZ hK hP hD [0, 1, 2, 3, 4, 5, 6, 7, 8, 9, 10] rfl rfl rfl rfl rfl) rfl rfl hl.1 rfl (lv_room (Nat.le_of_ble_eq_true rfl)) d_M_look_82 ⟨Nat.le_refl _, Nat.le_refl _⟩) hP hD hA hS [0, 1, 2, 3, 4, 5, 6, 7, 8, 9, 10] rfl rfl rfl rfl (fun H locs hP hD hS => ?_)
      obtain ⟨o85, ho85, hf⟩ := ob_b hf
      refine ob_calli (w2 := (cw_M_look G a_t a_classes1 a_owner a_parent a_sort a_sets a_dSets a_values a_dValues a_names a_dNames a_aim a_indexClass a_indexPath a_draft a_lengths a_text a_classOfQuestion a_split a_steps a_what a_one a_two a_opened a_openedAt a_stands a_variable a_truth a_rest a_loopAt a_loopFound a_hits v_classes v_fields v_begun v_indexes v_made v_slotted v_half v_open v_known v_fresh v_changed v_renamed v_down v_armed v_written v_logged v_marked v_logSize v_drafted v_questions v_now v_at v_bad v_opens v_deep v_aimed v_truths v_loops v_valued v_value v_set v_latest v_fits v_total v_looked v_classes1 v_owner v_parent v_sort v_sets v_dSets v_values v_dValues v_names v_dNames)) (va_runS (As := [.long o82]) (rest := []) ⟨hx, hb, hml, hown, hts⟩ (c_M_count l D G  o82 o85 ho85 H.size) (va_cwS 1 hts (gS tw1062 tw1063 tw11 tw1064) rfl rfl rfl (by decide +kernel) ⟨Nat.le_of_ble_eq_true rfl, Nat.le_of_ble_eq_true rfl⟩) (ob_preS hZ hK hP hD [] rfl rfl) rfl rfl hl.1 rfl (lv_room (Nat.le_of_ble_eq_true rfl)) d_M_look_85 ⟨Nat.le_refl _, Nat.le_refl _⟩) hP hD hA hS [] rfl rfl rfl rfl (fun H locs hP hD hS => ?_)
      exact hret o85 H locs _ ls hf hP hD hS rfl d_M_look_88
    have hf := ob_f hc20_1 hf
    by_cases hc20_2 : p1 = 2
    · have hf := ob_t hc20_2 hf
      refine lv_tableIn (off := 69) (tgt := 89) hx hb d_M_look_20 (by rw [hc20_2]; decide) (by rw [hc20_2]; decide) (by rw [hc20_2]; rfl) (by decide) ?_
      refine lv_aload_n hx hb d_M_look_89 rfl (lv_at hl 0 rfl) ?_
      refine va_get (D := D) (ci := 11) (v := .int v_made) (C := "ObjectBaseModel") (T := TC_M) (N := 66) hx hb hts inC_M hown hK hP 0 rfl rfl 10 (by decide) (hts _ tw797) (fun _ h9 => h9) rfl d_M_look_90 ?_
      exact hret v_made H locs _ ls hf hP hD hS rfl d_M_look_93
    have hf := ob_f hc20_2 hf
    by_cases hc20_3 : p1 = 3
    · have hf := ob_t hc20_3 hf
      refine lv_tableIn (off := 74) (tgt := 94) hx hb d_M_look_20 (by rw [hc20_3]; decide) (by rw [hc20_3]; decide) (by rw [hc20_3]; rfl) (by decide) ?_
      refine lv_aload_n hx hb d_M_look_94 rfl (lv_at hl 0 rfl) ?_
      refine va_get (D := D) (ci := 11) (v := .int v_half) (C := "ObjectBaseModel") (T := TC_M) (N := 66) hx hb hts inC_M hown hK hP 0 rfl rfl 19 (by decide) (hts _ tw806) (fun _ h9 => h9) rfl d_M_look_95 ?_
      exact hret v_half H locs _ ls hf hP hD hS rfl d_M_look_98
    have hf := ob_f hc20_3 hf
    by_cases hc20_4 : p1 = 4
    · have hf := ob_t hc20_4 hf
      refine lv_tableIn (off := 79) (tgt := 99) hx hb d_M_look_20 (by rw [hc20_4]; decide) (by rw [hc20_4]; decide) (by rw [hc20_4]; rfl) (by decide) ?_
      refine lv_aload_n hx hb d_M_look_99 rfl (lv_at hl 0 rfl) ?_
      refine va_get (D := D) (ci := 11) (v := .int v_written) (C := "ObjectBaseModel") (T := TC_M) (N := 66) hx hb hts inC_M hown hK hP 0 rfl rfl 27 (by decide) (hts _ tw814) (fun _ h9 => h9) rfl d_M_look_100 ?_
      exact hret v_written H locs _ ls hf hP hD hS rfl d_M_look_103
    have hf := ob_f hc20_4 hf
    by_cases hc20_5 : p1 = 5
    · have hf := ob_t hc20_5 hf
      refine lv_tableIn (off := 84) (tgt := 104) hx hb d_M_look_20 (by rw [hc20_5]; decide) (by rw [hc20_5]; decide) (by rw [hc20_5]; rfl) (by decide) ?_
      refine lv_aload_n hx hb d_M_look_104 rfl (lv_at hl 0 rfl) ?_
      refine va_get (D := D) (ci := 11) (v := .int v_armed) (C := "ObjectBaseModel") (T := TC_M) (N := 66) hx hb hts inC_M hown hK hP 0 rfl rfl 26 (by decide) (hts _ tw813) (fun _ h9 => h9) rfl d_M_look_105 ?_
      exact hret v_armed H locs _ ls hf hP hD hS rfl d_M_look_108
    have hf := ob_f hc20_5 hf
    by_cases hc20_6 : p1 = 6
    · have hf := ob_t hc20_6 hf
      refine lv_tableIn (off := 89) (tgt := 109) hx hb d_M_look_20 (by rw [hc20_6]; decide) (by rw [hc20_6]; decide) (by rw [hc20_6]; rfl) (by decide) ?_
      refine lv_aload_n hx hb d_M_look_109 rfl (lv_at hl 0 rfl) ?_
      refine va_get (D := D) (ci := 11) (v := .int v_down) (C := "ObjectBaseModel") (T := TC_M) (N := 66) hx hb hts inC_M hown hK hP 0 rfl rfl 25 (by decide) (hts _ tw812) (fun _ h9 => h9) rfl d_M_look_110 ?_
      refine lv_if_eq (tgt := 120) hx hb d_M_look_113 (by decide) (fun hc113 => ?_) (fun hc113 => ?_)
      · have hf := ob_t hc113 hf
        refine lv_iconst (v := 0) hx hb d_M_look_120 (by decide) ?_
        exact hret 0 H locs _ ls hf hP hD hS rfl d_M_look_121
      · have hf := ob_f hc113 hf
        refine lv_iconst (v := 1) hx hb d_M_look_116 (by decide) ?_
        refine lv_goto (tgt := 121) hx hb d_M_look_117 (by decide) ?_
        exact hret 1 H locs _ ls hf hP hD hS rfl d_M_look_121
    have hf := ob_f hc20_6 hf
    by_cases hc20_7 : p1 = 7
    · have hf := ob_t hc20_7 hf
      refine lv_tableIn (off := 102) (tgt := 122) hx hb d_M_look_20 (by rw [hc20_7]; decide) (by rw [hc20_7]; decide) (by rw [hc20_7]; rfl) (by decide) ?_
      refine lv_aload_n hx hb d_M_look_122 rfl (lv_at hl 0 rfl) ?_
      refine va_get (D := D) (ci := 11) (v := .int v_open) (C := "ObjectBaseModel") (T := TC_M) (N := 66) hx hb hts inC_M hown hK hP 0 rfl rfl 20 (by decide) (hts _ tw807) (fun _ h9 => h9) rfl d_M_look_123 ?_
      refine lv_if_eq (tgt := 133) hx hb d_M_look_126 (by decide) (fun hc126 => ?_) (fun hc126 => ?_)
      · have hf := ob_t hc126 hf
        refine lv_iconst (v := 0) hx hb d_M_look_133 (by decide) ?_
        exact hret 0 H locs _ ls hf hP hD hS rfl d_M_look_134
      · have hf := ob_f hc126 hf
        refine lv_iconst (v := 1) hx hb d_M_look_129 (by decide) ?_
        refine lv_goto (tgt := 134) hx hb d_M_look_130 (by decide) ?_
        exact hret 1 H locs _ ls hf hP hD hS rfl d_M_look_134
    have hf := ob_f hc20_7 hf
    by_cases hc20_8 : p1 = 8
    · have hf := ob_t hc20_8 hf
      refine lv_tableIn (off := 115) (tgt := 135) hx hb d_M_look_20 (by rw [hc20_8]; decide) (by rw [hc20_8]; decide) (by rw [hc20_8]; rfl) (by decide) ?_
      refine lv_aload_n hx hb d_M_look_135 rfl (lv_at hl 0 rfl) ?_
      refine va_get (D := D) (ci := 11) (v := .int v_looked) (C := "ObjectBaseModel") (T := TC_M) (N := 66) hx hb hts inC_M hown hK hP 0 rfl rfl 65 (by decide) (hts _ tw852) (fun _ h9 => h9) rfl d_M_look_136 ?_
      exact hret v_looked H locs _ ls hf hP hD hS rfl d_M_look_139
    have hf := ob_f hc20_8 hf
    refine lv_tableOut (tgt := 140) hx hb d_M_look_20 (by have hs := And.intro True.intro True.intro; have hs0 := ob_sw hc20_0 (k := 0) (by decide); have hs1 := ob_sw hc20_1 (k := 1) (by decide); have hs2 := ob_sw hc20_2 (k := 2) (by decide); have hs3 := ob_sw hc20_3 (k := 3) (by decide); have hs4 := ob_sw hc20_4 (k := 4) (by decide); have hs5 := ob_sw hc20_5 (k := 5) (by decide); have hs6 := ob_sw hc20_6 (k := 6) (by decide); have hs7 := ob_sw hc20_7 (k := 7) (by decide); have hs8 := ob_sw hc20_8 (k := 8) (by decide); omega) (by decide) ?_
    refine lv_iconst (v := (-1)) hx hb d_M_look_140 (by decide) ?_
    exact hret (-1) H locs _ ls hf hP hD hS rfl d_M_look_141
  refine lv_aload_n hx hb d_M_look_0 rfl (lv_at hl 0 rfl) ?_
  refine va_get (D := D) (ci := 11) (v := .int v_down) (C := "ObjectBaseModel") (T := TC_M) (N := 66) hx hb hts inC_M hown hK hP 0 rfl rfl 25 (by decide) (hts _ tw812) (fun _ h9 => h9) rfl d_M_look_1 ?_
  refine lv_if_eq (tgt := 19) hx hb d_M_look_4 (by decide) (fun hc4 => ?_) (fun hc4 => ?_)
  · have hf := ob_t hc4 hf
    exact blk19 ls H locs (lv_sub hl [0, 1] rfl) hP hD hS hf
  · have hf := ob_f hc4 hf
    refine lv_iload_n hx hb d_M_look_7 rfl (lv_at hl 1 rfl) ?_
    refine lv_if_lt (tgt := 19) hx hb d_M_look_8 (by decide) (fun hc8 => ?_) (fun hc8 => ?_)
    · have hf := ob_t hc8 hf
      exact blk19 ls H locs (lv_sub hl [0, 1] rfl) hP hD hS hf
    · have hf := ob_f hc8 hf
      refine lv_iload_n hx hb d_M_look_11 rfl (lv_at hl 1 rfl) ?_
      refine lv_iconst (v := 3) hx hb d_M_look_12 (by decide) ?_
      refine lv_icmp_gt (tgt := 19) hx hb d_M_look_13 (by decide) (fun hc13 => ?_) (fun hc13 => ?_)
      · have hf := ob_t hc13 hf
        exact blk19 ls H locs (lv_sub hl [0, 1] rfl) hP hD hS hf
      · have hf := ob_f hc13 hf
        refine lv_bipush (v := (-4)) hx hb d_M_look_16 (by decide) ?_
        exact hret (-4) H locs _ ls hf hP hD hS rfl d_M_look_18
