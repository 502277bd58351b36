abbrev bc_M_served : ByteArray := prog_13_method_64_code
abbrev y_M_served : MethodName := ⟨"ObjectBaseModel", "served", "(III)Z"⟩
def ws_M_served : List Cond := .code y_M_served bc_M_served 7 (some .boolean) :: obW
theorem d_M_served_0 : decode bc_M_served 0 = .ok (.aload_n 0, 1) := by decide +kernel
theorem d_M_served_1 : decode bc_M_served 1 = .ok (.getfield 22, 3) := by decide +kernel
theorem d_M_served_4 : decode bc_M_served 4 = .ok (.iload_n 1, 1) := by decide +kernel
theorem d_M_served_5 : decode bc_M_served 5 = .ok (.iaload, 1) := by decide +kernel
theorem d_M_served_6 : decode bc_M_served 6 = .ok (.aload_n 0, 1) := by decide +kernel
theorem d_M_served_7 : decode bc_M_served 7 = .ok (.getfield 63, 3) := by decide +kernel
theorem d_M_served_10 : decode bc_M_served 10 = .ok (.aload_n 0, 1) := by decide +kernel
theorem d_M_served_11 : decode bc_M_served 11 = .ok (.getfield 239, 3) := by decide +kernel
theorem d_M_served_14 : decode bc_M_served 14 = .ok (.iaload, 1) := by decide +kernel
theorem d_M_served_15 : decode bc_M_served 15 = .ok (.if_icmp .ne 25, 3) := by decide +kernel
theorem d_M_served_18 : decode bc_M_served 18 = .ok (.aload_n 0, 1) := by decide +kernel
theorem d_M_served_19 : decode bc_M_served 19 = .ok (.iload_n 2, 1) := by decide +kernel
theorem d_M_served_20 : decode bc_M_served 20 = .ok (.invokevirtual 248, 3) := by decide +kernel
theorem d_M_served_23 : decode bc_M_served 23 = .ok (.bipush 120, 2) := by decide +kernel
theorem d_M_served_25 : decode bc_M_served 25 = .ok (.if_icmp .ne 15, 3) := by decide +kernel
theorem d_M_served_28 : decode bc_M_served 28 = .ok (.aload_n 0, 1) := by decide +kernel
theorem d_M_served_29 : decode bc_M_served 29 = .ok (.iload_n 3, 1) := by decide +kernel
theorem d_M_served_30 : decode bc_M_served 30 = .ok (.iconst 1, 1) := by decide +kernel
theorem d_M_served_31 : decode bc_M_served 31 = .ok (.isub, 1) := by decide +kernel
theorem d_M_served_32 : decode bc_M_served 32 = .ok (.invokevirtual 248, 3) := by decide +kernel
theorem d_M_served_35 : decode bc_M_served 35 = .ok (.bipush 61, 2) := by decide +kernel
theorem d_M_served_37 : decode bc_M_served 37 = .ok (.if_icmp .eq 5, 3) := by decide +kernel
theorem d_M_served_40 : decode bc_M_served 40 = .ok (.iconst 0, 1) := by decide +kernel
theorem d_M_served_41 : decode bc_M_served 41 = .ok (.ireturn, 1) := by decide +kernel
theorem d_M_served_42 : decode bc_M_served 42 = .ok (.iload_n 2, 1) := by decide +kernel
theorem d_M_served_43 : decode bc_M_served 43 = .ok (.iconst 1, 1) := by decide +kernel
theorem d_M_served_44 : decode bc_M_served 44 = .ok (.iadd, 1) := by decide +kernel
theorem d_M_served_45 : decode bc_M_served 45 = .ok (.istore 4, 2) := by decide +kernel
theorem d_M_served_47 : decode bc_M_served 47 = .ok (.iconst 0, 1) := by decide +kernel
theorem d_M_served_48 : decode bc_M_served 48 = .ok (.istore 5, 2) := by decide +kernel
theorem d_M_served_50 : decode bc_M_served 50 = .ok (.iload 5, 2) := by decide +kernel
theorem d_M_served_52 : decode bc_M_served 52 = .ok (.iconst 3, 1) := by decide +kernel
theorem d_M_served_53 : decode bc_M_served 53 = .ok (.if_icmp .ge 71, 3) := by decide +kernel
theorem d_M_served_56 : decode bc_M_served 56 = .ok (.aload_n 0, 1) := by decide +kernel
theorem d_M_served_57 : decode bc_M_served 57 = .ok (.getfield 25, 3) := by decide +kernel
theorem d_M_served_60 : decode bc_M_served 60 = .ok (.iconst 3, 1) := by decide +kernel
theorem d_M_served_61 : decode bc_M_served 61 = .ok (.iload_n 1, 1) := by decide +kernel
theorem d_M_served_62 : decode bc_M_served 62 = .ok (.imul, 1) := by decide +kernel
theorem d_M_served_63 : decode bc_M_served 63 = .ok (.iload 5, 2) := by decide +kernel
theorem d_M_served_65 : decode bc_M_served 65 = .ok (.iadd, 1) := by decide +kernel
theorem d_M_served_66 : decode bc_M_served 66 = .ok (.iaload, 1) := by decide +kernel
theorem d_M_served_67 : decode bc_M_served 67 = .ok (.istore 6, 2) := by decide +kernel
theorem d_M_served_69 : decode bc_M_served 69 = .ok (.iload 6, 2) := by decide +kernel
theorem d_M_served_71 : decode bc_M_served 71 = .ok (.ifCond .lt 32, 3) := by decide +kernel
theorem d_M_served_74 : decode bc_M_served 74 = .ok (.aload_n 0, 1) := by decide +kernel
theorem d_M_served_75 : decode bc_M_served 75 = .ok (.iload 4, 2) := by decide +kernel
theorem d_M_served_77 : decode bc_M_served 77 = .ok (.invokevirtual 248, 3) := by decide +kernel
theorem d_M_served_80 : decode bc_M_served 80 = .ok (.bipush 46, 2) := by decide +kernel
theorem d_M_served_82 : decode bc_M_served 82 = .ok (.if_icmp .ne 19, 3) := by decide +kernel
theorem d_M_served_85 : decode bc_M_served 85 = .ok (.aload_n 0, 1) := by decide +kernel
theorem d_M_served_86 : decode bc_M_served 86 = .ok (.iload 4, 2) := by decide +kernel
theorem d_M_served_88 : decode bc_M_served 88 = .ok (.iconst 1, 1) := by decide +kernel
theorem d_M_served_89 : decode bc_M_served 89 = .ok (.iadd, 1) := by decide +kernel
theorem d_M_served_90 : decode bc_M_served 90 = .ok (.invokevirtual 248, 3) := by decide +kernel
theorem d_M_served_93 : decode bc_M_served 93 = .ok (.bipush 97, 2) := by decide +kernel
theorem d_M_served_95 : decode bc_M_served 95 = .ok (.isub, 1) := by decide +kernel
theorem d_M_served_96 : decode bc_M_served 96 = .ok (.iload 6, 2) := by decide +kernel
theorem d_M_served_98 : decode bc_M_served 98 = .ok (.if_icmp .eq 5, 3) := by decide +kernel
theorem d_M_served_101 : decode bc_M_served 101 = .ok (.iconst 0, 1) := by decide +kernel
theorem d_M_served_102 : decode bc_M_served 102 = .ok (.ireturn, 1) := by decide +kernel
theorem d_M_served_103 : decode bc_M_served 103 = .ok (.iload 4, 2) := by decide +kernel
theorem d_M_served_105 : decode bc_M_served 105 = .ok (.iload 6, 2) := by decide +kernel
theorem d_M_served_107 : decode bc_M_served 107 = .ok (.ifCond .lt 7, 3) := by decide +kernel
theorem d_M_served_110 : decode bc_M_served 110 = .ok (.iconst 2, 1) := by decide +kernel
theorem d_M_served_111 : decode bc_M_served 111 = .ok (.goto 4, 3) := by decide +kernel
theorem d_M_served_114 : decode bc_M_served 114 = .ok (.iconst 0, 1) := by decide +kernel
theorem d_M_served_115 : decode bc_M_served 115 = .ok (.iadd, 1) := by decide +kernel
theorem d_M_served_116 : decode bc_M_served 116 = .ok (.istore 4, 2) := by decide +kernel
theorem d_M_served_118 : decode bc_M_served 118 = .ok (.iinc 5 1, 3) := by decide +kernel
theorem d_M_served_121 : decode bc_M_served 121 = .ok (.goto (-71), 3) := by decide +kernel
theorem d_M_served_124 : decode bc_M_served 124 = .ok (.aload_n 0, 1) := by decide +kernel
theorem d_M_served_125 : decode bc_M_served 125 = .ok (.iload_n 3, 1) := by decide +kernel
theorem d_M_served_126 : decode bc_M_served 126 = .ok (.invokevirtual 248, 3) := by decide +kernel
theorem d_M_served_129 : decode bc_M_served 129 = .ok (.istore 5, 2) := by decide +kernel
theorem d_M_served_131 : decode bc_M_served 131 = .ok (.iload 4, 2) := by decide +kernel
theorem d_M_served_133 : decode bc_M_served 133 = .ok (.iload_n 3, 1) := by decide +kernel
theorem d_M_served_134 : decode bc_M_served 134 = .ok (.iconst 1, 1) := by decide +kernel
theorem d_M_served_135 : decode bc_M_served 135 = .ok (.isub, 1) := by decide +kernel
theorem d_M_served_136 : decode bc_M_served 136 = .ok (.if_icmp .ne 22, 3) := by decide +kernel
theorem d_M_served_139 : decode bc_M_served 139 = .ok (.iload 5, 2) := by decide +kernel
theorem d_M_served_141 : decode bc_M_served 141 = .ok (.bipush 45, 2) := by decide +kernel
theorem d_M_served_143 : decode bc_M_served 143 = .ok (.if_icmp .eq 11, 3) := by decide +kernel
theorem d_M_served_146 : decode bc_M_served 146 = .ok (.iload 5, 2) := by decide +kernel
theorem d_M_served_148 : decode bc_M_served 148 = .ok (.invokestatic 252, 3) := by decide +kernel
theorem d_M_served_151 : decode bc_M_served 151 = .ok (.ifCond .eq 7, 3) := by decide +kernel
theorem d_M_served_154 : decode bc_M_served 154 = .ok (.iconst 1, 1) := by decide +kernel
theorem d_M_served_155 : decode bc_M_served 155 = .ok (.goto 4, 3) := by decide +kernel
theorem d_M_served_158 : decode bc_M_served 158 = .ok (.iconst 0, 1) := by decide +kernel
theorem d_M_served_159 : decode bc_M_served 159 = .ok (.ireturn, 1) := by decide +kernel
def cw_M_served (G : Nat → ClassId) (a_t a_indexClass a_classOfQuestion a_lengths a_text a_indexPath a_parent a_owner a_sort a_aim a_classes1 a_dValues a_dSets a_dNames a_values a_sets a_names a_draft a_split a_steps a_what a_one a_two a_opened a_openedAt a_stands a_variable a_truth a_rest a_loopAt a_loopFound a_hits : Nat) (v_classes : Int32) (v_fields : Int32) (v_begun : Int32) (v_indexes : Int32) (v_made : Int32) (v_slotted : Int64) (v_half : Int32) (v_open : Int32) (v_known : Int64) (v_fresh : Int64) (v_changed : Int64) (v_renamed : Int32) (v_down : Int32) (v_armed : Int32) (v_written : Int32) (v_logged : Int32) (v_marked : Int32) (v_logSize : Int32) (v_drafted : Int32) (v_questions : Int32) (v_now : Int32) (v_at : Int32) (v_bad : Int32) (v_opens : Int32) (v_deep : Int32) (v_aimed : Int32) (v_truths : Int32) (v_loops : Int32) (v_valued : Int32) (v_value : Int32) (v_set : Int64) (v_latest : Int32) (v_fits : Int32) (v_total : Int64) (v_looked : Int32) (v_indexClass : Nat → Int32) (v_classOfQuestion : Nat → Int32) (v_lengths : Nat → Int32) (v_text : Nat → Int32) (v_indexPath : Nat → Int32) : va_W := [(a_t, .inr (11, [.int v_classes, .ref a_parent, .int v_fields, .ref a_owner, .ref a_sort, .ref a_aim, .int v_begun, .int v_indexes, .ref a_indexClass, .ref a_indexPath, .int v_made, .ref a_classes1, .ref a_dValues, .ref a_dSets, .ref a_dNames, .ref a_values, .ref a_sets, .ref a_names, .long v_slotted, .int v_half, .int v_open, .long v_known, .long v_fresh, .long v_changed, .int v_renamed, .int v_down, .int v_armed, .int v_written, .int v_logged, .int v_marked, .int v_logSize, .int v_drafted, .ref a_draft, .int v_questions, .ref a_lengths, .ref a_text, .ref a_classOfQuestion, .ref a_split, .ref a_steps, .ref a_what, .ref a_one, .ref a_two, .int v_now, .int v_at, .int v_bad, .int v_opens, .ref a_opened, .ref a_openedAt, .int v_deep, .int v_aimed, .ref a_stands, .ref a_variable, .int v_truths, .ref a_truth, .int v_loops, .ref a_rest, .ref a_loopAt, .ref a_loopFound, .int v_valued, .int v_value, .long v_set, .int v_latest, .int v_fits, .ref a_hits, .long v_total, .int v_looked])), (a_indexClass, .inl (G 0, 3, .inl v_indexClass)), (a_classOfQuestion, .inl (G 0, 13, .inl v_classOfQuestion)), (a_lengths, .inl (G 0, 13, .inl v_lengths)), (a_text, .inl (G 0, 832, .inl v_text)), (a_indexPath, .inl (G 0, 9, .inl v_indexPath))]
def f_M_served_J103 (k50 : Int32 → Int32 → Option (Int32)) (x103_4 : Int32) (x103_5 : Int32) (x103_6 : Int32) : Option (Int32) := if x103_6 < 0 then (k50 (x103_4 + 0) (x103_5 + 1)) else (k50 (x103_4 + 2) (x103_5 + 1))
def f_M_served_B50 (v_now : Int32) (v_lengths : Nat → Int32) (v_text : Nat → Int32) (p3 : Int32) (p1 : Int32) (v_indexPath : Nat → Int32) (k50 : Int32 → Int32 → Option (Int32)) (x50_4 : Int32) (x50_5 : Int32) : Option (Int32) := if 3 ≤ x50_5 then ((f_M_charAt v_now v_lengths v_text p3).bind fun o126 => (if x50_4 = (p3 - 1) then (if o126 = 45 then (some 1) else ((f_M_digit o126).bind fun o148 => (if o148 = 0 then (some 0) else (some 1)))) else (some 0))) else (ob_iv ((3 * p1) + x50_5) 9 (if (v_indexPath ((3 * p1) + x50_5).toNatClampNeg) < 0 then (f_M_served_J103 k50 x50_4 x50_5 (v_indexPath ((3 * p1) + x50_5).toNatClampNeg)) else ((f_M_charAt v_now v_lengths v_text x50_4).bind fun o77 => (if o77 = 46 then ((f_M_charAt v_now v_lengths v_text (x50_4 + 1)).bind fun o90 => (if (o90 - 97) = (v_indexPath ((3 * p1) + x50_5).toNatClampNeg) then (f_M_served_J103 k50 x50_4 x50_5 (v_indexPath ((3 * p1) + x50_5).toNatClampNeg)) else (some 0))) else (some 0)))))
def f_M_served_L50 (v_now : Int32) (v_lengths : Nat → Int32) (v_text : Nat → Int32) (p3 : Int32) (p1 : Int32) (v_indexPath : Nat → Int32) : Nat → Int32 → Int32 → Option (Int32) := ob_lp2 (f_M_served_B50 v_now v_lengths v_text p3 p1 v_indexPath)
def f_M_served (v_now : Int32) (v_indexClass : Nat → Int32) (v_classOfQuestion : Nat → Int32) (v_lengths : Nat → Int32) (v_text : Nat → Int32) (v_indexPath : Nat → Int32) (p1 : Int32) (p2 : Int32) (p3 : Int32) : Option (Int32) := ob_iv p1 3 (ob_iv v_now 13 (if (v_indexClass p1.toNatClampNeg) = (v_classOfQuestion v_now.toNatClampNeg) then ((f_M_charAt v_now v_lengths v_text p2).bind fun o20 => (if o20 = 120 then ((f_M_charAt v_now v_lengths v_text (p3 - 1)).bind fun o32 => (if o32 = 61 then (f_M_served_L50 v_now v_lengths v_text p3 p1 v_indexPath 1000 (p2 + 1) 0) else (some 0))) else (some 0))) else (some 0)))
set_option maxHeartbeats 4000000 in
set_option maxRecDepth 100000 in
theorem c_M_served (l : Launch) (D : va_G) (G : Nat → ClassId) (a_t a_indexClass a_classOfQuestion a_lengths a_text a_indexPath a_parent a_owner a_sort a_aim a_classes1 a_dValues a_dSets a_dNames a_values a_sets a_names a_draft a_split a_steps a_what a_one a_two a_opened a_openedAt a_stands a_variable a_truth a_rest a_loopAt a_loopFound a_hits : Nat) (v_classes : Int32) (v_fields : Int32) (v_begun : Int32) (v_indexes : Int32) (v_made : Int32) (v_slotted : Int64) (v_half : Int32) (v_open : Int32) (v_known : Int64) (v_fresh : Int64) (v_changed : Int64) (v_renamed : Int32) (v_down : Int32) (v_armed : Int32) (v_written : Int32) (v_logged : Int32) (v_marked : Int32) (v_logSize : Int32) (v_drafted : Int32) (v_questions : Int32) (v_now : Int32) (v_at : Int32) (v_bad : Int32) (v_opens : Int32) (v_deep : Int32) (v_aimed : Int32) (v_truths : Int32) (v_loops : Int32) (v_valued : Int32) (v_value : Int32) (v_set : Int64) (v_latest : Int32) (v_fits : Int32) (v_total : Int64) (v_looked : Int32) (v_indexClass : Nat → Int32) (v_classOfQuestion : Nat → Int32) (v_lengths : Nat → Int32) (v_text : Nat → Int32) (v_indexPath : Nat → Int32) (p1 : Int32) (p2 : Int32) (p3 : Int32) (o : Int32) (hf : f_M_served v_now v_indexClass v_classOfQuestion v_lengths v_text v_indexPath p1 p2 p3 = some o) (sz : Nat) : MetI l y_M_served ws_M_served ({ frames := 1, cells := 0, slots := 0, locals := 21 }) D (obT G) (cw_M_served G a_t a_indexClass a_classOfQuestion a_lengths a_text a_indexPath a_parent a_owner a_sort a_aim a_classes1 a_dValues a_dSets a_dNames a_values a_sets a_names a_draft a_split a_steps a_what a_one a_two a_opened a_openedAt a_stands a_variable a_truth a_rest a_loopAt a_loopFound a_hits v_classes v_fields v_begun v_indexes v_made v_slotted v_half v_open v_known v_fresh v_changed v_renamed v_down v_armed v_written v_logged v_marked v_logSize v_drafted v_questions v_now v_at v_bad v_opens v_deep v_aimed v_truths v_loops v_valued v_value v_set v_latest v_fits v_total v_looked v_indexClass v_classOfQuestion v_lengths v_text v_indexPath) (cw_M_served G a_t a_indexClass a_classOfQuestion a_lengths a_text a_indexPath a_parent a_owner a_sort a_aim a_classes1 a_dValues a_dSets a_dNames a_values a_sets a_names a_draft a_split a_steps a_what a_one a_two a_opened a_openedAt a_stands a_variable a_truth a_rest a_loopAt a_loopFound a_hits v_classes v_fields v_begun v_indexes v_made v_slotted v_half v_open v_known v_fresh v_changed v_renamed v_down v_armed v_written v_logged v_marked v_logSize v_drafted v_questions v_now v_at v_bad v_opens v_deep v_aimed v_truths v_loops v_valued v_value v_set v_latest v_fits v_total v_looked v_indexClass v_classOfQuestion v_lengths v_text v_indexPath) [.ref a_t, .int p1, .int p2, .int p3] o sz := by
  refine ob_of (cc := bc_M_served) (maxL := 7) (ret := (some .boolean)) (Qc := ObQi D (obT G) (cw_M_served G a_t a_indexClass a_classOfQuestion a_lengths a_text a_indexPath a_parent a_owner a_sort a_aim a_classes1 a_dValues a_dSets a_dNames a_values a_sets a_names a_draft a_split a_steps a_what a_one a_two a_opened a_openedAt a_stands a_variable a_truth a_rest a_loopAt a_loopFound a_hits v_classes v_fields v_begun v_indexes v_made v_slotted v_half v_open v_known v_fresh v_changed v_renamed v_down v_armed v_written v_logged v_marked v_logSize v_drafted v_questions v_now v_at v_bad v_opens v_deep v_aimed v_truths v_loops v_valued v_value v_set v_latest v_fits v_total v_looked v_indexClass v_classOfQuestion v_lengths v_text v_indexPath) o) (by decide) rfl (Nat.le_of_ble_eq_true rfl) ?_
  intro p e s m below meth c A ls H locs hx hb hr hml hts hown hlk hnm hZ hP hK hD hA hS hl
  have hret : ∀ (o' : Int32) (H : Heap) (locs : List Loc) (pc : Nat) (ls : Array Slot), some o' = some o → va_P D vwCl (cw_M_served G a_t a_indexClass a_classOfQuestion a_lengths a_text a_indexPath a_parent a_owner a_sort a_aim a_classes1 a_dValues a_dSets a_dNames a_values a_sets a_names a_draft a_split a_steps a_what a_one a_two a_opened a_openedAt a_stands a_variable a_truth a_rest a_loopAt a_loopFound a_hits v_classes v_fields v_begun v_indexes v_made v_slotted v_half v_open v_known v_fresh v_changed v_renamed v_down v_armed v_written v_logged v_marked v_logSize v_drafted v_questions v_now v_at v_bad v_opens v_deep v_aimed v_truths v_loops v_valued v_value v_set v_latest v_fits v_total v_looked v_indexClass v_classOfQuestion v_lengths v_text v_indexPath) H → va_D A (cw_M_served G a_t a_indexClass a_classOfQuestion a_lengths a_text a_indexPath a_parent a_owner a_sort a_aim a_classes1 a_dValues a_dSets a_dNames a_values a_sets a_names a_draft a_split a_steps a_what a_one a_two a_opened a_openedAt a_stands a_variable a_truth a_rest a_loopAt a_loopFound a_hits v_classes v_fields v_begun v_indexes v_made v_slotted v_half v_open v_known v_fresh v_changed v_renamed v_down v_armed v_written v_logged v_marked v_logSize v_drafted v_questions v_now v_at v_bad v_opens v_deep v_aimed v_truths v_loops v_valued v_value v_set v_latest v_fits v_total v_looked v_indexClass v_classOfQuestion v_lengths v_text v_indexPath) → va_S A s.heap H locs → narrow .boolean (.int o') = .int o' → decode bc_M_served pc = .ok (.ireturn, 1) → W p l e { frames := 1, cells := 0, slots := 0, locals := 21 } s m ([.ref a_t, .int p1, .int p2, .int p3] : List Value).toArray below meth c H locs 0 0 (MQ below (ObQi D (obT G) (cw_M_served G a_t a_indexClass a_classOfQuestion a_lengths a_text a_indexPath a_parent a_owner a_sort a_aim a_classes1 a_dValues a_dSets a_dNames a_values a_sets a_names a_draft a_split a_steps a_what a_one a_two a_opened a_openedAt a_stands a_variable a_truth a_rest a_loopAt a_loopFound a_hits v_classes v_fields v_begun v_indexes v_made v_slotted v_half v_open v_known v_fresh v_changed v_renamed v_down v_armed v_written v_logged v_marked v_logSize v_drafted v_questions v_now v_at v_bad v_opens v_deep v_aimed v_truths v_loops v_valued v_value v_set v_latest v_fits v_total v_looked v_indexClass v_classOfQuestion v_lengths v_text v_indexPath) o A) ([.ref a_t, .int p1, .int p2, .int p3] : List Value).toArray s 0 0 A) (F0 m pc ls [.int o']) := by
    intro o' H locs pc ls he hP hD hS hn hd
    obtain rfl := Option.some.inj he
    exact ob_iret hx hb hr hlk hK hP hD hS hn hd
  generalize MQ below (ObQi D (obT G) (cw_M_served G a_t a_indexClass a_classOfQuestion a_lengths a_text a_indexPath a_parent a_owner a_sort a_aim a_classes1 a_dValues a_dSets a_dNames a_values a_sets a_names a_draft a_split a_steps a_what a_one a_two a_opened a_openedAt a_stands a_variable a_truth a_rest a_loopAt a_loopFound a_hits v_classes v_fields v_begun v_indexes v_made v_slotted v_half v_open v_known v_fresh v_changed v_renamed v_down v_armed v_written v_logged v_marked v_logSize v_drafted v_questions v_now v_at v_bad v_opens v_deep v_aimed v_truths v_loops v_valued v_value v_set v_latest v_fits v_total v_looked v_indexClass v_classOfQuestion v_lengths v_text v_indexPath) o A) ([.ref a_t, .int p1, .int p2, .int p3] : List Value).toArray s 0 0 A = Q at hret ⊢
  have hl : lv_has ls 7 [(0, .ref a_t), (1, .int p1), (2, .int p2), (3, .int p3)] := hl
  unfold f_M_served at hf
  have loop50 : ∀ (n50 : Nat) (x50_4 : Int32) (x50_5 : Int32) (ls : Array Slot) (H : Heap) (locs : List Loc), lv_has ls 7 [(0, .ref a_t), (1, .int p1), (3, .int p3), (4, .int x50_4), (5, .int x50_5)] → va_P D vwCl (cw_M_served G a_t a_indexClass a_classOfQuestion a_lengths a_text a_indexPath a_parent a_owner a_sort a_aim a_classes1 a_dValues a_dSets a_dNames a_values a_sets a_names a_draft a_split a_steps a_what a_one a_two a_opened a_openedAt a_stands a_variable a_truth a_rest a_loopAt a_loopFound a_hits v_classes v_fields v_begun v_indexes v_made v_slotted v_half v_open v_known v_fresh v_changed v_renamed v_down v_armed v_written v_logged v_marked v_logSize v_drafted v_questions v_now v_at v_bad v_opens v_deep v_aimed v_truths v_loops v_valued v_value v_set v_latest v_fits v_total v_looked v_indexClass v_classOfQuestion v_lengths v_text v_indexPath) H → va_D A (cw_M_served G a_t a_indexClass a_classOfQuestion a_lengths a_text a_indexPath a_parent a_owner a_sort a_aim a_classes1 a_dValues a_dSets a_dNames a_values a_sets a_names a_draft a_split a_steps a_what a_one a_two a_opened a_openedAt a_stands a_variable a_truth a_rest a_loopAt a_loopFound a_hits v_classes v_fields v_begun v_indexes v_made v_slotted v_half v_open v_known v_fresh v_changed v_renamed v_down v_armed v_written v_logged v_marked v_logSize v_drafted v_questions v_now v_at v_bad v_opens v_deep v_aimed v_truths v_loops v_valued v_value v_set v_latest v_fits v_total v_looked v_indexClass v_classOfQuestion v_lengths v_text v_indexPath) → va_S A s.heap H locs → f_M_served_L50 v_now v_lengths v_text p3 p1 v_indexPath n50 x50_4 x50_5 = some o → W p l e ({ frames := 1, cells := 0, slots := 0, locals := 21 }) s m ([.ref a_t, .int p1, .int p2, .int p3] : List Value).toArray below meth c H locs 0 0 Q (F0 m 50 ls []) := by
    intro n50
    induction n50 with
    | zero => intro x50_4 x50_5 ls H locs hl hP hD hS hf; exact ob_no hf
    | succ n50 ih50 =>
      intro x50_4 x50_5 ls H locs hl hP hD hS hf
      have hf : f_M_served_B50 v_now v_lengths v_text p3 p1 v_indexPath (f_M_served_L50 v_now v_lengths v_text p3 p1 v_indexPath n50) x50_4 x50_5 = some o := hf
      unfold f_M_served_B50 at hf
      have blk103 : ∀ (x103_4 : Int32) (x103_5 : Int32) (x103_6 : Int32) (ls : Array Slot) (H : Heap) (locs : List Loc), lv_has ls 7 [(0, .ref a_t), (1, .int p1), (3, .int p3), (4, .int x103_4), (5, .int x103_5), (6, .int x103_6)] → va_P D vwCl (cw_M_served G a_t a_indexClass a_classOfQuestion a_lengths a_text a_indexPath a_parent a_owner a_sort a_aim a_classes1 a_dValues a_dSets a_dNames a_values a_sets a_names a_draft a_split a_steps a_what a_one a_two a_opened a_openedAt a_stands a_variable a_truth a_rest a_loopAt a_loopFound a_hits v_classes v_fields v_begun v_indexes v_made v_slotted v_half v_open v_known v_fresh v_changed v_renamed v_down v_armed v_written v_logged v_marked v_logSize v_drafted v_questions v_now v_at v_bad v_opens v_deep v_aimed v_truths v_loops v_valued v_value v_set v_latest v_fits v_total v_looked v_indexClass v_classOfQuestion v_lengths v_text v_indexPath) H → va_D A (cw_M_served G a_t a_indexClass a_classOfQuestion a_lengths a_text a_indexPath a_parent a_owner a_sort a_aim a_classes1 a_dValues a_dSets a_dNames a_values a_sets a_names a_draft a_split a_steps a_what a_one a_two a_opened a_openedAt a_stands a_variable a_truth a_rest a_loopAt a_loopFound a_hits v_classes v_fields v_begun v_indexes v_made v_slotted v_half v_open v_known v_fresh v_changed v_renamed v_down v_armed v_written v_logged v_marked v_logSize v_drafted v_questions v_now v_at v_bad v_opens v_deep v_aimed v_truths v_loops v_valued v_value v_set v_latest v_fits v_total v_looked v_indexClass v_classOfQuestion v_lengths v_text v_indexPath) → va_S A s.heap H locs → f_M_served_J103 (f_M_served_L50 v_now v_lengths v_text p3 p1 v_indexPath n50) x103_4 x103_5 x103_6 = some o → W p l e ({ frames := 1, cells := 0, slots := 0, locals := 21 }) s m ([.ref a_t, .int p1, .int p2, .int p3] : List Value).toArray below meth c H locs 0 0 Q (F0 m 103 ls []) := by
        intro x103_4 x103_5 x103_6 ls H locs hl hP hD hS hf
        unfold f_M_served_J103 at hf
        refine lv_iload hx hb d_M_served_103 (lv_at hl 3 rfl) ?_
        refine lv_iload hx hb d_M_served_105 (lv_at hl 5 rfl) ?_
        refine lv_if_lt (tgt := 114) hx hb d_M_served_107 (by decide) (fun hc107 => ?_) (fun hc107 => ?_)
        · have hf := ob_t hc107 hf
          refine lv_iconst (v := 0) hx hb d_M_served_114 (by decide) ?_
          refine lv_iadd hx hb d_M_served_115 ?_
          refine lv_istore (lv' := [(4, .int (x103_4 + 0)), (0, .ref a_t), (1, .int p1), (3, .int p3), (5, .int x103_5), (6, .int x103_6)]) hx hb d_M_served_116 hl (by decide) rfl (fun ls hl => ?_)
          refine lv_iinc (k := 4) (v := x103_5 + 1) (lv' := [(5, .int (x103_5 + 1)), (4, .int (x103_4 + 0)), (0, .ref a_t), (1, .int p1), (3, .int p3), (6, .int x103_6)]) hx hb d_M_served_118 hl rfl (by rw [show Int32.ofInt 1 = (1 : Int32) from by decide]) (by decide) rfl (fun ls hl => ?_)
          refine lv_goto (tgt := 50) hx hb d_M_served_121 (by decide) ?_
          exact ih50 (x103_4 + 0) (x103_5 + 1) ls H locs (lv_sub hl [2, 3, 4, 1, 0] rfl) hP hD hS hf
        · have hf := ob_f hc107 hf
          refine lv_iconst (v := 2) hx hb d_M_served_110 (by decide) ?_
          refine lv_goto (tgt := 115) hx hb d_M_served_111 (by decide) ?_
          refine lv_iadd hx hb d_M_served_115 ?_
          refine lv_istore (lv' := [(4, .int (x103_4 + 2)), (0, .ref a_t), (1, .int p1), (3, .int p3), (5, .int x103_5), (6, .int x103_6)]) hx hb d_M_served_116 hl (by decide) rfl (fun ls hl => ?_)
          refine lv_iinc (k := 4) (v := x103_5 + 1) (lv' := [(5, .int (x103_5 + 1)), (4, .int (x103_4 + 2)), (0, .ref a_t), (1, .int p1), (3, .int p3), (6, .int x103_6)]) hx hb d_M_served_118 hl rfl (by rw [show Int32.ofInt 1 = (1 : Int32) from by decide]) (by decide) rfl (fun ls hl => ?_)
          refine lv_goto (tgt := 50) hx hb d_M_served_121 (by decide) ?_
          exact ih50 (x103_4 + 2) (x103_5 + 1) ls H locs (lv_sub hl [2, 3, 4, 1, 0] rfl) hP hD hS hf
      refine lv_iload hx hb d_M_served_50 (lv_at hl 4 rfl) ?_
      refine lv_iconst (v := 3) hx hb d_M_served_52 (by decide) ?_
      refine lv_icmp_ge (tgt := 124) hx hb d_M_served_53 (by decide) (fun hc53 => ?_) (fun hc53 => ?_)
      · have hf := ob_t hc53 hf
        refine lv_aload_n hx hb d_M_served_124 rfl (lv_at hl 0 rfl) ?_
        refine lv_iload_n hx hb d_M_served_125 rfl (lv_at hl 2 rfl) ?_
        obtain ⟨o126, ho126, hf⟩ := ob_b hf
        refine ob_calli (w2 := (cw_M_served G a_t a_indexClass a_classOfQuestion a_lengths a_text a_indexPath a_parent a_owner a_sort a_aim a_classes1 a_dValues a_dSets a_dNames a_values a_sets a_names a_draft a_split a_steps a_what a_one a_two a_opened a_openedAt a_stands a_variable a_truth a_rest a_loopAt a_loopFound a_hits v_classes v_fields v_begun v_indexes v_made v_slotted v_half v_open v_known v_fresh v_changed v_renamed v_down v_armed v_written v_logged v_marked v_logSize v_drafted v_questions v_now v_at v_bad v_opens v_deep v_aimed v_truths v_loops v_valued v_value v_set v_latest v_fits v_total v_looked v_indexClass v_classOfQuestion v_lengths v_text v_indexPath)) (va_runV (As := [.int p3]) (rest := []) ⟨hx, hb, hml, hown, hts⟩ (c_M_charAt l D G a_t a_lengths a_text a_parent a_owner a_sort a_aim a_indexClass a_indexPath a_classes1 a_dValues a_dSets a_dNames a_values a_sets a_names a_draft a_classOfQuestion a_split a_steps a_what a_one a_two a_opened a_openedAt a_stands a_variable a_truth a_rest a_loopAt a_loopFound a_hits v_classes v_fields v_begun v_indexes v_made v_slotted v_half v_open v_known v_fresh v_changed v_renamed v_down v_armed v_written v_logged v_marked v_logSize v_drafted v_questions v_now v_at v_bad v_opens v_deep v_aimed v_truths v_loops v_valued v_value v_set v_latest v_fits v_total v_looked v_lengths v_text p3 o126 ho126 H.size) (cwV 1 hts (gV tw1136 tw1138 tp40 tw11 tw1139) rfl rfl rfl (by decide +kernel) ⟨Nat.le_of_ble_eq_true rfl, Nat.le_of_ble_eq_true rfl⟩) (ob_preV (q0 := 0) (ci := 11) hZ hK hP hD [0, 3, 4] rfl rfl rfl rfl rfl) rfl rfl hl.1 rfl (lv_room (Nat.le_of_ble_eq_true rfl)) d_M_served_126 ⟨Nat.le_refl _, Nat.le_refl _⟩) hP hD hA hS [0, 3, 4] rfl rfl rfl rfl (fun H locs hP hD hS => ?_)
        refine lv_istore (lv' := [(5, .int o126), (0, .ref a_t), (1, .int p1), (3, .int p3), (4, .int x50_4)]) hx hb d_M_served_129 hl (by decide) rfl (fun ls hl => ?_)
        refine lv_iload hx hb d_M_served_131 (lv_at hl 4 rfl) ?_
        refine lv_iload_n hx hb d_M_served_133 rfl (lv_at hl 3 rfl) ?_
        refine lv_iconst (v := 1) hx hb d_M_served_134 (by decide) ?_
        refine lv_isub hx hb d_M_served_135 ?_
        refine lv_icmp_ne (tgt := 158) hx hb d_M_served_136 (by decide) (fun hc136 => ?_) (fun hc136 => ?_)
        · have hf := ob_f hc136 hf
          refine lv_iconst (v := 0) hx hb d_M_served_158 (by decide) ?_
          exact hret 0 H locs _ ls hf hP hD hS narrow_b0 d_M_served_159
        · have hf := ob_t hc136 hf
          refine lv_iload hx hb d_M_served_139 (lv_at hl 0 rfl) ?_
          refine lv_bipush (v := 45) hx hb d_M_served_141 (by decide) ?_
          refine lv_icmp_eq (tgt := 154) hx hb d_M_served_143 (by decide) (fun hc143 => ?_) (fun hc143 => ?_)
          · have hf := ob_t hc143 hf
            refine lv_iconst (v := 1) hx hb d_M_served_154 (by decide) ?_
            refine lv_goto (tgt := 159) hx hb d_M_served_155 (by decide) ?_
            exact hret 1 H locs _ ls hf hP hD hS narrow_b1 d_M_served_159
          · have hf := ob_f hc143 hf
            refine lv_iload hx hb d_M_served_146 (lv_at hl 0 rfl) ?_
            obtain ⟨o148, ho148, hf⟩ := ob_b hf
            refine ob_calli (w2 := (cw_M_served G a_t a_indexClass a_classOfQuestion a_lengths a_text a_indexPath a_parent a_owner a_sort a_aim a_classes1 a_dValues a_dSets a_dNames a_values a_sets a_names a_draft a_split a_steps a_what a_one a_two a_opened a_openedAt a_stands a_variable a_truth a_rest a_loopAt a_loopFound a_hits v_classes v_fields v_begun v_indexes v_made v_slotted v_half v_open v_known v_fresh v_changed v_renamed v_down v_armed v_written v_logged v_marked v_logSize v_drafted v_questions v_now v_at v_bad v_opens v_deep v_aimed v_truths v_loops v_valued v_value v_set v_latest v_fits v_total v_looked v_indexClass v_classOfQuestion v_lengths v_text v_indexPath)) (va_runS (As := [.int o126]) (rest := []) ⟨hx, hb, hml, hown, hts⟩ (c_M_digit l D G  o126 o148 ho148 H.size) (va_cwS 1 hts (gS tw1172 tw1173 tw11 tw1174) rfl rfl rfl (by decide +kernel) ⟨Nat.le_of_ble_eq_true rfl, Nat.le_of_ble_eq_true rfl⟩) (ob_preS hZ hK hP hD [] rfl rfl) rfl rfl hl.1 rfl (lv_room (Nat.le_of_ble_eq_true rfl)) d_M_served_148 ⟨Nat.le_refl _, Nat.le_refl _⟩) hP hD hA hS [] rfl rfl rfl rfl (fun H locs hP hD hS => ?_)
            refine lv_if_eq (tgt := 158) hx hb d_M_served_151 (by decide) (fun hc151 => ?_) (fun hc151 => ?_)
            · have hf := ob_t hc151 hf
              refine lv_iconst (v := 0) hx hb d_M_served_158 (by decide) ?_
              exact hret 0 H locs _ ls hf hP hD hS narrow_b0 d_M_served_159
            · have hf := ob_f hc151 hf
              refine lv_iconst (v := 1) hx hb d_M_served_154 (by decide) ?_
              refine lv_goto (tgt := 159) hx hb d_M_served_155 (by decide) ?_
              exact hret 1 H locs _ ls hf hP hD hS narrow_b1 d_M_served_159
      · have hf := ob_f hc53 hf
        refine lv_aload_n hx hb d_M_served_56 rfl (lv_at hl 0 rfl) ?_
        refine va_get (D := D) (ci := 11) (v := .ref a_indexPath) (C := "ObjectBaseModel") (T := TC_M) (N := 66) hx hb hts inC_M hown hK hP 0 rfl rfl 9 (by decide) (hts _ tw796) (fun _ h9 => h9) rfl d_M_served_57 ?_
        refine lv_iconst (v := 3) hx hb d_M_served_60 (by decide) ?_
        refine lv_iload_n hx hb d_M_served_61 rfl (lv_at hl 1 rfl) ?_
        refine lv_imul hx hb d_M_served_62 ?_
        refine lv_iload hx hb d_M_served_63 (lv_at hl 4 rfl) ?_
        refine lv_iadd hx hb d_M_served_65 ?_
        obtain ⟨hg66, hf⟩ := ob_iv_g hf
        refine va_iald hx hb hK hP 5 0 rfl rfl hg66 d_M_served_66 ?_
        refine lv_istore (lv' := [(6, .int (v_indexPath ((3 * p1) + x50_5).toNatClampNeg)), (0, .ref a_t), (1, .int p1), (3, .int p3), (4, .int x50_4), (5, .int x50_5)]) hx hb d_M_served_67 hl (by decide) rfl (fun ls hl => ?_)
        refine lv_iload hx hb d_M_served_69 (lv_at hl 0 rfl) ?_
        refine lv_if_lt (tgt := 103) hx hb d_M_served_71 (by decide) (fun hc71 => ?_) (fun hc71 => ?_)
        · have hf := ob_t hc71 hf
          exact blk103 x50_4 x50_5 (v_indexPath ((3 * p1) + x50_5).toNatClampNeg) ls H locs (lv_sub hl [1, 2, 3, 4, 5, 0] rfl) hP hD hS hf
        · have hf := ob_f hc71 hf
          refine lv_aload_n hx hb d_M_served_74 rfl (lv_at hl 1 rfl) ?_
          refine lv_iload hx hb d_M_served_75 (lv_at hl 4 rfl) ?_
          obtain ⟨o77, ho77, hf⟩ := ob_b hf
          refine ob_calli (w2 := (cw_M_served G a_t a_indexClass a_classOfQuestion a_lengths a_text a_indexPath a_parent a_owner a_sort a_aim a_classes1 a_dValues a_dSets a_dNames a_values a_sets a_names a_draft a_split a_steps a_what a_one a_two a_opened a_openedAt a_stands a_variable a_truth a_rest a_loopAt a_loopFound a_hits v_classes v_fields v_begun v_indexes v_made v_slotted v_half v_open v_known v_fresh v_changed v_renamed v_down v_armed v_written v_logged v_marked v_logSize v_drafted v_questions v_now v_at v_bad v_opens v_deep v_aimed v_truths v_loops v_valued v_value v_set v_latest v_fits v_total v_looked v_indexClass v_classOfQuestion v_lengths v_text v_indexPath)) (va_runV (As := [.int x50_4]) (rest := []) ⟨hx, hb, hml, hown, hts⟩ (c_M_charAt l D G a_t a_lengths a_text a_parent a_owner a_sort a_aim a_indexClass a_indexPath a_classes1 a_dValues a_dSets a_dNames a_values a_sets a_names a_draft a_classOfQuestion a_split a_steps a_what a_one a_two a_opened a_openedAt a_stands a_variable a_truth a_rest a_loopAt a_loopFound a_hits v_classes v_fields v_begun v_indexes v_made v_slotted v_half v_open v_known v_fresh v_changed v_renamed v_down v_armed v_written v_logged v_marked v_logSize v_drafted v_questions v_now v_at v_bad v_opens v_deep v_aimed v_truths v_loops v_valued v_value v_set v_latest v_fits v_total v_looked v_lengths v_text x50_4 o77 ho77 H.size) (cwV 1 hts (gV tw1136 tw1138 tp40 tw11 tw1139) rfl rfl rfl (by decide +kernel) ⟨Nat.le_of_ble_eq_true rfl, Nat.le_of_ble_eq_true rfl⟩) (ob_preV (q0 := 0) (ci := 11) hZ hK hP hD [0, 3, 4] rfl rfl rfl rfl rfl) rfl rfl hl.1 rfl (lv_room (Nat.le_of_ble_eq_true rfl)) d_M_served_77 ⟨Nat.le_refl _, Nat.le_refl _⟩) hP hD hA hS [0, 3, 4] rfl rfl rfl rfl (fun H locs hP hD hS => ?_)
          refine lv_bipush (v := 46) hx hb d_M_served_80 (by decide) ?_
          refine lv_icmp_ne (tgt := 101) hx hb d_M_served_82 (by decide) (fun hc82 => ?_) (fun hc82 => ?_)
          · have hf := ob_f hc82 hf
            refine lv_iconst (v := 0) hx hb d_M_served_101 (by decide) ?_
            exact hret 0 H locs _ ls hf hP hD hS narrow_b0 d_M_served_102
          · have hf := ob_t hc82 hf
            refine lv_aload_n hx hb d_M_served_85 rfl (lv_at hl 1 rfl) ?_
            refine lv_iload hx hb d_M_served_86 (lv_at hl 4 rfl) ?_
            refine lv_iconst (v := 1) hx hb d_M_served_88 (by decide) ?_
            refine lv_iadd hx hb d_M_served_89 ?_
            obtain ⟨o90, ho90, hf⟩ := ob_b hf
            refine ob_calli (w2 := (cw_M_served G a_t a_indexClass a_classOfQuestion a_lengths a_text a_indexPath a_parent a_owner a_sort a_aim a_classes1 a_dValues a_dSets a_dNames a_values a_sets a_names a_draft a_split a_steps a_what a_one a_two a_opened a_openedAt a_stands a_variable a_truth a_rest a_loopAt a_loopFound a_hits v_classes v_fields v_begun v_indexes v_made v_slotted v_half v_open v_known v_fresh v_changed v_renamed v_down v_armed v_written v_logged v_marked v_logSize v_drafted v_questions v_now v_at v_bad v_opens v_deep v_aimed v_truths v_loops v_valued v_value v_set v_latest v_fits v_total v_looked v_indexClass v_classOfQuestion v_lengths v_text v_indexPath)) (va_runV (As := [.int (x50_4 + 1)]) (rest := []) ⟨hx, hb, hml, hown, hts⟩ (c_M_charAt l D G a_t a_lengths a_text a_parent a_owner a_sort a_aim a_indexClass a_indexPath a_classes1 a_dValues a_dSets a_dNames a_values a_sets a_names a_draft a_classOfQuestion a_split a_steps a_what a_one a_two a_opened a_openedAt a_stands a_variable a_truth a_rest a_loopAt a_loopFound a_hits v_classes v_fields v_begun v_indexes v_made v_slotted v_half v_open v_known v_fresh v_changed v_renamed v_down v_armed v_written v_logged v_marked v_logSize v_drafted v_questions v_now v_at v_bad v_opens v_deep v_aimed v_truths v_loops v_valued v_value v_set v_latest v_fits v_total v_looked v_lengths v_text (x50_4 + 1) o90 ho90 H.size) (cwV 1 hts (gV tw1136 tw1138 tp40 tw11 tw1139) rfl rfl rfl (by decide +kernel) ⟨Nat.le_of_ble_eq_true rfl, Nat.le_of_ble_eq_true rfl⟩) (ob_preV (q0 := 0) (ci := 11) hZ hK hP hD [0, 3, 4] rfl rfl rfl rfl rfl) rfl rfl hl.1 rfl (lv_room (Nat.le_of_ble_eq_true rfl)) d_M_served_90 ⟨Nat.le_refl _, Nat.le_refl _⟩) hP hD hA hS [0, 3, 4] rfl rfl rfl rfl (fun H locs hP hD hS => ?_)
            refine lv_bipush (v := 97) hx hb d_M_served_93 (by decide) ?_
            refine lv_isub hx hb d_M_served_95 ?_
            refine lv_iload hx hb d_M_served_96 (lv_at hl 0 rfl) ?_
            refine lv_icmp_eq (tgt := 103) hx hb d_M_served_98 (by decide) (fun hc98 => ?_) (fun hc98 => ?_)
            · have hf := ob_t hc98 hf
              exact blk103 x50_4 x50_5 (v_indexPath ((3 * p1) + x50_5).toNatClampNeg) ls H locs (lv_sub hl [1, 2, 3, 4, 5, 0] rfl) hP hD hS hf
            · have hf := ob_f hc98 hf
              refine lv_iconst (v := 0) hx hb d_M_served_101 (by decide) ?_
              exact hret 0 H locs _ ls hf hP hD hS narrow_b0 d_M_served_102
  refine lv_aload_n hx hb d_M_served_0 rfl (lv_at hl 0 rfl) ?_
  refine va_get (D := D) (ci := 11) (v := .ref a_indexClass) (C := "ObjectBaseModel") (T := TC_M) (N := 66) hx hb hts inC_M hown hK hP 0 rfl rfl 8 (by decide) (hts _ tw795) (fun _ h9 => h9) rfl d_M_served_1 ?_
  refine lv_iload_n hx hb d_M_served_4 rfl (lv_at hl 1 rfl) ?_
  obtain ⟨hg5, hf⟩ := ob_iv_g hf
  refine va_iald hx hb hK hP 1 0 rfl rfl hg5 d_M_served_5 ?_
  refine lv_aload_n hx hb d_M_served_6 rfl (lv_at hl 0 rfl) ?_
  refine va_get (D := D) (ci := 11) (v := .ref a_classOfQuestion) (C := "ObjectBaseModel") (T := TC_M) (N := 66) hx hb hts inC_M hown hK hP 0 rfl rfl 36 (by decide) (hts _ tw823) (fun _ h9 => h9) rfl d_M_served_7 ?_
  refine lv_aload_n hx hb d_M_served_10 rfl (lv_at hl 0 rfl) ?_
  refine va_get (D := D) (ci := 11) (v := .int v_now) (C := "ObjectBaseModel") (T := TC_M) (N := 66) hx hb hts inC_M hown hK hP 0 rfl rfl 42 (by decide) (hts _ tw829) (fun _ h9 => h9) rfl d_M_served_11 ?_
  obtain ⟨hg14, hf⟩ := ob_iv_g hf
  refine va_iald hx hb hK hP 2 0 rfl rfl hg14 d_M_served_14 ?_
  refine lv_icmp_ne (tgt := 40) hx hb d_M_served_15 (by decide) (fun hc15 => ?_) (fun hc15 => ?_)
  · have hf := ob_f hc15 hf
    refine lv_iconst (v := 0) hx hb d_M_served_40 (by decide) ?_
    exact hret 0 H locs _ ls hf hP hD hS narrow_b0 d_M_served_41
  · have hf := ob_t hc15 hf
    refine lv_aload_n hx hb d_M_served_18 rfl (lv_at hl 0 rfl) ?_
    refine lv_iload_n hx hb d_M_served_19 rfl (lv_at hl 2 rfl) ?_
    obtain ⟨o20, ho20, hf⟩ := ob_b hf
    refine ob_calli (w2 := (cw_M_served G a_t a_indexClass a_classOfQuestion a_lengths a_text a_indexPath a_parent a_owner a_sort a_aim a_classes1 a_dValues a_dSets a_dNames a_values a_sets a_names a_draft a_split a_steps a_what a_one a_two a_opened a_openedAt a_stands a_variable a_truth a_rest a_loopAt a_loopFound a_hits v_classes v_fields v_begun v_indexes v_made v_slotted v_half v_open v_known v_fresh v_changed v_renamed v_down v_armed v_written v_logged v_marked v_logSize v_drafted v_questions v_now v_at v_bad v_opens v_deep v_aimed v_truths v_loops v_valued v_value v_set v_latest v_fits v_total v_looked v_indexClass v_classOfQuestion v_lengths v_text v_indexPath)) (va_runV (As := [.int p2]) (rest := []) ⟨hx, hb, hml, hown, hts⟩ (c_M_charAt l D G a_t a_lengths a_text a_parent a_owner a_sort a_aim a_indexClass a_indexPath a_classes1 a_dValues a_dSets a_dNames a_values a_sets a_names a_draft a_classOfQuestion a_split a_steps a_what a_one a_two a_opened a_openedAt a_stands a_variable a_truth a_rest a_loopAt a_loopFound a_hits v_classes v_fields v_begun v_indexes v_made v_slotted v_half v_open v_known v_fresh v_changed v_renamed v_down v_armed v_written v_logged v_marked v_logSize v_drafted v_questions v_now v_at v_bad v_opens v_deep v_aimed v_truths v_loops v_valued v_value v_set v_latest v_fits v_total v_looked v_lengths v_text p2 o20 ho20 H.size) (cwV 1 hts (gV tw1136 tw1138 tp40 tw11 tw1139) rfl rfl rfl (by decide +kernel) ⟨Nat.le_of_ble_eq_true rfl, Nat.le_of_ble_eq_true rfl⟩) (ob_preV (q0 := 0) (ci := 11) hZ hK hP hD [0, 3, 4] rfl rfl rfl rfl rfl) rfl rfl hl.1 rfl (lv_room (Nat.le_of_ble_eq_true rfl)) d_M_served_20 ⟨Nat.le_refl _, Nat.le_refl _⟩) hP hD hA hS [0, 3, 4] rfl rfl rfl rfl (fun H locs hP hD hS => ?_)
    refine lv_bipush (v := 120) hx hb d_M_served_23 (by decide) ?_
    refine lv_icmp_ne (tgt := 40) hx hb d_M_served_25 (by decide) (fun hc25 => ?_) (fun hc25 => ?_)
    · have hf := ob_f hc25 hf
      refine lv_iconst (v := 0) hx hb d_M_served_40 (by decide) ?_
      exact hret 0 H locs _ ls hf hP hD hS narrow_b0 d_M_served_41
    · have hf := ob_t hc25 hf
      refine lv_aload_n hx hb d_M_served_28 rfl (lv_at hl 0 rfl) ?_
      refine lv_iload_n hx hb d_M_served_29 rfl (lv_at hl 3 rfl) ?_
      refine lv_iconst (v := 1) hx hb d_M_served_30 (by decide) ?_
      refine lv_isub hx hb d_M_served_31 ?_
      obtain ⟨o32, ho32, hf⟩ := ob_b hf
      refine ob_calli (w2 := (cw_M_served G a_t a_indexClass a_classOfQuestion a_lengths a_text a_indexPath a_parent a_owner a_sort a_aim a_classes1 a_dValues a_dSets a_dNames a_values a_sets a_names a_draft a_split a_steps a_what a_one a_two a_opened a_openedAt a_stands a_variable a_truth a_rest a_loopAt a_loopFound a_hits v_classes v_fields v_begun v_indexes v_made v_slotted v_half v_open v_known v_fresh v_changed v_renamed v_down v_armed v_written v_logged v_marked v_logSize v_drafted v_questions v_now v_at v_bad v_opens v_deep v_aimed v_truths v_loops v_valued v_value v_set v_latest v_fits v_total v_looked v_indexClass v_classOfQuestion v_lengths v_text v_indexPath)) (va_runV (As := [.int (p3 - 1)]) (rest := []) ⟨hx, hb, hml, hown, hts⟩ (c_M_charAt l D G a_t a_lengths a_text a_parent a_owner a_sort a_aim a_indexClass a_indexPath a_classes1 a_dValues a_dSets a_dNames a_values a_sets a_names a_draft a_classOfQuestion a_split a_steps a_what a_one a_two a_opened a_openedAt a_stands a_variable a_truth a_rest a_loopAt a_loopFound a_hits v_classes v_fields v_begun v_indexes v_made v_slotted v_half v_open v_known v_fresh v_changed v_renamed v_down v_armed v_written v_logged v_marked v_logSize v_drafted v_questions v_now v_at v_bad v_opens v_deep v_aimed v_truths v_loops v_valued v_value v_set v_latest v_fits v_total v_looked v_lengths v_text (p3 - 1) o32 ho32 H.size) (cwV 1 hts (gV tw1136 tw1138 tp40 tw11 tw1139) rfl rfl rfl (by decide +kernel) ⟨Nat.le_of_ble_eq_true rfl, Nat.le_of_ble_eq_true rfl⟩) (ob_preV (q0 := 0) (ci := 11) hZ hK hP hD [0, 3, 4] rfl rfl rfl rfl rfl) rfl rfl hl.1 rfl (lv_room (Nat.le_of_ble_eq_true rfl)) d_M_served_32 ⟨Nat.le_refl _, Nat.le_refl _⟩) hP hD hA hS [0, 3, 4] rfl rfl rfl rfl (fun H locs hP hD hS => ?_)
      refine lv_bipush (v := 61) hx hb d_M_served_35 (by decide) ?_
      refine lv_icmp_eq (tgt := 42) hx hb d_M_served_37 (by decide) (fun hc37 => ?_) (fun hc37 => ?_)
      · have hf := ob_t hc37 hf
        refine lv_iload_n hx hb d_M_served_42 rfl (lv_at hl 2 rfl) ?_
        refine lv_iconst (v := 1) hx hb d_M_served_43 (by decide) ?_
        refine lv_iadd hx hb d_M_served_44 ?_
        refine lv_istore (lv' := [(4, .int (p2 + 1)), (0, .ref a_t), (1, .int p1), (2, .int p2), (3, .int p3)]) hx hb d_M_served_45 hl (by decide) rfl (fun ls hl => ?_)
        refine lv_iconst (v := 0) hx hb d_M_served_47 (by decide) ?_
        refine lv_istore (lv' := [(5, .int 0), (4, .int (p2 + 1)), (0, .ref a_t), (1, .int p1), (2, .int p2), (3, .int p3)]) hx hb d_M_served_48 hl (by decide) rfl (fun ls hl => ?_)
        exact loop50 1000 (p2 + 1) 0 ls H locs (lv_sub hl [2, 3, 5, 1, 0] rfl) hP hD hS hf
      · have hf := ob_f hc37 hf
        refine lv_iconst (v := 0) hx hb d_M_served_40 (by decide) ?_
        exact hret 0 H locs _ ls hf hP hD hS narrow_b0 d_M_served_41
abbrev bc_M_planned : ByteArray := prog_13_method_65_code
abbrev y_M_planned : MethodName := ⟨"ObjectBaseModel", "planned", "()I"⟩
def ws_M_planned : List Cond := .code y_M_planned bc_M_planned 4 (some .int) :: obW
theorem d_M_planned_0 : decode bc_M_planned 0 = .ok (.iconst 0, 1) := by decide +kernel
theorem d_M_planned_1 : decode bc_M_planned 1 = .ok (.istore_n 1, 1) := by decide +kernel
theorem d_M_planned_2 : decode bc_M_planned 2 = .ok (.iload_n 1, 1) := by decide +kernel
theorem d_M_planned_3 : decode bc_M_planned 3 = .ok (.aload_n 0, 1) := by decide +kernel
theorem d_M_planned_4 : decode bc_M_planned 4 = .ok (.getfield 70, 3) := by decide +kernel
theorem d_M_planned_7 : decode bc_M_planned 7 = .ok (.aload_n 0, 1) := by decide +kernel
theorem d_M_planned_8 : decode bc_M_planned 8 = .ok (.getfield 239, 3) := by decide +kernel
theorem d_M_planned_11 : decode bc_M_planned 11 = .ok (.iaload, 1) := by decide +kernel
theorem d_M_planned_12 : decode bc_M_planned 12 = .ok (.if_icmp .ge 93, 3) := by decide +kernel
theorem d_M_planned_15 : decode bc_M_planned 15 = .ok (.aload_n 0, 1) := by decide +kernel
theorem d_M_planned_16 : decode bc_M_planned 16 = .ok (.getfield 66, 3) := by decide +kernel
theorem d_M_planned_19 : decode bc_M_planned 19 = .ok (.aload_n 0, 1) := by decide +kernel
theorem d_M_planned_20 : decode bc_M_planned 20 = .ok (.getfield 239, 3) := by decide +kernel
theorem d_M_planned_23 : decode bc_M_planned 23 = .ok (.baload, 1) := by decide +kernel
theorem d_M_planned_24 : decode bc_M_planned 24 = .ok (.ifCond .ne 81, 3) := by decide +kernel
theorem d_M_planned_27 : decode bc_M_planned 27 = .ok (.bipush 64, 2) := by decide +kernel
theorem d_M_planned_29 : decode bc_M_planned 29 = .ok (.aload_n 0, 1) := by decide +kernel
theorem d_M_planned_30 : decode bc_M_planned 30 = .ok (.getfield 239, 3) := by decide +kernel
theorem d_M_planned_33 : decode bc_M_planned 33 = .ok (.imul, 1) := by decide +kernel
theorem d_M_planned_34 : decode bc_M_planned 34 = .ok (.iload_n 1, 1) := by decide +kernel
theorem d_M_planned_35 : decode bc_M_planned 35 = .ok (.iadd, 1) := by decide +kernel
theorem d_M_planned_36 : decode bc_M_planned 36 = .ok (.istore_n 2, 1) := by decide +kernel
theorem d_M_planned_37 : decode bc_M_planned 37 = .ok (.iconst 0, 1) := by decide +kernel
theorem d_M_planned_38 : decode bc_M_planned 38 = .ok (.istore_n 3, 1) := by decide +kernel
theorem d_M_planned_39 : decode bc_M_planned 39 = .ok (.iload_n 3, 1) := by decide +kernel
theorem d_M_planned_40 : decode bc_M_planned 40 = .ok (.aload_n 0, 1) := by decide +kernel
theorem d_M_planned_41 : decode bc_M_planned 41 = .ok (.getfield 133, 3) := by decide +kernel
theorem d_M_planned_44 : decode bc_M_planned 44 = .ok (.if_icmp .ge 55, 3) := by decide +kernel
theorem d_M_planned_47 : decode bc_M_planned 47 = .ok (.aload_n 0, 1) := by decide +kernel
theorem d_M_planned_48 : decode bc_M_planned 48 = .ok (.getfield 73, 3) := by decide +kernel
theorem d_M_planned_51 : decode bc_M_planned 51 = .ok (.iload_n 2, 1) := by decide +kernel
theorem d_M_planned_52 : decode bc_M_planned 52 = .ok (.iaload, 1) := by decide +kernel
theorem d_M_planned_53 : decode bc_M_planned 53 = .ok (.iconst 1, 1) := by decide +kernel
theorem d_M_planned_54 : decode bc_M_planned 54 = .ok (.if_icmp .ne 39, 3) := by decide +kernel
theorem d_M_planned_57 : decode bc_M_planned 57 = .ok (.aload_n 0, 1) := by decide +kernel
theorem d_M_planned_58 : decode bc_M_planned 58 = .ok (.getfield 79, 3) := by decide +kernel
theorem d_M_planned_61 : decode bc_M_planned 61 = .ok (.iload_n 2, 1) := by decide +kernel
theorem d_M_planned_62 : decode bc_M_planned 62 = .ok (.iaload, 1) := by decide +kernel
theorem d_M_planned_63 : decode bc_M_planned 63 = .ok (.iconst 2, 1) := by decide +kernel
theorem d_M_planned_64 : decode bc_M_planned 64 = .ok (.irem, 1) := by decide +kernel
theorem d_M_planned_65 : decode bc_M_planned 65 = .ok (.iconst 1, 1) := by decide +kernel
theorem d_M_planned_66 : decode bc_M_planned 66 = .ok (.if_icmp .ne 27, 3) := by decide +kernel
theorem d_M_planned_69 : decode bc_M_planned 69 = .ok (.aload_n 0, 1) := by decide +kernel
theorem d_M_planned_70 : decode bc_M_planned 70 = .ok (.iload_n 3, 1) := by decide +kernel
theorem d_M_planned_71 : decode bc_M_planned 71 = .ok (.aload_n 0, 1) := by decide +kernel
theorem d_M_planned_72 : decode bc_M_planned 72 = .ok (.getfield 76, 3) := by decide +kernel
theorem d_M_planned_75 : decode bc_M_planned 75 = .ok (.iload_n 2, 1) := by decide +kernel
theorem d_M_planned_76 : decode bc_M_planned 76 = .ok (.iaload, 1) := by decide +kernel
theorem d_M_planned_77 : decode bc_M_planned 77 = .ok (.aload_n 0, 1) := by decide +kernel
theorem d_M_planned_78 : decode bc_M_planned 78 = .ok (.getfield 79, 3) := by decide +kernel
theorem d_M_planned_81 : decode bc_M_planned 81 = .ok (.iload_n 2, 1) := by decide +kernel
theorem d_M_planned_82 : decode bc_M_planned 82 = .ok (.iaload, 1) := by decide +kernel
theorem d_M_planned_83 : decode bc_M_planned 83 = .ok (.iconst 2, 1) := by decide +kernel
theorem d_M_planned_84 : decode bc_M_planned 84 = .ok (.idiv, 1) := by decide +kernel
theorem d_M_planned_85 : decode bc_M_planned 85 = .ok (.invokevirtual 358, 3) := by decide +kernel
theorem d_M_planned_88 : decode bc_M_planned 88 = .ok (.ifCond .eq 5, 3) := by decide +kernel
theorem d_M_planned_91 : decode bc_M_planned 91 = .ok (.iload_n 2, 1) := by decide +kernel
theorem d_M_planned_92 : decode bc_M_planned 92 = .ok (.ireturn, 1) := by decide +kernel
theorem d_M_planned_93 : decode bc_M_planned 93 = .ok (.iinc 3 1, 3) := by decide +kernel
theorem d_M_planned_96 : decode bc_M_planned 96 = .ok (.goto (-57), 3) := by decide +kernel
theorem d_M_planned_99 : decode bc_M_planned 99 = .ok (.iinc 1 1, 3) := by decide +kernel
theorem d_M_planned_102 : decode bc_M_planned 102 = .ok (.goto (-100), 3) := by decide +kernel
theorem d_M_planned_105 : decode bc_M_planned 105 = .ok (.iconst (-1), 1) := by decide +kernel
theorem d_M_planned_106 : decode bc_M_planned 106 = .ok (.ireturn, 1) := by decide +kernel
def cw_M_planned (G : Nat → ClassId) (a_t a_steps a_split a_what a_two a_one a_indexClass a_classOfQuestion a_lengths a_text a_indexPath a_parent a_owner a_sort a_aim a_classes1 a_dValues a_dSets a_dNames a_values a_sets a_names a_draft a_opened a_openedAt a_stands a_variable a_truth a_rest a_loopAt a_loopFound a_hits : Nat) (v_classes : Int32) (v_fields : Int32) (v_begun : Int32) (v_indexes : Int32) (v_made : Int32) (v_slotted : Int64) (v_half : Int32) (v_open : Int32) (v_known : Int64) (v_fresh : Int64) (v_changed : Int64) (v_renamed : Int32) (v_down : Int32) (v_armed : Int32) (v_written : Int32) (v_logged : Int32) (v_marked : Int32) (v_logSize : Int32) (v_drafted : Int32) (v_questions : Int32) (v_now : Int32) (v_at : Int32) (v_bad : Int32) (v_opens : Int32) (v_deep : Int32) (v_aimed : Int32) (v_truths : Int32) (v_loops : Int32) (v_valued : Int32) (v_value : Int32) (v_set : Int64) (v_latest : Int32) (v_fits : Int32) (v_total : Int64) (v_looked : Int32) (v_steps : Nat → Int32) (v_split : Nat → Int32) (v_what : Nat → Int32) (v_two : Nat → Int32) (v_one : Nat → Int32) (v_indexClass : Nat → Int32) (v_classOfQuestion : Nat → Int32) (v_lengths : Nat → Int32) (v_text : Nat → Int32) (v_indexPath : Nat → Int32) : va_W := [(a_t, .inr (11, [.int v_classes, .ref a_parent, .int v_fields, .ref a_owner, .ref a_sort, .ref a_aim, .int v_begun, .int v_indexes, .ref a_indexClass, .ref a_indexPath, .int v_made, .ref a_classes1, .ref a_dValues, .ref a_dSets, .ref a_dNames, .ref a_values, .ref a_sets, .ref a_names, .long v_slotted, .int v_half, .int v_open, .long v_known, .long v_fresh, .long v_changed, .int v_renamed, .int v_down, .int v_armed, .int v_written, .int v_logged, .int v_marked, .int v_logSize, .int v_drafted, .ref a_draft, .int v_questions, .ref a_lengths, .ref a_text, .ref a_classOfQuestion, .ref a_split, .ref a_steps, .ref a_what, .ref a_one, .ref a_two, .int v_now, .int v_at, .int v_bad, .int v_opens, .ref a_opened, .ref a_openedAt, .int v_deep, .int v_aimed, .ref a_stands, .ref a_variable, .int v_truths, .ref a_truth, .int v_loops, .ref a_rest, .ref a_loopAt, .ref a_loopFound, .int v_valued, .int v_value, .long v_set, .int v_latest, .int v_fits, .ref a_hits, .long v_total, .int v_looked])), (a_steps, .inl (G 0, 13, .inl v_steps)), (a_split, .inl (G 3, 13, .inl v_split)), (a_what, .inl (G 0, 832, .inl v_what)), (a_two, .inl (G 0, 832, .inl v_two)), (a_one, .inl (G 0, 832, .inl v_one)), (a_indexClass, .inl (G 0, 3, .inl v_indexClass)), (a_classOfQuestion, .inl (G 0, 13, .inl v_classOfQuestion)), (a_lengths, .inl (G 0, 13, .inl v_lengths)), (a_text, .inl (G 0, 832, .inl v_text)), (a_indexPath, .inl (G 0, 9, .inl v_indexPath))]
def f_M_planned_B39 (v_indexes : Int32) (k2 : Int32 → Option (Int32)) (v_what : Nat → Int32) (v_two : Nat → Int32) (v_now : Int32) (v_indexClass : Nat → Int32) (v_classOfQuestion : Nat → Int32) (v_lengths : Nat → Int32) (v_text : Nat → Int32) (v_indexPath : Nat → Int32) (v_one : Nat → Int32) (k39 : Int32 → Int32 → Int32 → Option (Int32)) (x39_1 : Int32) (x39_2 : Int32) (x39_3 : Int32) : Option (Int32) := if v_indexes ≤ x39_3 then (k2 (x39_1 + 1)) else (ob_iv x39_2 832 (if (v_what x39_2.toNatClampNeg) = 1 then (ob_iv x39_2 832 (if ((v_two x39_2.toNatClampNeg) - (v_two x39_2.toNatClampNeg) / 2 * 2) = 1 then (ob_iv x39_2 832 (ob_iv x39_2 832 ((f_M_served v_now v_indexClass v_classOfQuestion v_lengths v_text v_indexPath x39_3 (v_one x39_2.toNatClampNeg) ((v_two x39_2.toNatClampNeg) / 2)).bind fun o85 => (if o85 = 0 then (k39 x39_1 x39_2 (x39_3 + 1)) else (some x39_2))))) else (k39 x39_1 x39_2 (x39_3 + 1)))) else (k39 x39_1 x39_2 (x39_3 + 1))))
def f_M_planned_L39 (v_indexes : Int32) (k2 : Int32 → Option (Int32)) (v_what : Nat → Int32) (v_two : Nat → Int32) (v_now : Int32) (v_indexClass : Nat → Int32) (v_classOfQuestion : Nat → Int32) (v_lengths : Nat → Int32) (v_text : Nat → Int32) (v_indexPath : Nat → Int32) (v_one : Nat → Int32) : Nat → Int32 → Int32 → Int32 → Option (Int32) := ob_lp3 (f_M_planned_B39 v_indexes k2 v_what v_two v_now v_indexClass v_classOfQuestion v_lengths v_text v_indexPath v_one)
def f_M_planned_B2 (v_now : Int32) (v_steps : Nat → Int32) (v_split : Nat → Int32) (v_indexes : Int32) (v_what : Nat → Int32) (v_two : Nat → Int32) (v_indexClass : Nat → Int32) (v_classOfQuestion : Nat → Int32) (v_lengths : Nat → Int32) (v_text : Nat → Int32) (v_indexPath : Nat → Int32) (v_one : Nat → Int32) (k2 : Int32 → Option (Int32)) (x2_1 : Int32) : Option (Int32) := ob_iv v_now 13 (if (v_steps v_now.toNatClampNeg) ≤ x2_1 then (some (-1)) else (ob_iv v_now 13 (if (v_split v_now.toNatClampNeg) = 0 then (f_M_planned_L39 v_indexes k2 v_what v_two v_now v_indexClass v_classOfQuestion v_lengths v_text v_indexPath v_one 1000 x2_1 ((64 * v_now) + x2_1) 0) else (some (-1)))))
def f_M_planned_L2 (v_now : Int32) (v_steps : Nat → Int32) (v_split : Nat → Int32) (v_indexes : Int32) (v_what : Nat → Int32) (v_two : Nat → Int32) (v_indexClass : Nat → Int32) (v_classOfQuestion : Nat → Int32) (v_lengths : Nat → Int32) (v_text : Nat → Int32) (v_indexPath : Nat → Int32) (v_one : Nat → Int32) : Nat → Int32 → Option (Int32) := ob_lp1 (f_M_planned_B2 v_now v_steps v_split v_indexes v_what v_two v_indexClass v_classOfQuestion v_lengths v_text v_indexPath v_one)
def f_M_planned (v_indexes : Int32) (v_now : Int32) (v_steps : Nat → Int32) (v_split : Nat → Int32) (v_what : Nat → Int32) (v_two : Nat → Int32) (v_one : Nat → Int32) (v_indexClass : Nat → Int32) (v_classOfQuestion : Nat → Int32) (v_lengths : Nat → Int32) (v_text : Nat → Int32) (v_indexPath : Nat → Int32) : Option (Int32) := f_M_planned_L2 v_now v_steps v_split v_indexes v_what v_two v_indexClass v_classOfQuestion v_lengths v_text v_indexPath v_one 1000 0
set_option maxHeartbeats 4000000 in
set_option maxRecDepth 100000 in
theorem c_M_planned (l : Launch) (D : va_G) (G : Nat → ClassId) (a_t a_steps a_split a_what a_two a_one a_indexClass a_classOfQuestion a_lengths a_text a_indexPath a_parent a_owner a_sort a_aim a_classes1 a_dValues a_dSets a_dNames a_values a_sets a_names a_draft a_opened a_openedAt a_stands a_variable a_truth a_rest a_loopAt a_loopFound a_hits : Nat) (v_classes : Int32) (v_fields : Int32) (v_begun : Int32) (v_indexes : Int32) (v_made : Int32) (v_slotted : Int64) (v_half : Int32) (v_open : Int32) (v_known : Int64) (v_fresh : Int64) (v_changed : Int64) (v_renamed : Int32) (v_down : Int32) (v_armed : Int32) (v_written : Int32) (v_logged : Int32) (v_marked : Int32) (v_logSize : Int32) (v_drafted : Int32) (v_questions : Int32) (v_now : Int32) (v_at : Int32) (v_bad : Int32) (v_opens : Int32) (v_deep : Int32) (v_aimed : Int32) (v_truths : Int32) (v_loops : Int32) (v_valued : Int32) (v_value : Int32) (v_set : Int64) (v_latest : Int32) (v_fits : Int32) (v_total : Int64) (v_looked : Int32) (v_steps : Nat → Int32) (v_split : Nat → Int32) (v_what : Nat → Int32) (v_two : Nat → Int32) (v_one : Nat → Int32) (v_indexClass : Nat → Int32) (v_classOfQuestion : Nat → Int32) (v_lengths : Nat → Int32) (v_text : Nat → Int32) (v_indexPath : Nat → Int32) (o : Int32) (hf : f_M_planned v_indexes v_now v_steps v_split v_what v_two v_one v_indexClass v_classOfQuestion v_lengths v_text v_indexPath = some o) (sz : Nat) : MetI l y_M_planned ws_M_planned ({ frames := 2, cells := 0, slots := 0, locals := 47 }) D (obT G) (cw_M_planned G a_t a_steps a_split a_what a_two a_one a_indexClass a_classOfQuestion a_lengths a_text a_indexPath a_parent a_owner a_sort a_aim a_classes1 a_dValues a_dSets a_dNames a_values a_sets a_names a_draft a_opened a_openedAt a_stands a_variable a_truth a_rest a_loopAt a_loopFound a_hits v_classes v_fields v_begun v_indexes v_made v_slotted v_half v_open v_known v_fresh v_changed v_renamed v_down v_armed v_written v_logged v_marked v_logSize v_drafted v_questions v_now v_at v_bad v_opens v_deep v_aimed v_truths v_loops v_valued v_value v_set v_latest v_fits v_total v_looked v_steps v_split v_what v_two v_one v_indexClass v_classOfQuestion v_lengths v_text v_indexPath) (cw_M_planned G a_t a_steps a_split a_what a_two a_one a_indexClass a_classOfQuestion a_lengths a_text a_indexPath a_parent a_owner a_sort a_aim a_classes1 a_dValues a_dSets a_dNames a_values a_sets a_names a_draft a_opened a_openedAt a_stands a_variable a_truth a_rest a_loopAt a_loopFound a_hits v_classes v_fields v_begun v_indexes v_made v_slotted v_half v_open v_known v_fresh v_changed v_renamed v_down v_armed v_written v_logged v_marked v_logSize v_drafted v_questions v_now v_at v_bad v_opens v_deep v_aimed v_truths v_loops v_valued v_value v_set v_latest v_fits v_total v_looked v_steps v_split v_what v_two v_one v_indexClass v_classOfQuestion v_lengths v_text v_indexPath) [.ref a_t] o sz := by
  refine ob_of (cc := bc_M_planned) (maxL := 4) (ret := (some .int)) (Qc := ObQi D (obT G) (cw_M_planned G a_t a_steps a_split a_what a_two a_one a_indexClass a_classOfQuestion a_lengths a_text a_indexPath a_parent a_owner a_sort a_aim a_classes1 a_dValues a_dSets a_dNames a_values a_sets a_names a_draft a_opened a_openedAt a_stands a_variable a_truth a_rest a_loopAt a_loopFound a_hits v_classes v_fields v_begun v_indexes v_made v_slotted v_half v_open v_known v_fresh v_changed v_renamed v_down v_armed v_written v_logged v_marked v_logSize v_drafted v_questions v_now v_at v_bad v_opens v_deep v_aimed v_truths v_loops v_valued v_value v_set v_latest v_fits v_total v_looked v_steps v_split v_what v_two v_one v_indexClass v_classOfQuestion v_lengths v_text v_indexPath) o) (by decide) rfl (Nat.le_of_ble_eq_true rfl) ?_
  intro p e s m below meth c A ls H locs hx hb hr hml hts hown hlk hnm hZ hP hK hD hA hS hl
  have hret : ∀ (o' : Int32) (H : Heap) (locs : List Loc) (pc : Nat) (ls : Array Slot), some o' = some o → va_P D vwCl (cw_M_planned G a_t a_steps a_split a_what a_two a_one a_indexClass a_classOfQuestion a_lengths a_text a_indexPath a_parent a_owner a_sort a_aim a_classes1 a_dValues a_dSets a_dNames a_values a_sets a_names a_draft a_opened a_openedAt a_stands a_variable a_truth a_rest a_loopAt a_loopFound a_hits v_classes v_fields v_begun v_indexes v_made v_slotted v_half v_open v_known v_fresh v_changed v_renamed v_down v_armed v_written v_logged v_marked v_logSize v_drafted v_questions v_now v_at v_bad v_opens v_deep v_aimed v_truths v_loops v_valued v_value v_set v_latest v_fits v_total v_looked v_steps v_split v_what v_two v_one v_indexClass v_classOfQuestion v_lengths v_text v_indexPath) H → va_D A (cw_M_planned G a_t a_steps a_split a_what a_two a_one a_indexClass a_classOfQuestion a_lengths a_text a_indexPath a_parent a_owner a_sort a_aim a_classes1 a_dValues a_dSets a_dNames a_values a_sets a_names a_draft a_opened a_openedAt a_stands a_variable a_truth a_rest a_loopAt a_loopFound a_hits v_classes v_fields v_begun v_indexes v_made v_slotted v_half v_open v_known v_fresh v_changed v_renamed v_down v_armed v_written v_logged v_marked v_logSize v_drafted v_questions v_now v_at v_bad v_opens v_deep v_aimed v_truths v_loops v_valued v_value v_set v_latest v_fits v_total v_looked v_steps v_split v_what v_two v_one v_indexClass v_classOfQuestion v_lengths v_text v_indexPath) → va_S A s.heap H locs → narrow .int (.int o') = .int o' → decode bc_M_planned pc = .ok (.ireturn, 1) → W p l e { frames := 2, cells := 0, slots := 0, locals := 47 } s m ([.ref a_t] : List Value).toArray below meth c H locs 0 0 (MQ below (ObQi D (obT G) (cw_M_planned G a_t a_steps a_split a_what a_two a_one a_indexClass a_classOfQuestion a_lengths a_text a_indexPath a_parent a_owner a_sort a_aim a_classes1 a_dValues a_dSets a_dNames a_values a_sets a_names a_draft a_opened a_openedAt a_stands a_variable a_truth a_rest a_loopAt a_loopFound a_hits v_classes v_fields v_begun v_indexes v_made v_slotted v_half v_open v_known v_fresh v_changed v_renamed v_down v_armed v_written v_logged v_marked v_logSize v_drafted v_questions v_now v_at v_bad v_opens v_deep v_aimed v_truths v_loops v_valued v_value v_set v_latest v_fits v_total v_looked v_steps v_split v_what v_two v_one v_indexClass v_classOfQuestion v_lengths v_text v_indexPath) o A) ([.ref a_t] : List Value).toArray s 0 0 A) (F0 m pc ls [.int o']) := by
    intro o' H locs pc ls he hP hD hS hn hd
    obtain rfl := Option.some.inj he
    exact ob_iret hx hb hr hlk hK hP hD hS hn hd
  generalize MQ below (ObQi D (obT G) (cw_M_planned G a_t a_steps a_split a_what a_two a_one a_indexClass a_classOfQuestion a_lengths a_text a_indexPath a_parent a_owner a_sort a_aim a_classes1 a_dValues a_dSets a_dNames a_values a_sets a_names a_draft a_opened a_openedAt a_stands a_variable a_truth a_rest a_loopAt a_loopFound a_hits v_classes v_fields v_begun v_indexes v_made v_slotted v_half v_open v_known v_fresh v_changed v_renamed v_down v_armed v_written v_logged v_marked v_logSize v_drafted v_questions v_now v_at v_bad v_opens v_deep v_aimed v_truths v_loops v_valued v_value v_set v_latest v_fits v_total v_looked v_steps v_split v_what v_two v_one v_indexClass v_classOfQuestion v_lengths v_text v_indexPath) o A) ([.ref a_t] : List Value).toArray s 0 0 A = Q at hret ⊢
  have hl : lv_has ls 4 [(0, .ref a_t)] := hl
  unfold f_M_planned at hf
  have loop2 : ∀ (n2 : Nat) (x2_1 : Int32) (ls : Array Slot) (H : Heap) (locs : List Loc), lv_has ls 4 [(0, .ref a_t), (1, .int x2_1)] → va_P D vwCl (cw_M_planned G a_t a_steps a_split a_what a_two a_one a_indexClass a_classOfQuestion a_lengths a_text a_indexPath a_parent a_owner a_sort a_aim a_classes1 a_dValues a_dSets a_dNames a_values a_sets a_names a_draft a_opened a_openedAt a_stands a_variable a_truth a_rest a_loopAt a_loopFound a_hits v_classes v_fields v_begun v_indexes v_made v_slotted v_half v_open v_known v_fresh v_changed v_renamed v_down v_armed v_written v_logged v_marked v_logSize v_drafted v_questions v_now v_at v_bad v_opens v_deep v_aimed v_truths v_loops v_valued v_value v_set v_latest v_fits v_total v_looked v_steps v_split v_what v_two v_one v_indexClass v_classOfQuestion v_lengths v_text v_indexPath) H → va_D A (cw_M_planned G a_t a_steps a_split a_what a_two a_one a_indexClass a_classOfQuestion a_lengths a_text a_indexPath a_parent a_owner a_sort a_aim a_classes1 a_dValues a_dSets a_dNames a_values a_sets a_names a_draft a_opened a_openedAt a_stands a_variable a_truth a_rest a_loopAt a_loopFound a_hits v_classes v_fields v_begun v_indexes v_made v_slotted v_half v_open v_known v_fresh v_changed v_renamed v_down v_armed v_written v_logged v_marked v_logSize v_drafted v_questions v_now v_at v_bad v_opens v_deep v_aimed v_truths v_loops v_valued v_value v_set v_latest v_fits v_total v_looked v_steps v_split v_what v_two v_one v_indexClass v_classOfQuestion v_lengths v_text v_indexPath) → va_S A s.heap H locs → f_M_planned_L2 v_now v_steps v_split v_indexes v_what v_two v_indexClass v_classOfQuestion v_lengths v_text v_indexPath v_one n2 x2_1 = some o → W p l e ({ frames := 2, cells := 0, slots := 0, locals := 47 }) s m ([.ref a_t] : List Value).toArray below meth c H locs 0 0 Q (F0 m 2 ls []) := by
    intro n2
    induction n2 with
    | zero => intro x2_1 ls H locs hl hP hD hS hf; exact ob_no hf
    | succ n2 ih2 =>
      intro x2_1 ls H locs hl hP hD hS hf
      have hf : f_M_planned_B2 v_now v_steps v_split v_indexes v_what v_two v_indexClass v_classOfQuestion v_lengths v_text v_indexPath v_one (f_M_planned_L2 v_now v_steps v_split v_indexes v_what v_two v_indexClass v_classOfQuestion v_lengths v_text v_indexPath v_one n2) x2_1 = some o := hf
      unfold f_M_planned_B2 at hf
      have loop39 : ∀ (n39 : Nat) (x39_1 : Int32) (x39_2 : Int32) (x39_3 : Int32) (ls : Array Slot) (H : Heap) (locs : List Loc), lv_has ls 4 [(0, .ref a_t), (1, .int x39_1), (2, .int x39_2), (3, .int x39_3)] → va_P D vwCl (cw_M_planned G a_t a_steps a_split a_what a_two a_one a_indexClass a_classOfQuestion a_lengths a_text a_indexPath a_parent a_owner a_sort a_aim a_classes1 a_dValues a_dSets a_dNames a_values a_sets a_names a_draft a_opened a_openedAt a_stands a_variable a_truth a_rest a_loopAt a_loopFound a_hits v_classes v_fields v_begun v_indexes v_made v_slotted v_half v_open v_known v_fresh v_changed v_renamed v_down v_armed v_written v_logged v_marked v_logSize v_drafted v_questions v_now v_at v_bad v_opens v_deep v_aimed v_truths v_loops v_valued v_value v_set v_latest v_fits v_total v_looked v_steps v_split v_what v_two v_one v_indexClass v_classOfQuestion v_lengths v_text v_indexPath) H → va_D A (cw_M_planned G a_t a_steps a_split a_what a_two a_one a_indexClass a_classOfQuestion a_lengths a_text a_indexPath a_parent a_owner a_sort a_aim a_classes1 a_dValues a_dSets a_dNames a_values a_sets a_names a_draft a_opened a_openedAt a_stands a_variable a_truth a_rest a_loopAt a_loopFound a_hits v_classes v_fields v_begun v_indexes v_made v_slotted v_half v_open v_known v_fresh v_changed v_renamed v_down v_armed v_written v_logged v_marked v_logSize v_drafted v_questions v_now v_at v_bad v_opens v_deep v_aimed v_truths v_loops v_valued v_value v_set v_latest v_fits v_total v_looked v_steps v_split v_what v_two v_one v_indexClass v_classOfQuestion v_lengths v_text v_indexPath) → va_S A s.heap H locs → f_M_planned_L39 v_indexes (f_M_planned_L2 v_now v_steps v_split v_indexes v_what v_two v_indexClass v_classOfQuestion v_lengths v_text v_indexPath v_one n2) v_what v_two v_now v_indexClass v_classOfQuestion v_lengths v_text v_indexPath v_one n39 x39_1 x39_2 x39_3 = some o → W p l e ({ frames := 2, cells := 0, slots := 0, locals := 47 }) s m ([.ref a_t] : List Value).toArray below meth c H locs 0 0 Q (F0 m 39 ls []) := by
        intro n39
        induction n39 with
        | zero => intro x39_1 x39_2 x39_3 ls H locs hl hP hD hS hf; exact ob_no hf
        | succ n39 ih39 =>
          intro x39_1 x39_2 x39_3 ls H locs hl hP hD hS hf
          have hf : f_M_planned_B39 v_indexes (f_M_planned_L2 v_now v_steps v_split v_indexes v_what v_two v_indexClass v_classOfQuestion v_lengths v_text v_indexPath v_one n2) v_what v_two v_now v_indexClass v_classOfQuestion v_lengths v_text v_indexPath v_one (f_M_planned_L39 v_indexes (f_M_planned_L2 v_now v_steps v_split v_indexes v_what v_two v_indexClass v_classOfQuestion v_lengths v_text v_indexPath v_one n2) v_what v_two v_now v_indexClass v_classOfQuestion v_lengths v_text v_indexPath v_one n39) x39_1 x39_2 x39_3 = some o := hf
          unfold f_M_planned_B39 at hf
          refine lv_iload_n hx hb d_M_planned_39 rfl (lv_at hl 3 rfl) ?_
          refine lv_aload_n hx hb d_M_planned_40 rfl (lv_at hl 0 rfl) ?_
          refine va_get (D := D) (ci := 11) (v := .int v_indexes) (C := "ObjectBaseModel") (T := TC_M) (N := 66) hx hb hts inC_M hown hK hP 0 rfl rfl 7 (by decide) (hts _ tw794) (fun _ h9 => h9) rfl d_M_planned_41 ?_
          refine lv_icmp_ge (tgt := 99) hx hb d_M_planned_44 (by decide) (fun hc44 => ?_) (fun hc44 => ?_)
          · have hf := ob_t hc44 hf
            refine lv_iinc (k := 1) (v := x39_1 + 1) (lv' := [(1, .int (x39_1 + 1)), (0, .ref a_t), (2, .int x39_2), (3, .int x39_3)]) hx hb d_M_planned_99 hl rfl (by rw [show Int32.ofInt 1 = (1 : Int32) from by decide]) (by decide) rfl (fun ls hl => ?_)
            refine lv_goto (tgt := 2) hx hb d_M_planned_102 (by decide) ?_
            exact ih2 (x39_1 + 1) ls H locs (lv_sub hl [1, 0] rfl) hP hD hS hf
          · have hf := ob_f hc44 hf
            refine lv_aload_n hx hb d_M_planned_47 rfl (lv_at hl 0 rfl) ?_
            refine va_get (D := D) (ci := 11) (v := .ref a_what) (C := "ObjectBaseModel") (T := TC_M) (N := 66) hx hb hts inC_M hown hK hP 0 rfl rfl 39 (by decide) (hts _ tw826) (fun _ h9 => h9) rfl d_M_planned_48 ?_
            refine lv_iload_n hx hb d_M_planned_51 rfl (lv_at hl 2 rfl) ?_
            obtain ⟨hg52, hf⟩ := ob_iv_g hf
            refine va_iald hx hb hK hP 3 0 rfl rfl hg52 d_M_planned_52 ?_
            refine lv_iconst (v := 1) hx hb d_M_planned_53 (by decide) ?_
            refine lv_icmp_ne (tgt := 93) hx hb d_M_planned_54 (by decide) (fun hc54 => ?_) (fun hc54 => ?_)
            · have hf := ob_f hc54 hf
              refine lv_iinc (k := 3) (v := x39_3 + 1) (lv' := [(3, .int (x39_3 + 1)), (0, .ref a_t), (1, .int x39_1), (2, .int x39_2)]) hx hb d_M_planned_93 hl rfl (by rw [show Int32.ofInt 1 = (1 : Int32) from by decide]) (by decide) rfl (fun ls hl => ?_)
              refine lv_goto (tgt := 39) hx hb d_M_planned_96 (by decide) ?_
              exact ih39 x39_1 x39_2 (x39_3 + 1) ls H locs (lv_sub hl [1, 2, 3, 0] rfl) hP hD hS hf
            · have hf := ob_t hc54 hf
              refine lv_aload_n hx hb d_M_planned_57 rfl (lv_at hl 0 rfl) ?_
              refine va_get (D := D) (ci := 11) (v := .ref a_two) (C := "ObjectBaseModel") (T := TC_M) (N := 66) hx hb hts inC_M hown hK hP 0 rfl rfl 41 (by decide) (hts _ tw828) (fun _ h9 => h9) rfl d_M_planned_58 ?_
              refine lv_iload_n hx hb d_M_planned_61 rfl (lv_at hl 2 rfl) ?_
              obtain ⟨hg62, hf⟩ := ob_iv_g hf
              refine va_iald hx hb hK hP 4 0 rfl rfl hg62 d_M_planned_62 ?_
              refine lv_iconst (v := 2) hx hb d_M_planned_63 (by decide) ?_
              refine lv_irem hx hb d_M_planned_64 (by decide) ?_
              refine lv_iconst (v := 1) hx hb d_M_planned_65 (by decide) ?_
              refine lv_icmp_ne (tgt := 93) hx hb d_M_planned_66 (by decide) (fun hc66 => ?_) (fun hc66 => ?_)
              · have hf := ob_f hc66 hf
                refine lv_iinc (k := 3) (v := x39_3 + 1) (lv' := [(3, .int (x39_3 + 1)), (0, .ref a_t), (1, .int x39_1), (2, .int x39_2)]) hx hb d_M_planned_93 hl rfl (by rw [show Int32.ofInt 1 = (1 : Int32) from by decide]) (by decide) rfl (fun ls hl => ?_)
                refine lv_goto (tgt := 39) hx hb d_M_planned_96 (by decide) ?_
                exact ih39 x39_1 x39_2 (x39_3 + 1) ls H locs (lv_sub hl [1, 2, 3, 0] rfl) hP hD hS hf
              · have hf := ob_t hc66 hf
                refine lv_aload_n hx hb d_M_planned_69 rfl (lv_at hl 0 rfl) ?_
                refine lv_iload_n hx hb d_M_planned_70 rfl (lv_at hl 3 rfl) ?_
                refine lv_aload_n hx hb d_M_planned_71 rfl (lv_at hl 0 rfl) ?_
                refine va_get (D := D) (ci := 11) (v := .ref a_one) (C := "ObjectBaseModel") (T := TC_M) (N := 66) hx hb hts inC_M hown hK hP 0 rfl rfl 40 (by decide) (hts _ tw827) (fun _ h9 => h9) rfl d_M_planned_72 ?_
                refine lv_iload_n hx hb d_M_planned_75 rfl (lv_at hl 2 rfl) ?_
                obtain ⟨hg76, hf⟩ := ob_iv_g hf
                refine va_iald hx hb hK hP 5 0 rfl rfl hg76 d_M_planned_76 ?_
                refine lv_aload_n hx hb d_M_planned_77 rfl (lv_at hl 0 rfl) ?_
                refine va_get (D := D) (ci := 11) (v := .ref a_two) (C := "ObjectBaseModel") (T := TC_M) (N := 66) hx hb hts inC_M hown hK hP 0 rfl rfl 41 (by decide) (hts _ tw828) (fun _ h9 => h9) rfl d_M_planned_78 ?_
                refine lv_iload_n hx hb d_M_planned_81 rfl (lv_at hl 2 rfl) ?_
                obtain ⟨hg82, hf⟩ := ob_iv_g hf
                refine va_iald hx hb hK hP 4 0 rfl rfl hg82 d_M_planned_82 ?_
                refine lv_iconst (v := 2) hx hb d_M_planned_83 (by decide) ?_
                refine lv_idiv hx hb d_M_planned_84 (by decide) ?_
                obtain ⟨o85, ho85, hf⟩ := ob_b hf
                refine ob_calli (w2 := (cw_M_planned G a_t a_steps a_split a_what a_two a_one a_indexClass a_classOfQuestion a_lengths a_text a_indexPath a_parent a_owner a_sort a_aim a_classes1 a_dValues a_dSets a_dNames a_values a_sets a_names a_draft a_opened a_openedAt a_stands a_variable a_truth a_rest a_loopAt a_loopFound a_hits v_classes v_fields v_begun v_indexes v_made v_slotted v_half v_open v_known v_fresh v_changed v_renamed v_down v_armed v_written v_logged v_marked v_logSize v_drafted v_questions v_now v_at v_bad v_opens v_deep v_aimed v_truths v_loops v_valued v_value v_set v_latest v_fits v_total v_looked v_steps v_split v_what v_two v_one v_indexClass v_classOfQuestion v_lengths v_text v_indexPath)) (va_runV (As := [.int x39_3, .int (v_one x39_2.toNatClampNeg), .int ((v_two x39_2.toNatClampNeg) / 2)]) (rest := []) ⟨hx, hb, hml, hown, hts⟩ (c_M_served l D G a_t a_indexClass a_classOfQuestion a_lengths a_text a_indexPath a_parent a_owner a_sort a_aim a_classes1 a_dValues a_dSets a_dNames a_values a_sets a_names a_draft a_split a_steps a_what a_one a_two a_opened a_openedAt a_stands a_variable a_truth a_rest a_loopAt a_loopFound a_hits v_classes v_fields v_begun v_indexes v_made v_slotted v_half v_open v_known v_fresh v_changed v_renamed v_down v_armed v_written v_logged v_marked v_logSize v_drafted v_questions v_now v_at v_bad v_opens v_deep v_aimed v_truths v_loops v_valued v_value v_set v_latest v_fits v_total v_looked v_indexClass v_classOfQuestion v_lengths v_text v_indexPath x39_3 (v_one x39_2.toNatClampNeg) ((v_two x39_2.toNatClampNeg) / 2) o85 ho85 H.size) (cwV 3 hts (gV tw1209 tw1211 tp56 tw11 tw1212) rfl rfl rfl (by decide +kernel) ⟨Nat.le_of_ble_eq_true rfl, Nat.le_of_ble_eq_true rfl⟩) (ob_preV (q0 := 0) (ci := 11) hZ hK hP hD [0, 6, 7, 8, 9, 10] rfl rfl rfl rfl rfl) rfl rfl hl.1 rfl (lv_room (Nat.le_of_ble_eq_true rfl)) d_M_planned_85 ⟨Nat.le_refl _, Nat.le_refl _⟩) hP hD hA hS [0, 6, 7, 8, 9, 10] rfl rfl rfl rfl (fun H locs hP hD hS => ?_)
                refine lv_if_eq (tgt := 93) hx hb d_M_planned_88 (by decide) (fun hc88 => ?_) (fun hc88 => ?_)
                · have hf := ob_t hc88 hf
                  refine lv_iinc (k := 3) (v := x39_3 + 1) (lv' := [(3, .int (x39_3 + 1)), (0, .ref a_t), (1, .int x39_1), (2, .int x39_2)]) hx hb d_M_planned_93 hl rfl (by rw [show Int32.ofInt 1 = (1 : Int32) from by decide]) (by decide) rfl (fun ls hl => ?_)
                  refine lv_goto (tgt := 39) hx hb d_M_planned_96 (by decide) ?_
                  exact ih39 x39_1 x39_2 (x39_3 + 1) ls H locs (lv_sub hl [1, 2, 3, 0] rfl) hP hD hS hf
                · have hf := ob_f hc88 hf
                  refine lv_iload_n hx hb d_M_planned_91 rfl (lv_at hl 2 rfl) ?_
                  exact hret x39_2 H locs _ ls hf hP hD hS rfl d_M_planned_92
      refine lv_iload_n hx hb d_M_planned_2 rfl (lv_at hl 1 rfl) ?_
      refine lv_aload_n hx hb d_M_planned_3 rfl (lv_at hl 0 rfl) ?_
      refine va_get (D := D) (ci := 11) (v := .ref a_steps) (C := "ObjectBaseModel") (T := TC_M) (N := 66) hx hb hts inC_M hown hK hP 0 rfl rfl 38 (by decide) (hts _ tw825) (fun _ h9 => h9) rfl d_M_planned_4 ?_
      refine lv_aload_n hx hb d_M_planned_7 rfl (lv_at hl 0 rfl) ?_
      refine va_get (D := D) (ci := 11) (v := .int v_now) (C := "ObjectBaseModel") (T := TC_M) (N := 66) hx hb hts inC_M hown hK hP 0 rfl rfl 42 (by decide) (hts _ tw829) (fun _ h9 => h9) rfl d_M_planned_8 ?_
      obtain ⟨hg11, hf⟩ := ob_iv_g hf
      refine va_iald hx hb hK hP 1 0 rfl rfl hg11 d_M_planned_11 ?_
      refine lv_icmp_ge (tgt := 105) hx hb d_M_planned_12 (by decide) (fun hc12 => ?_) (fun hc12 => ?_)
      · have hf := ob_t hc12 hf
        refine lv_iconst (v := (-1)) hx hb d_M_planned_105 (by decide) ?_
        exact hret (-1) H locs _ ls hf hP hD hS rfl d_M_planned_106
      · have hf := ob_f hc12 hf
        refine lv_aload_n hx hb d_M_planned_15 rfl (lv_at hl 0 rfl) ?_
        refine va_get (D := D) (ci := 11) (v := .ref a_split) (C := "ObjectBaseModel") (T := TC_M) (N := 66) hx hb hts inC_M hown hK hP 0 rfl rfl 37 (by decide) (hts _ tw824) (fun _ h9 => h9) rfl d_M_planned_16 ?_
        refine lv_aload_n hx hb d_M_planned_19 rfl (lv_at hl 0 rfl) ?_
        refine va_get (D := D) (ci := 11) (v := .int v_now) (C := "ObjectBaseModel") (T := TC_M) (N := 66) hx hb hts inC_M hown hK hP 0 rfl rfl 42 (by decide) (hts _ tw829) (fun _ h9 => h9) rfl d_M_planned_20 ?_
        obtain ⟨hg23, hf⟩ := ob_iv_g hf
        refine va_zald hx hb hK hP 2 3 rfl rfl hg23 d_M_planned_23 ?_
        refine lv_if_ne (tgt := 105) hx hb d_M_planned_24 (by decide) (fun hc24 => ?_) (fun hc24 => ?_)
        · have hf := ob_f hc24 hf
          refine lv_iconst (v := (-1)) hx hb d_M_planned_105 (by decide) ?_
          exact hret (-1) H locs _ ls hf hP hD hS rfl d_M_planned_106
        · have hf := ob_t hc24 hf
          refine lv_bipush (v := 64) hx hb d_M_planned_27 (by decide) ?_
          refine lv_aload_n hx hb d_M_planned_29 rfl (lv_at hl 0 rfl) ?_
          refine va_get (D := D) (ci := 11) (v := .int v_now) (C := "ObjectBaseModel") (T := TC_M) (N := 66) hx hb hts inC_M hown hK hP 0 rfl rfl 42 (by decide) (hts _ tw829) (fun _ h9 => h9) rfl d_M_planned_30 ?_
          refine lv_imul hx hb d_M_planned_33 ?_
          refine lv_iload_n hx hb d_M_planned_34 rfl (lv_at hl 1 rfl) ?_
          refine lv_iadd hx hb d_M_planned_35 ?_
          refine lv_istore_n (lv' := [(2, .int ((64 * v_now) + x2_1)), (0, .ref a_t), (1, .int x2_1)]) hx hb d_M_planned_36 rfl hl (by decide) rfl (fun ls hl => ?_)
          refine lv_iconst (v := 0) hx hb d_M_planned_37 (by decide) ?_
          refine lv_istore_n (lv' := [(3, .int 0), (2, .int ((64 * v_now) + x2_1)), (0, .ref a_t), (1, .int x2_1)]) hx hb d_M_planned_38 rfl hl (by decide) rfl (fun ls hl => ?_)
          exact loop39 1000 x2_1 ((64 * v_now) + x2_1) 0 ls H locs (lv_sub hl [2, 3, 1, 0] rfl) hP hD hS hf
  refine lv_iconst (v := 0) hx hb d_M_planned_0 (by decide) ?_
  refine lv_istore_n (lv' := [(1, .int 0), (0, .ref a_t)]) hx hb d_M_planned_1 rfl hl (by decide) rfl (fun ls hl => ?_)
  exact loop2 1000 0 ls H locs (lv_sub hl [1, 0] rfl) hP hD hS hf
abbrev bc_M_sum : ByteArray := prog_13_method_68_code
abbrev y_M_sum : MethodName := ⟨"ObjectBaseModel", "sum", "()J"⟩
def ws_M_sum : List Cond := .code y_M_sum bc_M_sum 1 (some .long) :: obW
theorem d_M_sum_0 : decode bc_M_sum 0 = .ok (.aload_n 0, 1) := by decide +kernel
theorem d_M_sum_1 : decode bc_M_sum 1 = .ok (.getfield 112, 3) := by decide +kernel
theorem d_M_sum_4 : decode bc_M_sum 4 = .ok (.ifCond .eq 7, 3) := by decide +kernel
theorem d_M_sum_7 : decode bc_M_sum 7 = .ok (.lconst 0, 1) := by decide +kernel
theorem d_M_sum_8 : decode bc_M_sum 8 = .ok (.goto 7, 3) := by decide +kernel
theorem d_M_sum_11 : decode bc_M_sum 11 = .ok (.aload_n 0, 1) := by decide +kernel
theorem d_M_sum_12 : decode bc_M_sum 12 = .ok (.getfield 201, 3) := by decide +kernel
theorem d_M_sum_15 : decode bc_M_sum 15 = .ok (.lreturn, 1) := by decide +kernel
def cw_M_sum (G : Nat → ClassId) (a_t a_parent a_owner a_sort a_aim a_indexClass a_indexPath a_classes1 a_dValues a_dSets a_dNames a_values a_sets a_names a_draft a_lengths a_text a_classOfQuestion a_split a_steps a_what a_one a_two a_opened a_openedAt a_stands a_variable a_truth a_rest a_loopAt a_loopFound a_hits : Nat) (v_classes : Int32) (v_fields : Int32) (v_begun : Int32) (v_indexes : Int32) (v_made : Int32) (v_slotted : Int64) (v_half : Int32) (v_open : Int32) (v_known : Int64) (v_fresh : Int64) (v_changed : Int64) (v_renamed : Int32) (v_down : Int32) (v_armed : Int32) (v_written : Int32) (v_logged : Int32) (v_marked : Int32) (v_logSize : Int32) (v_drafted : Int32) (v_questions : Int32) (v_now : Int32) (v_at : Int32) (v_bad : Int32) (v_opens : Int32) (v_deep : Int32) (v_aimed : Int32) (v_truths : Int32) (v_loops : Int32) (v_valued : Int32) (v_value : Int32) (v_set : Int64) (v_latest : Int32) (v_fits : Int32) (v_total : Int64) (v_looked : Int32) : va_W := [(a_t, .inr (11, [.int v_classes, .ref a_parent, .int v_fields, .ref a_owner, .ref a_sort, .ref a_aim, .int v_begun, .int v_indexes, .ref a_indexClass, .ref a_indexPath, .int v_made, .ref a_classes1, .ref a_dValues, .ref a_dSets, .ref a_dNames, .ref a_values, .ref a_sets, .ref a_names, .long v_slotted, .int v_half, .int v_open, .long v_known, .long v_fresh, .long v_changed, .int v_renamed, .int v_down, .int v_armed, .int v_written, .int v_logged, .int v_marked, .int v_logSize, .int v_drafted, .ref a_draft, .int v_questions, .ref a_lengths, .ref a_text, .ref a_classOfQuestion, .ref a_split, .ref a_steps, .ref a_what, .ref a_one, .ref a_two, .int v_now, .int v_at, .int v_bad, .int v_opens, .ref a_opened, .ref a_openedAt, .int v_deep, .int v_aimed, .ref a_stands, .ref a_variable, .int v_truths, .ref a_truth, .int v_loops, .ref a_rest, .ref a_loopAt, .ref a_loopFound, .int v_valued, .int v_value, .long v_set, .int v_latest, .int v_fits, .ref a_hits, .long v_total, .int v_looked]))]
def f_M_sum (v_down : Int32) (v_total : Int64) : Option (Int64) := if v_down = 0 then (some v_total) else (some 0)
set_option maxHeartbeats 4000000 in
set_option maxRecDepth 100000 in
theorem c_M_sum (l : Launch) (D : va_G) (G : Nat → ClassId) (a_t a_parent a_owner a_sort a_aim a_indexClass a_indexPath a_classes1 a_dValues a_dSets a_dNames a_values a_sets a_names a_draft a_lengths a_text a_classOfQuestion a_split a_steps a_what a_one a_two a_opened a_openedAt a_stands a_variable a_truth a_rest a_loopAt a_loopFound a_hits : Nat) (v_classes : Int32) (v_fields : Int32) (v_begun : Int32) (v_indexes : Int32) (v_made : Int32) (v_slotted : Int64) (v_half : Int32) (v_open : Int32) (v_known : Int64) (v_fresh : Int64) (v_changed : Int64) (v_renamed : Int32) (v_down : Int32) (v_armed : Int32) (v_written : Int32) (v_logged : Int32) (v_marked : Int32) (v_logSize : Int32) (v_drafted : Int32) (v_questions : Int32) (v_now : Int32) (v_at : Int32) (v_bad : Int32) (v_opens : Int32) (v_deep : Int32) (v_aimed : Int32) (v_truths : Int32) (v_loops : Int32) (v_valued : Int32) (v_value : Int32) (v_set : Int64) (v_latest : Int32) (v_fits : Int32) (v_total : Int64) (v_looked : Int32) (o : Int64) (hf : f_M_sum v_down v_total = some o) (sz : Nat) : MetL l y_M_sum ws_M_sum ({ frames := 0, cells := 0, slots := 0, locals := 0 }) D (obT G) (cw_M_sum G a_t a_parent a_owner a_sort a_aim a_indexClass a_indexPath a_classes1 a_dValues a_dSets a_dNames a_values a_sets a_names a_draft a_lengths a_text a_classOfQuestion a_split a_steps a_what a_one a_two a_opened a_openedAt a_stands a_variable a_truth a_rest a_loopAt a_loopFound a_hits v_classes v_fields v_begun v_indexes v_made v_slotted v_half v_open v_known v_fresh v_changed v_renamed v_down v_armed v_written v_logged v_marked v_logSize v_drafted v_questions v_now v_at v_bad v_opens v_deep v_aimed v_truths v_loops v_valued v_value v_set v_latest v_fits v_total v_looked) (cw_M_sum G a_t a_parent a_owner a_sort a_aim a_indexClass a_indexPath a_classes1 a_dValues a_dSets a_dNames a_values a_sets a_names a_draft a_lengths a_text a_classOfQuestion a_split a_steps a_what a_one a_two a_opened a_openedAt a_stands a_variable a_truth a_rest a_loopAt a_loopFound a_hits v_classes v_fields v_begun v_indexes v_made v_slotted v_half v_open v_known v_fresh v_changed v_renamed v_down v_armed v_written v_logged v_marked v_logSize v_drafted v_questions v_now v_at v_bad v_opens v_deep v_aimed v_truths v_loops v_valued v_value v_set v_latest v_fits v_total v_looked) [.ref a_t] o sz := by
  refine ob_of (cc := bc_M_sum) (maxL := 1) (ret := (some .long)) (Qc := ObQl D (obT G) (cw_M_sum G a_t a_parent a_owner a_sort a_aim a_indexClass a_indexPath a_classes1 a_dValues a_dSets a_dNames a_values a_sets a_names a_draft a_lengths a_text a_classOfQuestion a_split a_steps a_what a_one a_two a_opened a_openedAt a_stands a_variable a_truth a_rest a_loopAt a_loopFound a_hits v_classes v_fields v_begun v_indexes v_made v_slotted v_half v_open v_known v_fresh v_changed v_renamed v_down v_armed v_written v_logged v_marked v_logSize v_drafted v_questions v_now v_at v_bad v_opens v_deep v_aimed v_truths v_loops v_valued v_value v_set v_latest v_fits v_total v_looked) o) (by decide) rfl (Nat.le_of_ble_eq_true rfl) ?_
  intro p e s m below meth c A ls H locs hx hb hr hml hts hown hlk hnm hZ hP hK hD hA hS hl
  have hret : ∀ (o' : Int64) (H : Heap) (locs : List Loc) (pc : Nat) (ls : Array Slot), some o' = some o → va_P D vwCl (cw_M_sum G a_t a_parent a_owner a_sort a_aim a_indexClass a_indexPath a_classes1 a_dValues a_dSets a_dNames a_values a_sets a_names a_draft a_lengths a_text a_classOfQuestion a_split a_steps a_what a_one a_two a_opened a_openedAt a_stands a_variable a_truth a_rest a_loopAt a_loopFound a_hits v_classes v_fields v_begun v_indexes v_made v_slotted v_half v_open v_known v_fresh v_changed v_renamed v_down v_armed v_written v_logged v_marked v_logSize v_drafted v_questions v_now v_at v_bad v_opens v_deep v_aimed v_truths v_loops v_valued v_value v_set v_latest v_fits v_total v_looked) H → va_D A (cw_M_sum G a_t a_parent a_owner a_sort a_aim a_indexClass a_indexPath a_classes1 a_dValues a_dSets a_dNames a_values a_sets a_names a_draft a_lengths a_text a_classOfQuestion a_split a_steps a_what a_one a_two a_opened a_openedAt a_stands a_variable a_truth a_rest a_loopAt a_loopFound a_hits v_classes v_fields v_begun v_indexes v_made v_slotted v_half v_open v_known v_fresh v_changed v_renamed v_down v_armed v_written v_logged v_marked v_logSize v_drafted v_questions v_now v_at v_bad v_opens v_deep v_aimed v_truths v_loops v_valued v_value v_set v_latest v_fits v_total v_looked) → va_S A s.heap H locs → decode bc_M_sum pc = .ok (.lreturn, 1) → W p l e { frames := 0, cells := 0, slots := 0, locals := 0 } s m ([.ref a_t] : List Value).toArray below meth c H locs 0 0 (MQ below (ObQl D (obT G) (cw_M_sum G a_t a_parent a_owner a_sort a_aim a_indexClass a_indexPath a_classes1 a_dValues a_dSets a_dNames a_values a_sets a_names a_draft a_lengths a_text a_classOfQuestion a_split a_steps a_what a_one a_two a_opened a_openedAt a_stands a_variable a_truth a_rest a_loopAt a_loopFound a_hits v_classes v_fields v_begun v_indexes v_made v_slotted v_half v_open v_known v_fresh v_changed v_renamed v_down v_armed v_written v_logged v_marked v_logSize v_drafted v_questions v_now v_at v_bad v_opens v_deep v_aimed v_truths v_loops v_valued v_value v_set v_latest v_fits v_total v_looked) o A) ([.ref a_t] : List Value).toArray s 0 0 A) (F0 m pc ls [.long o']) := by
    intro o' H locs pc ls he hP hD hS hd
    obtain rfl := Option.some.inj he
    exact ob_lret hx hb hr hlk hK hP hD hS hd
  generalize MQ below (ObQl D (obT G) (cw_M_sum G a_t a_parent a_owner a_sort a_aim a_indexClass a_indexPath a_classes1 a_dValues a_dSets a_dNames a_values a_sets a_names a_draft a_lengths a_text a_classOfQuestion a_split a_steps a_what a_one a_two a_opened a_openedAt a_stands a_variable a_truth a_rest a_loopAt a_loopFound a_hits v_classes v_fields v_begun v_indexes v_made v_slotted v_half v_open v_known v_fresh v_changed v_renamed v_down v_armed v_written v_logged v_marked v_logSize v_drafted v_questions v_now v_at v_bad v_opens v_deep v_aimed v_truths v_loops v_valued v_value v_set v_latest v_fits v_total v_looked) o A) ([.ref a_t] : List Value).toArray s 0 0 A = Q at hret ⊢
  have hl : lv_has ls 1 [(0, .ref a_t)] := hl
  unfold f_M_sum at hf
  refine lv_aload_n hx hb d_M_sum_0 rfl (lv_at hl 0 rfl) ?_
  refine va_get (D := D) (ci := 11) (v := .int v_down) (C := "ObjectBaseModel") (T := TC_M) (N := 66) hx hb hts inC_M hown hK hP 0 rfl rfl 25 (by decide) (hts _ tw812) (fun _ h9 => h9) rfl d_M_sum_1 ?_
  refine lv_if_eq (tgt := 11) hx hb d_M_sum_4 (by decide) (fun hc4 => ?_) (fun hc4 => ?_)
  · have hf := ob_t hc4 hf
    refine lv_aload_n hx hb d_M_sum_11 rfl (lv_at hl 0 rfl) ?_
    refine va_get (D := D) (ci := 11) (v := .long v_total) (C := "ObjectBaseModel") (T := TC_M) (N := 66) hx hb hts inC_M hown hK hP 0 rfl rfl 64 (by decide) (hts _ tw851) (fun _ h9 => h9) rfl d_M_sum_12 ?_
    exact hret v_total H locs _ ls hf hP hD hS d_M_sum_15
  · have hf := ob_f hc4 hf
    refine lv_lconst (v := 0) hx hb d_M_sum_7 (by decide) ?_
    refine lv_goto (tgt := 15) hx hb d_M_sum_8 (by decide) ?_
    exact hret 0 H locs _ ls hf hP hD hS d_M_sum_15
