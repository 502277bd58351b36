abbrev bc_M_path : ByteArray := prog_13_method_44_code
abbrev y_M_path : MethodName := ⟨"ObjectBaseModel", "path", "()I"⟩
def ws_M_path : List Cond := .code y_M_path bc_M_path 5 (some .int) :: obW
theorem d_M_path_0 : decode bc_M_path 0 = .ok (.aload_n 0, 1) := by decide +kernel
theorem d_M_path_1 : decode bc_M_path 1 = .ok (.aload_n 0, 1) := by decide +kernel
theorem d_M_path_2 : decode bc_M_path 2 = .ok (.getfield 245, 3) := by decide +kernel
theorem d_M_path_5 : decode bc_M_path 5 = .ok (.invokevirtual 248, 3) := by decide +kernel
theorem d_M_path_8 : decode bc_M_path 8 = .ok (.bipush 120, 2) := by decide +kernel
theorem d_M_path_10 : decode bc_M_path 10 = .ok (.isub, 1) := by decide +kernel
theorem d_M_path_11 : decode bc_M_path 11 = .ok (.istore_n 1, 1) := by decide +kernel
theorem d_M_path_12 : decode bc_M_path 12 = .ok (.iload_n 1, 1) := by decide +kernel
theorem d_M_path_13 : decode bc_M_path 13 = .ok (.ifCond .lt 17, 3) := by decide +kernel
theorem d_M_path_16 : decode bc_M_path 16 = .ok (.iload_n 1, 1) := by decide +kernel
theorem d_M_path_17 : decode bc_M_path 17 = .ok (.iconst 3, 1) := by decide +kernel
theorem d_M_path_18 : decode bc_M_path 18 = .ok (.if_icmp .ge 12, 3) := by decide +kernel
theorem d_M_path_21 : decode bc_M_path 21 = .ok (.aload_n 0, 1) := by decide +kernel
theorem d_M_path_22 : decode bc_M_path 22 = .ok (.getfield 88, 3) := by decide +kernel
theorem d_M_path_25 : decode bc_M_path 25 = .ok (.iload_n 1, 1) := by decide +kernel
theorem d_M_path_26 : decode bc_M_path 26 = .ok (.iaload, 1) := by decide +kernel
theorem d_M_path_27 : decode bc_M_path 27 = .ok (.goto 4, 3) := by decide +kernel
theorem d_M_path_30 : decode bc_M_path 30 = .ok (.iconst 0, 1) := by decide +kernel
theorem d_M_path_31 : decode bc_M_path 31 = .ok (.istore_n 2, 1) := by decide +kernel
theorem d_M_path_32 : decode bc_M_path 32 = .ok (.iload_n 2, 1) := by decide +kernel
theorem d_M_path_33 : decode bc_M_path 33 = .ok (.ifCond .ne 5, 3) := by decide +kernel
theorem d_M_path_36 : decode bc_M_path 36 = .ok (.iconst 0, 1) := by decide +kernel
theorem d_M_path_37 : decode bc_M_path 37 = .ok (.ireturn, 1) := by decide +kernel
theorem d_M_path_38 : decode bc_M_path 38 = .ok (.aload_n 0, 1) := by decide +kernel
theorem d_M_path_39 : decode bc_M_path 39 = .ok (.dup, 1) := by decide +kernel
theorem d_M_path_40 : decode bc_M_path 40 = .ok (.getfield 245, 3) := by decide +kernel
theorem d_M_path_43 : decode bc_M_path 43 = .ok (.iconst 1, 1) := by decide +kernel
theorem d_M_path_44 : decode bc_M_path 44 = .ok (.iadd, 1) := by decide +kernel
theorem d_M_path_45 : decode bc_M_path 45 = .ok (.putfield 245, 3) := by decide +kernel
theorem d_M_path_48 : decode bc_M_path 48 = .ok (.iconst 2, 1) := by decide +kernel
theorem d_M_path_49 : decode bc_M_path 49 = .ok (.istore_n 3, 1) := by decide +kernel
theorem d_M_path_50 : decode bc_M_path 50 = .ok (.aload_n 0, 1) := by decide +kernel
theorem d_M_path_51 : decode bc_M_path 51 = .ok (.aload_n 0, 1) := by decide +kernel
theorem d_M_path_52 : decode bc_M_path 52 = .ok (.getfield 245, 3) := by decide +kernel
theorem d_M_path_55 : decode bc_M_path 55 = .ok (.invokevirtual 248, 3) := by decide +kernel
theorem d_M_path_58 : decode bc_M_path 58 = .ok (.bipush 46, 2) := by decide +kernel
theorem d_M_path_60 : decode bc_M_path 60 = .ok (.if_icmp .ne 88, 3) := by decide +kernel
theorem d_M_path_63 : decode bc_M_path 63 = .ok (.aload_n 0, 1) := by decide +kernel
theorem d_M_path_64 : decode bc_M_path 64 = .ok (.aload_n 0, 1) := by decide +kernel
theorem d_M_path_65 : decode bc_M_path 65 = .ok (.getfield 245, 3) := by decide +kernel
theorem d_M_path_68 : decode bc_M_path 68 = .ok (.iconst 1, 1) := by decide +kernel
theorem d_M_path_69 : decode bc_M_path 69 = .ok (.iadd, 1) := by decide +kernel
theorem d_M_path_70 : decode bc_M_path 70 = .ok (.invokevirtual 248, 3) := by decide +kernel
theorem d_M_path_73 : decode bc_M_path 73 = .ok (.bipush 97, 2) := by decide +kernel
theorem d_M_path_75 : decode bc_M_path 75 = .ok (.isub, 1) := by decide +kernel
theorem d_M_path_76 : decode bc_M_path 76 = .ok (.istore 4, 2) := by decide +kernel
theorem d_M_path_78 : decode bc_M_path 78 = .ok (.iload_n 3, 1) := by decide +kernel
theorem d_M_path_79 : decode bc_M_path 79 = .ok (.iconst 2, 1) := by decide +kernel
theorem d_M_path_80 : decode bc_M_path 80 = .ok (.if_icmp .ne 14, 3) := by decide +kernel
theorem d_M_path_83 : decode bc_M_path 83 = .ok (.aload_n 0, 1) := by decide +kernel
theorem d_M_path_84 : decode bc_M_path 84 = .ok (.iload_n 2, 1) := by decide +kernel
theorem d_M_path_85 : decode bc_M_path 85 = .ok (.iload 4, 2) := by decide +kernel
theorem d_M_path_87 : decode bc_M_path 87 = .ok (.iconst (-1), 1) := by decide +kernel
theorem d_M_path_88 : decode bc_M_path 88 = .ok (.invokevirtual 136, 3) := by decide +kernel
theorem d_M_path_91 : decode bc_M_path 91 = .ok (.ifCond .ne 5, 3) := by decide +kernel
theorem d_M_path_94 : decode bc_M_path 94 = .ok (.iconst 0, 1) := by decide +kernel
theorem d_M_path_95 : decode bc_M_path 95 = .ok (.ireturn, 1) := by decide +kernel
theorem d_M_path_96 : decode bc_M_path 96 = .ok (.aload_n 0, 1) := by decide +kernel
theorem d_M_path_97 : decode bc_M_path 97 = .ok (.getfield 16, 3) := by decide +kernel
theorem d_M_path_100 : decode bc_M_path 100 = .ok (.iload 4, 2) := by decide +kernel
theorem d_M_path_102 : decode bc_M_path 102 = .ok (.iaload, 1) := by decide +kernel
theorem d_M_path_103 : decode bc_M_path 103 = .ok (.ifCond .ne 7, 3) := by decide +kernel
theorem d_M_path_106 : decode bc_M_path 106 = .ok (.iconst 1, 1) := by decide +kernel
theorem d_M_path_107 : decode bc_M_path 107 = .ok (.goto 19, 3) := by decide +kernel
theorem d_M_path_110 : decode bc_M_path 110 = .ok (.aload_n 0, 1) := by decide +kernel
theorem d_M_path_111 : decode bc_M_path 111 = .ok (.getfield 16, 3) := by decide +kernel
theorem d_M_path_114 : decode bc_M_path 114 = .ok (.iload 4, 2) := by decide +kernel
theorem d_M_path_116 : decode bc_M_path 116 = .ok (.iaload, 1) := by decide +kernel
theorem d_M_path_117 : decode bc_M_path 117 = .ok (.iconst 1, 1) := by decide +kernel
theorem d_M_path_118 : decode bc_M_path 118 = .ok (.if_icmp .ne 7, 3) := by decide +kernel
theorem d_M_path_121 : decode bc_M_path 121 = .ok (.iconst 2, 1) := by decide +kernel
theorem d_M_path_122 : decode bc_M_path 122 = .ok (.goto 4, 3) := by decide +kernel
theorem d_M_path_125 : decode bc_M_path 125 = .ok (.iconst 3, 1) := by decide +kernel
theorem d_M_path_126 : decode bc_M_path 126 = .ok (.istore_n 3, 1) := by decide +kernel
theorem d_M_path_127 : decode bc_M_path 127 = .ok (.aload_n 0, 1) := by decide +kernel
theorem d_M_path_128 : decode bc_M_path 128 = .ok (.getfield 19, 3) := by decide +kernel
theorem d_M_path_131 : decode bc_M_path 131 = .ok (.iload 4, 2) := by decide +kernel
theorem d_M_path_133 : decode bc_M_path 133 = .ok (.iaload, 1) := by decide +kernel
theorem d_M_path_134 : decode bc_M_path 134 = .ok (.istore_n 2, 1) := by decide +kernel
theorem d_M_path_135 : decode bc_M_path 135 = .ok (.aload_n 0, 1) := by decide +kernel
theorem d_M_path_136 : decode bc_M_path 136 = .ok (.dup, 1) := by decide +kernel
theorem d_M_path_137 : decode bc_M_path 137 = .ok (.getfield 245, 3) := by decide +kernel
theorem d_M_path_140 : decode bc_M_path 140 = .ok (.iconst 2, 1) := by decide +kernel
theorem d_M_path_141 : decode bc_M_path 141 = .ok (.iadd, 1) := by decide +kernel
theorem d_M_path_142 : decode bc_M_path 142 = .ok (.putfield 245, 3) := by decide +kernel
theorem d_M_path_145 : decode bc_M_path 145 = .ok (.goto (-95), 3) := by decide +kernel
theorem d_M_path_148 : decode bc_M_path 148 = .ok (.aload_n 0, 1) := by decide +kernel
theorem d_M_path_149 : decode bc_M_path 149 = .ok (.iload_n 2, 1) := by decide +kernel
theorem d_M_path_150 : decode bc_M_path 150 = .ok (.putfield 266, 3) := by decide +kernel
theorem d_M_path_153 : decode bc_M_path 153 = .ok (.iload_n 3, 1) := by decide +kernel
theorem d_M_path_154 : decode bc_M_path 154 = .ok (.ireturn, 1) := by decide +kernel
def cw_M_path (G : Nat → ClassId) (a_t a_lengths a_text a_owner a_parent a_sort a_aim a_stands a_indexClass a_indexPath a_classes1 a_dValues a_dSets a_dNames a_values a_sets a_names a_draft a_classOfQuestion a_split a_steps a_what a_one a_two a_opened a_openedAt a_variable a_truth a_rest a_loopAt a_loopFound a_hits : Nat) (v_classes : Int32) (v_fields : Int32) (v_begun : Int32) (v_indexes : Int32) (v_made : Int32) (v_slotted : Int64) (v_half : Int32) (v_open : Int32) (v_known : Int64) (v_fresh : Int64) (v_changed : Int64) (v_renamed : Int32) (v_down : Int32) (v_armed : Int32) (v_written : Int32) (v_logged : Int32) (v_marked : Int32) (v_logSize : Int32) (v_drafted : Int32) (v_questions : Int32) (v_now : Int32) (v_at : Int32) (v_bad : Int32) (v_opens : Int32) (v_deep : Int32) (v_aimed : Int32) (v_truths : Int32) (v_loops : Int32) (v_valued : Int32) (v_value : Int32) (v_set : Int64) (v_latest : Int32) (v_fits : Int32) (v_total : Int64) (v_looked : Int32) (v_lengths : Nat → Int32) (v_text : Nat → Int32) (v_owner : Nat → Int32) (v_parent : Nat → Int32) (v_sort : Nat → Int32) (v_aim : Nat → Int32) (v_stands : Nat → Int32) : va_W := [(a_t, .inr (11, [.int v_classes, .ref a_parent, .int v_fields, .ref a_owner, .ref a_sort, .ref a_aim, .int v_begun, .int v_indexes, .ref a_indexClass, .ref a_indexPath, .int v_made, .ref a_classes1, .ref a_dValues, .ref a_dSets, .ref a_dNames, .ref a_values, .ref a_sets, .ref a_names, .long v_slotted, .int v_half, .int v_open, .long v_known, .long v_fresh, .long v_changed, .int v_renamed, .int v_down, .int v_armed, .int v_written, .int v_logged, .int v_marked, .int v_logSize, .int v_drafted, .ref a_draft, .int v_questions, .ref a_lengths, .ref a_text, .ref a_classOfQuestion, .ref a_split, .ref a_steps, .ref a_what, .ref a_one, .ref a_two, .int v_now, .int v_at, .int v_bad, .int v_opens, .ref a_opened, .ref a_openedAt, .int v_deep, .int v_aimed, .ref a_stands, .ref a_variable, .int v_truths, .ref a_truth, .int v_loops, .ref a_rest, .ref a_loopAt, .ref a_loopFound, .int v_valued, .int v_value, .long v_set, .int v_latest, .int v_fits, .ref a_hits, .long v_total, .int v_looked])), (a_lengths, .inl (G 0, 13, .inl v_lengths)), (a_text, .inl (G 0, 832, .inl v_text)), (a_owner, .inl (G 0, 8, .inl v_owner)), (a_parent, .inl (G 0, 6, .inl v_parent)), (a_sort, .inl (G 0, 8, .inl v_sort)), (a_aim, .inl (G 0, 8, .inl v_aim)), (a_stands, .inl (G 0, 3, .inl v_stands))]
def f_M_path_J126 (k50 : Int32 → Int32 → Int32 → Int32 → Option (Int32 × Int32 × Int32)) (v_aim : Nat → Int32) (x126_4 : Int32) (y126_0 : Int32) (v_at_126 : Int32) (v_aimed_126 : Int32) : Option (Int32 × Int32 × Int32) := ob_iv x126_4 8 (k50 (v_aim x126_4.toNatClampNeg) y126_0 (v_at_126 + 2) v_aimed_126)
def f_M_path_B50 (v_now : Int32) (v_lengths : Nat → Int32) (v_text : Nat → Int32) (v_fields : Int32) (v_owner : Nat → Int32) (v_parent : Nat → Int32) (v_sort : Nat → Int32) (v_aim : Nat → Int32) (k50 : Int32 → Int32 → Int32 → Int32 → Option (Int32 × Int32 × Int32)) (x50_2 : Int32) (x50_3 : Int32) (v_at_50 : Int32) (v_aimed_50 : Int32) : Option (Int32 × Int32 × Int32) := (f_M_charAt v_now v_lengths v_text v_at_50).bind fun o55 => (if o55 = 46 then ((f_M_charAt v_now v_lengths v_text (v_at_50 + 1)).bind fun o70 => (if x50_3 = 2 then ((f_M_has v_fields v_owner v_parent v_sort x50_2 (o70 - 97) (-1)).bind fun o88 => (if o88 = 0 then (some (0, v_at_50, v_aimed_50)) else (ob_iv (o70 - 97) 8 (if (v_sort (o70 - 97).toNatClampNeg) = 0 then (f_M_path_J126 k50 v_aim (o70 - 97) 1 v_at_50 v_aimed_50) else (ob_iv (o70 - 97) 8 (if (v_sort (o70 - 97).toNatClampNeg) = 1 then (f_M_path_J126 k50 v_aim (o70 - 97) 2 v_at_50 v_aimed_50) else (f_M_path_J126 k50 v_aim (o70 - 97) 3 v_at_50 v_aimed_50))))))) else (some (0, v_at_50, v_aimed_50)))) else (some (x50_3, v_at_50, x50_2)))
def f_M_path_L50 (v_now : Int32) (v_lengths : Nat → Int32) (v_text : Nat → Int32) (v_fields : Int32) (v_owner : Nat → Int32) (v_parent : Nat → Int32) (v_sort : Nat → Int32) (v_aim : Nat → Int32) : Nat → Int32 → Int32 → Int32 → Int32 → Option (Int32 × Int32 × Int32) := ob_lp4 (f_M_path_B50 v_now v_lengths v_text v_fields v_owner v_parent v_sort v_aim)
def f_M_path_J31 (v_now : Int32) (v_lengths : Nat → Int32) (v_text : Nat → Int32) (v_fields : Int32) (v_owner : Nat → Int32) (v_parent : Nat → Int32) (v_sort : Nat → Int32) (v_aim : Nat → Int32) (y31_0 : Int32) (v_at_31 : Int32) (v_aimed_31 : Int32) : Option (Int32 × Int32 × Int32) := if y31_0 = 0 then (some (0, v_at_31, v_aimed_31)) else (f_M_path_L50 v_now v_lengths v_text v_fields v_owner v_parent v_sort v_aim 1000 y31_0 2 (v_at_31 + 1) v_aimed_31)
def f_M_path_J30 (v_now : Int32) (v_lengths : Nat → Int32) (v_text : Nat → Int32) (v_fields : Int32) (v_owner : Nat → Int32) (v_parent : Nat → Int32) (v_sort : Nat → Int32) (v_aim : Nat → Int32) (v_at_30 : Int32) (v_aimed_30 : Int32) : Option (Int32 × Int32 × Int32) := f_M_path_J31 v_now v_lengths v_text v_fields v_owner v_parent v_sort v_aim 0 v_at_30 v_aimed_30
def f_M_path (v_fields : Int32) (v_now : Int32) (v_at : Int32) (v_aimed : Int32) (v_lengths : Nat → Int32) (v_text : Nat → Int32) (v_owner : Nat → Int32) (v_parent : Nat → Int32) (v_sort : Nat → Int32) (v_aim : Nat → Int32) (v_stands : Nat → Int32) : Option (Int32 × Int32 × Int32) := (f_M_charAt v_now v_lengths v_text v_at).bind fun o5 => (if (o5 - 120) < 0 then (f_M_path_J30 v_now v_lengths v_text v_fields v_owner v_parent v_sort v_aim v_at v_aimed) else (if 3 ≤ (o5 - 120) then (f_M_path_J30 v_now v_lengths v_text v_fields v_owner v_parent v_sort v_aim v_at v_aimed) else (ob_iv (o5 - 120) 3 (f_M_path_J31 v_now v_lengths v_text v_fields v_owner v_parent v_sort v_aim (v_stands (o5 - 120).toNatClampNeg) v_at v_aimed))))
set_option maxHeartbeats 4000000 in
set_option maxRecDepth 100000 in
theorem c_M_path (l : Launch) (D : va_G) (G : Nat → ClassId) (a_t a_lengths a_text a_owner a_parent a_sort a_aim a_stands a_indexClass a_indexPath a_classes1 a_dValues a_dSets a_dNames a_values a_sets a_names a_draft a_classOfQuestion a_split a_steps a_what a_one a_two a_opened a_openedAt a_variable a_truth a_rest a_loopAt a_loopFound a_hits : Nat) (v_classes : Int32) (v_fields : Int32) (v_begun : Int32) (v_indexes : Int32) (v_made : Int32) (v_slotted : Int64) (v_half : Int32) (v_open : Int32) (v_known : Int64) (v_fresh : Int64) (v_changed : Int64) (v_renamed : Int32) (v_down : Int32) (v_armed : Int32) (v_written : Int32) (v_logged : Int32) (v_marked : Int32) (v_logSize : Int32) (v_drafted : Int32) (v_questions : Int32) (v_now : Int32) (v_at : Int32) (v_bad : Int32) (v_opens : Int32) (v_deep : Int32) (v_aimed : Int32) (v_truths : Int32) (v_loops : Int32) (v_valued : Int32) (v_value : Int32) (v_set : Int64) (v_latest : Int32) (v_fits : Int32) (v_total : Int64) (v_looked : Int32) (v_lengths : Nat → Int32) (v_text : Nat → Int32) (v_owner : Nat → Int32) (v_parent : Nat → Int32) (v_sort : Nat → Int32) (v_aim : Nat → Int32) (v_stands : Nat → Int32) (o : Int32 × Int32 × Int32) (hf : f_M_path v_fields v_now v_at v_aimed v_lengths v_text v_owner v_parent v_sort v_aim v_stands = some o) (sz : Nat) : MetI l y_M_path ws_M_path ({ frames := 2, cells := 0, slots := 0, locals := 47 }) D (obT G) (cw_M_path G a_t a_lengths a_text a_owner a_parent a_sort a_aim a_stands a_indexClass a_indexPath a_classes1 a_dValues a_dSets a_dNames a_values a_sets a_names a_draft a_classOfQuestion a_split a_steps a_what a_one a_two a_opened a_openedAt a_variable a_truth a_rest a_loopAt a_loopFound a_hits v_classes v_fields v_begun v_indexes v_made v_slotted v_half v_open v_known v_fresh v_changed v_renamed v_down v_armed v_written v_logged v_marked v_logSize v_drafted v_questions v_now v_at v_bad v_opens v_deep v_aimed v_truths v_loops v_valued v_value v_set v_latest v_fits v_total v_looked v_lengths v_text v_owner v_parent v_sort v_aim v_stands) (cw_M_path G a_t a_lengths a_text a_owner a_parent a_sort a_aim a_stands a_indexClass a_indexPath a_classes1 a_dValues a_dSets a_dNames a_values a_sets a_names a_draft a_classOfQuestion a_split a_steps a_what a_one a_two a_opened a_openedAt a_variable a_truth a_rest a_loopAt a_loopFound a_hits v_classes v_fields v_begun v_indexes v_made v_slotted v_half v_open v_known v_fresh v_changed v_renamed v_down v_armed v_written v_logged v_marked v_logSize v_drafted v_questions v_now o.2.1 v_bad v_opens v_deep o.2.2 v_truths v_loops v_valued v_value v_set v_latest v_fits v_total v_looked v_lengths v_text v_owner v_parent v_sort v_aim v_stands) [.ref a_t] o.1 sz := by
  refine ob_of (cc := bc_M_path) (maxL := 5) (ret := (some .int)) (Qc := ObQi D (obT G) (cw_M_path G a_t a_lengths a_text a_owner a_parent a_sort a_aim a_stands a_indexClass a_indexPath a_classes1 a_dValues a_dSets a_dNames a_values a_sets a_names a_draft a_classOfQuestion a_split a_steps a_what a_one a_two a_opened a_openedAt a_variable a_truth a_rest a_loopAt a_loopFound a_hits v_classes v_fields v_begun v_indexes v_made v_slotted v_half v_open v_known v_fresh v_changed v_renamed v_down v_armed v_written v_logged v_marked v_logSize v_drafted v_questions v_now o.2.1 v_bad v_opens v_deep o.2.2 v_truths v_loops v_valued v_value v_set v_latest v_fits v_total v_looked v_lengths v_text v_owner v_parent v_sort v_aim v_stands) o.1) (by decide) rfl (Nat.le_of_ble_eq_true rfl) ?_
  intro p e s m below meth c A ls H locs hx hb hr hml hts hown hlk hnm hZ hP hK hD hA hS hl
  have hret : ∀ (o' : Int32 × Int32 × Int32) (H : Heap) (locs : List Loc) (pc : Nat) (ls : Array Slot), some o' = some o → va_P D vwCl (cw_M_path G a_t a_lengths a_text a_owner a_parent a_sort a_aim a_stands a_indexClass a_indexPath a_classes1 a_dValues a_dSets a_dNames a_values a_sets a_names a_draft a_classOfQuestion a_split a_steps a_what a_one a_two a_opened a_openedAt a_variable a_truth a_rest a_loopAt a_loopFound a_hits v_classes v_fields v_begun v_indexes v_made v_slotted v_half v_open v_known v_fresh v_changed v_renamed v_down v_armed v_written v_logged v_marked v_logSize v_drafted v_questions v_now o'.2.1 v_bad v_opens v_deep o'.2.2 v_truths v_loops v_valued v_value v_set v_latest v_fits v_total v_looked v_lengths v_text v_owner v_parent v_sort v_aim v_stands) H → va_D A (cw_M_path G a_t a_lengths a_text a_owner a_parent a_sort a_aim a_stands a_indexClass a_indexPath a_classes1 a_dValues a_dSets a_dNames a_values a_sets a_names a_draft a_classOfQuestion a_split a_steps a_what a_one a_two a_opened a_openedAt a_variable a_truth a_rest a_loopAt a_loopFound a_hits v_classes v_fields v_begun v_indexes v_made v_slotted v_half v_open v_known v_fresh v_changed v_renamed v_down v_armed v_written v_logged v_marked v_logSize v_drafted v_questions v_now o'.2.1 v_bad v_opens v_deep o'.2.2 v_truths v_loops v_valued v_value v_set v_latest v_fits v_total v_looked v_lengths v_text v_owner v_parent v_sort v_aim v_stands) → va_S A s.heap H locs → narrow .int (.int o'.1) = .int o'.1 → decode bc_M_path pc = .ok (.ireturn, 1) → W p l e { frames := 2, cells := 0, slots := 0, locals := 47 } s m ([.ref a_t] : List Value).toArray below meth c H locs 0 0 (MQ below (ObQi D (obT G) (cw_M_path G a_t a_lengths a_text a_owner a_parent a_sort a_aim a_stands a_indexClass a_indexPath a_classes1 a_dValues a_dSets a_dNames a_values a_sets a_names a_draft a_classOfQuestion a_split a_steps a_what a_one a_two a_opened a_openedAt a_variable a_truth a_rest a_loopAt a_loopFound a_hits v_classes v_fields v_begun v_indexes v_made v_slotted v_half v_open v_known v_fresh v_changed v_renamed v_down v_armed v_written v_logged v_marked v_logSize v_drafted v_questions v_now o.2.1 v_bad v_opens v_deep o.2.2 v_truths v_loops v_valued v_value v_set v_latest v_fits v_total v_looked v_lengths v_text v_owner v_parent v_sort v_aim v_stands) o.1 A) ([.ref a_t] : List Value).toArray s 0 0 A) (F0 m pc ls [.int o'.1]) := by
    intro o' H locs pc ls he hP hD hS hn hd
    obtain rfl := Option.some.inj he
    exact ob_iret hx hb hr hlk hK hP hD hS hn hd
  generalize MQ below (ObQi D (obT G) (cw_M_path G a_t a_lengths a_text a_owner a_parent a_sort a_aim a_stands a_indexClass a_indexPath a_classes1 a_dValues a_dSets a_dNames a_values a_sets a_names a_draft a_classOfQuestion a_split a_steps a_what a_one a_two a_opened a_openedAt a_variable a_truth a_rest a_loopAt a_loopFound a_hits v_classes v_fields v_begun v_indexes v_made v_slotted v_half v_open v_known v_fresh v_changed v_renamed v_down v_armed v_written v_logged v_marked v_logSize v_drafted v_questions v_now o.2.1 v_bad v_opens v_deep o.2.2 v_truths v_loops v_valued v_value v_set v_latest v_fits v_total v_looked v_lengths v_text v_owner v_parent v_sort v_aim v_stands) o.1 A) ([.ref a_t] : List Value).toArray s 0 0 A = Q at hret ⊢
  have hl : lv_has ls 5 [(0, .ref a_t)] := hl
  unfold f_M_path at hf
  have loop50 : ∀ (n50 : Nat) (x50_2 : Int32) (x50_3 : Int32) (v_at_50 : Int32) (v_aimed_50 : Int32) (ls : Array Slot) (H : Heap) (locs : List Loc), lv_has ls 5 [(0, .ref a_t), (2, .int x50_2), (3, .int x50_3)] → va_P D vwCl (cw_M_path G a_t a_lengths a_text a_owner a_parent a_sort a_aim a_stands a_indexClass a_indexPath a_classes1 a_dValues a_dSets a_dNames a_values a_sets a_names a_draft a_classOfQuestion a_split a_steps a_what a_one a_two a_opened a_openedAt a_variable a_truth a_rest a_loopAt a_loopFound a_hits v_classes v_fields v_begun v_indexes v_made v_slotted v_half v_open v_known v_fresh v_changed v_renamed v_down v_armed v_written v_logged v_marked v_logSize v_drafted v_questions v_now v_at_50 v_bad v_opens v_deep v_aimed_50 v_truths v_loops v_valued v_value v_set v_latest v_fits v_total v_looked v_lengths v_text v_owner v_parent v_sort v_aim v_stands) H → va_D A (cw_M_path G a_t a_lengths a_text a_owner a_parent a_sort a_aim a_stands a_indexClass a_indexPath a_classes1 a_dValues a_dSets a_dNames a_values a_sets a_names a_draft a_classOfQuestion a_split a_steps a_what a_one a_two a_opened a_openedAt a_variable a_truth a_rest a_loopAt a_loopFound a_hits v_classes v_fields v_begun v_indexes v_made v_slotted v_half v_open v_known v_fresh v_changed v_renamed v_down v_armed v_written v_logged v_marked v_logSize v_drafted v_questions v_now v_at_50 v_bad v_opens v_deep v_aimed_50 v_truths v_loops v_valued v_value v_set v_latest v_fits v_total v_looked v_lengths v_text v_owner v_parent v_sort v_aim v_stands) → va_S A s.heap H locs → f_M_path_L50 v_now v_lengths v_text v_fields v_owner v_parent v_sort v_aim n50 x50_2 x50_3 v_at_50 v_aimed_50 = some o → W p l e ({ frames := 2, cells := 0, slots := 0, locals := 47 }) s m ([.ref a_t] : List Value).toArray below meth c H locs 0 0 Q (F0 m 50 ls []) := by
    intro n50
    induction n50 with
    | zero => intro x50_2 x50_3 v_at_50 v_aimed_50 ls H locs hl hP hD hS hf; exact ob_no hf
    | succ n50 ih50 =>
      intro x50_2 x50_3 v_at_50 v_aimed_50 ls H locs hl hP hD hS hf
      have hf : f_M_path_B50 v_now v_lengths v_text v_fields v_owner v_parent v_sort v_aim (f_M_path_L50 v_now v_lengths v_text v_fields v_owner v_parent v_sort v_aim n50) x50_2 x50_3 v_at_50 v_aimed_50 = some o := hf
      unfold f_M_path_B50 at hf
      have blk126 : ∀ (x126_4 : Int32) (y126_0 : Int32) (v_at_126 : Int32) (v_aimed_126 : Int32) (ls : Array Slot) (H : Heap) (locs : List Loc), lv_has ls 5 [(0, .ref a_t), (4, .int x126_4)] → va_P D vwCl (cw_M_path G a_t a_lengths a_text a_owner a_parent a_sort a_aim a_stands a_indexClass a_indexPath a_classes1 a_dValues a_dSets a_dNames a_values a_sets a_names a_draft a_classOfQuestion a_split a_steps a_what a_one a_two a_opened a_openedAt a_variable a_truth a_rest a_loopAt a_loopFound a_hits v_classes v_fields v_begun v_indexes v_made v_slotted v_half v_open v_known v_fresh v_changed v_renamed v_down v_armed v_written v_logged v_marked v_logSize v_drafted v_questions v_now v_at_126 v_bad v_opens v_deep v_aimed_126 v_truths v_loops v_valued v_value v_set v_latest v_fits v_total v_looked v_lengths v_text v_owner v_parent v_sort v_aim v_stands) H → va_D A (cw_M_path G a_t a_lengths a_text a_owner a_parent a_sort a_aim a_stands a_indexClass a_indexPath a_classes1 a_dValues a_dSets a_dNames a_values a_sets a_names a_draft a_classOfQuestion a_split a_steps a_what a_one a_two a_opened a_openedAt a_variable a_truth a_rest a_loopAt a_loopFound a_hits v_classes v_fields v_begun v_indexes v_made v_slotted v_half v_open v_known v_fresh v_changed v_renamed v_down v_armed v_written v_logged v_marked v_logSize v_drafted v_questions v_now v_at_126 v_bad v_opens v_deep v_aimed_126 v_truths v_loops v_valued v_value v_set v_latest v_fits v_total v_looked v_lengths v_text v_owner v_parent v_sort v_aim v_stands) → va_S A s.heap H locs → f_M_path_J126 (f_M_path_L50 v_now v_lengths v_text v_fields v_owner v_parent v_sort v_aim n50) v_aim x126_4 y126_0 v_at_126 v_aimed_126 = some o → W p l e ({ frames := 2, cells := 0, slots := 0, locals := 47 }) s m ([.ref a_t] : List Value).toArray below meth c H locs 0 0 Q (F0 m 126 ls [.int y126_0]) := by
        intro x126_4 y126_0 v_at_126 v_aimed_126 ls H locs hl hP hD hS hf
        unfold f_M_path_J126 at hf
        refine lv_istore_n (lv' := [(3, .int y126_0), (0, .ref a_t), (4, .int x126_4)]) hx hb d_M_path_126 rfl hl (by decide) rfl (fun ls hl => ?_)
        refine lv_aload_n hx hb d_M_path_127 rfl (lv_at hl 1 rfl) ?_
        refine va_get (D := D) (ci := 11) (v := .ref a_aim) (C := "ObjectBaseModel") (T := TC_M) (N := 66) hx hb hts inC_M hown hK hP 0 rfl rfl 5 (by decide) (hts _ tw792) (fun _ h9 => h9) rfl d_M_path_128 ?_
        refine lv_iload hx hb d_M_path_131 (lv_at hl 2 rfl) ?_
        obtain ⟨hg133, hf⟩ := ob_iv_g hf
        refine va_iald hx hb hK hP 6 0 rfl rfl hg133 d_M_path_133 ?_
        refine lv_istore_n (lv' := [(2, .int (v_aim x126_4.toNatClampNeg)), (3, .int y126_0), (0, .ref a_t), (4, .int x126_4)]) hx hb d_M_path_134 rfl hl (by decide) rfl (fun ls hl => ?_)
        refine lv_aload_n hx hb d_M_path_135 rfl (lv_at hl 2 rfl) ?_
        refine lv_dup hx hb d_M_path_136 rfl ?_
        refine va_get (D := D) (ci := 11) (v := .int v_at_126) (C := "ObjectBaseModel") (T := TC_M) (N := 66) hx hb hts inC_M hown hK hP 0 rfl rfl 43 (by decide) (hts _ tw830) (fun _ h9 => h9) rfl d_M_path_137 ?_
        refine lv_iconst (v := 2) hx hb d_M_path_140 (by decide) ?_
        refine lv_iadd hx hb d_M_path_141 ?_
        refine va_put (D := D) (ci := 11) (v := .int (v_at_126 + 2)) (ty := .int) (C := "ObjectBaseModel") (T := TC_M) (N := 66) hx hb hts inC_M tyC_M tyC_M_ok nmC_M hown hK hP hD hS 0 rfl rfl 43 (by decide) (hts _ tw830) (fun _ h9 => h9) rfl (by decide +kernel) rfl rfl (Nat.le_of_ble_eq_true rfl) d_M_path_142 (fun H locs hP hD hS => ?_)
        have hP : va_P D vwCl (cw_M_path G a_t a_lengths a_text a_owner a_parent a_sort a_aim a_stands a_indexClass a_indexPath a_classes1 a_dValues a_dSets a_dNames a_values a_sets a_names a_draft a_classOfQuestion a_split a_steps a_what a_one a_two a_opened a_openedAt a_variable a_truth a_rest a_loopAt a_loopFound a_hits v_classes v_fields v_begun v_indexes v_made v_slotted v_half v_open v_known v_fresh v_changed v_renamed v_down v_armed v_written v_logged v_marked v_logSize v_drafted v_questions v_now (v_at_126 + 2) v_bad v_opens v_deep v_aimed_126 v_truths v_loops v_valued v_value v_set v_latest v_fits v_total v_looked v_lengths v_text v_owner v_parent v_sort v_aim v_stands) H := hP
        have hD : va_D A (cw_M_path G a_t a_lengths a_text a_owner a_parent a_sort a_aim a_stands a_indexClass a_indexPath a_classes1 a_dValues a_dSets a_dNames a_values a_sets a_names a_draft a_classOfQuestion a_split a_steps a_what a_one a_two a_opened a_openedAt a_variable a_truth a_rest a_loopAt a_loopFound a_hits v_classes v_fields v_begun v_indexes v_made v_slotted v_half v_open v_known v_fresh v_changed v_renamed v_down v_armed v_written v_logged v_marked v_logSize v_drafted v_questions v_now (v_at_126 + 2) v_bad v_opens v_deep v_aimed_126 v_truths v_loops v_valued v_value v_set v_latest v_fits v_total v_looked v_lengths v_text v_owner v_parent v_sort v_aim v_stands) := hD
        refine lv_goto (tgt := 50) hx hb d_M_path_145 (by decide) ?_
        exact ih50 (v_aim x126_4.toNatClampNeg) y126_0 (v_at_126 + 2) v_aimed_126 ls H locs (lv_sub hl [2, 0, 1] rfl) hP hD hS hf
      refine lv_aload_n hx hb d_M_path_50 rfl (lv_at hl 0 rfl) ?_
      refine lv_aload_n hx hb d_M_path_51 rfl (lv_at hl 0 rfl) ?_
      refine va_get (D := D) (ci := 11) (v := .int v_at_50) (C := "ObjectBaseModel") (T := TC_M) (N := 66) hx hb hts inC_M hown hK hP 0 rfl rfl 43 (by decide) (hts _ tw830) (fun _ h9 => h9) rfl d_M_path_52 ?_
      obtain ⟨o55, ho55, hf⟩ := ob_b hf
      refine ob_calli (w2 := (cw_M_path G a_t a_lengths a_text a_owner a_parent a_sort a_aim a_stands a_indexClass a_indexPath a_classes1 a_dValues a_dSets a_dNames a_values a_sets a_names a_draft a_classOfQuestion a_split a_steps a_what a_one a_two a_opened a_openedAt a_variable a_truth a_rest a_loopAt a_loopFound a_hits v_classes v_fields v_begun v_indexes v_made v_slotted v_half v_open v_known v_fresh v_changed v_renamed v_down v_armed v_written v_logged v_marked v_logSize v_drafted v_questions v_now v_at_50 v_bad v_opens v_deep v_aimed_50 v_truths v_loops v_valued v_value v_set v_latest v_fits v_total v_looked v_lengths v_text v_owner v_parent v_sort v_aim v_stands)) (va_runV (As := [.int v_at_50]) (rest := []) ⟨hx, hb, hml, hown, hts⟩ (c_M_charAt l D G a_t a_lengths a_text a_parent a_owner a_sort a_aim a_indexClass a_indexPath a_classes1 a_dValues a_dSets a_dNames a_values a_sets a_names a_draft a_classOfQuestion a_split a_steps a_what a_one a_two a_opened a_openedAt a_stands a_variable a_truth a_rest a_loopAt a_loopFound a_hits v_classes v_fields v_begun v_indexes v_made v_slotted v_half v_open v_known v_fresh v_changed v_renamed v_down v_armed v_written v_logged v_marked v_logSize v_drafted v_questions v_now v_at_50 v_bad v_opens v_deep v_aimed_50 v_truths v_loops v_valued v_value v_set v_latest v_fits v_total v_looked v_lengths v_text v_at_50 o55 ho55 H.size) (cwV 1 hts (gV tw1136 tw1138 tp40 tw11 tw1139) rfl rfl rfl (by decide +kernel) ⟨Nat.le_of_ble_eq_true rfl, Nat.le_of_ble_eq_true rfl⟩) (ob_preV (q0 := 0) (ci := 11) hZ hK hP hD [0, 1, 2] rfl rfl rfl rfl rfl) rfl rfl hl.1 rfl (lv_room (Nat.le_of_ble_eq_true rfl)) d_M_path_55 ⟨Nat.le_refl _, Nat.le_refl _⟩) hP hD hA hS [0, 1, 2] rfl rfl rfl rfl (fun H locs hP hD hS => ?_)
      refine lv_bipush (v := 46) hx hb d_M_path_58 (by decide) ?_
      refine lv_icmp_ne (tgt := 148) hx hb d_M_path_60 (by decide) (fun hc60 => ?_) (fun hc60 => ?_)
      · have hf := ob_f hc60 hf
        refine lv_aload_n hx hb d_M_path_148 rfl (lv_at hl 0 rfl) ?_
        refine lv_iload_n hx hb d_M_path_149 rfl (lv_at hl 1 rfl) ?_
        refine va_put (D := D) (ci := 11) (v := .int x50_2) (ty := .int) (C := "ObjectBaseModel") (T := TC_M) (N := 66) hx hb hts inC_M tyC_M tyC_M_ok nmC_M hown hK hP hD hS 0 rfl rfl 49 (by decide) (hts _ tw836) (fun _ h9 => h9) rfl (by decide +kernel) rfl rfl (Nat.le_of_ble_eq_true rfl) d_M_path_150 (fun H locs hP hD hS => ?_)
        have hP : va_P D vwCl (cw_M_path G a_t a_lengths a_text a_owner a_parent a_sort a_aim a_stands a_indexClass a_indexPath a_classes1 a_dValues a_dSets a_dNames a_values a_sets a_names a_draft a_classOfQuestion a_split a_steps a_what a_one a_two a_opened a_openedAt a_variable a_truth a_rest a_loopAt a_loopFound a_hits v_classes v_fields v_begun v_indexes v_made v_slotted v_half v_open v_known v_fresh v_changed v_renamed v_down v_armed v_written v_logged v_marked v_logSize v_drafted v_questions v_now v_at_50 v_bad v_opens v_deep x50_2 v_truths v_loops v_valued v_value v_set v_latest v_fits v_total v_looked v_lengths v_text v_owner v_parent v_sort v_aim v_stands) H := hP
        have hD : va_D A (cw_M_path G a_t a_lengths a_text a_owner a_parent a_sort a_aim a_stands a_indexClass a_indexPath a_classes1 a_dValues a_dSets a_dNames a_values a_sets a_names a_draft a_classOfQuestion a_split a_steps a_what a_one a_two a_opened a_openedAt a_variable a_truth a_rest a_loopAt a_loopFound a_hits v_classes v_fields v_begun v_indexes v_made v_slotted v_half v_open v_known v_fresh v_changed v_renamed v_down v_armed v_written v_logged v_marked v_logSize v_drafted v_questions v_now v_at_50 v_bad v_opens v_deep x50_2 v_truths v_loops v_valued v_value v_set v_latest v_fits v_total v_looked v_lengths v_text v_owner v_parent v_sort v_aim v_stands) := hD
        refine lv_iload_n hx hb d_M_path_153 rfl (lv_at hl 2 rfl) ?_
        exact hret (x50_3, v_at_50, x50_2) H locs _ ls hf hP hD hS rfl d_M_path_154
      · have hf := ob_t hc60 hf
        refine lv_aload_n hx hb d_M_path_63 rfl (lv_at hl 0 rfl) ?_
        refine lv_aload_n hx hb d_M_path_64 rfl (lv_at hl 0 rfl) ?_
        refine va_get (D := D) (ci := 11) (v := .int v_at_50) (C := "ObjectBaseModel") (T := TC_M) (N := 66) hx hb hts inC_M hown hK hP 0 rfl rfl 43 (by decide) (hts _ tw830) (fun _ h9 => h9) rfl d_M_path_65 ?_
        refine lv_iconst (v := 1) hx hb d_M_path_68 (by decide) ?_
        refine lv_iadd hx hb d_M_path_69 ?_
        obtain ⟨o70, ho70, hf⟩ := ob_b hf
        refine ob_calli (w2 := (cw_M_path G a_t a_lengths a_text a_owner a_parent a_sort a_aim a_stands a_indexClass a_indexPath a_classes1 a_dValues a_dSets a_dNames a_values a_sets a_names a_draft a_classOfQuestion a_split a_steps a_what a_one a_two a_opened a_openedAt a_variable a_truth a_rest a_loopAt a_loopFound a_hits v_classes v_fields v_begun v_indexes v_made v_slotted v_half v_open v_known v_fresh v_changed v_renamed v_down v_armed v_written v_logged v_marked v_logSize v_drafted v_questions v_now v_at_50 v_bad v_opens v_deep v_aimed_50 v_truths v_loops v_valued v_value v_set v_latest v_fits v_total v_looked v_lengths v_text v_owner v_parent v_sort v_aim v_stands)) (va_runV (As := [.int (v_at_50 + 1)]) (rest := []) ⟨hx, hb, hml, hown, hts⟩ (c_M_charAt l D G a_t a_lengths a_text a_parent a_owner a_sort a_aim a_indexClass a_indexPath a_classes1 a_dValues a_dSets a_dNames a_values a_sets a_names a_draft a_classOfQuestion a_split a_steps a_what a_one a_two a_opened a_openedAt a_stands a_variable a_truth a_rest a_loopAt a_loopFound a_hits v_classes v_fields v_begun v_indexes v_made v_slotted v_half v_open v_known v_fresh v_changed v_renamed v_down v_armed v_written v_logged v_marked v_logSize v_drafted v_questions v_now v_at_50 v_bad v_opens v_deep v_aimed_50 v_truths v_loops v_valued v_value v_set v_latest v_fits v_total v_looked v_lengths v_text (v_at_50 + 1) o70 ho70 H.size) (cwV 1 hts (gV tw1136 tw1138 tp40 tw11 tw1139) rfl rfl rfl (by decide +kernel) ⟨Nat.le_of_ble_eq_true rfl, Nat.le_of_ble_eq_true rfl⟩) (ob_preV (q0 := 0) (ci := 11) hZ hK hP hD [0, 1, 2] rfl rfl rfl rfl rfl) rfl rfl hl.1 rfl (lv_room (Nat.le_of_ble_eq_true rfl)) d_M_path_70 ⟨Nat.le_refl _, Nat.le_refl _⟩) hP hD hA hS [0, 1, 2] rfl rfl rfl rfl (fun H locs hP hD hS => ?_)
        refine lv_bipush (v := 97) hx hb d_M_path_73 (by decide) ?_
        refine lv_isub hx hb d_M_path_75 ?_
        refine lv_istore (lv' := [(4, .int (o70 - 97)), (0, .ref a_t), (2, .int x50_2), (3, .int x50_3)]) hx hb d_M_path_76 hl (by decide) rfl (fun ls hl => ?_)
        refine lv_iload_n hx hb d_M_path_78 rfl (lv_at hl 3 rfl) ?_
        refine lv_iconst (v := 2) hx hb d_M_path_79 (by decide) ?_
        refine lv_icmp_ne (tgt := 94) hx hb d_M_path_80 (by decide) (fun hc80 => ?_) (fun hc80 => ?_)
        · have hf := ob_f hc80 hf
          refine lv_iconst (v := 0) hx hb d_M_path_94 (by decide) ?_
          exact hret (0, v_at_50, v_aimed_50) H locs _ ls hf hP hD hS rfl d_M_path_95
        · have hf := ob_t hc80 hf
          refine lv_aload_n hx hb d_M_path_83 rfl (lv_at hl 1 rfl) ?_
          refine lv_iload_n hx hb d_M_path_84 rfl (lv_at hl 2 rfl) ?_
          refine lv_iload hx hb d_M_path_85 (lv_at hl 0 rfl) ?_
          refine lv_iconst (v := (-1)) hx hb d_M_path_87 (by decide) ?_
          obtain ⟨o88, ho88, hf⟩ := ob_b hf
          refine ob_calli (w2 := (cw_M_path G a_t a_lengths a_text a_owner a_parent a_sort a_aim a_stands a_indexClass a_indexPath a_classes1 a_dValues a_dSets a_dNames a_values a_sets a_names a_draft a_classOfQuestion a_split a_steps a_what a_one a_two a_opened a_openedAt a_variable a_truth a_rest a_loopAt a_loopFound a_hits v_classes v_fields v_begun v_indexes v_made v_slotted v_half v_open v_known v_fresh v_changed v_renamed v_down v_armed v_written v_logged v_marked v_logSize v_drafted v_questions v_now v_at_50 v_bad v_opens v_deep v_aimed_50 v_truths v_loops v_valued v_value v_set v_latest v_fits v_total v_looked v_lengths v_text v_owner v_parent v_sort v_aim v_stands)) (va_runV (As := [.int x50_2, .int (o70 - 97), .int (-1)]) (rest := []) ⟨hx, hb, hml, hown, hts⟩ (c_M_has l D G a_t a_owner a_parent a_sort a_aim a_indexClass a_indexPath a_classes1 a_dValues a_dSets a_dNames a_values a_sets a_names a_draft a_lengths a_text a_classOfQuestion a_split a_steps a_what a_one a_two a_opened a_openedAt a_stands a_variable a_truth a_rest a_loopAt a_loopFound a_hits v_classes v_fields v_begun v_indexes v_made v_slotted v_half v_open v_known v_fresh v_changed v_renamed v_down v_armed v_written v_logged v_marked v_logSize v_drafted v_questions v_now v_at_50 v_bad v_opens v_deep v_aimed_50 v_truths v_loops v_valued v_value v_set v_latest v_fits v_total v_looked v_owner v_parent v_sort x50_2 (o70 - 97) (-1) o88 ho88 H.size) (cwV 3 hts (gV tw1003 tw1005 tp29 tw11 tw1006) rfl rfl rfl (by decide +kernel) ⟨Nat.le_of_ble_eq_true rfl, Nat.le_of_ble_eq_true rfl⟩) (ob_preV (q0 := 0) (ci := 11) hZ hK hP hD [0, 3, 4, 5] rfl rfl rfl rfl rfl) rfl rfl hl.1 rfl (lv_room (Nat.le_of_ble_eq_true rfl)) d_M_path_88 ⟨Nat.le_refl _, Nat.le_refl _⟩) hP hD hA hS [0, 3, 4, 5] rfl rfl rfl rfl (fun H locs hP hD hS => ?_)
          refine lv_if_ne (tgt := 96) hx hb d_M_path_91 (by decide) (fun hc91 => ?_) (fun hc91 => ?_)
          · have hf := ob_f hc91 hf
            refine lv_aload_n hx hb d_M_path_96 rfl (lv_at hl 1 rfl) ?_
            refine va_get (D := D) (ci := 11) (v := .ref a_sort) (C := "ObjectBaseModel") (T := TC_M) (N := 66) hx hb hts inC_M hown hK hP 0 rfl rfl 4 (by decide) (hts _ tw791) (fun _ h9 => h9) rfl d_M_path_97 ?_
            refine lv_iload hx hb d_M_path_100 (lv_at hl 0 rfl) ?_
            obtain ⟨hg102, hf⟩ := ob_iv_g hf
            refine va_iald hx hb hK hP 5 0 rfl rfl hg102 d_M_path_102 ?_
            refine lv_if_ne (tgt := 110) hx hb d_M_path_103 (by decide) (fun hc103 => ?_) (fun hc103 => ?_)
            · have hf := ob_f hc103 hf
              refine lv_aload_n hx hb d_M_path_110 rfl (lv_at hl 1 rfl) ?_
              refine va_get (D := D) (ci := 11) (v := .ref a_sort) (C := "ObjectBaseModel") (T := TC_M) (N := 66) hx hb hts inC_M hown hK hP 0 rfl rfl 4 (by decide) (hts _ tw791) (fun _ h9 => h9) rfl d_M_path_111 ?_
              refine lv_iload hx hb d_M_path_114 (lv_at hl 0 rfl) ?_
              obtain ⟨hg116, hf⟩ := ob_iv_g hf
              refine va_iald hx hb hK hP 5 0 rfl rfl hg116 d_M_path_116 ?_
              refine lv_iconst (v := 1) hx hb d_M_path_117 (by decide) ?_
              refine lv_icmp_ne (tgt := 125) hx hb d_M_path_118 (by decide) (fun hc118 => ?_) (fun hc118 => ?_)
              · have hf := ob_f hc118 hf
                refine lv_iconst (v := 3) hx hb d_M_path_125 (by decide) ?_
                exact blk126 (o70 - 97) 3 v_at_50 v_aimed_50 ls H locs (lv_sub hl [1, 0] rfl) hP hD hS hf
              · have hf := ob_t hc118 hf
                refine lv_iconst (v := 2) hx hb d_M_path_121 (by decide) ?_
                refine lv_goto (tgt := 126) hx hb d_M_path_122 (by decide) ?_
                exact blk126 (o70 - 97) 2 v_at_50 v_aimed_50 ls H locs (lv_sub hl [1, 0] rfl) hP hD hS hf
            · have hf := ob_t hc103 hf
              refine lv_iconst (v := 1) hx hb d_M_path_106 (by decide) ?_
              refine lv_goto (tgt := 126) hx hb d_M_path_107 (by decide) ?_
              exact blk126 (o70 - 97) 1 v_at_50 v_aimed_50 ls H locs (lv_sub hl [1, 0] rfl) hP hD hS hf
          · have hf := ob_t hc91 hf
            refine lv_iconst (v := 0) hx hb d_M_path_94 (by decide) ?_
            exact hret (0, v_at_50, v_aimed_50) H locs _ ls hf hP hD hS rfl d_M_path_95
  have blk31 : ∀ (y31_0 : Int32) (v_at_31 : Int32) (v_aimed_31 : Int32) (ls : Array Slot) (H : Heap) (locs : List Loc), lv_has ls 5 [(0, .ref a_t)] → va_P D vwCl (cw_M_path G a_t a_lengths a_text a_owner a_parent a_sort a_aim a_stands a_indexClass a_indexPath a_classes1 a_dValues a_dSets a_dNames a_values a_sets a_names a_draft a_classOfQuestion a_split a_steps a_what a_one a_two a_opened a_openedAt a_variable a_truth a_rest a_loopAt a_loopFound a_hits v_classes v_fields v_begun v_indexes v_made v_slotted v_half v_open v_known v_fresh v_changed v_renamed v_down v_armed v_written v_logged v_marked v_logSize v_drafted v_questions v_now v_at_31 v_bad v_opens v_deep v_aimed_31 v_truths v_loops v_valued v_value v_set v_latest v_fits v_total v_looked v_lengths v_text v_owner v_parent v_sort v_aim v_stands) H → va_D A (cw_M_path G a_t a_lengths a_text a_owner a_parent a_sort a_aim a_stands a_indexClass a_indexPath a_classes1 a_dValues a_dSets a_dNames a_values a_sets a_names a_draft a_classOfQuestion a_split a_steps a_what a_one a_two a_opened a_openedAt a_variable a_truth a_rest a_loopAt a_loopFound a_hits v_classes v_fields v_begun v_indexes v_made v_slotted v_half v_open v_known v_fresh v_changed v_renamed v_down v_armed v_written v_logged v_marked v_logSize v_drafted v_questions v_now v_at_31 v_bad v_opens v_deep v_aimed_31 v_truths v_loops v_valued v_value v_set v_latest v_fits v_total v_looked v_lengths v_text v_owner v_parent v_sort v_aim v_stands) → va_S A s.heap H locs → f_M_path_J31 v_now v_lengths v_text v_fields v_owner v_parent v_sort v_aim y31_0 v_at_31 v_aimed_31 = some o → W p l e ({ frames := 2, cells := 0, slots := 0, locals := 47 }) s m ([.ref a_t] : List Value).toArray below meth c H locs 0 0 Q (F0 m 31 ls [.int y31_0]) := by
    intro y31_0 v_at_31 v_aimed_31 ls H locs hl hP hD hS hf
    unfold f_M_path_J31 at hf
    refine lv_istore_n (lv' := [(2, .int y31_0), (0, .ref a_t)]) hx hb d_M_path_31 rfl hl (by decide) rfl (fun ls hl => ?_)
    refine lv_iload_n hx hb d_M_path_32 rfl (lv_at hl 0 rfl) ?_
    refine lv_if_ne (tgt := 38) hx hb d_M_path_33 (by decide) (fun hc33 => ?_) (fun hc33 => ?_)
    · have hf := ob_f hc33 hf
      refine lv_aload_n hx hb d_M_path_38 rfl (lv_at hl 1 rfl) ?_
      refine lv_dup hx hb d_M_path_39 rfl ?_
      refine va_get (D := D) (ci := 11) (v := .int v_at_31) (C := "ObjectBaseModel") (T := TC_M) (N := 66) hx hb hts inC_M hown hK hP 0 rfl rfl 43 (by decide) (hts _ tw830) (fun _ h9 => h9) rfl d_M_path_40 ?_
      refine lv_iconst (v := 1) hx hb d_M_path_43 (by decide) ?_
      refine lv_iadd hx hb d_M_path_44 ?_
      refine va_put (D := D) (ci := 11) (v := .int (v_at_31 + 1)) (ty := .int) (C := "ObjectBaseModel") (T := TC_M) (N := 66) hx hb hts inC_M tyC_M tyC_M_ok nmC_M hown hK hP hD hS 0 rfl rfl 43 (by decide) (hts _ tw830) (fun _ h9 => h9) rfl (by decide +kernel) rfl rfl (Nat.le_of_ble_eq_true rfl) d_M_path_45 (fun H locs hP hD hS => ?_)
      have hP : va_P D vwCl (cw_M_path G a_t a_lengths a_text a_owner a_parent a_sort a_aim a_stands a_indexClass a_indexPath a_classes1 a_dValues a_dSets a_dNames a_values a_sets a_names a_draft a_classOfQuestion a_split a_steps a_what a_one a_two a_opened a_openedAt a_variable a_truth a_rest a_loopAt a_loopFound a_hits v_classes v_fields v_begun v_indexes v_made v_slotted v_half v_open v_known v_fresh v_changed v_renamed v_down v_armed v_written v_logged v_marked v_logSize v_drafted v_questions v_now (v_at_31 + 1) v_bad v_opens v_deep v_aimed_31 v_truths v_loops v_valued v_value v_set v_latest v_fits v_total v_looked v_lengths v_text v_owner v_parent v_sort v_aim v_stands) H := hP
      have hD : va_D A (cw_M_path G a_t a_lengths a_text a_owner a_parent a_sort a_aim a_stands a_indexClass a_indexPath a_classes1 a_dValues a_dSets a_dNames a_values a_sets a_names a_draft a_classOfQuestion a_split a_steps a_what a_one a_two a_opened a_openedAt a_variable a_truth a_rest a_loopAt a_loopFound a_hits v_classes v_fields v_begun v_indexes v_made v_slotted v_half v_open v_known v_fresh v_changed v_renamed v_down v_armed v_written v_logged v_marked v_logSize v_drafted v_questions v_now (v_at_31 + 1) v_bad v_opens v_deep v_aimed_31 v_truths v_loops v_valued v_value v_set v_latest v_fits v_total v_looked v_lengths v_text v_owner v_parent v_sort v_aim v_stands) := hD
      refine lv_iconst (v := 2) hx hb d_M_path_48 (by decide) ?_
      refine lv_istore_n (lv' := [(3, .int 2), (2, .int y31_0), (0, .ref a_t)]) hx hb d_M_path_49 rfl hl (by decide) rfl (fun ls hl => ?_)
      exact loop50 1000 y31_0 2 (v_at_31 + 1) v_aimed_31 ls H locs (lv_sub hl [2, 1, 0] rfl) hP hD hS hf
    · have hf := ob_t hc33 hf
      refine lv_iconst (v := 0) hx hb d_M_path_36 (by decide) ?_
      exact hret (0, v_at_31, v_aimed_31) H locs _ ls hf hP hD hS rfl d_M_path_37
  have blk30 : ∀ (v_at_30 : Int32) (v_aimed_30 : Int32) (ls : Array Slot) (H : Heap) (locs : List Loc), lv_has ls 5 [(0, .ref a_t)] → va_P D vwCl (cw_M_path G a_t a_lengths a_text a_owner a_parent a_sort a_aim a_stands a_indexClass a_indexPath a_classes1 a_dValues a_dSets a_dNames a_values a_sets a_names a_draft a_classOfQuestion a_split a_steps a_what a_one a_two a_opened a_openedAt a_variable a_truth a_rest a_loopAt a_loopFound a_hits v_classes v_fields v_begun v_indexes v_made v_slotted v_half v_open v_known v_fresh v_changed v_renamed v_down v_armed v_written v_logged v_marked v_logSize v_drafted v_questions v_now v_at_30 v_bad v_opens v_deep v_aimed_30 v_truths v_loops v_valued v_value v_set v_latest v_fits v_total v_looked v_lengths v_text v_owner v_parent v_sort v_aim v_stands) H → va_D A (cw_M_path G a_t a_lengths a_text a_owner a_parent a_sort a_aim a_stands a_indexClass a_indexPath a_classes1 a_dValues a_dSets a_dNames a_values a_sets a_names a_draft a_classOfQuestion a_split a_steps a_what a_one a_two a_opened a_openedAt a_variable a_truth a_rest a_loopAt a_loopFound a_hits v_classes v_fields v_begun v_indexes v_made v_slotted v_half v_open v_known v_fresh v_changed v_renamed v_down v_armed v_written v_logged v_marked v_logSize v_drafted v_questions v_now v_at_30 v_bad v_opens v_deep v_aimed_30 v_truths v_loops v_valued v_value v_set v_latest v_fits v_total v_looked v_lengths v_text v_owner v_parent v_sort v_aim v_stands) → va_S A s.heap H locs → f_M_path_J30 v_now v_lengths v_text v_fields v_owner v_parent v_sort v_aim v_at_30 v_aimed_30 = some o → W p l e ({ frames := 2, cells := 0, slots := 0, locals := 47 }) s m ([.ref a_t] : List Value).toArray below meth c H locs 0 0 Q (F0 m 30 ls []) := by
    intro v_at_30 v_aimed_30 ls H locs hl hP hD hS hf
    unfold f_M_path_J30 at hf
    refine lv_iconst (v := 0) hx hb d_M_path_30 (by decide) ?_
    exact blk31 0 v_at_30 v_aimed_30 ls H locs (lv_sub hl [0] rfl) hP hD hS hf
  refine lv_aload_n hx hb d_M_path_0 rfl (lv_at hl 0 rfl) ?_
  refine lv_aload_n hx hb d_M_path_1 rfl (lv_at hl 0 rfl) ?_
  refine va_get (D := D) (ci := 11) (v := .int v_at) (C := "ObjectBaseModel") (T := TC_M) (N := 66) hx hb hts inC_M hown hK hP 0 rfl rfl 43 (by decide) (hts _ tw830) (fun _ h9 => h9) rfl d_M_path_2 ?_
  obtain ⟨o5, ho5, hf⟩ := ob_b hf
  refine ob_calli (w2 := (cw_M_path G a_t a_lengths a_text a_owner a_parent a_sort a_aim a_stands a_indexClass a_indexPath a_classes1 a_dValues a_dSets a_dNames a_values a_sets a_names a_draft a_classOfQuestion a_split a_steps a_what a_one a_two a_opened a_openedAt a_variable a_truth a_rest a_loopAt a_loopFound a_hits v_classes v_fields v_begun v_indexes v_made v_slotted v_half v_open v_known v_fresh v_changed v_renamed v_down v_armed v_written v_logged v_marked v_logSize v_drafted v_questions v_now v_at v_bad v_opens v_deep v_aimed v_truths v_loops v_valued v_value v_set v_latest v_fits v_total v_looked v_lengths v_text v_owner v_parent v_sort v_aim v_stands)) (va_runV (As := [.int v_at]) (rest := []) ⟨hx, hb, hml, hown, hts⟩ (c_M_charAt l D G a_t a_lengths a_text a_parent a_owner a_sort a_aim a_indexClass a_indexPath a_classes1 a_dValues a_dSets a_dNames a_values a_sets a_names a_draft a_classOfQuestion a_split a_steps a_what a_one a_two a_opened a_openedAt a_stands a_variable a_truth a_rest a_loopAt a_loopFound a_hits v_classes v_fields v_begun v_indexes v_made v_slotted v_half v_open v_known v_fresh v_changed v_renamed v_down v_armed v_written v_logged v_marked v_logSize v_drafted v_questions v_now v_at v_bad v_opens v_deep v_aimed v_truths v_loops v_valued v_value v_set v_latest v_fits v_total v_looked v_lengths v_text v_at o5 ho5 H.size) (cwV 1 hts (gV tw1136 tw1138 tp40 tw11 tw1139) rfl rfl rfl (by decide +kernel) ⟨Nat.le_of_ble_eq_true rfl, Nat.le_of_ble_eq_true rfl⟩) (ob_preV (q0 := 0) (ci := 11) hZ hK hP hD [0, 1, 2] rfl rfl rfl rfl rfl) rfl rfl hl.1 rfl (lv_room (Nat.le_of_ble_eq_true rfl)) d_M_path_5 ⟨Nat.le_refl _, Nat.le_refl _⟩) hP hD hA hS [0, 1, 2] rfl rfl rfl rfl (fun H locs hP hD hS => ?_)
  refine lv_bipush (v := 120) hx hb d_M_path_8 (by decide) ?_
  refine lv_isub hx hb d_M_path_10 ?_
  refine lv_istore_n (lv' := [(1, .int (o5 - 120)), (0, .ref a_t)]) hx hb d_M_path_11 rfl hl (by decide) rfl (fun ls hl => ?_)
  refine lv_iload_n hx hb d_M_path_12 rfl (lv_at hl 0 rfl) ?_
  refine lv_if_lt (tgt := 30) hx hb d_M_path_13 (by decide) (fun hc13 => ?_) (fun hc13 => ?_)
  · have hf := ob_t hc13 hf
    exact blk30 v_at v_aimed ls H locs (lv_sub hl [1] rfl) hP hD hS hf
  · have hf := ob_f hc13 hf
    refine lv_iload_n hx hb d_M_path_16 rfl (lv_at hl 0 rfl) ?_
    refine lv_iconst (v := 3) hx hb d_M_path_17 (by decide) ?_
    refine lv_icmp_ge (tgt := 30) hx hb d_M_path_18 (by decide) (fun hc18 => ?_) (fun hc18 => ?_)
    · have hf := ob_t hc18 hf
      exact blk30 v_at v_aimed ls H locs (lv_sub hl [1] rfl) hP hD hS hf
    · have hf := ob_f hc18 hf
      refine lv_aload_n hx hb d_M_path_21 rfl (lv_at hl 1 rfl) ?_
      refine va_get (D := D) (ci := 11) (v := .ref a_stands) (C := "ObjectBaseModel") (T := TC_M) (N := 66) hx hb hts inC_M hown hK hP 0 rfl rfl 50 (by decide) (hts _ tw837) (fun _ h9 => h9) rfl d_M_path_22 ?_
      refine lv_iload_n hx hb d_M_path_25 rfl (lv_at hl 0 rfl) ?_
      obtain ⟨hg26, hf⟩ := ob_iv_g hf
      refine va_iald hx hb hK hP 7 0 rfl rfl hg26 d_M_path_26 ?_
      refine lv_goto (tgt := 31) hx hb d_M_path_27 (by decide) ?_
      exact blk31 (v_stands (o5 - 120).toNatClampNeg) v_at v_aimed ls H locs (lv_sub hl [1] rfl) hP hD hS hf
