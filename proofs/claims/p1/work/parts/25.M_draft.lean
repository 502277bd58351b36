abbrev bc_M_draft : ByteArray := prog_13_method_37_code
abbrev y_M_draft : MethodName := ⟨"ObjectBaseModel", "draft", "(J)Z"⟩
def ws_M_draft : List Cond := .code y_M_draft bc_M_draft 7 (some .boolean) :: obW
theorem d_M_draft_0 : decode bc_M_draft 0 = .ok (.lload_n 1, 1) := by decide +kernel
theorem d_M_draft_1 : decode bc_M_draft 1 = .ok (.lconst 0, 1) := by decide +kernel
theorem d_M_draft_2 : decode bc_M_draft 2 = .ok (.lcmp, 1) := by decide +kernel
theorem d_M_draft_3 : decode bc_M_draft 3 = .ok (.ifCond .ne 10, 3) := by decide +kernel
theorem d_M_draft_6 : decode bc_M_draft 6 = .ok (.aload_n 0, 1) := by decide +kernel
theorem d_M_draft_7 : decode bc_M_draft 7 = .ok (.iconst 0, 1) := by decide +kernel
theorem d_M_draft_8 : decode bc_M_draft 8 = .ok (.putfield 230, 3) := by decide +kernel
theorem d_M_draft_11 : decode bc_M_draft 11 = .ok (.iconst 1, 1) := by decide +kernel
theorem d_M_draft_12 : decode bc_M_draft 12 = .ok (.ireturn, 1) := by decide +kernel
theorem d_M_draft_13 : decode bc_M_draft 13 = .ok (.iconst 0, 1) := by decide +kernel
theorem d_M_draft_14 : decode bc_M_draft 14 = .ok (.istore_n 3, 1) := by decide +kernel
theorem d_M_draft_15 : decode bc_M_draft 15 = .ok (.iconst 1, 1) := by decide +kernel
theorem d_M_draft_16 : decode bc_M_draft 16 = .ok (.istore 4, 2) := by decide +kernel
theorem d_M_draft_18 : decode bc_M_draft 18 = .ok (.iload_n 3, 1) := by decide +kernel
theorem d_M_draft_19 : decode bc_M_draft 19 = .ok (.bipush 8, 2) := by decide +kernel
theorem d_M_draft_21 : decode bc_M_draft 21 = .ok (.if_icmp .ge 66, 3) := by decide +kernel
theorem d_M_draft_24 : decode bc_M_draft 24 = .ok (.lload_n 1, 1) := by decide +kernel
theorem d_M_draft_25 : decode bc_M_draft 25 = .ok (.bipush 8, 2) := by decide +kernel
theorem d_M_draft_27 : decode bc_M_draft 27 = .ok (.iload_n 3, 1) := by decide +kernel
theorem d_M_draft_28 : decode bc_M_draft 28 = .ok (.imul, 1) := by decide +kernel
theorem d_M_draft_29 : decode bc_M_draft 29 = .ok (.lushr, 1) := by decide +kernel
theorem d_M_draft_30 : decode bc_M_draft 30 = .ok (.ldc2_w 233, 3) := by decide +kernel
theorem d_M_draft_33 : decode bc_M_draft 33 = .ok (.land, 1) := by decide +kernel
theorem d_M_draft_34 : decode bc_M_draft 34 = .ok (.lconst 0, 1) := by decide +kernel
theorem d_M_draft_35 : decode bc_M_draft 35 = .ok (.lcmp, 1) := by decide +kernel
theorem d_M_draft_36 : decode bc_M_draft 36 = .ok (.ifCond .eq 51, 3) := by decide +kernel
theorem d_M_draft_39 : decode bc_M_draft 39 = .ok (.lload_n 1, 1) := by decide +kernel
theorem d_M_draft_40 : decode bc_M_draft 40 = .ok (.bipush 8, 2) := by decide +kernel
theorem d_M_draft_42 : decode bc_M_draft 42 = .ok (.iload_n 3, 1) := by decide +kernel
theorem d_M_draft_43 : decode bc_M_draft 43 = .ok (.imul, 1) := by decide +kernel
theorem d_M_draft_44 : decode bc_M_draft 44 = .ok (.lushr, 1) := by decide +kernel
theorem d_M_draft_45 : decode bc_M_draft 45 = .ok (.ldc2_w 233, 3) := by decide +kernel
theorem d_M_draft_48 : decode bc_M_draft 48 = .ok (.land, 1) := by decide +kernel
theorem d_M_draft_49 : decode bc_M_draft 49 = .ok (.lstore 5, 2) := by decide +kernel
theorem d_M_draft_51 : decode bc_M_draft 51 = .ok (.iload 4, 2) := by decide +kernel
theorem d_M_draft_53 : decode bc_M_draft 53 = .ok (.ifCond .eq 25, 3) := by decide +kernel
theorem d_M_draft_56 : decode bc_M_draft 56 = .ok (.lload 5, 2) := by decide +kernel
theorem d_M_draft_58 : decode bc_M_draft 58 = .ok (.ldc2_w 235, 3) := by decide +kernel
theorem d_M_draft_61 : decode bc_M_draft 61 = .ok (.lcmp, 1) := by decide +kernel
theorem d_M_draft_62 : decode bc_M_draft 62 = .ok (.ifCond .lt 16, 3) := by decide +kernel
theorem d_M_draft_65 : decode bc_M_draft 65 = .ok (.lload 5, 2) := by decide +kernel
theorem d_M_draft_67 : decode bc_M_draft 67 = .ok (.ldc2_w 237, 3) := by decide +kernel
theorem d_M_draft_70 : decode bc_M_draft 70 = .ok (.lcmp, 1) := by decide +kernel
theorem d_M_draft_71 : decode bc_M_draft 71 = .ok (.ifCond .gt 7, 3) := by decide +kernel
theorem d_M_draft_74 : decode bc_M_draft 74 = .ok (.iconst 1, 1) := by decide +kernel
theorem d_M_draft_75 : decode bc_M_draft 75 = .ok (.goto 4, 3) := by decide +kernel
theorem d_M_draft_78 : decode bc_M_draft 78 = .ok (.iconst 0, 1) := by decide +kernel
theorem d_M_draft_79 : decode bc_M_draft 79 = .ok (.istore 4, 2) := by decide +kernel
theorem d_M_draft_81 : decode bc_M_draft 81 = .ok (.iinc 3 1, 3) := by decide +kernel
theorem d_M_draft_84 : decode bc_M_draft 84 = .ok (.goto (-66), 3) := by decide +kernel
theorem d_M_draft_87 : decode bc_M_draft 87 = .ok (.iload_n 3, 1) := by decide +kernel
theorem d_M_draft_88 : decode bc_M_draft 88 = .ok (.ifCond .eq 19, 3) := by decide +kernel
theorem d_M_draft_91 : decode bc_M_draft 91 = .ok (.iload 4, 2) := by decide +kernel
theorem d_M_draft_93 : decode bc_M_draft 93 = .ok (.ifCond .eq 14, 3) := by decide +kernel
theorem d_M_draft_96 : decode bc_M_draft 96 = .ok (.aload_n 0, 1) := by decide +kernel
theorem d_M_draft_97 : decode bc_M_draft 97 = .ok (.getfield 230, 3) := by decide +kernel
theorem d_M_draft_100 : decode bc_M_draft 100 = .ok (.iload_n 3, 1) := by decide +kernel
theorem d_M_draft_101 : decode bc_M_draft 101 = .ok (.iadd, 1) := by decide +kernel
theorem d_M_draft_102 : decode bc_M_draft 102 = .ok (.bipush 60, 2) := by decide +kernel
theorem d_M_draft_104 : decode bc_M_draft 104 = .ok (.if_icmp .le 5, 3) := by decide +kernel
theorem d_M_draft_107 : decode bc_M_draft 107 = .ok (.iconst 0, 1) := by decide +kernel
theorem d_M_draft_108 : decode bc_M_draft 108 = .ok (.ireturn, 1) := by decide +kernel
theorem d_M_draft_109 : decode bc_M_draft 109 = .ok (.iconst 0, 1) := by decide +kernel
theorem d_M_draft_110 : decode bc_M_draft 110 = .ok (.istore 5, 2) := by decide +kernel
theorem d_M_draft_112 : decode bc_M_draft 112 = .ok (.iload 5, 2) := by decide +kernel
theorem d_M_draft_114 : decode bc_M_draft 114 = .ok (.iload_n 3, 1) := by decide +kernel
theorem d_M_draft_115 : decode bc_M_draft 115 = .ok (.if_icmp .ge 33, 3) := by decide +kernel
theorem d_M_draft_118 : decode bc_M_draft 118 = .ok (.aload_n 0, 1) := by decide +kernel
theorem d_M_draft_119 : decode bc_M_draft 119 = .ok (.getfield 54, 3) := by decide +kernel
theorem d_M_draft_122 : decode bc_M_draft 122 = .ok (.aload_n 0, 1) := by decide +kernel
theorem d_M_draft_123 : decode bc_M_draft 123 = .ok (.getfield 230, 3) := by decide +kernel
theorem d_M_draft_126 : decode bc_M_draft 126 = .ok (.iload 5, 2) := by decide +kernel
theorem d_M_draft_128 : decode bc_M_draft 128 = .ok (.iadd, 1) := by decide +kernel
theorem d_M_draft_129 : decode bc_M_draft 129 = .ok (.lload_n 1, 1) := by decide +kernel
theorem d_M_draft_130 : decode bc_M_draft 130 = .ok (.bipush 8, 2) := by decide +kernel
theorem d_M_draft_132 : decode bc_M_draft 132 = .ok (.iload 5, 2) := by decide +kernel
theorem d_M_draft_134 : decode bc_M_draft 134 = .ok (.imul, 1) := by decide +kernel
theorem d_M_draft_135 : decode bc_M_draft 135 = .ok (.lushr, 1) := by decide +kernel
theorem d_M_draft_136 : decode bc_M_draft 136 = .ok (.ldc2_w 233, 3) := by decide +kernel
theorem d_M_draft_139 : decode bc_M_draft 139 = .ok (.land, 1) := by decide +kernel
theorem d_M_draft_140 : decode bc_M_draft 140 = .ok (.l2i, 1) := by decide +kernel
theorem d_M_draft_141 : decode bc_M_draft 141 = .ok (.iastore, 1) := by decide +kernel
theorem d_M_draft_142 : decode bc_M_draft 142 = .ok (.iinc 5 1, 3) := by decide +kernel
theorem d_M_draft_145 : decode bc_M_draft 145 = .ok (.goto (-33), 3) := by decide +kernel
theorem d_M_draft_148 : decode bc_M_draft 148 = .ok (.aload_n 0, 1) := by decide +kernel
theorem d_M_draft_149 : decode bc_M_draft 149 = .ok (.dup, 1) := by decide +kernel
theorem d_M_draft_150 : decode bc_M_draft 150 = .ok (.getfield 230, 3) := by decide +kernel
theorem d_M_draft_153 : decode bc_M_draft 153 = .ok (.iload_n 3, 1) := by decide +kernel
theorem d_M_draft_154 : decode bc_M_draft 154 = .ok (.iadd, 1) := by decide +kernel
theorem d_M_draft_155 : decode bc_M_draft 155 = .ok (.putfield 230, 3) := by decide +kernel
theorem d_M_draft_158 : decode bc_M_draft 158 = .ok (.iconst 1, 1) := by decide +kernel
theorem d_M_draft_159 : decode bc_M_draft 159 = .ok (.ireturn, 1) := by decide +kernel
def cw_M_draft (G : Nat → ClassId) (a_t a_draft a_parent a_owner a_sort a_aim a_indexClass a_indexPath a_classes1 a_dValues a_dSets a_dNames a_values a_sets a_names a_lengths a_text a_classOfQuestion a_split a_steps a_what a_one a_two a_opened a_openedAt a_stands a_variable a_truth a_rest a_loopAt a_loopFound a_hits : Nat) (v_classes : Int32) (v_fields : Int32) (v_begun : Int32) (v_indexes : Int32) (v_made : Int32) (v_slotted : Int64) (v_half : Int32) (v_open : Int32) (v_known : Int64) (v_fresh : Int64) (v_changed : Int64) (v_renamed : Int32) (v_down : Int32) (v_armed : Int32) (v_written : Int32) (v_logged : Int32) (v_marked : Int32) (v_logSize : Int32) (v_drafted : Int32) (v_questions : Int32) (v_now : Int32) (v_at : Int32) (v_bad : Int32) (v_opens : Int32) (v_deep : Int32) (v_aimed : Int32) (v_truths : Int32) (v_loops : Int32) (v_valued : Int32) (v_value : Int32) (v_set : Int64) (v_latest : Int32) (v_fits : Int32) (v_total : Int64) (v_looked : Int32) (v_draft : Nat → Int32) : va_W := [(a_t, .inr (11, [.int v_classes, .ref a_parent, .int v_fields, .ref a_owner, .ref a_sort, .ref a_aim, .int v_begun, .int v_indexes, .ref a_indexClass, .ref a_indexPath, .int v_made, .ref a_classes1, .ref a_dValues, .ref a_dSets, .ref a_dNames, .ref a_values, .ref a_sets, .ref a_names, .long v_slotted, .int v_half, .int v_open, .long v_known, .long v_fresh, .long v_changed, .int v_renamed, .int v_down, .int v_armed, .int v_written, .int v_logged, .int v_marked, .int v_logSize, .int v_drafted, .ref a_draft, .int v_questions, .ref a_lengths, .ref a_text, .ref a_classOfQuestion, .ref a_split, .ref a_steps, .ref a_what, .ref a_one, .ref a_two, .int v_now, .int v_at, .int v_bad, .int v_opens, .ref a_opened, .ref a_openedAt, .int v_deep, .int v_aimed, .ref a_stands, .ref a_variable, .int v_truths, .ref a_truth, .int v_loops, .ref a_rest, .ref a_loopAt, .ref a_loopFound, .int v_valued, .int v_value, .long v_set, .int v_latest, .int v_fits, .ref a_hits, .long v_total, .int v_looked])), (a_draft, .inl (G 0, 60, .inl v_draft))]
def f_M_draft_B112 (p1 : Int64) (k112 : Int32 → Int32 → Int32 → (Nat → Int32) → Option (Int32 × Int32 × (Nat → Int32))) (x112_3 : Int32) (x112_5 : Int32) (v_drafted_112 : Int32) (v_draft_112 : Nat → Int32) : Option (Int32 × Int32 × (Nat → Int32)) := if x112_3 ≤ x112_5 then (some (1, v_drafted_112 + x112_3, v_draft_112)) else (ob_iv (v_drafted_112 + x112_5) 60 (k112 x112_3 (x112_5 + 1) v_drafted_112 (upd v_draft_112 (v_drafted_112 + x112_5).toNatClampNeg ((((p1.toUInt64 >>> ((8 * x112_5).toInt64.toUInt64 &&& Int64.toUInt64 63)).toInt64) &&& 255).toInt32))))
def f_M_draft_L112 (p1 : Int64) : Nat → Int32 → Int32 → Int32 → (Nat → Int32) → Option (Int32 × Int32 × (Nat → Int32)) := ob_lp4 (f_M_draft_B112 p1)
def f_M_draft_J87 (p1 : Int64) (x87_3 : Int32) (x87_4 : Int32) (v_drafted_87 : Int32) (v_draft_87 : Nat → Int32) : Option (Int32 × Int32 × (Nat → Int32)) := if x87_3 = 0 then (some (0, v_drafted_87, v_draft_87)) else (if x87_4 = 0 then (some (0, v_drafted_87, v_draft_87)) else (if (v_drafted_87 + x87_3) ≤ 60 then (f_M_draft_L112 p1 1000 x87_3 0 v_drafted_87 v_draft_87) else (some (0, v_drafted_87, v_draft_87))))
def f_M_draft_B18 (p1 : Int64) (k18 : Int32 → Int32 → Int32 → (Nat → Int32) → Option (Int32 × Int32 × (Nat → Int32))) (x18_3 : Int32) (x18_4 : Int32) (v_drafted_18 : Int32) (v_draft_18 : Nat → Int32) : Option (Int32 × Int32 × (Nat → Int32)) := if 8 ≤ x18_3 then (f_M_draft_J87 p1 x18_3 x18_4 v_drafted_18 v_draft_18) else (if (lg_cmp (((p1.toUInt64 >>> ((8 * x18_3).toInt64.toUInt64 &&& Int64.toUInt64 63)).toInt64) &&& 255) 0) = 0 then (f_M_draft_J87 p1 x18_3 x18_4 v_drafted_18 v_draft_18) else (if x18_4 = 0 then (k18 (x18_3 + 1) 0 v_drafted_18 v_draft_18) else (if (lg_cmp (((p1.toUInt64 >>> ((8 * x18_3).toInt64.toUInt64 &&& Int64.toUInt64 63)).toInt64) &&& 255) 33) < 0 then (k18 (x18_3 + 1) 0 v_drafted_18 v_draft_18) else (if 0 < (lg_cmp (((p1.toUInt64 >>> ((8 * x18_3).toInt64.toUInt64 &&& Int64.toUInt64 63)).toInt64) &&& 255) 126) then (k18 (x18_3 + 1) 0 v_drafted_18 v_draft_18) else (k18 (x18_3 + 1) 1 v_drafted_18 v_draft_18)))))
def f_M_draft_L18 (p1 : Int64) : Nat → Int32 → Int32 → Int32 → (Nat → Int32) → Option (Int32 × Int32 × (Nat → Int32)) := ob_lp4 (f_M_draft_B18 p1)
def f_M_draft (v_drafted : Int32) (v_draft : Nat → Int32) (p1 : Int64) : Option (Int32 × Int32 × (Nat → Int32)) := if (lg_cmp p1 0) = 0 then (some (1, 0, v_draft)) else (f_M_draft_L18 p1 1000 0 1 v_drafted v_draft)
set_option maxHeartbeats 4000000 in
set_option maxRecDepth 100000 in
theorem c_M_draft (l : Launch) (D : va_G) (G : Nat → ClassId) (a_t a_draft a_parent a_owner a_sort a_aim a_indexClass a_indexPath a_classes1 a_dValues a_dSets a_dNames a_values a_sets a_names a_lengths a_text a_classOfQuestion a_split a_steps a_what a_one a_two a_opened a_openedAt a_stands a_variable a_truth a_rest a_loopAt a_loopFound a_hits : Nat) (v_classes : Int32) (v_fields : Int32) (v_begun : Int32) (v_indexes : Int32) (v_made : Int32) (v_slotted : Int64) (v_half : Int32) (v_open : Int32) (v_known : Int64) (v_fresh : Int64) (v_changed : Int64) (v_renamed : Int32) (v_down : Int32) (v_armed : Int32) (v_written : Int32) (v_logged : Int32) (v_marked : Int32) (v_logSize : Int32) (v_drafted : Int32) (v_questions : Int32) (v_now : Int32) (v_at : Int32) (v_bad : Int32) (v_opens : Int32) (v_deep : Int32) (v_aimed : Int32) (v_truths : Int32) (v_loops : Int32) (v_valued : Int32) (v_value : Int32) (v_set : Int64) (v_latest : Int32) (v_fits : Int32) (v_total : Int64) (v_looked : Int32) (v_draft : Nat → Int32) (p1 : Int64) (o : Int32 × Int32 × (Nat → Int32)) (hf : f_M_draft v_drafted v_draft p1 = some o) (sz : Nat) : MetI l y_M_draft ws_M_draft ({ frames := 0, cells := 0, slots := 0, locals := 0 }) D (obT G) (cw_M_draft G a_t a_draft a_parent a_owner a_sort a_aim a_indexClass a_indexPath a_classes1 a_dValues a_dSets a_dNames a_values a_sets a_names a_lengths a_text a_classOfQuestion a_split a_steps a_what a_one a_two a_opened a_openedAt a_stands a_variable a_truth a_rest a_loopAt a_loopFound a_hits v_classes v_fields v_begun v_indexes v_made v_slotted v_half v_open v_known v_fresh v_changed v_renamed v_down v_armed v_written v_logged v_marked v_logSize v_drafted v_questions v_now v_at v_bad v_opens v_deep v_aimed v_truths v_loops v_valued v_value v_set v_latest v_fits v_total v_looked v_draft) (cw_M_draft G a_t a_draft a_parent a_owner a_sort a_aim a_indexClass a_indexPath a_classes1 a_dValues a_dSets a_dNames a_values a_sets a_names a_lengths a_text a_classOfQuestion a_split a_steps a_what a_one a_two a_opened a_openedAt a_stands a_variable a_truth a_rest a_loopAt a_loopFound a_hits v_classes v_fields v_begun v_indexes v_made v_slotted v_half v_open v_known v_fresh v_changed v_renamed v_down v_armed v_written v_logged v_marked v_logSize o.2.1 v_questions v_now v_at v_bad v_opens v_deep v_aimed v_truths v_loops v_valued v_value v_set v_latest v_fits v_total v_looked o.2.2) [.ref a_t, .long p1] o.1 sz := by
  refine ob_of (cc := bc_M_draft) (maxL := 7) (ret := (some .boolean)) (Qc := ObQi D (obT G) (cw_M_draft G a_t a_draft a_parent a_owner a_sort a_aim a_indexClass a_indexPath a_classes1 a_dValues a_dSets a_dNames a_values a_sets a_names a_lengths a_text a_classOfQuestion a_split a_steps a_what a_one a_two a_opened a_openedAt a_stands a_variable a_truth a_rest a_loopAt a_loopFound a_hits v_classes v_fields v_begun v_indexes v_made v_slotted v_half v_open v_known v_fresh v_changed v_renamed v_down v_armed v_written v_logged v_marked v_logSize o.2.1 v_questions v_now v_at v_bad v_opens v_deep v_aimed v_truths v_loops v_valued v_value v_set v_latest v_fits v_total v_looked o.2.2) o.1) (by decide) rfl (Nat.le_of_ble_eq_true rfl) ?_
  intro p e s m below meth c A ls H locs hx hb hr hml hts hown hlk hnm hZ hP hK hD hA hS hl
  have hret : ∀ (o' : Int32 × Int32 × (Nat → Int32)) (H : Heap) (locs : List Loc) (pc : Nat) (ls : Array Slot), some o' = some o → va_P D vwCl (cw_M_draft G a_t a_draft a_parent a_owner a_sort a_aim a_indexClass a_indexPath a_classes1 a_dValues a_dSets a_dNames a_values a_sets a_names a_lengths a_text a_classOfQuestion a_split a_steps a_what a_one a_two a_opened a_openedAt a_stands a_variable a_truth a_rest a_loopAt a_loopFound a_hits v_classes v_fields v_begun v_indexes v_made v_slotted v_half v_open v_known v_fresh v_changed v_renamed v_down v_armed v_written v_logged v_marked v_logSize o'.2.1 v_questions v_now v_at v_bad v_opens v_deep v_aimed v_truths v_loops v_valued v_value v_set v_latest v_fits v_total v_looked o'.2.2) H → va_D A (cw_M_draft G a_t a_draft a_parent a_owner a_sort a_aim a_indexClass a_indexPath a_classes1 a_dValues a_dSets a_dNames a_values a_sets a_names a_lengths a_text a_classOfQuestion a_split a_steps a_what a_one a_two a_opened a_openedAt a_stands a_variable a_truth a_rest a_loopAt a_loopFound a_hits v_classes v_fields v_begun v_indexes v_made v_slotted v_half v_open v_known v_fresh v_changed v_renamed v_down v_armed v_written v_logged v_marked v_logSize o'.2.1 v_questions v_now v_at v_bad v_opens v_deep v_aimed v_truths v_loops v_valued v_value v_set v_latest v_fits v_total v_looked o'.2.2) → va_S A s.heap H locs → narrow .boolean (.int o'.1) = .int o'.1 → decode bc_M_draft pc = .ok (.ireturn, 1) → W p l e { frames := 0, cells := 0, slots := 0, locals := 0 } s m ([.ref a_t, .long p1] : List Value).toArray below meth c H locs 0 0 (MQ below (ObQi D (obT G) (cw_M_draft G a_t a_draft a_parent a_owner a_sort a_aim a_indexClass a_indexPath a_classes1 a_dValues a_dSets a_dNames a_values a_sets a_names a_lengths a_text a_classOfQuestion a_split a_steps a_what a_one a_two a_opened a_openedAt a_stands a_variable a_truth a_rest a_loopAt a_loopFound a_hits v_classes v_fields v_begun v_indexes v_made v_slotted v_half v_open v_known v_fresh v_changed v_renamed v_down v_armed v_written v_logged v_marked v_logSize o.2.1 v_questions v_now v_at v_bad v_opens v_deep v_aimed v_truths v_loops v_valued v_value v_set v_latest v_fits v_total v_looked o.2.2) o.1 A) ([.ref a_t, .long p1] : List Value).toArray s 0 0 A) (F0 m pc ls [.int o'.1]) := by
    intro o' H locs pc ls he hP hD hS hn hd
    obtain rfl := Option.some.inj he
    exact ob_iret hx hb hr hlk hK hP hD hS hn hd
  generalize MQ below (ObQi D (obT G) (cw_M_draft G a_t a_draft a_parent a_owner a_sort a_aim a_indexClass a_indexPath a_classes1 a_dValues a_dSets a_dNames a_values a_sets a_names a_lengths a_text a_classOfQuestion a_split a_steps a_what a_one a_two a_opened a_openedAt a_stands a_variable a_truth a_rest a_loopAt a_loopFound a_hits v_classes v_fields v_begun v_indexes v_made v_slotted v_half v_open v_known v_fresh v_changed v_renamed v_down v_armed v_written v_logged v_marked v_logSize o.2.1 v_questions v_now v_at v_bad v_opens v_deep v_aimed v_truths v_loops v_valued v_value v_set v_latest v_fits v_total v_looked o.2.2) o.1 A) ([.ref a_t, .long p1] : List Value).toArray s 0 0 A = Q at hret ⊢
  have hl : lv_has ls 7 [(0, .ref a_t), (1, .long p1)] := hl
  unfold f_M_draft at hf
  have loop112 : ∀ (n112 : Nat) (x112_3 : Int32) (x112_5 : Int32) (v_drafted_112 : Int32) (v_draft_112 : Nat → Int32) (ls : Array Slot) (H : Heap) (locs : List Loc), lv_has ls 7 [(0, .ref a_t), (1, .long p1), (3, .int x112_3), (5, .int x112_5)] → va_P D vwCl (cw_M_draft G a_t a_draft a_parent a_owner a_sort a_aim a_indexClass a_indexPath a_classes1 a_dValues a_dSets a_dNames a_values a_sets a_names a_lengths a_text a_classOfQuestion a_split a_steps a_what a_one a_two a_opened a_openedAt a_stands a_variable a_truth a_rest a_loopAt a_loopFound a_hits v_classes v_fields v_begun v_indexes v_made v_slotted v_half v_open v_known v_fresh v_changed v_renamed v_down v_armed v_written v_logged v_marked v_logSize v_drafted_112 v_questions v_now v_at v_bad v_opens v_deep v_aimed v_truths v_loops v_valued v_value v_set v_latest v_fits v_total v_looked v_draft_112) H → va_D A (cw_M_draft G a_t a_draft a_parent a_owner a_sort a_aim a_indexClass a_indexPath a_classes1 a_dValues a_dSets a_dNames a_values a_sets a_names a_lengths a_text a_classOfQuestion a_split a_steps a_what a_one a_two a_opened a_openedAt a_stands a_variable a_truth a_rest a_loopAt a_loopFound a_hits v_classes v_fields v_begun v_indexes v_made v_slotted v_half v_open v_known v_fresh v_changed v_renamed v_down v_armed v_written v_logged v_marked v_logSize v_drafted_112 v_questions v_now v_at v_bad v_opens v_deep v_aimed v_truths v_loops v_valued v_value v_set v_latest v_fits v_total v_looked v_draft_112) → va_S A s.heap H locs → f_M_draft_L112 p1 n112 x112_3 x112_5 v_drafted_112 v_draft_112 = some o → W p l e ({ frames := 0, cells := 0, slots := 0, locals := 0 }) s m ([.ref a_t, .long p1] : List Value).toArray below meth c H locs 0 0 Q (F0 m 112 ls []) := by
    intro n112
    induction n112 with
    | zero => intro x112_3 x112_5 v_drafted_112 v_draft_112 ls H locs hl hP hD hS hf; exact ob_no hf
    | succ n112 ih112 =>
      intro x112_3 x112_5 v_drafted_112 v_draft_112 ls H locs hl hP hD hS hf
      have hf : f_M_draft_B112 p1 (f_M_draft_L112 p1 n112) x112_3 x112_5 v_drafted_112 v_draft_112 = some o := hf
      unfold f_M_draft_B112 at hf
      refine lv_iload hx hb d_M_draft_112 (lv_at hl 3 rfl) ?_
      refine lv_iload_n hx hb d_M_draft_114 rfl (lv_at hl 2 rfl) ?_
      refine lv_icmp_ge (tgt := 148) hx hb d_M_draft_115 (by decide) (fun hc115 => ?_) (fun hc115 => ?_)
      · have hf := ob_t hc115 hf
        refine lv_aload_n hx hb d_M_draft_148 rfl (lv_at hl 0 rfl) ?_
        refine lv_dup hx hb d_M_draft_149 rfl ?_
        refine va_get (D := D) (ci := 11) (v := .int v_drafted_112) (C := "ObjectBaseModel") (T := TC_M) (N := 66) hx hb hts inC_M hown hK hP 0 rfl rfl 31 (by decide) (hts _ tw818) (fun _ h9 => h9) rfl d_M_draft_150 ?_
        refine lv_iload_n hx hb d_M_draft_153 rfl (lv_at hl 2 rfl) ?_
        refine lv_iadd hx hb d_M_draft_154 ?_
        refine va_put (D := D) (ci := 11) (v := .int (v_drafted_112 + x112_3)) (ty := .int) (C := "ObjectBaseModel") (T := TC_M) (N := 66) hx hb hts inC_M tyC_M tyC_M_ok nmC_M hown hK hP hD hS 0 rfl rfl 31 (by decide) (hts _ tw818) (fun _ h9 => h9) rfl (by decide +kernel) rfl rfl (Nat.le_of_ble_eq_true rfl) d_M_draft_155 (fun H locs hP hD hS => ?_)
        have hP : va_P D vwCl (cw_M_draft G a_t a_draft a_parent a_owner a_sort a_aim a_indexClass a_indexPath a_classes1 a_dValues a_dSets a_dNames a_values a_sets a_names a_lengths a_text a_classOfQuestion a_split a_steps a_what a_one a_two a_opened a_openedAt a_stands a_variable a_truth a_rest a_loopAt a_loopFound a_hits v_classes v_fields v_begun v_indexes v_made v_slotted v_half v_open v_known v_fresh v_changed v_renamed v_down v_armed v_written v_logged v_marked v_logSize (v_drafted_112 + x112_3) v_questions v_now v_at v_bad v_opens v_deep v_aimed v_truths v_loops v_valued v_value v_set v_latest v_fits v_total v_looked v_draft_112) H := hP
        have hD : va_D A (cw_M_draft G a_t a_draft a_parent a_owner a_sort a_aim a_indexClass a_indexPath a_classes1 a_dValues a_dSets a_dNames a_values a_sets a_names a_lengths a_text a_classOfQuestion a_split a_steps a_what a_one a_two a_opened a_openedAt a_stands a_variable a_truth a_rest a_loopAt a_loopFound a_hits v_classes v_fields v_begun v_indexes v_made v_slotted v_half v_open v_known v_fresh v_changed v_renamed v_down v_armed v_written v_logged v_marked v_logSize (v_drafted_112 + x112_3) v_questions v_now v_at v_bad v_opens v_deep v_aimed v_truths v_loops v_valued v_value v_set v_latest v_fits v_total v_looked v_draft_112) := hD
        refine lv_iconst (v := 1) hx hb d_M_draft_158 (by decide) ?_
        exact hret (1, v_drafted_112 + x112_3, v_draft_112) H locs _ ls hf hP hD hS narrow_b1 d_M_draft_159
      · have hf := ob_f hc115 hf
        refine lv_aload_n hx hb d_M_draft_118 rfl (lv_at hl 0 rfl) ?_
        refine va_get (D := D) (ci := 11) (v := .ref a_draft) (C := "ObjectBaseModel") (T := TC_M) (N := 66) hx hb hts inC_M hown hK hP 0 rfl rfl 32 (by decide) (hts _ tw819) (fun _ h9 => h9) rfl d_M_draft_119 ?_
        refine lv_aload_n hx hb d_M_draft_122 rfl (lv_at hl 0 rfl) ?_
        refine va_get (D := D) (ci := 11) (v := .int v_drafted_112) (C := "ObjectBaseModel") (T := TC_M) (N := 66) hx hb hts inC_M hown hK hP 0 rfl rfl 31 (by decide) (hts _ tw818) (fun _ h9 => h9) rfl d_M_draft_123 ?_
        refine lv_iload hx hb d_M_draft_126 (lv_at hl 3 rfl) ?_
        refine lv_iadd hx hb d_M_draft_128 ?_
        refine lv_lload_n hx hb d_M_draft_129 rfl (lv_at hl 1 rfl) ?_
        refine lv_bipush (v := 8) hx hb d_M_draft_130 (by decide) ?_
        refine lv_iload hx hb d_M_draft_132 (lv_at hl 3 rfl) ?_
        refine lv_imul hx hb d_M_draft_134 ?_
        refine lv_lushr hx hb d_M_draft_135 rfl ?_
        refine lv_ldc2 (v := 255) hx hb hown (hts _ tw1129) d_M_draft_136 ?_
        refine lv_land hx hb d_M_draft_139 ?_
        refine lv_l2i hx hb d_M_draft_140 rfl ?_
        obtain ⟨hg141, hf⟩ := ob_iv_g hf
        refine va_iast hx hb hK hP hD hS 1 0 rfl rfl hg141 d_M_draft_141 (fun H locs hP hD hS => ?_)
        have hP : va_P D vwCl (cw_M_draft G a_t a_draft a_parent a_owner a_sort a_aim a_indexClass a_indexPath a_classes1 a_dValues a_dSets a_dNames a_values a_sets a_names a_lengths a_text a_classOfQuestion a_split a_steps a_what a_one a_two a_opened a_openedAt a_stands a_variable a_truth a_rest a_loopAt a_loopFound a_hits v_classes v_fields v_begun v_indexes v_made v_slotted v_half v_open v_known v_fresh v_changed v_renamed v_down v_armed v_written v_logged v_marked v_logSize v_drafted_112 v_questions v_now v_at v_bad v_opens v_deep v_aimed v_truths v_loops v_valued v_value v_set v_latest v_fits v_total v_looked (upd v_draft_112 (v_drafted_112 + x112_5).toNatClampNeg ((((p1.toUInt64 >>> ((8 * x112_5).toInt64.toUInt64 &&& Int64.toUInt64 63)).toInt64) &&& 255).toInt32))) H := hP
        have hD : va_D A (cw_M_draft G a_t a_draft a_parent a_owner a_sort a_aim a_indexClass a_indexPath a_classes1 a_dValues a_dSets a_dNames a_values a_sets a_names a_lengths a_text a_classOfQuestion a_split a_steps a_what a_one a_two a_opened a_openedAt a_stands a_variable a_truth a_rest a_loopAt a_loopFound a_hits v_classes v_fields v_begun v_indexes v_made v_slotted v_half v_open v_known v_fresh v_changed v_renamed v_down v_armed v_written v_logged v_marked v_logSize v_drafted_112 v_questions v_now v_at v_bad v_opens v_deep v_aimed v_truths v_loops v_valued v_value v_set v_latest v_fits v_total v_looked (upd v_draft_112 (v_drafted_112 + x112_5).toNatClampNeg ((((p1.toUInt64 >>> ((8 * x112_5).toInt64.toUInt64 &&& Int64.toUInt64 63)).toInt64) &&& 255).toInt32))) := hD
        refine lv_iinc (k := 3) (v := x112_5 + 1) (lv' := [(5, .int (x112_5 + 1)), (0, .ref a_t), (1, .long p1), (3, .int x112_3)]) hx hb d_M_draft_142 hl rfl (by rw [show Int32.ofInt 1 = (1 : Int32) from by decide]) (by decide) rfl (fun ls hl => ?_)
        refine lv_goto (tgt := 112) hx hb d_M_draft_145 (by decide) ?_
        exact ih112 x112_3 (x112_5 + 1) v_drafted_112 (upd v_draft_112 (v_drafted_112 + x112_5).toNatClampNeg ((((p1.toUInt64 >>> ((8 * x112_5).toInt64.toUInt64 &&& Int64.toUInt64 63)).toInt64) &&& 255).toInt32)) ls H locs (lv_sub hl [1, 2, 3, 0] rfl) hP hD hS hf
  have blk87 : ∀ (x87_3 : Int32) (x87_4 : Int32) (v_drafted_87 : Int32) (v_draft_87 : Nat → Int32) (ls : Array Slot) (H : Heap) (locs : List Loc), lv_has ls 7 [(0, .ref a_t), (1, .long p1), (3, .int x87_3), (4, .int x87_4)] → va_P D vwCl (cw_M_draft G a_t a_draft a_parent a_owner a_sort a_aim a_indexClass a_indexPath a_classes1 a_dValues a_dSets a_dNames a_values a_sets a_names a_lengths a_text a_classOfQuestion a_split a_steps a_what a_one a_two a_opened a_openedAt a_stands a_variable a_truth a_rest a_loopAt a_loopFound a_hits v_classes v_fields v_begun v_indexes v_made v_slotted v_half v_open v_known v_fresh v_changed v_renamed v_down v_armed v_written v_logged v_marked v_logSize v_drafted_87 v_questions v_now v_at v_bad v_opens v_deep v_aimed v_truths v_loops v_valued v_value v_set v_latest v_fits v_total v_looked v_draft_87) H → va_D A (cw_M_draft G a_t a_draft a_parent a_owner a_sort a_aim a_indexClass a_indexPath a_classes1 a_dValues a_dSets a_dNames a_values a_sets a_names a_lengths a_text a_classOfQuestion a_split a_steps a_what a_one a_two a_opened a_openedAt a_stands a_variable a_truth a_rest a_loopAt a_loopFound a_hits v_classes v_fields v_begun v_indexes v_made v_slotted v_half v_open v_known v_fresh v_changed v_renamed v_down v_armed v_written v_logged v_marked v_logSize v_drafted_87 v_questions v_now v_at v_bad v_opens v_deep v_aimed v_truths v_loops v_valued v_value v_set v_latest v_fits v_total v_looked v_draft_87) → va_S A s.heap H locs → f_M_draft_J87 p1 x87_3 x87_4 v_drafted_87 v_draft_87 = some o → W p l e ({ frames := 0, cells := 0, slots := 0, locals := 0 }) s m ([.ref a_t, .long p1] : List Value).toArray below meth c H locs 0 0 Q (F0 m 87 ls []) := by
    intro x87_3 x87_4 v_drafted_87 v_draft_87 ls H locs hl hP hD hS hf
    unfold f_M_draft_J87 at hf
    refine lv_iload_n hx hb d_M_draft_87 rfl (lv_at hl 2 rfl) ?_
    refine lv_if_eq (tgt := 107) hx hb d_M_draft_88 (by decide) (fun hc88 => ?_) (fun hc88 => ?_)
    · have hf := ob_t hc88 hf
      refine lv_iconst (v := 0) hx hb d_M_draft_107 (by decide) ?_
      exact hret (0, v_drafted_87, v_draft_87) H locs _ ls hf hP hD hS narrow_b0 d_M_draft_108
    · have hf := ob_f hc88 hf
      refine lv_iload hx hb d_M_draft_91 (lv_at hl 3 rfl) ?_
      refine lv_if_eq (tgt := 107) hx hb d_M_draft_93 (by decide) (fun hc93 => ?_) (fun hc93 => ?_)
      · have hf := ob_t hc93 hf
        refine lv_iconst (v := 0) hx hb d_M_draft_107 (by decide) ?_
        exact hret (0, v_drafted_87, v_draft_87) H locs _ ls hf hP hD hS narrow_b0 d_M_draft_108
      · have hf := ob_f hc93 hf
        refine lv_aload_n hx hb d_M_draft_96 rfl (lv_at hl 0 rfl) ?_
        refine va_get (D := D) (ci := 11) (v := .int v_drafted_87) (C := "ObjectBaseModel") (T := TC_M) (N := 66) hx hb hts inC_M hown hK hP 0 rfl rfl 31 (by decide) (hts _ tw818) (fun _ h9 => h9) rfl d_M_draft_97 ?_
        refine lv_iload_n hx hb d_M_draft_100 rfl (lv_at hl 2 rfl) ?_
        refine lv_iadd hx hb d_M_draft_101 ?_
        refine lv_bipush (v := 60) hx hb d_M_draft_102 (by decide) ?_
        refine lv_icmp_le (tgt := 109) hx hb d_M_draft_104 (by decide) (fun hc104 => ?_) (fun hc104 => ?_)
        · have hf := ob_t hc104 hf
          refine lv_iconst (v := 0) hx hb d_M_draft_109 (by decide) ?_
          refine lv_istore (lv' := [(5, .int 0), (0, .ref a_t), (1, .long p1), (3, .int x87_3), (4, .int x87_4)]) hx hb d_M_draft_110 hl (by decide) rfl (fun ls hl => ?_)
          exact loop112 1000 x87_3 0 v_drafted_87 v_draft_87 ls H locs (lv_sub hl [1, 2, 3, 0] rfl) hP hD hS hf
        · have hf := ob_f hc104 hf
          refine lv_iconst (v := 0) hx hb d_M_draft_107 (by decide) ?_
          exact hret (0, v_drafted_87, v_draft_87) H locs _ ls hf hP hD hS narrow_b0 d_M_draft_108
  have loop18 : ∀ (n18 : Nat) (x18_3 : Int32) (x18_4 : Int32) (v_drafted_18 : Int32) (v_draft_18 : Nat → Int32) (ls : Array Slot) (H : Heap) (locs : List Loc), lv_has ls 7 [(0, .ref a_t), (1, .long p1), (3, .int x18_3), (4, .int x18_4)] → va_P D vwCl (cw_M_draft G a_t a_draft a_parent a_owner a_sort a_aim a_indexClass a_indexPath a_classes1 a_dValues a_dSets a_dNames a_values a_sets a_names a_lengths a_text a_classOfQuestion a_split a_steps a_what a_one a_two a_opened a_openedAt a_stands a_variable a_truth a_rest a_loopAt a_loopFound a_hits v_classes v_fields v_begun v_indexes v_made v_slotted v_half v_open v_known v_fresh v_changed v_renamed v_down v_armed v_written v_logged v_marked v_logSize v_drafted_18 v_questions v_now v_at v_bad v_opens v_deep v_aimed v_truths v_loops v_valued v_value v_set v_latest v_fits v_total v_looked v_draft_18) H → va_D A (cw_M_draft G a_t a_draft a_parent a_owner a_sort a_aim a_indexClass a_indexPath a_classes1 a_dValues a_dSets a_dNames a_values a_sets a_names a_lengths a_text a_classOfQuestion a_split a_steps a_what a_one a_two a_opened a_openedAt a_stands a_variable a_truth a_rest a_loopAt a_loopFound a_hits v_classes v_fields v_begun v_indexes v_made v_slotted v_half v_open v_known v_fresh v_changed v_renamed v_down v_armed v_written v_logged v_marked v_logSize v_drafted_18 v_questions v_now v_at v_bad v_opens v_deep v_aimed v_truths v_loops v_valued v_value v_set v_latest v_fits v_total v_looked v_draft_18) → va_S A s.heap H locs → f_M_draft_L18 p1 n18 x18_3 x18_4 v_drafted_18 v_draft_18 = some o → W p l e ({ frames := 0, cells := 0, slots := 0, locals := 0 }) s m ([.ref a_t, .long p1] : List Value).toArray below meth c H locs 0 0 Q (F0 m 18 ls []) := by
    intro n18
    induction n18 with
    | zero => intro x18_3 x18_4 v_drafted_18 v_draft_18 ls H locs hl hP hD hS hf; exact ob_no hf
    | succ n18 ih18 =>
      intro x18_3 x18_4 v_drafted_18 v_draft_18 ls H locs hl hP hD hS hf
      have hf : f_M_draft_B18 p1 (f_M_draft_L18 p1 n18) x18_3 x18_4 v_drafted_18 v_draft_18 = some o := hf
      unfold f_M_draft_B18 at hf
      refine lv_iload_n hx hb d_M_draft_18 rfl (lv_at hl 2 rfl) ?_
      refine lv_bipush (v := 8) hx hb d_M_draft_19 (by decide) ?_
      refine lv_icmp_ge (tgt := 87) hx hb d_M_draft_21 (by decide) (fun hc21 => ?_) (fun hc21 => ?_)
      · have hf := ob_t hc21 hf
        exact blk87 x18_3 x18_4 v_drafted_18 v_draft_18 ls H locs (lv_sub hl [0, 1, 2, 3] rfl) hP hD hS hf
      · have hf := ob_f hc21 hf
        refine lv_lload_n hx hb d_M_draft_24 rfl (lv_at hl 1 rfl) ?_
        refine lv_bipush (v := 8) hx hb d_M_draft_25 (by decide) ?_
        refine lv_iload_n hx hb d_M_draft_27 rfl (lv_at hl 2 rfl) ?_
        refine lv_imul hx hb d_M_draft_28 ?_
        refine lv_lushr hx hb d_M_draft_29 rfl ?_
        refine lv_ldc2 (v := 255) hx hb hown (hts _ tw1129) d_M_draft_30 ?_
        refine lv_land hx hb d_M_draft_33 ?_
        refine lv_lconst (v := 0) hx hb d_M_draft_34 (by decide) ?_
        refine W.lcmp hx hb d_M_draft_35 ?_
        refine lv_if_eq (tgt := 87) hx hb d_M_draft_36 (by decide) (fun hc36 => ?_) (fun hc36 => ?_)
        · have hf := ob_t hc36 hf
          exact blk87 x18_3 x18_4 v_drafted_18 v_draft_18 ls H locs (lv_sub hl [0, 1, 2, 3] rfl) hP hD hS hf
        · have hf := ob_f hc36 hf
          refine lv_lload_n hx hb d_M_draft_39 rfl (lv_at hl 1 rfl) ?_
          refine lv_bipush (v := 8) hx hb d_M_draft_40 (by decide) ?_
          refine lv_iload_n hx hb d_M_draft_42 rfl (lv_at hl 2 rfl) ?_
          refine lv_imul hx hb d_M_draft_43 ?_
          refine lv_lushr hx hb d_M_draft_44 rfl ?_
          refine lv_ldc2 (v := 255) hx hb hown (hts _ tw1129) d_M_draft_45 ?_
          refine lv_land hx hb d_M_draft_48 ?_
          refine lv_lstore (lv' := [(5, .long (((p1.toUInt64 >>> ((8 * x18_3).toInt64.toUInt64 &&& Int64.toUInt64 63)).toInt64) &&& 255)), (0, .ref a_t), (1, .long p1), (3, .int x18_3), (4, .int x18_4)]) hx hb d_M_draft_49 hl (by decide) rfl (fun ls hl => ?_)
          refine lv_iload hx hb d_M_draft_51 (lv_at hl 4 rfl) ?_
          refine lv_if_eq (tgt := 78) hx hb d_M_draft_53 (by decide) (fun hc53 => ?_) (fun hc53 => ?_)
          · have hf := ob_t hc53 hf
            refine lv_iconst (v := 0) hx hb d_M_draft_78 (by decide) ?_
            refine lv_istore (lv' := [(4, .int 0), (5, .long (((p1.toUInt64 >>> ((8 * x18_3).toInt64.toUInt64 &&& Int64.toUInt64 63)).toInt64) &&& 255)), (0, .ref a_t), (1, .long p1), (3, .int x18_3)]) hx hb d_M_draft_79 hl (by decide) rfl (fun ls hl => ?_)
            refine lv_iinc (k := 4) (v := x18_3 + 1) (lv' := [(3, .int (x18_3 + 1)), (4, .int 0), (5, .long (((p1.toUInt64 >>> ((8 * x18_3).toInt64.toUInt64 &&& Int64.toUInt64 63)).toInt64) &&& 255)), (0, .ref a_t), (1, .long p1)]) hx hb d_M_draft_81 hl rfl (by rw [show Int32.ofInt 1 = (1 : Int32) from by decide]) (by decide) rfl (fun ls hl => ?_)
            refine lv_goto (tgt := 18) hx hb d_M_draft_84 (by decide) ?_
            exact ih18 (x18_3 + 1) 0 v_drafted_18 v_draft_18 ls H locs (lv_sub hl [3, 4, 0, 1] rfl) hP hD hS hf
          · have hf := ob_f hc53 hf
            refine lv_lload hx hb d_M_draft_56 (lv_at hl 0 rfl) ?_
            refine lv_ldc2 (v := 33) hx hb hown (hts _ tw1130) d_M_draft_58 ?_
            refine W.lcmp hx hb d_M_draft_61 ?_
            refine lv_if_lt (tgt := 78) hx hb d_M_draft_62 (by decide) (fun hc62 => ?_) (fun hc62 => ?_)
            · have hf := ob_t hc62 hf
              refine lv_iconst (v := 0) hx hb d_M_draft_78 (by decide) ?_
              refine lv_istore (lv' := [(4, .int 0), (5, .long (((p1.toUInt64 >>> ((8 * x18_3).toInt64.toUInt64 &&& Int64.toUInt64 63)).toInt64) &&& 255)), (0, .ref a_t), (1, .long p1), (3, .int x18_3)]) hx hb d_M_draft_79 hl (by decide) rfl (fun ls hl => ?_)
              refine lv_iinc (k := 4) (v := x18_3 + 1) (lv' := [(3, .int (x18_3 + 1)), (4, .int 0), (5, .long (((p1.toUInt64 >>> ((8 * x18_3).toInt64.toUInt64 &&& Int64.toUInt64 63)).toInt64) &&& 255)), (0, .ref a_t), (1, .long p1)]) hx hb d_M_draft_81 hl rfl (by rw [show Int32.ofInt 1 = (1 : Int32) from by decide]) (by decide) rfl (fun ls hl => ?_)
              refine lv_goto (tgt := 18) hx hb d_M_draft_84 (by decide) ?_
              exact ih18 (x18_3 + 1) 0 v_drafted_18 v_draft_18 ls H locs (lv_sub hl [3, 4, 0, 1] rfl) hP hD hS hf
            · have hf := ob_f hc62 hf
              refine lv_lload hx hb d_M_draft_65 (lv_at hl 0 rfl) ?_
              refine lv_ldc2 (v := 126) hx hb hown (hts _ tw1131) d_M_draft_67 ?_
              refine W.lcmp hx hb d_M_draft_70 ?_
              refine lv_if_gt (tgt := 78) hx hb d_M_draft_71 (by decide) (fun hc71 => ?_) (fun hc71 => ?_)
              · have hf := ob_t hc71 hf
                refine lv_iconst (v := 0) hx hb d_M_draft_78 (by decide) ?_
                refine lv_istore (lv' := [(4, .int 0), (5, .long (((p1.toUInt64 >>> ((8 * x18_3).toInt64.toUInt64 &&& Int64.toUInt64 63)).toInt64) &&& 255)), (0, .ref a_t), (1, .long p1), (3, .int x18_3)]) hx hb d_M_draft_79 hl (by decide) rfl (fun ls hl => ?_)
                refine lv_iinc (k := 4) (v := x18_3 + 1) (lv' := [(3, .int (x18_3 + 1)), (4, .int 0), (5, .long (((p1.toUInt64 >>> ((8 * x18_3).toInt64.toUInt64 &&& Int64.toUInt64 63)).toInt64) &&& 255)), (0, .ref a_t), (1, .long p1)]) hx hb d_M_draft_81 hl rfl (by rw [show Int32.ofInt 1 = (1 : Int32) from by decide]) (by decide) rfl (fun ls hl => ?_)
                refine lv_goto (tgt := 18) hx hb d_M_draft_84 (by decide) ?_
                exact ih18 (x18_3 + 1) 0 v_drafted_18 v_draft_18 ls H locs (lv_sub hl [3, 4, 0, 1] rfl) hP hD hS hf
              · have hf := ob_f hc71 hf
                refine lv_iconst (v := 1) hx hb d_M_draft_74 (by decide) ?_
                refine lv_goto (tgt := 79) hx hb d_M_draft_75 (by decide) ?_
                refine lv_istore (lv' := [(4, .int 1), (5, .long (((p1.toUInt64 >>> ((8 * x18_3).toInt64.toUInt64 &&& Int64.toUInt64 63)).toInt64) &&& 255)), (0, .ref a_t), (1, .long p1), (3, .int x18_3)]) hx hb d_M_draft_79 hl (by decide) rfl (fun ls hl => ?_)
                refine lv_iinc (k := 4) (v := x18_3 + 1) (lv' := [(3, .int (x18_3 + 1)), (4, .int 1), (5, .long (((p1.toUInt64 >>> ((8 * x18_3).toInt64.toUInt64 &&& Int64.toUInt64 63)).toInt64) &&& 255)), (0, .ref a_t), (1, .long p1)]) hx hb d_M_draft_81 hl rfl (by rw [show Int32.ofInt 1 = (1 : Int32) from by decide]) (by decide) rfl (fun ls hl => ?_)
                refine lv_goto (tgt := 18) hx hb d_M_draft_84 (by decide) ?_
                exact ih18 (x18_3 + 1) 1 v_drafted_18 v_draft_18 ls H locs (lv_sub hl [3, 4, 0, 1] rfl) hP hD hS hf
  refine lv_lload_n hx hb d_M_draft_0 rfl (lv_at hl 1 rfl) ?_
  refine lv_lconst (v := 0) hx hb d_M_draft_1 (by decide) ?_
  refine W.lcmp hx hb d_M_draft_2 ?_
  refine lv_if_ne (tgt := 13) hx hb d_M_draft_3 (by decide) (fun hc3 => ?_) (fun hc3 => ?_)
  · have hf := ob_f hc3 hf
    refine lv_iconst (v := 0) hx hb d_M_draft_13 (by decide) ?_
    refine lv_istore_n (lv' := [(3, .int 0), (0, .ref a_t), (1, .long p1)]) hx hb d_M_draft_14 rfl hl (by decide) rfl (fun ls hl => ?_)
    refine lv_iconst (v := 1) hx hb d_M_draft_15 (by decide) ?_
    refine lv_istore (lv' := [(4, .int 1), (3, .int 0), (0, .ref a_t), (1, .long p1)]) hx hb d_M_draft_16 hl (by decide) rfl (fun ls hl => ?_)
    exact loop18 1000 0 1 v_drafted v_draft ls H locs (lv_sub hl [2, 3, 1, 0] rfl) hP hD hS hf
  · have hf := ob_t hc3 hf
    refine lv_aload_n hx hb d_M_draft_6 rfl (lv_at hl 0 rfl) ?_
    refine lv_iconst (v := 0) hx hb d_M_draft_7 (by decide) ?_
    refine va_put (D := D) (ci := 11) (v := .int 0) (ty := .int) (C := "ObjectBaseModel") (T := TC_M) (N := 66) hx hb hts inC_M tyC_M tyC_M_ok nmC_M hown hK hP hD hS 0 rfl rfl 31 (by decide) (hts _ tw818) (fun _ h9 => h9) rfl (by decide +kernel) rfl rfl (Nat.le_of_ble_eq_true rfl) d_M_draft_8 (fun H locs hP hD hS => ?_)
    have hP : va_P D vwCl (cw_M_draft G a_t a_draft a_parent a_owner a_sort a_aim a_indexClass a_indexPath a_classes1 a_dValues a_dSets a_dNames a_values a_sets a_names a_lengths a_text a_classOfQuestion a_split a_steps a_what a_one a_two a_opened a_openedAt a_stands a_variable a_truth a_rest a_loopAt a_loopFound a_hits v_classes v_fields v_begun v_indexes v_made v_slotted v_half v_open v_known v_fresh v_changed v_renamed v_down v_armed v_written v_logged v_marked v_logSize 0 v_questions v_now v_at v_bad v_opens v_deep v_aimed v_truths v_loops v_valued v_value v_set v_latest v_fits v_total v_looked v_draft) H := hP
    have hD : va_D A (cw_M_draft G a_t a_draft a_parent a_owner a_sort a_aim a_indexClass a_indexPath a_classes1 a_dValues a_dSets a_dNames a_values a_sets a_names a_lengths a_text a_classOfQuestion a_split a_steps a_what a_one a_two a_opened a_openedAt a_stands a_variable a_truth a_rest a_loopAt a_loopFound a_hits v_classes v_fields v_begun v_indexes v_made v_slotted v_half v_open v_known v_fresh v_changed v_renamed v_down v_armed v_written v_logged v_marked v_logSize 0 v_questions v_now v_at v_bad v_opens v_deep v_aimed v_truths v_loops v_valued v_value v_set v_latest v_fits v_total v_looked v_draft) := hD
    refine lv_iconst (v := 1) hx hb d_M_draft_11 (by decide) ?_
    exact hret (1, 0, v_draft) H locs _ ls hf hP hD hS narrow_b1 d_M_draft_12
abbrev bc_M_charAt : ByteArray := prog_13_method_38_code
abbrev y_M_charAt : MethodName := ⟨"ObjectBaseModel", "charAt", "(I)I"⟩
def ws_M_charAt : List Cond := .code y_M_charAt bc_M_charAt 2 (some .int) :: obW
theorem d_M_charAt_0 : decode bc_M_charAt 0 = .ok (.iload_n 1, 1) := by decide +kernel
theorem d_M_charAt_1 : decode bc_M_charAt 1 = .ok (.aload_n 0, 1) := by decide +kernel
theorem d_M_charAt_2 : decode bc_M_charAt 2 = .ok (.getfield 57, 3) := by decide +kernel
theorem d_M_charAt_5 : decode bc_M_charAt 5 = .ok (.aload_n 0, 1) := by decide +kernel
theorem d_M_charAt_6 : decode bc_M_charAt 6 = .ok (.getfield 239, 3) := by decide +kernel
theorem d_M_charAt_9 : decode bc_M_charAt 9 = .ok (.iaload, 1) := by decide +kernel
theorem d_M_charAt_10 : decode bc_M_charAt 10 = .ok (.if_icmp .ge 20, 3) := by decide +kernel
theorem d_M_charAt_13 : decode bc_M_charAt 13 = .ok (.aload_n 0, 1) := by decide +kernel
theorem d_M_charAt_14 : decode bc_M_charAt 14 = .ok (.getfield 60, 3) := by decide +kernel
theorem d_M_charAt_17 : decode bc_M_charAt 17 = .ok (.bipush 64, 2) := by decide +kernel
theorem d_M_charAt_19 : decode bc_M_charAt 19 = .ok (.aload_n 0, 1) := by decide +kernel
theorem d_M_charAt_20 : decode bc_M_charAt 20 = .ok (.getfield 239, 3) := by decide +kernel
theorem d_M_charAt_23 : decode bc_M_charAt 23 = .ok (.imul, 1) := by decide +kernel
theorem d_M_charAt_24 : decode bc_M_charAt 24 = .ok (.iload_n 1, 1) := by decide +kernel
theorem d_M_charAt_25 : decode bc_M_charAt 25 = .ok (.iadd, 1) := by decide +kernel
theorem d_M_charAt_26 : decode bc_M_charAt 26 = .ok (.iaload, 1) := by decide +kernel
theorem d_M_charAt_27 : decode bc_M_charAt 27 = .ok (.goto 4, 3) := by decide +kernel
theorem d_M_charAt_30 : decode bc_M_charAt 30 = .ok (.iconst 0, 1) := by decide +kernel
theorem d_M_charAt_31 : decode bc_M_charAt 31 = .ok (.ireturn, 1) := by decide +kernel
def cw_M_charAt (G : Nat → ClassId) (a_t a_lengths a_text a_parent a_owner a_sort a_aim a_indexClass a_indexPath a_classes1 a_dValues a_dSets a_dNames a_values a_sets a_names a_draft a_classOfQuestion a_split a_steps a_what a_one a_two a_opened a_openedAt a_stands a_variable a_truth a_rest a_loopAt a_loopFound a_hits : Nat) (v_classes : Int32) (v_fields : Int32) (v_begun : Int32) (v_indexes : Int32) (v_made : Int32) (v_slotted : Int64) (v_half : Int32) (v_open : Int32) (v_known : Int64) (v_fresh : Int64) (v_changed : Int64) (v_renamed : Int32) (v_down : Int32) (v_armed : Int32) (v_written : Int32) (v_logged : Int32) (v_marked : Int32) (v_logSize : Int32) (v_drafted : Int32) (v_questions : Int32) (v_now : Int32) (v_at : Int32) (v_bad : Int32) (v_opens : Int32) (v_deep : Int32) (v_aimed : Int32) (v_truths : Int32) (v_loops : Int32) (v_valued : Int32) (v_value : Int32) (v_set : Int64) (v_latest : Int32) (v_fits : Int32) (v_total : Int64) (v_looked : Int32) (v_lengths : Nat → Int32) (v_text : Nat → Int32) : va_W := [(a_t, .inr (11, [.int v_classes, .ref a_parent, .int v_fields, .ref a_owner, .ref a_sort, .ref a_aim, .int v_begun, .int v_indexes, .ref a_indexClass, .ref a_indexPath, .int v_made, .ref a_classes1, .ref a_dValues, .ref a_dSets, .ref a_dNames, .ref a_values, .ref a_sets, .ref a_names, .long v_slotted, .int v_half, .int v_open, .long v_known, .long v_fresh, .long v_changed, .int v_renamed, .int v_down, .int v_armed, .int v_written, .int v_logged, .int v_marked, .int v_logSize, .int v_drafted, .ref a_draft, .int v_questions, .ref a_lengths, .ref a_text, .ref a_classOfQuestion, .ref a_split, .ref a_steps, .ref a_what, .ref a_one, .ref a_two, .int v_now, .int v_at, .int v_bad, .int v_opens, .ref a_opened, .ref a_openedAt, .int v_deep, .int v_aimed, .ref a_stands, .ref a_variable, .int v_truths, .ref a_truth, .int v_loops, .ref a_rest, .ref a_loopAt, .ref a_loopFound, .int v_valued, .int v_value, .long v_set, .int v_latest, .int v_fits, .ref a_hits, .long v_total, .int v_looked])), (a_lengths, .inl (G 0, 13, .inl v_lengths)), (a_text, .inl (G 0, 832, .inl v_text))]
def f_M_charAt (v_now : Int32) (v_lengths : Nat → Int32) (v_text : Nat → Int32) (p1 : Int32) : Option (Int32) := ob_iv v_now 13 (if (v_lengths v_now.toNatClampNeg) ≤ p1 then (some 0) else (ob_iv ((64 * v_now) + p1) 832 (some (v_text ((64 * v_now) + p1).toNatClampNeg))))
set_option maxHeartbeats 4000000 in
set_option maxRecDepth 100000 in
theorem c_M_charAt (l : Launch) (D : va_G) (G : Nat → ClassId) (a_t a_lengths a_text a_parent a_owner a_sort a_aim a_indexClass a_indexPath a_classes1 a_dValues a_dSets a_dNames a_values a_sets a_names a_draft a_classOfQuestion a_split a_steps a_what a_one a_two a_opened a_openedAt a_stands a_variable a_truth a_rest a_loopAt a_loopFound a_hits : Nat) (v_classes : Int32) (v_fields : Int32) (v_begun : Int32) (v_indexes : Int32) (v_made : Int32) (v_slotted : Int64) (v_half : Int32) (v_open : Int32) (v_known : Int64) (v_fresh : Int64) (v_changed : Int64) (v_renamed : Int32) (v_down : Int32) (v_armed : Int32) (v_written : Int32) (v_logged : Int32) (v_marked : Int32) (v_logSize : Int32) (v_drafted : Int32) (v_questions : Int32) (v_now : Int32) (v_at : Int32) (v_bad : Int32) (v_opens : Int32) (v_deep : Int32) (v_aimed : Int32) (v_truths : Int32) (v_loops : Int32) (v_valued : Int32) (v_value : Int32) (v_set : Int64) (v_latest : Int32) (v_fits : Int32) (v_total : Int64) (v_looked : Int32) (v_lengths : Nat → Int32) (v_text : Nat → Int32) (p1 : Int32) (o : Int32) (hf : f_M_charAt v_now v_lengths v_text p1 = some o) (sz : Nat) : MetI l y_M_charAt ws_M_charAt ({ frames := 0, cells := 0, slots := 0, locals := 0 }) D (obT G) (cw_M_charAt G a_t a_lengths a_text a_parent a_owner a_sort a_aim a_indexClass a_indexPath a_classes1 a_dValues a_dSets a_dNames a_values a_sets a_names a_draft a_classOfQuestion a_split a_steps a_what a_one a_two a_opened a_openedAt a_stands a_variable a_truth a_rest a_loopAt a_loopFound a_hits v_classes v_fields v_begun v_indexes v_made v_slotted v_half v_open v_known v_fresh v_changed v_renamed v_down v_armed v_written v_logged v_marked v_logSize v_drafted v_questions v_now v_at v_bad v_opens v_deep v_aimed v_truths v_loops v_valued v_value v_set v_latest v_fits v_total v_looked v_lengths v_text) (cw_M_charAt G a_t a_lengths a_text a_parent a_owner a_sort a_aim a_indexClass a_indexPath a_classes1 a_dValues a_dSets a_dNames a_values a_sets a_names a_draft a_classOfQuestion a_split a_steps a_what a_one a_two a_opened a_openedAt a_stands a_variable a_truth a_rest a_loopAt a_loopFound a_hits v_classes v_fields v_begun v_indexes v_made v_slotted v_half v_open v_known v_fresh v_changed v_renamed v_down v_armed v_written v_logged v_marked v_logSize v_drafted v_questions v_now v_at v_bad v_opens v_deep v_aimed v_truths v_loops v_valued v_value v_set v_latest v_fits v_total v_looked v_lengths v_text) [.ref a_t, .int p1] o sz := by
  refine ob_of (cc := bc_M_charAt) (maxL := 2) (ret := (some .int)) (Qc := ObQi D (obT G) (cw_M_charAt G a_t a_lengths a_text a_parent a_owner a_sort a_aim a_indexClass a_indexPath a_classes1 a_dValues a_dSets a_dNames a_values a_sets a_names a_draft a_classOfQuestion a_split a_steps a_what a_one a_two a_opened a_openedAt a_stands a_variable a_truth a_rest a_loopAt a_loopFound a_hits v_classes v_fields v_begun v_indexes v_made v_slotted v_half v_open v_known v_fresh v_changed v_renamed v_down v_armed v_written v_logged v_marked v_logSize v_drafted v_questions v_now v_at v_bad v_opens v_deep v_aimed v_truths v_loops v_valued v_value v_set v_latest v_fits v_total v_looked v_lengths v_text) o) (by decide) rfl (Nat.le_of_ble_eq_true rfl) ?_
  intro p e s m below meth c A ls H locs hx hb hr hml hts hown hlk hnm hZ hP hK hD hA hS hl
  have hret : ∀ (o' : Int32) (H : Heap) (locs : List Loc) (pc : Nat) (ls : Array Slot), some o' = some o → va_P D vwCl (cw_M_charAt G a_t a_lengths a_text a_parent a_owner a_sort a_aim a_indexClass a_indexPath a_classes1 a_dValues a_dSets a_dNames a_values a_sets a_names a_draft a_classOfQuestion a_split a_steps a_what a_one a_two a_opened a_openedAt a_stands a_variable a_truth a_rest a_loopAt a_loopFound a_hits v_classes v_fields v_begun v_indexes v_made v_slotted v_half v_open v_known v_fresh v_changed v_renamed v_down v_armed v_written v_logged v_marked v_logSize v_drafted v_questions v_now v_at v_bad v_opens v_deep v_aimed v_truths v_loops v_valued v_value v_set v_latest v_fits v_total v_looked v_lengths v_text) H → va_D A (cw_M_charAt G a_t a_lengths a_text a_parent a_owner a_sort a_aim a_indexClass a_indexPath a_classes1 a_dValues a_dSets a_dNames a_values a_sets a_names a_draft a_classOfQuestion a_split a_steps a_what a_one a_two a_opened a_openedAt a_stands a_variable a_truth a_rest a_loopAt a_loopFound a_hits v_classes v_fields v_begun v_indexes v_made v_slotted v_half v_open v_known v_fresh v_changed v_renamed v_down v_armed v_written v_logged v_marked v_logSize v_drafted v_questions v_now v_at v_bad v_opens v_deep v_aimed v_truths v_loops v_valued v_value v_set v_latest v_fits v_total v_looked v_lengths v_text) → va_S A s.heap H locs → narrow .int (.int o') = .int o' → decode bc_M_charAt pc = .ok (.ireturn, 1) → W p l e { frames := 0, cells := 0, slots := 0, locals := 0 } s m ([.ref a_t, .int p1] : List Value).toArray below meth c H locs 0 0 (MQ below (ObQi D (obT G) (cw_M_charAt G a_t a_lengths a_text a_parent a_owner a_sort a_aim a_indexClass a_indexPath a_classes1 a_dValues a_dSets a_dNames a_values a_sets a_names a_draft a_classOfQuestion a_split a_steps a_what a_one a_two a_opened a_openedAt a_stands a_variable a_truth a_rest a_loopAt a_loopFound a_hits v_classes v_fields v_begun v_indexes v_made v_slotted v_half v_open v_known v_fresh v_changed v_renamed v_down v_armed v_written v_logged v_marked v_logSize v_drafted v_questions v_now v_at v_bad v_opens v_deep v_aimed v_truths v_loops v_valued v_value v_set v_latest v_fits v_total v_looked v_lengths v_text) o A) ([.ref a_t, .int p1] : List Value).toArray s 0 0 A) (F0 m pc ls [.int o']) := by
    intro o' H locs pc ls he hP hD hS hn hd
    obtain rfl := Option.some.inj he
    exact ob_iret hx hb hr hlk hK hP hD hS hn hd
  generalize MQ below (ObQi D (obT G) (cw_M_charAt G a_t a_lengths a_text a_parent a_owner a_sort a_aim a_indexClass a_indexPath a_classes1 a_dValues a_dSets a_dNames a_values a_sets a_names a_draft a_classOfQuestion a_split a_steps a_what a_one a_two a_opened a_openedAt a_stands a_variable a_truth a_rest a_loopAt a_loopFound a_hits v_classes v_fields v_begun v_indexes v_made v_slotted v_half v_open v_known v_fresh v_changed v_renamed v_down v_armed v_written v_logged v_marked v_logSize v_drafted v_questions v_now v_at v_bad v_opens v_deep v_aimed v_truths v_loops v_valued v_value v_set v_latest v_fits v_total v_looked v_lengths v_text) o A) ([.ref a_t, .int p1] : List Value).toArray s 0 0 A = Q at hret ⊢
  have hl : lv_has ls 2 [(0, .ref a_t), (1, .int p1)] := hl
  unfold f_M_charAt at hf
  refine lv_iload_n hx hb d_M_charAt_0 rfl (lv_at hl 1 rfl) ?_
  refine lv_aload_n hx hb d_M_charAt_1 rfl (lv_at hl 0 rfl) ?_
  refine va_get (D := D) (ci := 11) (v := .ref a_lengths) (C := "ObjectBaseModel") (T := TC_M) (N := 66) hx hb hts inC_M hown hK hP 0 rfl rfl 34 (by decide) (hts _ tw821) (fun _ h9 => h9) rfl d_M_charAt_2 ?_
  refine lv_aload_n hx hb d_M_charAt_5 rfl (lv_at hl 0 rfl) ?_
  refine va_get (D := D) (ci := 11) (v := .int v_now) (C := "ObjectBaseModel") (T := TC_M) (N := 66) hx hb hts inC_M hown hK hP 0 rfl rfl 42 (by decide) (hts _ tw829) (fun _ h9 => h9) rfl d_M_charAt_6 ?_
  obtain ⟨hg9, hf⟩ := ob_iv_g hf
  refine va_iald hx hb hK hP 1 0 rfl rfl hg9 d_M_charAt_9 ?_
  refine lv_icmp_ge (tgt := 30) hx hb d_M_charAt_10 (by decide) (fun hc10 => ?_) (fun hc10 => ?_)
  · have hf := ob_t hc10 hf
    refine lv_iconst (v := 0) hx hb d_M_charAt_30 (by decide) ?_
    exact hret 0 H locs _ ls hf hP hD hS rfl d_M_charAt_31
  · have hf := ob_f hc10 hf
    refine lv_aload_n hx hb d_M_charAt_13 rfl (lv_at hl 0 rfl) ?_
    refine va_get (D := D) (ci := 11) (v := .ref a_text) (C := "ObjectBaseModel") (T := TC_M) (N := 66) hx hb hts inC_M hown hK hP 0 rfl rfl 35 (by decide) (hts _ tw822) (fun _ h9 => h9) rfl d_M_charAt_14 ?_
    refine lv_bipush (v := 64) hx hb d_M_charAt_17 (by decide) ?_
    refine lv_aload_n hx hb d_M_charAt_19 rfl (lv_at hl 0 rfl) ?_
    refine va_get (D := D) (ci := 11) (v := .int v_now) (C := "ObjectBaseModel") (T := TC_M) (N := 66) hx hb hts inC_M hown hK hP 0 rfl rfl 42 (by decide) (hts _ tw829) (fun _ h9 => h9) rfl d_M_charAt_20 ?_
    refine lv_imul hx hb d_M_charAt_23 ?_
    refine lv_iload_n hx hb d_M_charAt_24 rfl (lv_at hl 1 rfl) ?_
    refine lv_iadd hx hb d_M_charAt_25 ?_
    obtain ⟨hg26, hf⟩ := ob_iv_g hf
    refine va_iald hx hb hK hP 2 0 rfl rfl hg26 d_M_charAt_26 ?_
    refine lv_goto (tgt := 31) hx hb d_M_charAt_27 (by decide) ?_
    exact hret (v_text ((64 * v_now) + p1).toNatClampNeg) H locs _ ls hf hP hD hS rfl d_M_charAt_31
abbrev bc_M_expect : ByteArray := prog_13_method_39_code
abbrev y_M_expect : MethodName := ⟨"ObjectBaseModel", "expect", "(I)V"⟩
def ws_M_expect : List Cond := .code y_M_expect bc_M_expect 2 none :: obW
theorem d_M_expect_0 : decode bc_M_expect 0 = .ok (.aload_n 0, 1) := by decide +kernel
theorem d_M_expect_1 : decode bc_M_expect 1 = .ok (.aload_n 0, 1) := by decide +kernel
theorem d_M_expect_2 : decode bc_M_expect 2 = .ok (.getfield 242, 3) := by decide +kernel
theorem d_M_expect_5 : decode bc_M_expect 5 = .ok (.ifCond .ne 15, 3) := by decide +kernel
theorem d_M_expect_8 : decode bc_M_expect 8 = .ok (.aload_n 0, 1) := by decide +kernel
theorem d_M_expect_9 : decode bc_M_expect 9 = .ok (.aload_n 0, 1) := by decide +kernel
theorem d_M_expect_10 : decode bc_M_expect 10 = .ok (.getfield 245, 3) := by decide +kernel
theorem d_M_expect_13 : decode bc_M_expect 13 = .ok (.invokevirtual 248, 3) := by decide +kernel
theorem d_M_expect_16 : decode bc_M_expect 16 = .ok (.iload_n 1, 1) := by decide +kernel
theorem d_M_expect_17 : decode bc_M_expect 17 = .ok (.if_icmp .eq 7, 3) := by decide +kernel
theorem d_M_expect_20 : decode bc_M_expect 20 = .ok (.iconst 1, 1) := by decide +kernel
theorem d_M_expect_21 : decode bc_M_expect 21 = .ok (.goto 4, 3) := by decide +kernel
theorem d_M_expect_24 : decode bc_M_expect 24 = .ok (.iconst 0, 1) := by decide +kernel
theorem d_M_expect_25 : decode bc_M_expect 25 = .ok (.putfield 242, 3) := by decide +kernel
theorem d_M_expect_28 : decode bc_M_expect 28 = .ok (.aload_n 0, 1) := by decide +kernel
theorem d_M_expect_29 : decode bc_M_expect 29 = .ok (.dup, 1) := by decide +kernel
theorem d_M_expect_30 : decode bc_M_expect 30 = .ok (.getfield 245, 3) := by decide +kernel
theorem d_M_expect_33 : decode bc_M_expect 33 = .ok (.iconst 1, 1) := by decide +kernel
theorem d_M_expect_34 : decode bc_M_expect 34 = .ok (.iadd, 1) := by decide +kernel
theorem d_M_expect_35 : decode bc_M_expect 35 = .ok (.putfield 245, 3) := by decide +kernel
theorem d_M_expect_38 : decode bc_M_expect 38 = .ok (.return_, 1) := by decide +kernel
def cw_M_expect (G : Nat → ClassId) (a_t a_lengths a_text a_parent a_owner a_sort a_aim a_indexClass a_indexPath a_classes1 a_dValues a_dSets a_dNames a_values a_sets a_names a_draft a_classOfQuestion a_split a_steps a_what a_one a_two a_opened a_openedAt a_stands a_variable a_truth a_rest a_loopAt a_loopFound a_hits : Nat) (v_classes : Int32) (v_fields : Int32) (v_begun : Int32) (v_indexes : Int32) (v_made : Int32) (v_slotted : Int64) (v_half : Int32) (v_open : Int32) (v_known : Int64) (v_fresh : Int64) (v_changed : Int64) (v_renamed : Int32) (v_down : Int32) (v_armed : Int32) (v_written : Int32) (v_logged : Int32) (v_marked : Int32) (v_logSize : Int32) (v_drafted : Int32) (v_questions : Int32) (v_now : Int32) (v_at : Int32) (v_bad : Int32) (v_opens : Int32) (v_deep : Int32) (v_aimed : Int32) (v_truths : Int32) (v_loops : Int32) (v_valued : Int32) (v_value : Int32) (v_set : Int64) (v_latest : Int32) (v_fits : Int32) (v_total : Int64) (v_looked : Int32) (v_lengths : Nat → Int32) (v_text : Nat → Int32) : va_W := [(a_t, .inr (11, [.int v_classes, .ref a_parent, .int v_fields, .ref a_owner, .ref a_sort, .ref a_aim, .int v_begun, .int v_indexes, .ref a_indexClass, .ref a_indexPath, .int v_made, .ref a_classes1, .ref a_dValues, .ref a_dSets, .ref a_dNames, .ref a_values, .ref a_sets, .ref a_names, .long v_slotted, .int v_half, .int v_open, .long v_known, .long v_fresh, .long v_changed, .int v_renamed, .int v_down, .int v_armed, .int v_written, .int v_logged, .int v_marked, .int v_logSize, .int v_drafted, .ref a_draft, .int v_questions, .ref a_lengths, .ref a_text, .ref a_classOfQuestion, .ref a_split, .ref a_steps, .ref a_what, .ref a_one, .ref a_two, .int v_now, .int v_at, .int v_bad, .int v_opens, .ref a_opened, .ref a_openedAt, .int v_deep, .int v_aimed, .ref a_stands, .ref a_variable, .int v_truths, .ref a_truth, .int v_loops, .ref a_rest, .ref a_loopAt, .ref a_loopFound, .int v_valued, .int v_value, .long v_set, .int v_latest, .int v_fits, .ref a_hits, .long v_total, .int v_looked])), (a_lengths, .inl (G 0, 13, .inl v_lengths)), (a_text, .inl (G 0, 832, .inl v_text))]
def f_M_expect_J25 (y25_0 : Int32) (v_at_25 : Int32) (v_bad_25 : Int32) : Option (Int32 × Int32) := ob_nz y25_0 (some (v_at_25 + 1, y25_0))
def f_M_expect_J20 (v_at_20 : Int32) (v_bad_20 : Int32) : Option (Int32 × Int32) := f_M_expect_J25 1 v_at_20 v_bad_20
def f_M_expect (v_now : Int32) (v_at : Int32) (v_bad : Int32) (v_lengths : Nat → Int32) (v_text : Nat → Int32) (p1 : Int32) : Option (Int32 × Int32) := if v_bad = 0 then ((f_M_charAt v_now v_lengths v_text v_at).bind fun o13 => (if o13 = p1 then (f_M_expect_J25 0 v_at v_bad) else (f_M_expect_J20 v_at v_bad))) else (f_M_expect_J20 v_at v_bad)
set_option maxHeartbeats 4000000 in
set_option maxRecDepth 100000 in
theorem c_M_expect (l : Launch) (D : va_G) (G : Nat → ClassId) (a_t a_lengths a_text a_parent a_owner a_sort a_aim a_indexClass a_indexPath a_classes1 a_dValues a_dSets a_dNames a_values a_sets a_names a_draft a_classOfQuestion a_split a_steps a_what a_one a_two a_opened a_openedAt a_stands a_variable a_truth a_rest a_loopAt a_loopFound a_hits : Nat) (v_classes : Int32) (v_fields : Int32) (v_begun : Int32) (v_indexes : Int32) (v_made : Int32) (v_slotted : Int64) (v_half : Int32) (v_open : Int32) (v_known : Int64) (v_fresh : Int64) (v_changed : Int64) (v_renamed : Int32) (v_down : Int32) (v_armed : Int32) (v_written : Int32) (v_logged : Int32) (v_marked : Int32) (v_logSize : Int32) (v_drafted : Int32) (v_questions : Int32) (v_now : Int32) (v_at : Int32) (v_bad : Int32) (v_opens : Int32) (v_deep : Int32) (v_aimed : Int32) (v_truths : Int32) (v_loops : Int32) (v_valued : Int32) (v_value : Int32) (v_set : Int64) (v_latest : Int32) (v_fits : Int32) (v_total : Int64) (v_looked : Int32) (v_lengths : Nat → Int32) (v_text : Nat → Int32) (p1 : Int32) (o : Int32 × Int32) (hf : f_M_expect v_now v_at v_bad v_lengths v_text p1 = some o) (sz : Nat) : MetV l y_M_expect ws_M_expect ({ frames := 1, cells := 0, slots := 0, locals := 21 }) D (obT G) (cw_M_expect G a_t a_lengths a_text a_parent a_owner a_sort a_aim a_indexClass a_indexPath a_classes1 a_dValues a_dSets a_dNames a_values a_sets a_names a_draft a_classOfQuestion a_split a_steps a_what a_one a_two a_opened a_openedAt a_stands a_variable a_truth a_rest a_loopAt a_loopFound a_hits v_classes v_fields v_begun v_indexes v_made v_slotted v_half v_open v_known v_fresh v_changed v_renamed v_down v_armed v_written v_logged v_marked v_logSize v_drafted v_questions v_now v_at v_bad v_opens v_deep v_aimed v_truths v_loops v_valued v_value v_set v_latest v_fits v_total v_looked v_lengths v_text) (cw_M_expect G a_t a_lengths a_text a_parent a_owner a_sort a_aim a_indexClass a_indexPath a_classes1 a_dValues a_dSets a_dNames a_values a_sets a_names a_draft a_classOfQuestion a_split a_steps a_what a_one a_two a_opened a_openedAt a_stands a_variable a_truth a_rest a_loopAt a_loopFound a_hits v_classes v_fields v_begun v_indexes v_made v_slotted v_half v_open v_known v_fresh v_changed v_renamed v_down v_armed v_written v_logged v_marked v_logSize v_drafted v_questions v_now o.1 o.2 v_opens v_deep v_aimed v_truths v_loops v_valued v_value v_set v_latest v_fits v_total v_looked v_lengths v_text) [.ref a_t, .int p1] sz := by
  refine ob_of (cc := bc_M_expect) (maxL := 2) (ret := none) (Qc := ObQv D (obT G) (cw_M_expect G a_t a_lengths a_text a_parent a_owner a_sort a_aim a_indexClass a_indexPath a_classes1 a_dValues a_dSets a_dNames a_values a_sets a_names a_draft a_classOfQuestion a_split a_steps a_what a_one a_two a_opened a_openedAt a_stands a_variable a_truth a_rest a_loopAt a_loopFound a_hits v_classes v_fields v_begun v_indexes v_made v_slotted v_half v_open v_known v_fresh v_changed v_renamed v_down v_armed v_written v_logged v_marked v_logSize v_drafted v_questions v_now o.1 o.2 v_opens v_deep v_aimed v_truths v_loops v_valued v_value v_set v_latest v_fits v_total v_looked v_lengths v_text)) (by decide) rfl (Nat.le_of_ble_eq_true rfl) ?_
  intro p e s m below meth c A ls H locs hx hb hr hml hts hown hlk hnm hZ hP hK hD hA hS hl
  have hret : ∀ (o' : Int32 × Int32) (H : Heap) (locs : List Loc) (pc : Nat) (ls : Array Slot), some o' = some o → va_P D vwCl (cw_M_expect G a_t a_lengths a_text a_parent a_owner a_sort a_aim a_indexClass a_indexPath a_classes1 a_dValues a_dSets a_dNames a_values a_sets a_names a_draft a_classOfQuestion a_split a_steps a_what a_one a_two a_opened a_openedAt a_stands a_variable a_truth a_rest a_loopAt a_loopFound a_hits v_classes v_fields v_begun v_indexes v_made v_slotted v_half v_open v_known v_fresh v_changed v_renamed v_down v_armed v_written v_logged v_marked v_logSize v_drafted v_questions v_now o'.1 o'.2 v_opens v_deep v_aimed v_truths v_loops v_valued v_value v_set v_latest v_fits v_total v_looked v_lengths v_text) H → va_D A (cw_M_expect G a_t a_lengths a_text a_parent a_owner a_sort a_aim a_indexClass a_indexPath a_classes1 a_dValues a_dSets a_dNames a_values a_sets a_names a_draft a_classOfQuestion a_split a_steps a_what a_one a_two a_opened a_openedAt a_stands a_variable a_truth a_rest a_loopAt a_loopFound a_hits v_classes v_fields v_begun v_indexes v_made v_slotted v_half v_open v_known v_fresh v_changed v_renamed v_down v_armed v_written v_logged v_marked v_logSize v_drafted v_questions v_now o'.1 o'.2 v_opens v_deep v_aimed v_truths v_loops v_valued v_value v_set v_latest v_fits v_total v_looked v_lengths v_text) → va_S A s.heap H locs → decode bc_M_expect pc = .ok (.return_, 1) → W p l e { frames := 1, cells := 0, slots := 0, locals := 21 } s m ([.ref a_t, .int p1] : List Value).toArray below meth c H locs 0 0 (MQ below (ObQv D (obT G) (cw_M_expect G a_t a_lengths a_text a_parent a_owner a_sort a_aim a_indexClass a_indexPath a_classes1 a_dValues a_dSets a_dNames a_values a_sets a_names a_draft a_classOfQuestion a_split a_steps a_what a_one a_two a_opened a_openedAt a_stands a_variable a_truth a_rest a_loopAt a_loopFound a_hits v_classes v_fields v_begun v_indexes v_made v_slotted v_half v_open v_known v_fresh v_changed v_renamed v_down v_armed v_written v_logged v_marked v_logSize v_drafted v_questions v_now o.1 o.2 v_opens v_deep v_aimed v_truths v_loops v_valued v_value v_set v_latest v_fits v_total v_looked v_lengths v_text) A) ([.ref a_t, .int p1] : List Value).toArray s 0 0 A) (F0 m pc ls []) := by
    intro o' H locs pc ls he hP hD hS hd
    obtain rfl := Option.some.inj he
    exact ob_vret hx hb hr hlk hK hP hD hS hd
  generalize MQ below (ObQv D (obT G) (cw_M_expect G a_t a_lengths a_text a_parent a_owner a_sort a_aim a_indexClass a_indexPath a_classes1 a_dValues a_dSets a_dNames a_values a_sets a_names a_draft a_classOfQuestion a_split a_steps a_what a_one a_two a_opened a_openedAt a_stands a_variable a_truth a_rest a_loopAt a_loopFound a_hits v_classes v_fields v_begun v_indexes v_made v_slotted v_half v_open v_known v_fresh v_changed v_renamed v_down v_armed v_written v_logged v_marked v_logSize v_drafted v_questions v_now o.1 o.2 v_opens v_deep v_aimed v_truths v_loops v_valued v_value v_set v_latest v_fits v_total v_looked v_lengths v_text) A) ([.ref a_t, .int p1] : List Value).toArray s 0 0 A = Q at hret ⊢
  have hl : lv_has ls 2 [(0, .ref a_t), (1, .int p1)] := hl
  unfold f_M_expect at hf
  have blk25 : ∀ (y25_0 : Int32) (v_at_25 : Int32) (v_bad_25 : Int32) (ls : Array Slot) (H : Heap) (locs : List Loc), lv_has ls 2 [(0, .ref a_t)] → va_P D vwCl (cw_M_expect G a_t a_lengths a_text a_parent a_owner a_sort a_aim a_indexClass a_indexPath a_classes1 a_dValues a_dSets a_dNames a_values a_sets a_names a_draft a_classOfQuestion a_split a_steps a_what a_one a_two a_opened a_openedAt a_stands a_variable a_truth a_rest a_loopAt a_loopFound a_hits v_classes v_fields v_begun v_indexes v_made v_slotted v_half v_open v_known v_fresh v_changed v_renamed v_down v_armed v_written v_logged v_marked v_logSize v_drafted v_questions v_now v_at_25 v_bad_25 v_opens v_deep v_aimed v_truths v_loops v_valued v_value v_set v_latest v_fits v_total v_looked v_lengths v_text) H → va_D A (cw_M_expect G a_t a_lengths a_text a_parent a_owner a_sort a_aim a_indexClass a_indexPath a_classes1 a_dValues a_dSets a_dNames a_values a_sets a_names a_draft a_classOfQuestion a_split a_steps a_what a_one a_two a_opened a_openedAt a_stands a_variable a_truth a_rest a_loopAt a_loopFound a_hits v_classes v_fields v_begun v_indexes v_made v_slotted v_half v_open v_known v_fresh v_changed v_renamed v_down v_armed v_written v_logged v_marked v_logSize v_drafted v_questions v_now v_at_25 v_bad_25 v_opens v_deep v_aimed v_truths v_loops v_valued v_value v_set v_latest v_fits v_total v_looked v_lengths v_text) → va_S A s.heap H locs → f_M_expect_J25 y25_0 v_at_25 v_bad_25 = some o → W p l e ({ frames := 1, cells := 0, slots := 0, locals := 21 }) s m ([.ref a_t, .int p1] : List Value).toArray below meth c H locs 0 0 Q (F0 m 25 ls [.int y25_0, .ref a_t]) := by
    intro y25_0 v_at_25 v_bad_25 ls H locs hl hP hD hS hf
    unfold f_M_expect_J25 at hf
    obtain ⟨hg25, hf⟩ := ob_nz_g hf
    refine va_put (D := D) (ci := 11) (v := .int y25_0) (ty := .boolean) (C := "ObjectBaseModel") (T := TC_M) (N := 66) hx hb hts inC_M tyC_M tyC_M_ok nmC_M hown hK hP hD hS 0 rfl rfl 44 (by decide) (hts _ tw831) (fun _ h9 => h9) rfl (by decide +kernel) hg25.1 hg25.2 (Nat.le_of_ble_eq_true rfl) d_M_expect_25 (fun H locs hP hD hS => ?_)
    have hP : va_P D vwCl (cw_M_expect G a_t a_lengths a_text a_parent a_owner a_sort a_aim a_indexClass a_indexPath a_classes1 a_dValues a_dSets a_dNames a_values a_sets a_names a_draft a_classOfQuestion a_split a_steps a_what a_one a_two a_opened a_openedAt a_stands a_variable a_truth a_rest a_loopAt a_loopFound a_hits v_classes v_fields v_begun v_indexes v_made v_slotted v_half v_open v_known v_fresh v_changed v_renamed v_down v_armed v_written v_logged v_marked v_logSize v_drafted v_questions v_now v_at_25 y25_0 v_opens v_deep v_aimed v_truths v_loops v_valued v_value v_set v_latest v_fits v_total v_looked v_lengths v_text) H := hP
    have hD : va_D A (cw_M_expect G a_t a_lengths a_text a_parent a_owner a_sort a_aim a_indexClass a_indexPath a_classes1 a_dValues a_dSets a_dNames a_values a_sets a_names a_draft a_classOfQuestion a_split a_steps a_what a_one a_two a_opened a_openedAt a_stands a_variable a_truth a_rest a_loopAt a_loopFound a_hits v_classes v_fields v_begun v_indexes v_made v_slotted v_half v_open v_known v_fresh v_changed v_renamed v_down v_armed v_written v_logged v_marked v_logSize v_drafted v_questions v_now v_at_25 y25_0 v_opens v_deep v_aimed v_truths v_loops v_valued v_value v_set v_latest v_fits v_total v_looked v_lengths v_text) := hD
    refine lv_aload_n hx hb d_M_expect_28 rfl (lv_at hl 0 rfl) ?_
    refine lv_dup hx hb d_M_expect_29 rfl ?_
    refine va_get (D := D) (ci := 11) (v := .int v_at_25) (C := "ObjectBaseModel") (T := TC_M) (N := 66) hx hb hts inC_M hown hK hP 0 rfl rfl 43 (by decide) (hts _ tw830) (fun _ h9 => h9) rfl d_M_expect_30 ?_
    refine lv_iconst (v := 1) hx hb d_M_expect_33 (by decide) ?_
    refine lv_iadd hx hb d_M_expect_34 ?_
    refine va_put (D := D) (ci := 11) (v := .int (v_at_25 + 1)) (ty := .int) (C := "ObjectBaseModel") (T := TC_M) (N := 66) hx hb hts inC_M tyC_M tyC_M_ok nmC_M hown hK hP hD hS 0 rfl rfl 43 (by decide) (hts _ tw830) (fun _ h9 => h9) rfl (by decide +kernel) rfl rfl (Nat.le_of_ble_eq_true rfl) d_M_expect_35 (fun H locs hP hD hS => ?_)
    have hP : va_P D vwCl (cw_M_expect G a_t a_lengths a_text a_parent a_owner a_sort a_aim a_indexClass a_indexPath a_classes1 a_dValues a_dSets a_dNames a_values a_sets a_names a_draft a_classOfQuestion a_split a_steps a_what a_one a_two a_opened a_openedAt a_stands a_variable a_truth a_rest a_loopAt a_loopFound a_hits v_classes v_fields v_begun v_indexes v_made v_slotted v_half v_open v_known v_fresh v_changed v_renamed v_down v_armed v_written v_logged v_marked v_logSize v_drafted v_questions v_now (v_at_25 + 1) y25_0 v_opens v_deep v_aimed v_truths v_loops v_valued v_value v_set v_latest v_fits v_total v_looked v_lengths v_text) H := hP
    have hD : va_D A (cw_M_expect G a_t a_lengths a_text a_parent a_owner a_sort a_aim a_indexClass a_indexPath a_classes1 a_dValues a_dSets a_dNames a_values a_sets a_names a_draft a_classOfQuestion a_split a_steps a_what a_one a_two a_opened a_openedAt a_stands a_variable a_truth a_rest a_loopAt a_loopFound a_hits v_classes v_fields v_begun v_indexes v_made v_slotted v_half v_open v_known v_fresh v_changed v_renamed v_down v_armed v_written v_logged v_marked v_logSize v_drafted v_questions v_now (v_at_25 + 1) y25_0 v_opens v_deep v_aimed v_truths v_loops v_valued v_value v_set v_latest v_fits v_total v_looked v_lengths v_text) := hD
    exact hret (v_at_25 + 1, y25_0) H locs _ ls hf hP hD hS d_M_expect_38
  have blk20 : ∀ (v_at_20 : Int32) (v_bad_20 : Int32) (ls : Array Slot) (H : Heap) (locs : List Loc), lv_has ls 2 [(0, .ref a_t)] → va_P D vwCl (cw_M_expect G a_t a_lengths a_text a_parent a_owner a_sort a_aim a_indexClass a_indexPath a_classes1 a_dValues a_dSets a_dNames a_values a_sets a_names a_draft a_classOfQuestion a_split a_steps a_what a_one a_two a_opened a_openedAt a_stands a_variable a_truth a_rest a_loopAt a_loopFound a_hits v_classes v_fields v_begun v_indexes v_made v_slotted v_half v_open v_known v_fresh v_changed v_renamed v_down v_armed v_written v_logged v_marked v_logSize v_drafted v_questions v_now v_at_20 v_bad_20 v_opens v_deep v_aimed v_truths v_loops v_valued v_value v_set v_latest v_fits v_total v_looked v_lengths v_text) H → va_D A (cw_M_expect G a_t a_lengths a_text a_parent a_owner a_sort a_aim a_indexClass a_indexPath a_classes1 a_dValues a_dSets a_dNames a_values a_sets a_names a_draft a_classOfQuestion a_split a_steps a_what a_one a_two a_opened a_openedAt a_stands a_variable a_truth a_rest a_loopAt a_loopFound a_hits v_classes v_fields v_begun v_indexes v_made v_slotted v_half v_open v_known v_fresh v_changed v_renamed v_down v_armed v_written v_logged v_marked v_logSize v_drafted v_questions v_now v_at_20 v_bad_20 v_opens v_deep v_aimed v_truths v_loops v_valued v_value v_set v_latest v_fits v_total v_looked v_lengths v_text) → va_S A s.heap H locs → f_M_expect_J20 v_at_20 v_bad_20 = some o → W p l e ({ frames := 1, cells := 0, slots := 0, locals := 21 }) s m ([.ref a_t, .int p1] : List Value).toArray below meth c H locs 0 0 Q (F0 m 20 ls [.ref a_t]) := by
    intro v_at_20 v_bad_20 ls H locs hl hP hD hS hf
    unfold f_M_expect_J20 at hf
    refine lv_iconst (v := 1) hx hb d_M_expect_20 (by decide) ?_
    refine lv_goto (tgt := 25) hx hb d_M_expect_21 (by decide) ?_
    exact blk25 1 v_at_20 v_bad_20 ls H locs (lv_sub hl [0] rfl) hP hD hS hf
  refine lv_aload_n hx hb d_M_expect_0 rfl (lv_at hl 0 rfl) ?_
  refine lv_aload_n hx hb d_M_expect_1 rfl (lv_at hl 0 rfl) ?_
  refine va_get (D := D) (ci := 11) (v := .int v_bad) (C := "ObjectBaseModel") (T := TC_M) (N := 66) hx hb hts inC_M hown hK hP 0 rfl rfl 44 (by decide) (hts _ tw831) (fun _ h9 => h9) rfl d_M_expect_2 ?_
  refine lv_if_ne (tgt := 20) hx hb d_M_expect_5 (by decide) (fun hc5 => ?_) (fun hc5 => ?_)
  · have hf := ob_f hc5 hf
    exact blk20 v_at v_bad ls H locs (lv_sub hl [0] rfl) hP hD hS hf
  · have hf := ob_t hc5 hf
    refine lv_aload_n hx hb d_M_expect_8 rfl (lv_at hl 0 rfl) ?_
    refine lv_aload_n hx hb d_M_expect_9 rfl (lv_at hl 0 rfl) ?_
    refine va_get (D := D) (ci := 11) (v := .int v_at) (C := "ObjectBaseModel") (T := TC_M) (N := 66) hx hb hts inC_M hown hK hP 0 rfl rfl 43 (by decide) (hts _ tw830) (fun _ h9 => h9) rfl d_M_expect_10 ?_
    obtain ⟨o13, ho13, hf⟩ := ob_b hf
    refine ob_calli (w2 := (cw_M_expect G a_t a_lengths a_text a_parent a_owner a_sort a_aim a_indexClass a_indexPath a_classes1 a_dValues a_dSets a_dNames a_values a_sets a_names a_draft a_classOfQuestion a_split a_steps a_what a_one a_two a_opened a_openedAt a_stands a_variable a_truth a_rest a_loopAt a_loopFound a_hits v_classes v_fields v_begun v_indexes v_made v_slotted v_half v_open v_known v_fresh v_changed v_renamed v_down v_armed v_written v_logged v_marked v_logSize v_drafted v_questions v_now v_at v_bad v_opens v_deep v_aimed v_truths v_loops v_valued v_value v_set v_latest v_fits v_total v_looked v_lengths v_text)) (va_runV (As := [.int v_at]) (rest := [.ref a_t]) ⟨hx, hb, hml, hown, hts⟩ (c_M_charAt l D G a_t a_lengths a_text a_parent a_owner a_sort a_aim a_indexClass a_indexPath a_classes1 a_dValues a_dSets a_dNames a_values a_sets a_names a_draft a_classOfQuestion a_split a_steps a_what a_one a_two a_opened a_openedAt a_stands a_variable a_truth a_rest a_loopAt a_loopFound a_hits v_classes v_fields v_begun v_indexes v_made v_slotted v_half v_open v_known v_fresh v_changed v_renamed v_down v_armed v_written v_logged v_marked v_logSize v_drafted v_questions v_now v_at v_bad v_opens v_deep v_aimed v_truths v_loops v_valued v_value v_set v_latest v_fits v_total v_looked v_lengths v_text v_at o13 ho13 H.size) (cwV 1 hts (gV tw1136 tw1138 tp40 tw11 tw1139) rfl rfl rfl (by decide +kernel) ⟨Nat.le_of_ble_eq_true rfl, Nat.le_of_ble_eq_true rfl⟩) (ob_preV (q0 := 0) (ci := 11) hZ hK hP hD [0, 1, 2] rfl rfl rfl rfl rfl) rfl rfl hl.1 rfl (lv_room (Nat.le_of_ble_eq_true rfl)) d_M_expect_13 ⟨Nat.le_refl _, Nat.le_refl _⟩) hP hD hA hS [0, 1, 2] rfl rfl rfl rfl (fun H locs hP hD hS => ?_)
    refine lv_iload_n hx hb d_M_expect_16 rfl (lv_at hl 1 rfl) ?_
    refine lv_icmp_eq (tgt := 24) hx hb d_M_expect_17 (by decide) (fun hc17 => ?_) (fun hc17 => ?_)
    · have hf := ob_t hc17 hf
      refine lv_iconst (v := 0) hx hb d_M_expect_24 (by decide) ?_
      exact blk25 0 v_at v_bad ls H locs (lv_sub hl [0] rfl) hP hD hS hf
    · have hf := ob_f hc17 hf
      exact blk20 v_at v_bad ls H locs (lv_sub hl [0] rfl) hP hD hS hf
