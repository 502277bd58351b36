abbrev bc_Judge_amount : ByteArray := prog_7_method_5_code
abbrev y_Judge_amount : MethodName := ⟨"ObjectBase$Judge", "amount", "()J"⟩
def ws_Judge_amount : List Cond := .code y_Judge_amount bc_Judge_amount 3 (some .long) :: obW
theorem d_Judge_amount_0 : decode bc_Judge_amount 0 = .ok (.aload_n 0, 1) := by decide +kernel
theorem d_Judge_amount_1 : decode bc_Judge_amount 1 = .ok (.getfield 19, 3) := by decide +kernel
theorem d_Judge_amount_4 : decode bc_Judge_amount 4 = .ok (.getfield 37, 3) := by decide +kernel
theorem d_Judge_amount_7 : decode bc_Judge_amount 7 = .ok (.bipush 43, 2) := by decide +kernel
theorem d_Judge_amount_9 : decode bc_Judge_amount 9 = .ok (.if_icmp .eq 5, 3) := by decide +kernel
theorem d_Judge_amount_12 : decode bc_Judge_amount 12 = .ok (.lconst 1, 1) := by decide +kernel
theorem d_Judge_amount_13 : decode bc_Judge_amount 13 = .ok (.lreturn, 1) := by decide +kernel
theorem d_Judge_amount_14 : decode bc_Judge_amount 14 = .ok (.aload_n 0, 1) := by decide +kernel
theorem d_Judge_amount_15 : decode bc_Judge_amount 15 = .ok (.iconst 1, 1) := by decide +kernel
theorem d_Judge_amount_16 : decode bc_Judge_amount 16 = .ok (.invokevirtual 41, 3) := by decide +kernel
theorem d_Judge_amount_19 : decode bc_Judge_amount 19 = .ok (.lstore_n 1, 1) := by decide +kernel
theorem d_Judge_amount_20 : decode bc_Judge_amount 20 = .ok (.lload_n 1, 1) := by decide +kernel
theorem d_Judge_amount_21 : decode bc_Judge_amount 21 = .ok (.ldc2_w 45, 3) := by decide +kernel
theorem d_Judge_amount_24 : decode bc_Judge_amount 24 = .ok (.lcmp, 1) := by decide +kernel
theorem d_Judge_amount_25 : decode bc_Judge_amount 25 = .ok (.ifCond .ne 7, 3) := by decide +kernel
theorem d_Judge_amount_28 : decode bc_Judge_amount 28 = .ok (.lconst 0, 1) := by decide +kernel
theorem d_Judge_amount_29 : decode bc_Judge_amount 29 = .ok (.goto 4, 3) := by decide +kernel
theorem d_Judge_amount_32 : decode bc_Judge_amount 32 = .ok (.lload_n 1, 1) := by decide +kernel
theorem d_Judge_amount_33 : decode bc_Judge_amount 33 = .ok (.lreturn, 1) := by decide +kernel
def cw_Judge_amount (G : Nat → ClassId) (a_t a_question a_image a_question_text a_question_text_chars a_question_numbers a_bound a_image_values a_question_kinds a_question_inner a_question_next a_question_left a_question_right a_image_classes a_image_names : Nat) (v_question_nodeCount : Int32) (v_question_root : Int32) (v_question_asked : Int32) (v_question_mode : Int32) (v_question_text_length : Int32) (v_question_text_chars : Nat → Int32) (v_question_numbers : Nat → Int32) (v_bound : Nat → Int32) (v_image_values : Nat → Int64) : va_W := [(a_t, .inr (9, [.ref a_image, .ref a_bound, .ref a_question])), (a_question, .inr (7, [.ref a_question_text, .ref a_question_numbers, .ref a_question_kinds, .ref a_question_inner, .ref a_question_next, .ref a_question_left, .ref a_question_right, .int v_question_nodeCount, .int v_question_root, .int v_question_asked, .int v_question_mode])), (a_image, .inr (4, [.ref a_image_classes, .ref a_image_values, .ref a_image_names])), (a_question_text, .inr (6, [.ref a_question_text_chars, .int v_question_text_length])), (a_question_text_chars, .inl (G 2, 60, .inl v_question_text_chars)), (a_question_numbers, .inl (G 0, 60, .inl v_question_numbers)), (a_bound, .inl (G 0, 3, .inl v_bound)), (a_image_values, .inl (G 1, 504, .inr (.inl v_image_values)))]
def f_Judge_amount (v_question_mode : Int32) (v_question_text_length : Int32) (v_question_text_chars : Nat → Int32) (v_question_numbers : Nat → Int32) (v_bound : Nat → Int32) (v_image_values : Nat → Int64) : Option (Int64) := if v_question_mode = 43 then ((f_Judge_valueFrom v_question_text_length v_question_text_chars v_question_numbers v_bound v_image_values 1).bind fun o16 => (if (lg_cmp o16 (-9223372036854775808)) = 0 then (some 0) else (some o16))) else (some 1)
set_option maxHeartbeats 4000000 in
set_option maxRecDepth 100000 in
theorem c_Judge_amount (l : Launch) (D : va_G) (G : Nat → ClassId) (a_t a_question a_image a_question_text a_question_text_chars a_question_numbers a_bound a_image_values a_question_kinds a_question_inner a_question_next a_question_left a_question_right a_image_classes a_image_names : Nat) (v_question_nodeCount : Int32) (v_question_root : Int32) (v_question_asked : Int32) (v_question_mode : Int32) (v_question_text_length : Int32) (v_question_text_chars : Nat → Int32) (v_question_numbers : Nat → Int32) (v_bound : Nat → Int32) (v_image_values : Nat → Int64) (o : Int64) (hf : f_Judge_amount v_question_mode v_question_text_length v_question_text_chars v_question_numbers v_bound v_image_values = some o) (sz : Nat) : MetL l y_Judge_amount ws_Judge_amount ({ frames := 2, cells := 0, slots := 0, locals := 49 }) D (obT G) (cw_Judge_amount G a_t a_question a_image a_question_text a_question_text_chars a_question_numbers a_bound a_image_values a_question_kinds a_question_inner a_question_next a_question_left a_question_right a_image_classes a_image_names v_question_nodeCount v_question_root v_question_asked v_question_mode v_question_text_length v_question_text_chars v_question_numbers v_bound v_image_values) (cw_Judge_amount G a_t a_question a_image a_question_text a_question_text_chars a_question_numbers a_bound a_image_values a_question_kinds a_question_inner a_question_next a_question_left a_question_right a_image_classes a_image_names v_question_nodeCount v_question_root v_question_asked v_question_mode v_question_text_length v_question_text_chars v_question_numbers v_bound v_image_values) [.ref a_t] o sz := by
  refine ob_of (cc := bc_Judge_amount) (maxL := 3) (ret := (some .long)) (Qc := ObQl D (obT G) (cw_Judge_amount G a_t a_question a_image a_question_text a_question_text_chars a_question_numbers a_bound a_image_values a_question_kinds a_question_inner a_question_next a_question_left a_question_right a_image_classes a_image_names v_question_nodeCount v_question_root v_question_asked v_question_mode v_question_text_length v_question_text_chars v_question_numbers v_bound v_image_values) o) (by decide) rfl (Nat.le_of_ble_eq_true rfl) ?_
  intro p e s m below meth c A ls H locs hx hb hr hml hts hown hlk hnm hZ hP hK hD hA hS hl
  have hret : ∀ (o' : Int64) (H : Heap) (locs : List Loc) (pc : Nat) (ls : Array Slot), some o' = some o → va_P D vwCl (cw_Judge_amount G a_t a_question a_image a_question_text a_question_text_chars a_question_numbers a_bound a_image_values a_question_kinds a_question_inner a_question_next a_question_left a_question_right a_image_classes a_image_names v_question_nodeCount v_question_root v_question_asked v_question_mode v_question_text_length v_question_text_chars v_question_numbers v_bound v_image_values) H → va_D A (cw_Judge_amount G a_t a_question a_image a_question_text a_question_text_chars a_question_numbers a_bound a_image_values a_question_kinds a_question_inner a_question_next a_question_left a_question_right a_image_classes a_image_names v_question_nodeCount v_question_root v_question_asked v_question_mode v_question_text_length v_question_text_chars v_question_numbers v_bound v_image_values) → va_S A s.heap H locs → decode bc_Judge_amount pc = .ok (.lreturn, 1) → W p l e { frames := 2, cells := 0, slots := 0, locals := 49 } s m ([.ref a_t] : List Value).toArray below meth c H locs 0 0 (MQ below (ObQl D (obT G) (cw_Judge_amount G a_t a_question a_image a_question_text a_question_text_chars a_question_numbers a_bound a_image_values a_question_kinds a_question_inner a_question_next a_question_left a_question_right a_image_classes a_image_names v_question_nodeCount v_question_root v_question_asked v_question_mode v_question_text_length v_question_text_chars v_question_numbers v_bound v_image_values) o A) ([.ref a_t] : List Value).toArray s 0 0 A) (F0 m pc ls [.long o']) := by
    intro o' H locs pc ls he hP hD hS hd
    obtain rfl := Option.some.inj he
    exact ob_lret hx hb hr hlk hK hP hD hS hd
  generalize MQ below (ObQl D (obT G) (cw_Judge_amount G a_t a_question a_image a_question_text a_question_text_chars a_question_numbers a_bound a_image_values a_question_kinds a_question_inner a_question_next a_question_left a_question_right a_image_classes a_image_names v_question_nodeCount v_question_root v_question_asked v_question_mode v_question_text_length v_question_text_chars v_question_numbers v_bound v_image_values) o A) ([.ref a_t] : List Value).toArray s 0 0 A = Q at hret ⊢
  have hl : lv_has ls 3 [(0, .ref a_t)] := hl
  unfold f_Judge_amount at hf
  refine lv_aload_n hx hb d_Judge_amount_0 rfl (lv_at hl 0 rfl) ?_
  refine va_get (D := D) (ci := 9) (v := .ref a_question) (C := "ObjectBase$Judge") (T := TC_Judge) (N := 3) hx hb hts inC_Judge hown hK hP 0 rfl rfl 2 (by decide) (hts _ tw202) (fun _ h9 => h9) rfl d_Judge_amount_1 ?_
  refine va_get (D := D) (ci := 7) (v := .int v_question_mode) (C := "ObjectBase$Question") (T := TC_Question) (N := 11) hx hb hts inC_Question hown hK hP 1 rfl rfl 10 (by decide) (hts _ tw562) (fun _ h9 => h9) rfl d_Judge_amount_4 ?_
  refine lv_bipush (v := 43) hx hb d_Judge_amount_7 (by decide) ?_
  refine lv_icmp_eq (tgt := 14) hx hb d_Judge_amount_9 (by decide) (fun hc9 => ?_) (fun hc9 => ?_)
  · have hf := ob_t hc9 hf
    refine lv_aload_n hx hb d_Judge_amount_14 rfl (lv_at hl 0 rfl) ?_
    refine lv_iconst (v := 1) hx hb d_Judge_amount_15 (by decide) ?_
    obtain ⟨o16, ho16, hf⟩ := ob_b hf
    refine ob_calll (w2 := (cw_Judge_amount G a_t a_question a_image a_question_text a_question_text_chars a_question_numbers a_bound a_image_values a_question_kinds a_question_inner a_question_next a_question_left a_question_right a_image_classes a_image_names v_question_nodeCount v_question_root v_question_asked v_question_mode v_question_text_length v_question_text_chars v_question_numbers v_bound v_image_values)) (va_runV (As := [.int 1]) (rest := []) ⟨hx, hb, hml, hown, hts⟩ (c_Judge_valueFrom l D G a_t a_question a_question_text a_question_text_chars a_question_numbers a_bound a_image a_image_values a_question_kinds a_question_inner a_question_next a_question_left a_question_right a_image_classes a_image_names v_question_nodeCount v_question_root v_question_asked v_question_mode v_question_text_length v_question_text_chars v_question_numbers v_bound v_image_values 1 o16 ho16 H.size) (cwV 1 hts (gV tw722 tw724 tp23 tw9 tw725) rfl rfl rfl (by decide +kernel) ⟨Nat.le_of_ble_eq_true rfl, Nat.le_of_ble_eq_true rfl⟩) (ob_preV (q0 := 0) (ci := 9) hZ hK hP hD [0, 1, 3, 4, 5, 6, 2, 7] rfl rfl rfl rfl rfl) rfl rfl hl.1 rfl (lv_room (Nat.le_of_ble_eq_true rfl)) d_Judge_amount_16 ⟨Nat.le_refl _, Nat.le_refl _⟩) hP hD hA hS [0, 1, 3, 4, 5, 6, 2, 7] rfl rfl rfl rfl (fun H locs hP hD hS => ?_)
    refine lv_lstore_n (lv' := [(1, .long o16), (0, .ref a_t)]) hx hb d_Judge_amount_19 rfl hl (by decide) rfl (fun ls hl => ?_)
    refine lv_lload_n hx hb d_Judge_amount_20 rfl (lv_at hl 0 rfl) ?_
    refine lv_ldc2 (v := (-9223372036854775808)) hx hb hown (hts _ tw727) d_Judge_amount_21 ?_
    refine W.lcmp hx hb d_Judge_amount_24 ?_
    refine lv_if_ne (tgt := 32) hx hb d_Judge_amount_25 (by decide) (fun hc25 => ?_) (fun hc25 => ?_)
    · have hf := ob_f hc25 hf
      refine lv_lload_n hx hb d_Judge_amount_32 rfl (lv_at hl 0 rfl) ?_
      exact hret o16 H locs _ ls hf hP hD hS d_Judge_amount_33
    · have hf := ob_t hc25 hf
      refine lv_lconst (v := 0) hx hb d_Judge_amount_28 (by decide) ?_
      refine lv_goto (tgt := 33) hx hb d_Judge_amount_29 (by decide) ?_
      exact hret 0 H locs _ ls hf hP hD hS d_Judge_amount_33
  · have hf := ob_f hc9 hf
    refine lv_lconst (v := 1) hx hb d_Judge_amount_12 (by decide) ?_
    exact hret 1 H locs _ ls hf hP hD hS d_Judge_amount_13
abbrev bc_Judge_isEqual : ByteArray := prog_7_method_9_code
abbrev y_Judge_isEqual : MethodName := ⟨"ObjectBase$Judge", "isEqual", "(I)Z"⟩
def ws_Judge_isEqual : List Cond := .code y_Judge_isEqual bc_Judge_isEqual 4 (some .boolean) :: obW
theorem d_Judge_isEqual_0 : decode bc_Judge_isEqual 0 = .ok (.aload_n 0, 1) := by decide +kernel
theorem d_Judge_isEqual_1 : decode bc_Judge_isEqual 1 = .ok (.aload_n 0, 1) := by decide +kernel
theorem d_Judge_isEqual_2 : decode bc_Judge_isEqual 2 = .ok (.getfield 19, 3) := by decide +kernel
theorem d_Judge_isEqual_5 : decode bc_Judge_isEqual 5 = .ok (.getfield 73, 3) := by decide +kernel
theorem d_Judge_isEqual_8 : decode bc_Judge_isEqual 8 = .ok (.iload_n 1, 1) := by decide +kernel
theorem d_Judge_isEqual_9 : decode bc_Judge_isEqual 9 = .ok (.iaload, 1) := by decide +kernel
theorem d_Judge_isEqual_10 : decode bc_Judge_isEqual 10 = .ok (.invokevirtual 41, 3) := by decide +kernel
theorem d_Judge_isEqual_13 : decode bc_Judge_isEqual 13 = .ok (.lstore_n 2, 1) := by decide +kernel
theorem d_Judge_isEqual_14 : decode bc_Judge_isEqual 14 = .ok (.lload_n 2, 1) := by decide +kernel
theorem d_Judge_isEqual_15 : decode bc_Judge_isEqual 15 = .ok (.ldc2_w 45, 3) := by decide +kernel
theorem d_Judge_isEqual_18 : decode bc_Judge_isEqual 18 = .ok (.lcmp, 1) := by decide +kernel
theorem d_Judge_isEqual_19 : decode bc_Judge_isEqual 19 = .ok (.ifCond .eq 25, 3) := by decide +kernel
theorem d_Judge_isEqual_22 : decode bc_Judge_isEqual 22 = .ok (.lload_n 2, 1) := by decide +kernel
theorem d_Judge_isEqual_23 : decode bc_Judge_isEqual 23 = .ok (.aload_n 0, 1) := by decide +kernel
theorem d_Judge_isEqual_24 : decode bc_Judge_isEqual 24 = .ok (.aload_n 0, 1) := by decide +kernel
theorem d_Judge_isEqual_25 : decode bc_Judge_isEqual 25 = .ok (.getfield 19, 3) := by decide +kernel
theorem d_Judge_isEqual_28 : decode bc_Judge_isEqual 28 = .ok (.getfield 66, 3) := by decide +kernel
theorem d_Judge_isEqual_31 : decode bc_Judge_isEqual 31 = .ok (.iload_n 1, 1) := by decide +kernel
theorem d_Judge_isEqual_32 : decode bc_Judge_isEqual 32 = .ok (.iaload, 1) := by decide +kernel
theorem d_Judge_isEqual_33 : decode bc_Judge_isEqual 33 = .ok (.invokevirtual 41, 3) := by decide +kernel
theorem d_Judge_isEqual_36 : decode bc_Judge_isEqual 36 = .ok (.lcmp, 1) := by decide +kernel
theorem d_Judge_isEqual_37 : decode bc_Judge_isEqual 37 = .ok (.ifCond .ne 7, 3) := by decide +kernel
theorem d_Judge_isEqual_40 : decode bc_Judge_isEqual 40 = .ok (.iconst 1, 1) := by decide +kernel
theorem d_Judge_isEqual_41 : decode bc_Judge_isEqual 41 = .ok (.goto 4, 3) := by decide +kernel
theorem d_Judge_isEqual_44 : decode bc_Judge_isEqual 44 = .ok (.iconst 0, 1) := by decide +kernel
theorem d_Judge_isEqual_45 : decode bc_Judge_isEqual 45 = .ok (.ireturn, 1) := by decide +kernel
def cw_Judge_isEqual (G : Nat → ClassId) (a_t a_question a_question_left a_image a_question_text a_question_text_chars a_question_numbers a_bound a_image_values a_question_right a_question_kinds a_question_inner a_question_next a_image_classes a_image_names : Nat) (v_question_nodeCount : Int32) (v_question_root : Int32) (v_question_asked : Int32) (v_question_mode : Int32) (v_question_left : Nat → Int32) (v_question_text_length : Int32) (v_question_text_chars : Nat → Int32) (v_question_numbers : Nat → Int32) (v_bound : Nat → Int32) (v_image_values : Nat → Int64) (v_question_right : Nat → Int32) : va_W := [(a_t, .inr (9, [.ref a_image, .ref a_bound, .ref a_question])), (a_question, .inr (7, [.ref a_question_text, .ref a_question_numbers, .ref a_question_kinds, .ref a_question_inner, .ref a_question_next, .ref a_question_left, .ref a_question_right, .int v_question_nodeCount, .int v_question_root, .int v_question_asked, .int v_question_mode])), (a_question_left, .inl (G 0, 60, .inl v_question_left)), (a_image, .inr (4, [.ref a_image_classes, .ref a_image_values, .ref a_image_names])), (a_question_text, .inr (6, [.ref a_question_text_chars, .int v_question_text_length])), (a_question_text_chars, .inl (G 2, 60, .inl v_question_text_chars)), (a_question_numbers, .inl (G 0, 60, .inl v_question_numbers)), (a_bound, .inl (G 0, 3, .inl v_bound)), (a_image_values, .inl (G 1, 504, .inr (.inl v_image_values))), (a_question_right, .inl (G 0, 60, .inl v_question_right))]
def f_Judge_isEqual (v_question_left : Nat → Int32) (v_question_text_length : Int32) (v_question_text_chars : Nat → Int32) (v_question_numbers : Nat → Int32) (v_bound : Nat → Int32) (v_image_values : Nat → Int64) (v_question_right : Nat → Int32) (p1 : Int32) : Option (Int32) := ob_iv p1 60 ((f_Judge_valueFrom v_question_text_length v_question_text_chars v_question_numbers v_bound v_image_values (v_question_left p1.toNatClampNeg)).bind fun o10 => (if (lg_cmp o10 (-9223372036854775808)) = 0 then (some 0) else (ob_iv p1 60 ((f_Judge_valueFrom v_question_text_length v_question_text_chars v_question_numbers v_bound v_image_values (v_question_right p1.toNatClampNeg)).bind fun o33 => (if (lg_cmp o10 o33) = 0 then (some 1) else (some 0))))))
set_option maxHeartbeats 4000000 in
set_option maxRecDepth 100000 in
theorem c_Judge_isEqual (l : Launch) (D : va_G) (G : Nat → ClassId) (a_t a_question a_question_left a_image a_question_text a_question_text_chars a_question_numbers a_bound a_image_values a_question_right a_question_kinds a_question_inner a_question_next a_image_classes a_image_names : Nat) (v_question_nodeCount : Int32) (v_question_root : Int32) (v_question_asked : Int32) (v_question_mode : Int32) (v_question_left : Nat → Int32) (v_question_text_length : Int32) (v_question_text_chars : Nat → Int32) (v_question_numbers : Nat → Int32) (v_bound : Nat → Int32) (v_image_values : Nat → Int64) (v_question_right : Nat → Int32) (p1 : Int32) (o : Int32) (hf : f_Judge_isEqual v_question_left v_question_text_length v_question_text_chars v_question_numbers v_bound v_image_values v_question_right p1 = some o) (sz : Nat) : MetI l y_Judge_isEqual ws_Judge_isEqual ({ frames := 2, cells := 0, slots := 0, locals := 49 }) D (obT G) (cw_Judge_isEqual G a_t a_question a_question_left a_image a_question_text a_question_text_chars a_question_numbers a_bound a_image_values a_question_right a_question_kinds a_question_inner a_question_next a_image_classes a_image_names v_question_nodeCount v_question_root v_question_asked v_question_mode v_question_left v_question_text_length v_question_text_chars v_question_numbers v_bound v_image_values v_question_right) (cw_Judge_isEqual G a_t a_question a_question_left a_image a_question_text a_question_text_chars a_question_numbers a_bound a_image_values a_question_right a_question_kinds a_question_inner a_question_next a_image_classes a_image_names v_question_nodeCount v_question_root v_question_asked v_question_mode v_question_left v_question_text_length v_question_text_chars v_question_numbers v_bound v_image_values v_question_right) [.ref a_t, .int p1] o sz := by
  refine ob_of (cc := bc_Judge_isEqual) (maxL := 4) (ret := (some .boolean)) (Qc := ObQi D (obT G) (cw_Judge_isEqual G a_t a_question a_question_left a_image a_question_text a_question_text_chars a_question_numbers a_bound a_image_values a_question_right a_question_kinds a_question_inner a_question_next a_image_classes a_image_names v_question_nodeCount v_question_root v_question_asked v_question_mode v_question_left v_question_text_length v_question_text_chars v_question_numbers v_bound v_image_values v_question_right) o) (by decide) rfl (Nat.le_of_ble_eq_true rfl) ?_
  intro p e s m below meth c A ls H locs hx hb hr hml hts hown hlk hnm hZ hP hK hD hA hS hl
  have hret : ∀ (o' : Int32) (H : Heap) (locs : List Loc) (pc : Nat) (ls : Array Slot), some o' = some o → va_P D vwCl (cw_Judge_isEqual G a_t a_question a_question_left a_image a_question_text a_question_text_chars a_question_numbers a_bound a_image_values a_question_right a_question_kinds a_question_inner a_question_next a_image_classes a_image_names v_question_nodeCount v_question_root v_question_asked v_question_mode v_question_left v_question_text_length v_question_text_chars v_question_numbers v_bound v_image_values v_question_right) H → va_D A (cw_Judge_isEqual G a_t a_question a_question_left a_image a_question_text a_question_text_chars a_question_numbers a_bound a_image_values a_question_right a_question_kinds a_question_inner a_question_next a_image_classes a_image_names v_question_nodeCount v_question_root v_question_asked v_question_mode v_question_left v_question_text_length v_question_text_chars v_question_numbers v_bound v_image_values v_question_right) → va_S A s.heap H locs → narrow .boolean (.int o') = .int o' → decode bc_Judge_isEqual pc = .ok (.ireturn, 1) → W p l e { frames := 2, cells := 0, slots := 0, locals := 49 } s m ([.ref a_t, .int p1] : List Value).toArray below meth c H locs 0 0 (MQ below (ObQi D (obT G) (cw_Judge_isEqual G a_t a_question a_question_left a_image a_question_text a_question_text_chars a_question_numbers a_bound a_image_values a_question_right a_question_kinds a_question_inner a_question_next a_image_classes a_image_names v_question_nodeCount v_question_root v_question_asked v_question_mode v_question_left v_question_text_length v_question_text_chars v_question_numbers v_bound v_image_values v_question_right) o A) ([.ref a_t, .int p1] : List Value).toArray s 0 0 A) (F0 m pc ls [.int o']) := by
    intro o' H locs pc ls he hP hD hS hn hd
    obtain rfl := Option.some.inj he
    exact ob_iret hx hb hr hlk hK hP hD hS hn hd
  generalize MQ below (ObQi D (obT G) (cw_Judge_isEqual G a_t a_question a_question_left a_image a_question_text a_question_text_chars a_question_numbers a_bound a_image_values a_question_right a_question_kinds a_question_inner a_question_next a_image_classes a_image_names v_question_nodeCount v_question_root v_question_asked v_question_mode v_question_left v_question_text_length v_question_text_chars v_question_numbers v_bound v_image_values v_question_right) o A) ([.ref a_t, .int p1] : List Value).toArray s 0 0 A = Q at hret ⊢
  have hl : lv_has ls 4 [(0, .ref a_t), (1, .int p1)] := hl
  unfold f_Judge_isEqual at hf
  refine lv_aload_n hx hb d_Judge_isEqual_0 rfl (lv_at hl 0 rfl) ?_
  refine lv_aload_n hx hb d_Judge_isEqual_1 rfl (lv_at hl 0 rfl) ?_
  refine va_get (D := D) (ci := 9) (v := .ref a_question) (C := "ObjectBase$Judge") (T := TC_Judge) (N := 3) hx hb hts inC_Judge hown hK hP 0 rfl rfl 2 (by decide) (hts _ tw202) (fun _ h9 => h9) rfl d_Judge_isEqual_2 ?_
  refine va_get (D := D) (ci := 7) (v := .ref a_question_left) (C := "ObjectBase$Question") (T := TC_Question) (N := 11) hx hb hts inC_Question hown hK hP 1 rfl rfl 5 (by decide) (hts _ tw550) (fun _ h9 => h9) rfl d_Judge_isEqual_5 ?_
  refine lv_iload_n hx hb d_Judge_isEqual_8 rfl (lv_at hl 1 rfl) ?_
  obtain ⟨hg9, hf⟩ := ob_iv_g hf
  refine va_iald hx hb hK hP 2 0 rfl rfl hg9 d_Judge_isEqual_9 ?_
  obtain ⟨o10, ho10, hf⟩ := ob_b hf
  refine ob_calll (w2 := (cw_Judge_isEqual G a_t a_question a_question_left a_image a_question_text a_question_text_chars a_question_numbers a_bound a_image_values a_question_right a_question_kinds a_question_inner a_question_next a_image_classes a_image_names v_question_nodeCount v_question_root v_question_asked v_question_mode v_question_left v_question_text_length v_question_text_chars v_question_numbers v_bound v_image_values v_question_right)) (va_runV (As := [.int (v_question_left p1.toNatClampNeg)]) (rest := []) ⟨hx, hb, hml, hown, hts⟩ (c_Judge_valueFrom l D G a_t a_question a_question_text a_question_text_chars a_question_numbers a_bound a_image a_image_values a_question_kinds a_question_inner a_question_next a_question_left a_question_right a_image_classes a_image_names v_question_nodeCount v_question_root v_question_asked v_question_mode v_question_text_length v_question_text_chars v_question_numbers v_bound v_image_values (v_question_left p1.toNatClampNeg) o10 ho10 H.size) (cwV 1 hts (gV tw722 tw724 tp23 tw9 tw725) rfl rfl rfl (by decide +kernel) ⟨Nat.le_of_ble_eq_true rfl, Nat.le_of_ble_eq_true rfl⟩) (ob_preV (q0 := 0) (ci := 9) hZ hK hP hD [0, 1, 4, 5, 6, 7, 3, 8] rfl rfl rfl rfl rfl) rfl rfl hl.1 rfl (lv_room (Nat.le_of_ble_eq_true rfl)) d_Judge_isEqual_10 ⟨Nat.le_refl _, Nat.le_refl _⟩) hP hD hA hS [0, 1, 4, 5, 6, 7, 3, 8] rfl rfl rfl rfl (fun H locs hP hD hS => ?_)
  refine lv_lstore_n (lv' := [(2, .long o10), (0, .ref a_t), (1, .int p1)]) hx hb d_Judge_isEqual_13 rfl hl (by decide) rfl (fun ls hl => ?_)
  refine lv_lload_n hx hb d_Judge_isEqual_14 rfl (lv_at hl 0 rfl) ?_
  refine lv_ldc2 (v := (-9223372036854775808)) hx hb hown (hts _ tw727) d_Judge_isEqual_15 ?_
  refine W.lcmp hx hb d_Judge_isEqual_18 ?_
  refine lv_if_eq (tgt := 44) hx hb d_Judge_isEqual_19 (by decide) (fun hc19 => ?_) (fun hc19 => ?_)
  · have hf := ob_t hc19 hf
    refine lv_iconst (v := 0) hx hb d_Judge_isEqual_44 (by decide) ?_
    exact hret 0 H locs _ ls hf hP hD hS narrow_b0 d_Judge_isEqual_45
  · have hf := ob_f hc19 hf
    refine lv_lload_n hx hb d_Judge_isEqual_22 rfl (lv_at hl 0 rfl) ?_
    refine lv_aload_n hx hb d_Judge_isEqual_23 rfl (lv_at hl 1 rfl) ?_
    refine lv_aload_n hx hb d_Judge_isEqual_24 rfl (lv_at hl 1 rfl) ?_
    refine va_get (D := D) (ci := 9) (v := .ref a_question) (C := "ObjectBase$Judge") (T := TC_Judge) (N := 3) hx hb hts inC_Judge hown hK hP 0 rfl rfl 2 (by decide) (hts _ tw202) (fun _ h9 => h9) rfl d_Judge_isEqual_25 ?_
    refine va_get (D := D) (ci := 7) (v := .ref a_question_right) (C := "ObjectBase$Question") (T := TC_Question) (N := 11) hx hb hts inC_Question hown hK hP 1 rfl rfl 6 (by decide) (hts _ tw552) (fun _ h9 => h9) rfl d_Judge_isEqual_28 ?_
    refine lv_iload_n hx hb d_Judge_isEqual_31 rfl (lv_at hl 2 rfl) ?_
    obtain ⟨hg32, hf⟩ := ob_iv_g hf
    refine va_iald hx hb hK hP 9 0 rfl rfl hg32 d_Judge_isEqual_32 ?_
    obtain ⟨o33, ho33, hf⟩ := ob_b hf
    refine ob_calll (w2 := (cw_Judge_isEqual G a_t a_question a_question_left a_image a_question_text a_question_text_chars a_question_numbers a_bound a_image_values a_question_right a_question_kinds a_question_inner a_question_next a_image_classes a_image_names v_question_nodeCount v_question_root v_question_asked v_question_mode v_question_left v_question_text_length v_question_text_chars v_question_numbers v_bound v_image_values v_question_right)) (va_runV (As := [.int (v_question_right p1.toNatClampNeg)]) (rest := [.long o10]) ⟨hx, hb, hml, hown, hts⟩ (c_Judge_valueFrom l D G a_t a_question a_question_text a_question_text_chars a_question_numbers a_bound a_image a_image_values a_question_kinds a_question_inner a_question_next a_question_left a_question_right a_image_classes a_image_names v_question_nodeCount v_question_root v_question_asked v_question_mode v_question_text_length v_question_text_chars v_question_numbers v_bound v_image_values (v_question_right p1.toNatClampNeg) o33 ho33 H.size) (cwV 1 hts (gV tw722 tw724 tp23 tw9 tw725) rfl rfl rfl (by decide +kernel) ⟨Nat.le_of_ble_eq_true rfl, Nat.le_of_ble_eq_true rfl⟩) (ob_preV (q0 := 0) (ci := 9) hZ hK hP hD [0, 1, 4, 5, 6, 7, 3, 8] rfl rfl rfl rfl rfl) rfl rfl hl.1 rfl (lv_room (Nat.le_of_ble_eq_true rfl)) d_Judge_isEqual_33 ⟨Nat.le_refl _, Nat.le_refl _⟩) hP hD hA hS [0, 1, 4, 5, 6, 7, 3, 8] rfl rfl rfl rfl (fun H locs hP hD hS => ?_)
    refine W.lcmp hx hb d_Judge_isEqual_36 ?_
    refine lv_if_ne (tgt := 44) hx hb d_Judge_isEqual_37 (by decide) (fun hc37 => ?_) (fun hc37 => ?_)
    · have hf := ob_f hc37 hf
      refine lv_iconst (v := 0) hx hb d_Judge_isEqual_44 (by decide) ?_
      exact hret 0 H locs _ ls hf hP hD hS narrow_b0 d_Judge_isEqual_45
    · have hf := ob_t hc37 hf
      refine lv_iconst (v := 1) hx hb d_Judge_isEqual_40 (by decide) ?_
      refine lv_goto (tgt := 45) hx hb d_Judge_isEqual_41 (by decide) ?_
      exact hret 1 H locs _ ls hf hP hD hS narrow_b1 d_Judge_isEqual_45
abbrev bc_Judge_isInOrder : ByteArray := prog_7_method_10_code
abbrev y_Judge_isInOrder : MethodName := ⟨"ObjectBase$Judge", "isInOrder", "(I)Z"⟩
def ws_Judge_isInOrder : List Cond := .code y_Judge_isInOrder bc_Judge_isInOrder 6 (some .boolean) :: obW
theorem d_Judge_isInOrder_0 : decode bc_Judge_isInOrder 0 = .ok (.aload_n 0, 1) := by decide +kernel
theorem d_Judge_isInOrder_1 : decode bc_Judge_isInOrder 1 = .ok (.aload_n 0, 1) := by decide +kernel
theorem d_Judge_isInOrder_2 : decode bc_Judge_isInOrder 2 = .ok (.getfield 19, 3) := by decide +kernel
theorem d_Judge_isInOrder_5 : decode bc_Judge_isInOrder 5 = .ok (.getfield 73, 3) := by decide +kernel
theorem d_Judge_isInOrder_8 : decode bc_Judge_isInOrder 8 = .ok (.iload_n 1, 1) := by decide +kernel
theorem d_Judge_isInOrder_9 : decode bc_Judge_isInOrder 9 = .ok (.iaload, 1) := by decide +kernel
theorem d_Judge_isInOrder_10 : decode bc_Judge_isInOrder 10 = .ok (.invokevirtual 41, 3) := by decide +kernel
theorem d_Judge_isInOrder_13 : decode bc_Judge_isInOrder 13 = .ok (.lstore_n 2, 1) := by decide +kernel
theorem d_Judge_isInOrder_14 : decode bc_Judge_isInOrder 14 = .ok (.aload_n 0, 1) := by decide +kernel
theorem d_Judge_isInOrder_15 : decode bc_Judge_isInOrder 15 = .ok (.aload_n 0, 1) := by decide +kernel
theorem d_Judge_isInOrder_16 : decode bc_Judge_isInOrder 16 = .ok (.getfield 19, 3) := by decide +kernel
theorem d_Judge_isInOrder_19 : decode bc_Judge_isInOrder 19 = .ok (.getfield 66, 3) := by decide +kernel
theorem d_Judge_isInOrder_22 : decode bc_Judge_isInOrder 22 = .ok (.iload_n 1, 1) := by decide +kernel
theorem d_Judge_isInOrder_23 : decode bc_Judge_isInOrder 23 = .ok (.iaload, 1) := by decide +kernel
theorem d_Judge_isInOrder_24 : decode bc_Judge_isInOrder 24 = .ok (.invokevirtual 41, 3) := by decide +kernel
theorem d_Judge_isInOrder_27 : decode bc_Judge_isInOrder 27 = .ok (.lstore 4, 2) := by decide +kernel
theorem d_Judge_isInOrder_29 : decode bc_Judge_isInOrder 29 = .ok (.lload_n 2, 1) := by decide +kernel
theorem d_Judge_isInOrder_30 : decode bc_Judge_isInOrder 30 = .ok (.ldc2_w 45, 3) := by decide +kernel
theorem d_Judge_isInOrder_33 : decode bc_Judge_isInOrder 33 = .ok (.lcmp, 1) := by decide +kernel
theorem d_Judge_isInOrder_34 : decode bc_Judge_isInOrder 34 = .ok (.ifCond .eq 12, 3) := by decide +kernel
theorem d_Judge_isInOrder_37 : decode bc_Judge_isInOrder 37 = .ok (.lload 4, 2) := by decide +kernel
theorem d_Judge_isInOrder_39 : decode bc_Judge_isInOrder 39 = .ok (.ldc2_w 45, 3) := by decide +kernel
theorem d_Judge_isInOrder_42 : decode bc_Judge_isInOrder 42 = .ok (.lcmp, 1) := by decide +kernel
theorem d_Judge_isInOrder_43 : decode bc_Judge_isInOrder 43 = .ok (.ifCond .ne 5, 3) := by decide +kernel
theorem d_Judge_isInOrder_46 : decode bc_Judge_isInOrder 46 = .ok (.iconst 0, 1) := by decide +kernel
theorem d_Judge_isInOrder_47 : decode bc_Judge_isInOrder 47 = .ok (.ireturn, 1) := by decide +kernel
theorem d_Judge_isInOrder_48 : decode bc_Judge_isInOrder 48 = .ok (.aload_n 0, 1) := by decide +kernel
theorem d_Judge_isInOrder_49 : decode bc_Judge_isInOrder 49 = .ok (.getfield 19, 3) := by decide +kernel
theorem d_Judge_isInOrder_52 : decode bc_Judge_isInOrder 52 = .ok (.getfield 47, 3) := by decide +kernel
theorem d_Judge_isInOrder_55 : decode bc_Judge_isInOrder 55 = .ok (.iload_n 1, 1) := by decide +kernel
theorem d_Judge_isInOrder_56 : decode bc_Judge_isInOrder 56 = .ok (.iaload, 1) := by decide +kernel
theorem d_Judge_isInOrder_57 : decode bc_Judge_isInOrder 57 = .ok (.iconst 5, 1) := by decide +kernel
theorem d_Judge_isInOrder_58 : decode bc_Judge_isInOrder 58 = .ok (.if_icmp .ne 18, 3) := by decide +kernel
theorem d_Judge_isInOrder_61 : decode bc_Judge_isInOrder 61 = .ok (.lload_n 2, 1) := by decide +kernel
theorem d_Judge_isInOrder_62 : decode bc_Judge_isInOrder 62 = .ok (.lload 4, 2) := by decide +kernel
theorem d_Judge_isInOrder_64 : decode bc_Judge_isInOrder 64 = .ok (.lcmp, 1) := by decide +kernel
theorem d_Judge_isInOrder_65 : decode bc_Judge_isInOrder 65 = .ok (.ifCond .ge 7, 3) := by decide +kernel
theorem d_Judge_isInOrder_68 : decode bc_Judge_isInOrder 68 = .ok (.iconst 1, 1) := by decide +kernel
theorem d_Judge_isInOrder_69 : decode bc_Judge_isInOrder 69 = .ok (.goto 19, 3) := by decide +kernel
theorem d_Judge_isInOrder_72 : decode bc_Judge_isInOrder 72 = .ok (.iconst 0, 1) := by decide +kernel
theorem d_Judge_isInOrder_73 : decode bc_Judge_isInOrder 73 = .ok (.goto 15, 3) := by decide +kernel
theorem d_Judge_isInOrder_76 : decode bc_Judge_isInOrder 76 = .ok (.lload_n 2, 1) := by decide +kernel
theorem d_Judge_isInOrder_77 : decode bc_Judge_isInOrder 77 = .ok (.lload 4, 2) := by decide +kernel
theorem d_Judge_isInOrder_79 : decode bc_Judge_isInOrder 79 = .ok (.lcmp, 1) := by decide +kernel
theorem d_Judge_isInOrder_80 : decode bc_Judge_isInOrder 80 = .ok (.ifCond .le 7, 3) := by decide +kernel
theorem d_Judge_isInOrder_83 : decode bc_Judge_isInOrder 83 = .ok (.iconst 1, 1) := by decide +kernel
theorem d_Judge_isInOrder_84 : decode bc_Judge_isInOrder 84 = .ok (.goto 4, 3) := by decide +kernel
theorem d_Judge_isInOrder_87 : decode bc_Judge_isInOrder 87 = .ok (.iconst 0, 1) := by decide +kernel
theorem d_Judge_isInOrder_88 : decode bc_Judge_isInOrder 88 = .ok (.ireturn, 1) := by decide +kernel
def cw_Judge_isInOrder (G : Nat → ClassId) (a_t a_question a_question_left a_image a_question_text a_question_text_chars a_question_numbers a_bound a_image_values a_question_right a_question_kinds a_question_inner a_question_next a_image_classes a_image_names : Nat) (v_question_nodeCount : Int32) (v_question_root : Int32) (v_question_asked : Int32) (v_question_mode : Int32) (v_question_left : Nat → Int32) (v_question_text_length : Int32) (v_question_text_chars : Nat → Int32) (v_question_numbers : Nat → Int32) (v_bound : Nat → Int32) (v_image_values : Nat → Int64) (v_question_right : Nat → Int32) (v_question_kinds : Nat → Int32) : va_W := [(a_t, .inr (9, [.ref a_image, .ref a_bound, .ref a_question])), (a_question, .inr (7, [.ref a_question_text, .ref a_question_numbers, .ref a_question_kinds, .ref a_question_inner, .ref a_question_next, .ref a_question_left, .ref a_question_right, .int v_question_nodeCount, .int v_question_root, .int v_question_asked, .int v_question_mode])), (a_question_left, .inl (G 0, 60, .inl v_question_left)), (a_image, .inr (4, [.ref a_image_classes, .ref a_image_values, .ref a_image_names])), (a_question_text, .inr (6, [.ref a_question_text_chars, .int v_question_text_length])), (a_question_text_chars, .inl (G 2, 60, .inl v_question_text_chars)), (a_question_numbers, .inl (G 0, 60, .inl v_question_numbers)), (a_bound, .inl (G 0, 3, .inl v_bound)), (a_image_values, .inl (G 1, 504, .inr (.inl v_image_values))), (a_question_right, .inl (G 0, 60, .inl v_question_right)), (a_question_kinds, .inl (G 0, 60, .inl v_question_kinds))]
def f_Judge_isInOrder (v_question_left : Nat → Int32) (v_question_text_length : Int32) (v_question_text_chars : Nat → Int32) (v_question_numbers : Nat → Int32) (v_bound : Nat → Int32) (v_image_values : Nat → Int64) (v_question_right : Nat → Int32) (v_question_kinds : Nat → Int32) (p1 : Int32) : Option (Int32) := ob_iv p1 60 ((f_Judge_valueFrom v_question_text_length v_question_text_chars v_question_numbers v_bound v_image_values (v_question_left p1.toNatClampNeg)).bind fun o10 => (ob_iv p1 60 ((f_Judge_valueFrom v_question_text_length v_question_text_chars v_question_numbers v_bound v_image_values (v_question_right p1.toNatClampNeg)).bind fun o24 => (if (lg_cmp o10 (-9223372036854775808)) = 0 then (some 0) else (if (lg_cmp o24 (-9223372036854775808)) = 0 then (some 0) else (ob_iv p1 60 (if (v_question_kinds p1.toNatClampNeg) = 5 then (if 0 ≤ (lg_cmp o10 o24) then (some 0) else (some 1)) else (if (lg_cmp o10 o24) ≤ 0 then (some 0) else (some 1)))))))))
set_option maxHeartbeats 4000000 in
set_option maxRecDepth 100000 in
theorem c_Judge_isInOrder (l : Launch) (D : va_G) (G : Nat → ClassId) (a_t a_question a_question_left a_image a_question_text a_question_text_chars a_question_numbers a_bound a_image_values a_question_right a_question_kinds a_question_inner a_question_next a_image_classes a_image_names : Nat) (v_question_nodeCount : Int32) (v_question_root : Int32) (v_question_asked : Int32) (v_question_mode : Int32) (v_question_left : Nat → Int32) (v_question_text_length : Int32) (v_question_text_chars : Nat → Int32) (v_question_numbers : Nat → Int32) (v_bound : Nat → Int32) (v_image_values : Nat → Int64) (v_question_right : Nat → Int32) (v_question_kinds : Nat → Int32) (p1 : Int32) (o : Int32) (hf : f_Judge_isInOrder v_question_left v_question_text_length v_question_text_chars v_question_numbers v_bound v_image_values v_question_right v_question_kinds p1 = some o) (sz : Nat) : MetI l y_Judge_isInOrder ws_Judge_isInOrder ({ frames := 2, cells := 0, slots := 0, locals := 49 }) D (obT G) (cw_Judge_isInOrder G a_t a_question a_question_left a_image a_question_text a_question_text_chars a_question_numbers a_bound a_image_values a_question_right a_question_kinds a_question_inner a_question_next a_image_classes a_image_names v_question_nodeCount v_question_root v_question_asked v_question_mode v_question_left v_question_text_length v_question_text_chars v_question_numbers v_bound v_image_values v_question_right v_question_kinds) (cw_Judge_isInOrder G a_t a_question a_question_left a_image a_question_text a_question_text_chars a_question_numbers a_bound a_image_values a_question_right a_question_kinds a_question_inner a_question_next a_image_classes a_image_names v_question_nodeCount v_question_root v_question_asked v_question_mode v_question_left v_question_text_length v_question_text_chars v_question_numbers v_bound v_image_values v_question_right v_question_kinds) [.ref a_t, .int p1] o sz := by
  refine ob_of (cc := bc_Judge_isInOrder) (maxL := 6) (ret := (some .boolean)) (Qc := ObQi D (obT G) (cw_Judge_isInOrder G a_t a_question a_question_left a_image a_question_text a_question_text_chars a_question_numbers a_bound a_image_values a_question_right a_question_kinds a_question_inner a_question_next a_image_classes a_image_names v_question_nodeCount v_question_root v_question_asked v_question_mode v_question_left v_question_text_length v_question_text_chars v_question_numbers v_bound v_image_values v_question_right v_question_kinds) o) (by decide) rfl (Nat.le_of_ble_eq_true rfl) ?_
  intro p e s m below meth c A ls H locs hx hb hr hml hts hown hlk hnm hZ hP hK hD hA hS hl
  have hret : ∀ (o' : Int32) (H : Heap) (locs : List Loc) (pc : Nat) (ls : Array Slot), some o' = some o → va_P D vwCl (cw_Judge_isInOrder G a_t a_question a_question_left a_image a_question_text a_question_text_chars a_question_numbers a_bound a_image_values a_question_right a_question_kinds a_question_inner a_question_next a_image_classes a_image_names v_question_nodeCount v_question_root v_question_asked v_question_mode v_question_left v_question_text_length v_question_text_chars v_question_numbers v_bound v_image_values v_question_right v_question_kinds) H → va_D A (cw_Judge_isInOrder G a_t a_question a_question_left a_image a_question_text a_question_text_chars a_question_numbers a_bound a_image_values a_question_right a_question_kinds a_question_inner a_question_next a_image_classes a_image_names v_question_nodeCount v_question_root v_question_asked v_question_mode v_question_left v_question_text_length v_question_text_chars v_question_numbers v_bound v_image_values v_question_right v_question_kinds) → va_S A s.heap H locs → narrow .boolean (.int o') = .int o' → decode bc_Judge_isInOrder pc = .ok (.ireturn, 1) → W p l e { frames := 2, cells := 0, slots := 0, locals := 49 } s m ([.ref a_t, .int p1] : List Value).toArray below meth c H locs 0 0 (MQ below (ObQi D (obT G) (cw_Judge_isInOrder G a_t a_question a_question_left a_image a_question_text a_question_text_chars a_question_numbers a_bound a_image_values a_question_right a_question_kinds a_question_inner a_question_next a_image_classes a_image_names v_question_nodeCount v_question_root v_question_asked v_question_mode v_question_left v_question_text_length v_question_text_chars v_question_numbers v_bound v_image_values v_question_right v_question_kinds) o A) ([.ref a_t, .int p1] : List Value).toArray s 0 0 A) (F0 m pc ls [.int o']) := by
    intro o' H locs pc ls he hP hD hS hn hd
    obtain rfl := Option.some.inj he
    exact ob_iret hx hb hr hlk hK hP hD hS hn hd
  generalize MQ below (ObQi D (obT G) (cw_Judge_isInOrder G a_t a_question a_question_left a_image a_question_text a_question_text_chars a_question_numbers a_bound a_image_values a_question_right a_question_kinds a_question_inner a_question_next a_image_classes a_image_names v_question_nodeCount v_question_root v_question_asked v_question_mode v_question_left v_question_text_length v_question_text_chars v_question_numbers v_bound v_image_values v_question_right v_question_kinds) o A) ([.ref a_t, .int p1] : List Value).toArray s 0 0 A = Q at hret ⊢
  have hl : lv_has ls 6 [(0, .ref a_t), (1, .int p1)] := hl
  unfold f_Judge_isInOrder at hf
  refine lv_aload_n hx hb d_Judge_isInOrder_0 rfl (lv_at hl 0 rfl) ?_
  refine lv_aload_n hx hb d_Judge_isInOrder_1 rfl (lv_at hl 0 rfl) ?_
  refine va_get (D := D) (ci := 9) (v := .ref a_question) (C := "ObjectBase$Judge") (T := TC_Judge) (N := 3) hx hb hts inC_Judge hown hK hP 0 rfl rfl 2 (by decide) (hts _ tw202) (fun _ h9 => h9) rfl d_Judge_isInOrder_2 ?_
  refine va_get (D := D) (ci := 7) (v := .ref a_question_left) (C := "ObjectBase$Question") (T := TC_Question) (N := 11) hx hb hts inC_Question hown hK hP 1 rfl rfl 5 (by decide) (hts _ tw550) (fun _ h9 => h9) rfl d_Judge_isInOrder_5 ?_
  refine lv_iload_n hx hb d_Judge_isInOrder_8 rfl (lv_at hl 1 rfl) ?_
  obtain ⟨hg9, hf⟩ := ob_iv_g hf
  refine va_iald hx hb hK hP 2 0 rfl rfl hg9 d_Judge_isInOrder_9 ?_
  obtain ⟨o10, ho10, hf⟩ := ob_b hf
  refine ob_calll (w2 := (cw_Judge_isInOrder G a_t a_question a_question_left a_image a_question_text a_question_text_chars a_question_numbers a_bound a_image_values a_question_right a_question_kinds a_question_inner a_question_next a_image_classes a_image_names v_question_nodeCount v_question_root v_question_asked v_question_mode v_question_left v_question_text_length v_question_text_chars v_question_numbers v_bound v_image_values v_question_right v_question_kinds)) (va_runV (As := [.int (v_question_left p1.toNatClampNeg)]) (rest := []) ⟨hx, hb, hml, hown, hts⟩ (c_Judge_valueFrom l D G a_t a_question a_question_text a_question_text_chars a_question_numbers a_bound a_image a_image_values a_question_kinds a_question_inner a_question_next a_question_left a_question_right a_image_classes a_image_names v_question_nodeCount v_question_root v_question_asked v_question_mode v_question_text_length v_question_text_chars v_question_numbers v_bound v_image_values (v_question_left p1.toNatClampNeg) o10 ho10 H.size) (cwV 1 hts (gV tw722 tw724 tp23 tw9 tw725) rfl rfl rfl (by decide +kernel) ⟨Nat.le_of_ble_eq_true rfl, Nat.le_of_ble_eq_true rfl⟩) (ob_preV (q0 := 0) (ci := 9) hZ hK hP hD [0, 1, 4, 5, 6, 7, 3, 8] rfl rfl rfl rfl rfl) rfl rfl hl.1 rfl (lv_room (Nat.le_of_ble_eq_true rfl)) d_Judge_isInOrder_10 ⟨Nat.le_refl _, Nat.le_refl _⟩) hP hD hA hS [0, 1, 4, 5, 6, 7, 3, 8] rfl rfl rfl rfl (fun H locs hP hD hS => ?_)
  refine lv_lstore_n (lv' := [(2, .long o10), (0, .ref a_t), (1, .int p1)]) hx hb d_Judge_isInOrder_13 rfl hl (by decide) rfl (fun ls hl => ?_)
  refine lv_aload_n hx hb d_Judge_isInOrder_14 rfl (lv_at hl 1 rfl) ?_
  refine lv_aload_n hx hb d_Judge_isInOrder_15 rfl (lv_at hl 1 rfl) ?_
  refine va_get (D := D) (ci := 9) (v := .ref a_question) (C := "ObjectBase$Judge") (T := TC_Judge) (N := 3) hx hb hts inC_Judge hown hK hP 0 rfl rfl 2 (by decide) (hts _ tw202) (fun _ h9 => h9) rfl d_Judge_isInOrder_16 ?_
  refine va_get (D := D) (ci := 7) (v := .ref a_question_right) (C := "ObjectBase$Question") (T := TC_Question) (N := 11) hx hb hts inC_Question hown hK hP 1 rfl rfl 6 (by decide) (hts _ tw552) (fun _ h9 => h9) rfl d_Judge_isInOrder_19 ?_
  refine lv_iload_n hx hb d_Judge_isInOrder_22 rfl (lv_at hl 2 rfl) ?_
  obtain ⟨hg23, hf⟩ := ob_iv_g hf
  refine va_iald hx hb hK hP 9 0 rfl rfl hg23 d_Judge_isInOrder_23 ?_
  obtain ⟨o24, ho24, hf⟩ := ob_b hf
  refine ob_calll (w2 := (cw_Judge_isInOrder G a_t a_question a_question_left a_image a_question_text a_question_text_chars a_question_numbers a_bound a_image_values a_question_right a_question_kinds a_question_inner a_question_next a_image_classes a_image_names v_question_nodeCount v_question_root v_question_asked v_question_mode v_question_left v_question_text_length v_question_text_chars v_question_numbers v_bound v_image_values v_question_right v_question_kinds)) (va_runV (As := [.int (v_question_right p1.toNatClampNeg)]) (rest := []) ⟨hx, hb, hml, hown, hts⟩ (c_Judge_valueFrom l D G a_t a_question a_question_text a_question_text_chars a_question_numbers a_bound a_image a_image_values a_question_kinds a_question_inner a_question_next a_question_left a_question_right a_image_classes a_image_names v_question_nodeCount v_question_root v_question_asked v_question_mode v_question_text_length v_question_text_chars v_question_numbers v_bound v_image_values (v_question_right p1.toNatClampNeg) o24 ho24 H.size) (cwV 1 hts (gV tw722 tw724 tp23 tw9 tw725) rfl rfl rfl (by decide +kernel) ⟨Nat.le_of_ble_eq_true rfl, Nat.le_of_ble_eq_true rfl⟩) (ob_preV (q0 := 0) (ci := 9) hZ hK hP hD [0, 1, 4, 5, 6, 7, 3, 8] rfl rfl rfl rfl rfl) rfl rfl hl.1 rfl (lv_room (Nat.le_of_ble_eq_true rfl)) d_Judge_isInOrder_24 ⟨Nat.le_refl _, Nat.le_refl _⟩) hP hD hA hS [0, 1, 4, 5, 6, 7, 3, 8] rfl rfl rfl rfl (fun H locs hP hD hS => ?_)
  refine lv_lstore (lv' := [(4, .long o24), (2, .long o10), (0, .ref a_t), (1, .int p1)]) hx hb d_Judge_isInOrder_27 hl (by decide) rfl (fun ls hl => ?_)
  refine lv_lload_n hx hb d_Judge_isInOrder_29 rfl (lv_at hl 1 rfl) ?_
  refine lv_ldc2 (v := (-9223372036854775808)) hx hb hown (hts _ tw727) d_Judge_isInOrder_30 ?_
  refine W.lcmp hx hb d_Judge_isInOrder_33 ?_
  refine lv_if_eq (tgt := 46) hx hb d_Judge_isInOrder_34 (by decide) (fun hc34 => ?_) (fun hc34 => ?_)
  · have hf := ob_t hc34 hf
    refine lv_iconst (v := 0) hx hb d_Judge_isInOrder_46 (by decide) ?_
    exact hret 0 H locs _ ls hf hP hD hS narrow_b0 d_Judge_isInOrder_47
  · have hf := ob_f hc34 hf
    refine lv_lload hx hb d_Judge_isInOrder_37 (lv_at hl 0 rfl) ?_
    refine lv_ldc2 (v := (-9223372036854775808)) hx hb hown (hts _ tw727) d_Judge_isInOrder_39 ?_
    refine W.lcmp hx hb d_Judge_isInOrder_42 ?_
    refine lv_if_ne (tgt := 48) hx hb d_Judge_isInOrder_43 (by decide) (fun hc43 => ?_) (fun hc43 => ?_)
    · have hf := ob_f hc43 hf
      refine lv_aload_n hx hb d_Judge_isInOrder_48 rfl (lv_at hl 2 rfl) ?_
      refine va_get (D := D) (ci := 9) (v := .ref a_question) (C := "ObjectBase$Judge") (T := TC_Judge) (N := 3) hx hb hts inC_Judge hown hK hP 0 rfl rfl 2 (by decide) (hts _ tw202) (fun _ h9 => h9) rfl d_Judge_isInOrder_49 ?_
      refine va_get (D := D) (ci := 7) (v := .ref a_question_kinds) (C := "ObjectBase$Question") (T := TC_Question) (N := 11) hx hb hts inC_Question hown hK hP 1 rfl rfl 2 (by decide) (hts _ tw541) (fun _ h9 => h9) rfl d_Judge_isInOrder_52 ?_
      refine lv_iload_n hx hb d_Judge_isInOrder_55 rfl (lv_at hl 3 rfl) ?_
      obtain ⟨hg56, hf⟩ := ob_iv_g hf
      refine va_iald hx hb hK hP 10 0 rfl rfl hg56 d_Judge_isInOrder_56 ?_
      refine lv_iconst (v := 5) hx hb d_Judge_isInOrder_57 (by decide) ?_
      refine lv_icmp_ne (tgt := 76) hx hb d_Judge_isInOrder_58 (by decide) (fun hc58 => ?_) (fun hc58 => ?_)
      · have hf := ob_f hc58 hf
        refine lv_lload_n hx hb d_Judge_isInOrder_76 rfl (lv_at hl 1 rfl) ?_
        refine lv_lload hx hb d_Judge_isInOrder_77 (lv_at hl 0 rfl) ?_
        refine W.lcmp hx hb d_Judge_isInOrder_79 ?_
        refine lv_if_le (tgt := 87) hx hb d_Judge_isInOrder_80 (by decide) (fun hc80 => ?_) (fun hc80 => ?_)
        · have hf := ob_t hc80 hf
          refine lv_iconst (v := 0) hx hb d_Judge_isInOrder_87 (by decide) ?_
          exact hret 0 H locs _ ls hf hP hD hS narrow_b0 d_Judge_isInOrder_88
        · have hf := ob_f hc80 hf
          refine lv_iconst (v := 1) hx hb d_Judge_isInOrder_83 (by decide) ?_
          refine lv_goto (tgt := 88) hx hb d_Judge_isInOrder_84 (by decide) ?_
          exact hret 1 H locs _ ls hf hP hD hS narrow_b1 d_Judge_isInOrder_88
      · have hf := ob_t hc58 hf
        refine lv_lload_n hx hb d_Judge_isInOrder_61 rfl (lv_at hl 1 rfl) ?_
        refine lv_lload hx hb d_Judge_isInOrder_62 (lv_at hl 0 rfl) ?_
        refine W.lcmp hx hb d_Judge_isInOrder_64 ?_
        refine lv_if_ge (tgt := 72) hx hb d_Judge_isInOrder_65 (by decide) (fun hc65 => ?_) (fun hc65 => ?_)
        · have hf := ob_t hc65 hf
          refine lv_iconst (v := 0) hx hb d_Judge_isInOrder_72 (by decide) ?_
          refine lv_goto (tgt := 88) hx hb d_Judge_isInOrder_73 (by decide) ?_
          exact hret 0 H locs _ ls hf hP hD hS narrow_b0 d_Judge_isInOrder_88
        · have hf := ob_f hc65 hf
          refine lv_iconst (v := 1) hx hb d_Judge_isInOrder_68 (by decide) ?_
          refine lv_goto (tgt := 88) hx hb d_Judge_isInOrder_69 (by decide) ?_
          exact hret 1 H locs _ ls hf hP hD hS narrow_b1 d_Judge_isInOrder_88
    · have hf := ob_t hc43 hf
      refine lv_iconst (v := 0) hx hb d_Judge_isInOrder_46 (by decide) ?_
      exact hret 0 H locs _ ls hf hP hD hS narrow_b0 d_Judge_isInOrder_47
abbrev bc_Answer_forget : ByteArray := prog_2_method_2_code
abbrev y_Answer_forget : MethodName := ⟨"ObjectBase$Answer", "forget", "()V"⟩
def ws_Answer_forget : List Cond := .code y_Answer_forget bc_Answer_forget 1 none :: obW
theorem d_Answer_forget_0 : decode bc_Answer_forget 0 = .ok (.aload_n 0, 1) := by decide +kernel
theorem d_Answer_forget_1 : decode bc_Answer_forget 1 = .ok (.iconst 0, 1) := by decide +kernel
theorem d_Answer_forget_2 : decode bc_Answer_forget 2 = .ok (.invokevirtual 9, 3) := by decide +kernel
theorem d_Answer_forget_5 : decode bc_Answer_forget 5 = .ok (.return_, 1) := by decide +kernel
def cw_Answer_forget (G : Nat → ClassId) (a_t : Nat) (v_mode : Int32) (v_fitting : Int64) (v_total : Int64) (v_looked : Int32) : va_W := [(a_t, .inr (10, [.int v_mode, .long v_fitting, .long v_total, .int v_looked]))]
def f_Answer_forget : Option (Int32 × Int64 × Int64 × Int32) := (f_Answer_startFor 0).bind fun o2 => (some (o2.1, o2.2.1, o2.2.2.1, o2.2.2.2))
set_option maxHeartbeats 4000000 in
set_option maxRecDepth 100000 in
theorem c_Answer_forget (l : Launch) (D : va_G) (G : Nat → ClassId) (a_t : Nat) (v_mode : Int32) (v_fitting : Int64) (v_total : Int64) (v_looked : Int32) (o : Int32 × Int64 × Int64 × Int32) (hf : f_Answer_forget = some o) (sz : Nat) : MetV l y_Answer_forget ws_Answer_forget ({ frames := 1, cells := 0, slots := 0, locals := 21 }) D (obT G) (cw_Answer_forget G a_t v_mode v_fitting v_total v_looked) (cw_Answer_forget G a_t o.1 o.2.1 o.2.2.1 o.2.2.2) [.ref a_t] sz := by
  refine ob_of (cc := bc_Answer_forget) (maxL := 1) (ret := none) (Qc := ObQv D (obT G) (cw_Answer_forget G a_t o.1 o.2.1 o.2.2.1 o.2.2.2)) (by decide) rfl (Nat.le_of_ble_eq_true rfl) ?_
  intro p e s m below meth c A ls H locs hx hb hr hml hts hown hlk hnm hZ hP hK hD hA hS hl
  have hret : ∀ (o' : Int32 × Int64 × Int64 × Int32) (H : Heap) (locs : List Loc) (pc : Nat) (ls : Array Slot), some o' = some o → va_P D vwCl (cw_Answer_forget G a_t o'.1 o'.2.1 o'.2.2.1 o'.2.2.2) H → va_D A (cw_Answer_forget G a_t o'.1 o'.2.1 o'.2.2.1 o'.2.2.2) → va_S A s.heap H locs → decode bc_Answer_forget pc = .ok (.return_, 1) → W p l e { frames := 1, cells := 0, slots := 0, locals := 21 } s m ([.ref a_t] : List Value).toArray below meth c H locs 0 0 (MQ below (ObQv D (obT G) (cw_Answer_forget G a_t o.1 o.2.1 o.2.2.1 o.2.2.2) A) ([.ref a_t] : List Value).toArray s 0 0 A) (F0 m pc ls []) := by
    intro o' H locs pc ls he hP hD hS hd
    obtain rfl := Option.some.inj he
    exact ob_vret hx hb hr hlk hK hP hD hS hd
  generalize MQ below (ObQv D (obT G) (cw_Answer_forget G a_t o.1 o.2.1 o.2.2.1 o.2.2.2) A) ([.ref a_t] : List Value).toArray s 0 0 A = Q at hret ⊢
  have hl : lv_has ls 1 [(0, .ref a_t)] := hl
  unfold f_Answer_forget at hf
  refine lv_aload_n hx hb d_Answer_forget_0 rfl (lv_at hl 0 rfl) ?_
  refine lv_iconst (v := 0) hx hb d_Answer_forget_1 (by decide) ?_
  obtain ⟨o2, ho2, hf⟩ := ob_b hf
  refine ob_callv (w2 := (cw_Answer_forget G a_t o2.1 o2.2.1 o2.2.2.1 o2.2.2.2)) (va_runV (As := [.int 0]) (rest := []) ⟨hx, hb, hml, hown, hts⟩ (c_Answer_startFor l D G a_t v_mode v_fitting v_total v_looked 0 o2 ho2 H.size) (cwV 1 hts (gV tw437 tw438 tw439 tw10 tw440) rfl rfl rfl (by decide +kernel) ⟨Nat.le_of_ble_eq_true rfl, Nat.le_of_ble_eq_true rfl⟩) (ob_preV (q0 := 0) (ci := 10) hZ hK hP hD [0] rfl rfl rfl rfl rfl) rfl rfl hl.1 rfl (lv_room (Nat.le_of_ble_eq_true rfl)) d_Answer_forget_2 ⟨Nat.le_refl _, Nat.le_refl _⟩) hP hD hA hS [0] rfl rfl rfl rfl (fun H locs hP hD hS => ?_)
  exact hret (o2.1, o2.2.1, o2.2.2.1, o2.2.2.2) H locs _ ls hf hP hD hS d_Answer_forget_5
abbrev bc_M_write : ByteArray := prog_13_method_23_code
abbrev y_M_write : MethodName := ⟨"ObjectBaseModel", "write", "()Z"⟩
def ws_M_write : List Cond := .code y_M_write bc_M_write 1 (some .boolean) :: obW
theorem d_M_write_0 : decode bc_M_write 0 = .ok (.aload_n 0, 1) := by decide +kernel
theorem d_M_write_1 : decode bc_M_write 1 = .ok (.getfield 50, 3) := by decide +kernel
theorem d_M_write_4 : decode bc_M_write 4 = .ok (.ifCond .ne 9, 3) := by decide +kernel
theorem d_M_write_7 : decode bc_M_write 7 = .ok (.aload_n 0, 1) := by decide +kernel
theorem d_M_write_8 : decode bc_M_write 8 = .ok (.invokevirtual 189, 3) := by decide +kernel
theorem d_M_write_11 : decode bc_M_write 11 = .ok (.iconst 0, 1) := by decide +kernel
theorem d_M_write_12 : decode bc_M_write 12 = .ok (.ireturn, 1) := by decide +kernel
theorem d_M_write_13 : decode bc_M_write 13 = .ok (.aload_n 0, 1) := by decide +kernel
theorem d_M_write_14 : decode bc_M_write 14 = .ok (.dup, 1) := by decide +kernel
theorem d_M_write_15 : decode bc_M_write 15 = .ok (.getfield 50, 3) := by decide +kernel
theorem d_M_write_18 : decode bc_M_write 18 = .ok (.aload_n 0, 1) := by decide +kernel
theorem d_M_write_19 : decode bc_M_write 19 = .ok (.getfield 50, 3) := by decide +kernel
theorem d_M_write_22 : decode bc_M_write 22 = .ok (.ifCond .le 7, 3) := by decide +kernel
theorem d_M_write_25 : decode bc_M_write 25 = .ok (.iconst 1, 1) := by decide +kernel
theorem d_M_write_26 : decode bc_M_write 26 = .ok (.goto 4, 3) := by decide +kernel
theorem d_M_write_29 : decode bc_M_write 29 = .ok (.iconst 0, 1) := by decide +kernel
theorem d_M_write_30 : decode bc_M_write 30 = .ok (.isub, 1) := by decide +kernel
theorem d_M_write_31 : decode bc_M_write 31 = .ok (.putfield 50, 3) := by decide +kernel
theorem d_M_write_34 : decode bc_M_write 34 = .ok (.aload_n 0, 1) := by decide +kernel
theorem d_M_write_35 : decode bc_M_write 35 = .ok (.dup, 1) := by decide +kernel
theorem d_M_write_36 : decode bc_M_write 36 = .ok (.getfield 192, 3) := by decide +kernel
theorem d_M_write_39 : decode bc_M_write 39 = .ok (.iconst 1, 1) := by decide +kernel
theorem d_M_write_40 : decode bc_M_write 40 = .ok (.iadd, 1) := by decide +kernel
theorem d_M_write_41 : decode bc_M_write 41 = .ok (.putfield 192, 3) := by decide +kernel
theorem d_M_write_44 : decode bc_M_write 44 = .ok (.iconst 1, 1) := by decide +kernel
theorem d_M_write_45 : decode bc_M_write 45 = .ok (.ireturn, 1) := by decide +kernel
def cw_M_write (G : Nat → ClassId) (a_t a_dNames a_names a_dValues a_values a_dSets a_sets a_parent a_owner a_sort a_aim a_indexClass a_indexPath a_classes1 a_draft a_lengths a_text a_classOfQuestion a_split a_steps a_what a_one a_two a_opened a_openedAt a_stands a_variable a_truth a_rest a_loopAt a_loopFound a_hits : Nat) (v_classes : Int32) (v_fields : Int32) (v_begun : Int32) (v_indexes : Int32) (v_made : Int32) (v_slotted : Int64) (v_half : Int32) (v_open : Int32) (v_known : Int64) (v_fresh : Int64) (v_changed : Int64) (v_renamed : Int32) (v_down : Int32) (v_armed : Int32) (v_written : Int32) (v_logged : Int32) (v_marked : Int32) (v_logSize : Int32) (v_drafted : Int32) (v_questions : Int32) (v_now : Int32) (v_at : Int32) (v_bad : Int32) (v_opens : Int32) (v_deep : Int32) (v_aimed : Int32) (v_truths : Int32) (v_loops : Int32) (v_valued : Int32) (v_value : Int32) (v_set : Int64) (v_latest : Int32) (v_fits : Int32) (v_total : Int64) (v_looked : Int32) (v_dNames : Nat → Int32) (v_names : Nat → Int32) (v_dValues : Nat → Int32) (v_values : Nat → Int32) (v_dSets : Nat → Int64) (v_sets : Nat → Int64) : va_W := [(a_t, .inr (11, [.int v_classes, .ref a_parent, .int v_fields, .ref a_owner, .ref a_sort, .ref a_aim, .int v_begun, .int v_indexes, .ref a_indexClass, .ref a_indexPath, .int v_made, .ref a_classes1, .ref a_dValues, .ref a_dSets, .ref a_dNames, .ref a_values, .ref a_sets, .ref a_names, .long v_slotted, .int v_half, .int v_open, .long v_known, .long v_fresh, .long v_changed, .int v_renamed, .int v_down, .int v_armed, .int v_written, .int v_logged, .int v_marked, .int v_logSize, .int v_drafted, .ref a_draft, .int v_questions, .ref a_lengths, .ref a_text, .ref a_classOfQuestion, .ref a_split, .ref a_steps, .ref a_what, .ref a_one, .ref a_two, .int v_now, .int v_at, .int v_bad, .int v_opens, .ref a_opened, .ref a_openedAt, .int v_deep, .int v_aimed, .ref a_stands, .ref a_variable, .int v_truths, .ref a_truth, .int v_loops, .ref a_rest, .ref a_loopAt, .ref a_loopFound, .int v_valued, .int v_value, .long v_set, .int v_latest, .int v_fits, .ref a_hits, .long v_total, .int v_looked])), (a_dNames, .inl (G 0, 4, .inl v_dNames)), (a_names, .inl (G 0, 4, .inl v_names)), (a_dValues, .inl (G 0, 504, .inl v_dValues)), (a_values, .inl (G 0, 504, .inl v_values)), (a_dSets, .inl (G 1, 504, .inr (.inl v_dSets))), (a_sets, .inl (G 1, 504, .inr (.inl v_sets)))]
def f_M_write_J30 (y30_0 : Int32) (y30_1 : Int32) (v_open_30 : Int32) (v_down_30 : Int32) (v_armed_30 : Int32) (v_written_30 : Int32) (v_latest_30 : Int32) (v_fits_30 : Int32) (v_total_30 : Int64) (v_looked_30 : Int32) (v_names_30 : Nat → Int32) (v_values_30 : Nat → Int32) (v_sets_30 : Nat → Int64) : Option (Int32 × Int32 × Int32 × Int32 × Int32 × Int32 × Int32 × Int64 × Int32 × (Nat → Int32) × (Nat → Int32) × (Nat → Int64)) := some (1, v_open_30, v_down_30, y30_1 - y30_0, v_written_30 + 1, v_latest_30, v_fits_30, v_total_30, v_looked_30, v_names_30, v_values_30, v_sets_30)
def f_M_write (v_open : Int32) (v_down : Int32) (v_armed : Int32) (v_written : Int32) (v_marked : Int32) (v_latest : Int32) (v_fits : Int32) (v_total : Int64) (v_looked : Int32) (v_dNames : Nat → Int32) (v_names : Nat → Int32) (v_dValues : Nat → Int32) (v_values : Nat → Int32) (v_dSets : Nat → Int64) (v_sets : Nat → Int64) : Option (Int32 × Int32 × Int32 × Int32 × Int32 × Int32 × Int32 × Int64 × Int32 × (Nat → Int32) × (Nat → Int32) × (Nat → Int64)) := if v_armed = 0 then ((f_M_fall v_open v_marked v_dNames v_names v_dValues v_values v_dSets v_sets).bind fun o8 => (some (0, o8.1, o8.2.1, v_armed, v_written, o8.2.2.1, o8.2.2.2.1, o8.2.2.2.2.1, o8.2.2.2.2.2.1, o8.2.2.2.2.2.2.1, o8.2.2.2.2.2.2.2.1, o8.2.2.2.2.2.2.2.2))) else (if v_armed ≤ 0 then (f_M_write_J30 0 v_armed v_open v_down v_armed v_written v_latest v_fits v_total v_looked v_names v_values v_sets) else (f_M_write_J30 1 v_armed v_open v_down v_armed v_written v_latest v_fits v_total v_looked v_names v_values v_sets))
set_option maxHeartbeats 4000000 in
set_option maxRecDepth 100000 in
theorem c_M_write (l : Launch) (D : va_G) (G : Nat → ClassId) (a_t a_dNames a_names a_dValues a_values a_dSets a_sets a_parent a_owner a_sort a_aim a_indexClass a_indexPath a_classes1 a_draft a_lengths a_text a_classOfQuestion a_split a_steps a_what a_one a_two a_opened a_openedAt a_stands a_variable a_truth a_rest a_loopAt a_loopFound a_hits : Nat) (v_classes : Int32) (v_fields : Int32) (v_begun : Int32) (v_indexes : Int32) (v_made : Int32) (v_slotted : Int64) (v_half : Int32) (v_open : Int32) (v_known : Int64) (v_fresh : Int64) (v_changed : Int64) (v_renamed : Int32) (v_down : Int32) (v_armed : Int32) (v_written : Int32) (v_logged : Int32) (v_marked : Int32) (v_logSize : Int32) (v_drafted : Int32) (v_questions : Int32) (v_now : Int32) (v_at : Int32) (v_bad : Int32) (v_opens : Int32) (v_deep : Int32) (v_aimed : Int32) (v_truths : Int32) (v_loops : Int32) (v_valued : Int32) (v_value : Int32) (v_set : Int64) (v_latest : Int32) (v_fits : Int32) (v_total : Int64) (v_looked : Int32) (v_dNames : Nat → Int32) (v_names : Nat → Int32) (v_dValues : Nat → Int32) (v_values : Nat → Int32) (v_dSets : Nat → Int64) (v_sets : Nat → Int64) (o : Int32 × Int32 × Int32 × Int32 × Int32 × Int32 × Int32 × Int64 × Int32 × (Nat → Int32) × (Nat → Int32) × (Nat → Int64)) (hf : f_M_write v_open v_down v_armed v_written v_marked v_latest v_fits v_total v_looked v_dNames v_names v_dValues v_values v_dSets v_sets = some o) (sz : Nat) : MetI l y_M_write ws_M_write ({ frames := 2, cells := 0, slots := 0, locals := 41 }) D (obT G) (cw_M_write G a_t a_dNames a_names a_dValues a_values a_dSets a_sets a_parent a_owner a_sort a_aim a_indexClass a_indexPath a_classes1 a_draft a_lengths a_text a_classOfQuestion a_split a_steps a_what a_one a_two a_opened a_openedAt a_stands a_variable a_truth a_rest a_loopAt a_loopFound a_hits v_classes v_fields v_begun v_indexes v_made v_slotted v_half v_open v_known v_fresh v_changed v_renamed v_down v_armed v_written v_logged v_marked v_logSize v_drafted v_questions v_now v_at v_bad v_opens v_deep v_aimed v_truths v_loops v_valued v_value v_set v_latest v_fits v_total v_looked v_dNames v_names v_dValues v_values v_dSets v_sets) (cw_M_write G a_t a_dNames a_names a_dValues a_values a_dSets a_sets a_parent a_owner a_sort a_aim a_indexClass a_indexPath a_classes1 a_draft a_lengths a_text a_classOfQuestion a_split a_steps a_what a_one a_two a_opened a_openedAt a_stands a_variable a_truth a_rest a_loopAt a_loopFound a_hits v_classes v_fields v_begun v_indexes v_made v_slotted v_half o.2.1 v_known v_fresh v_changed v_renamed o.2.2.1 o.2.2.2.1 o.2.2.2.2.1 v_logged v_marked v_logSize v_drafted v_questions v_now v_at v_bad v_opens v_deep v_aimed v_truths v_loops v_valued v_value v_set o.2.2.2.2.2.1 o.2.2.2.2.2.2.1 o.2.2.2.2.2.2.2.1 o.2.2.2.2.2.2.2.2.1 v_dNames o.2.2.2.2.2.2.2.2.2.1 v_dValues o.2.2.2.2.2.2.2.2.2.2.1 v_dSets o.2.2.2.2.2.2.2.2.2.2.2) [.ref a_t] o.1 sz := by
  refine ob_of (cc := bc_M_write) (maxL := 1) (ret := (some .boolean)) (Qc := ObQi D (obT G) (cw_M_write G a_t a_dNames a_names a_dValues a_values a_dSets a_sets a_parent a_owner a_sort a_aim a_indexClass a_indexPath a_classes1 a_draft a_lengths a_text a_classOfQuestion a_split a_steps a_what a_one a_two a_opened a_openedAt a_stands a_variable a_truth a_rest a_loopAt a_loopFound a_hits v_classes v_fields v_begun v_indexes v_made v_slotted v_half o.2.1 v_known v_fresh v_changed v_renamed o.2.2.1 o.2.2.2.1 o.2.2.2.2.1 v_logged v_marked v_logSize v_drafted v_questions v_now v_at v_bad v_opens v_deep v_aimed v_truths v_loops v_valued v_value v_set o.2.2.2.2.2.1 o.2.2.2.2.2.2.1 o.2.2.2.2.2.2.2.1 o.2.2.2.2.2.2.2.2.1 v_dNames o.2.2.2.2.2.2.2.2.2.1 v_dValues o.2.2.2.2.2.2.2.2.2.2.1 v_dSets o.2.2.2.2.2.2.2.2.2.2.2) o.1) (by decide) rfl (Nat.le_of_ble_eq_true rfl) ?_
  intro p e s m below meth c A ls H locs hx hb hr hml hts hown hlk hnm hZ hP hK hD hA hS hl
  have hret : ∀ (o' : Int32 × Int32 × Int32 × Int32 × Int32 × Int32 × Int32 × Int64 × Int32 × (Nat → Int32) × (Nat → Int32) × (Nat → Int64)) (H : Heap) (locs : List Loc) (pc : Nat) (ls : Array Slot), some o' = some o → va_P D vwCl (cw_M_write G a_t a_dNames a_names a_dValues a_values a_dSets a_sets a_parent a_owner a_sort a_aim a_indexClass a_indexPath a_classes1 a_draft a_lengths a_text a_classOfQuestion a_split a_steps a_what a_one a_two a_opened a_openedAt a_stands a_variable a_truth a_rest a_loopAt a_loopFound a_hits v_classes v_fields v_begun v_indexes v_made v_slotted v_half o'.2.1 v_known v_fresh v_changed v_renamed o'.2.2.1 o'.2.2.2.1 o'.2.2.2.2.1 v_logged v_marked v_logSize v_drafted v_questions v_now v_at v_bad v_opens v_deep v_aimed v_truths v_loops v_valued v_value v_set o'.2.2.2.2.2.1 o'.2.2.2.2.2.2.1 o'.2.2.2.2.2.2.2.1 o'.2.2.2.2.2.2.2.2.1 v_dNames o'.2.2.2.2.2.2.2.2.2.1 v_dValues o'.2.2.2.2.2.2.2.2.2.2.1 v_dSets o'.2.2.2.2.2.2.2.2.2.2.2) H → va_D A (cw_M_write G a_t a_dNames a_names a_dValues a_values a_dSets a_sets a_parent a_owner a_sort a_aim a_indexClass a_indexPath a_classes1 a_draft a_lengths a_text a_classOfQuestion a_split a_steps a_what a_one a_two a_opened a_openedAt a_stands a_variable a_truth a_rest a_loopAt a_loopFound a_hits v_classes v_fields v_begun v_indexes v_made v_slotted v_half o'.2.1 v_known v_fresh v_changed v_renamed o'.2.2.1 o'.2.2.2.1 o'.2.2.2.2.1 v_logged v_marked v_logSize v_drafted v_questions v_now v_at v_bad v_opens v_deep v_aimed v_truths v_loops v_valued v_value v_set o'.2.2.2.2.2.1 o'.2.2.2.2.2.2.1 o'.2.2.2.2.2.2.2.1 o'.2.2.2.2.2.2.2.2.1 v_dNames o'.2.2.2.2.2.2.2.2.2.1 v_dValues o'.2.2.2.2.2.2.2.2.2.2.1 v_dSets o'.2.2.2.2.2.2.2.2.2.2.2) → va_S A s.heap H locs → narrow .boolean (.int o'.1) = .int o'.1 → decode bc_M_write pc = .ok (.ireturn, 1) → W p l e { frames := 2, cells := 0, slots := 0, locals := 41 } s m ([.ref a_t] : List Value).toArray below meth c H locs 0 0 (MQ below (ObQi D (obT G) (cw_M_write G a_t a_dNames a_names a_dValues a_values a_dSets a_sets a_parent a_owner a_sort a_aim a_indexClass a_indexPath a_classes1 a_draft a_lengths a_text a_classOfQuestion a_split a_steps a_what a_one a_two a_opened a_openedAt a_stands a_variable a_truth a_rest a_loopAt a_loopFound a_hits v_classes v_fields v_begun v_indexes v_made v_slotted v_half o.2.1 v_known v_fresh v_changed v_renamed o.2.2.1 o.2.2.2.1 o.2.2.2.2.1 v_logged v_marked v_logSize v_drafted v_questions v_now v_at v_bad v_opens v_deep v_aimed v_truths v_loops v_valued v_value v_set o.2.2.2.2.2.1 o.2.2.2.2.2.2.1 o.2.2.2.2.2.2.2.1 o.2.2.2.2.2.2.2.2.1 v_dNames o.2.2.2.2.2.2.2.2.2.1 v_dValues o.2.2.2.2.2.2.2.2.2.2.1 v_dSets o.2.2.2.2.2.2.2.2.2.2.2) o.1 A) ([.ref a_t] : List Value).toArray s 0 0 A) (F0 m pc ls [.int o'.1]) := by
    intro o' H locs pc ls he hP hD hS hn hd
    obtain rfl := Option.some.inj he
    exact ob_iret hx hb hr hlk hK hP hD hS hn hd
  generalize MQ below (ObQi D (obT G) (cw_M_write G a_t a_dNames a_names a_dValues a_values a_dSets a_sets a_parent a_owner a_sort a_aim a_indexClass a_indexPath a_classes1 a_draft a_lengths a_text a_classOfQuestion a_split a_steps a_what a_one a_two a_opened a_openedAt a_stands a_variable a_truth a_rest a_loopAt a_loopFound a_hits v_classes v_fields v_begun v_indexes v_made v_slotted v_half o.2.1 v_known v_fresh v_changed v_renamed o.2.2.1 o.2.2.2.1 o.2.2.2.2.1 v_logged v_marked v_logSize v_drafted v_questions v_now v_at v_bad v_opens v_deep v_aimed v_truths v_loops v_valued v_value v_set o.2.2.2.2.2.1 o.2.2.2.2.2.2.1 o.2.2.2.2.2.2.2.1 o.2.2.2.2.2.2.2.2.1 v_dNames o.2.2.2.2.2.2.2.2.2.1 v_dValues o.2.2.2.2.2.2.2.2.2.2.1 v_dSets o.2.2.2.2.2.2.2.2.2.2.2) o.1 A) ([.ref a_t] : List Value).toArray s 0 0 A = Q at hret ⊢
  have hl : lv_has ls 1 [(0, .ref a_t)] := hl
  unfold f_M_write at hf
  have blk30 : ∀ (y30_0 : Int32) (y30_1 : Int32) (v_open_30 : Int32) (v_down_30 : Int32) (v_armed_30 : Int32) (v_written_30 : Int32) (v_latest_30 : Int32) (v_fits_30 : Int32) (v_total_30 : Int64) (v_looked_30 : Int32) (v_names_30 : Nat → Int32) (v_values_30 : Nat → Int32) (v_sets_30 : Nat → Int64) (ls : Array Slot) (H : Heap) (locs : List Loc), lv_has ls 1 [(0, .ref a_t)] → va_P D vwCl (cw_M_write G a_t a_dNames a_names a_dValues a_values a_dSets a_sets a_parent a_owner a_sort a_aim a_indexClass a_indexPath a_classes1 a_draft a_lengths a_text a_classOfQuestion a_split a_steps a_what a_one a_two a_opened a_openedAt a_stands a_variable a_truth a_rest a_loopAt a_loopFound a_hits v_classes v_fields v_begun v_indexes v_made v_slotted v_half v_open_30 v_known v_fresh v_changed v_renamed v_down_30 v_armed_30 v_written_30 v_logged v_marked v_logSize v_drafted v_questions v_now v_at v_bad v_opens v_deep v_aimed v_truths v_loops v_valued v_value v_set v_latest_30 v_fits_30 v_total_30 v_looked_30 v_dNames v_names_30 v_dValues v_values_30 v_dSets v_sets_30) H → va_D A (cw_M_write G a_t a_dNames a_names a_dValues a_values a_dSets a_sets a_parent a_owner a_sort a_aim a_indexClass a_indexPath a_classes1 a_draft a_lengths a_text a_classOfQuestion a_split a_steps a_what a_one a_two a_opened a_openedAt a_stands a_variable a_truth a_rest a_loopAt a_loopFound a_hits v_classes v_fields v_begun v_indexes v_made v_slotted v_half v_open_30 v_known v_fresh v_changed v_renamed v_down_30 v_armed_30 v_written_30 v_logged v_marked v_logSize v_drafted v_questions v_now v_at v_bad v_opens v_deep v_aimed v_truths v_loops v_valued v_value v_set v_latest_30 v_fits_30 v_total_30 v_looked_30 v_dNames v_names_30 v_dValues v_values_30 v_dSets v_sets_30) → va_S A s.heap H locs → f_M_write_J30 y30_0 y30_1 v_open_30 v_down_30 v_armed_30 v_written_30 v_latest_30 v_fits_30 v_total_30 v_looked_30 v_names_30 v_values_30 v_sets_30 = some o → W p l e ({ frames := 2, cells := 0, slots := 0, locals := 41 }) s m ([.ref a_t] : List Value).toArray below meth c H locs 0 0 Q (F0 m 30 ls [.int y30_0, .int y30_1, .ref a_t]) := by
    intro y30_0 y30_1 v_open_30 v_down_30 v_armed_30 v_written_30 v_latest_30 v_fits_30 v_total_30 v_looked_30 v_names_30 v_values_30 v_sets_30 ls H locs hl hP hD hS hf
    unfold f_M_write_J30 at hf
    refine lv_isub hx hb d_M_write_30 ?_
    refine va_put (D := D) (ci := 11) (v := .int (y30_1 - y30_0)) (ty := .int) (C := "ObjectBaseModel") (T := TC_M) (N := 66) hx hb hts inC_M tyC_M tyC_M_ok nmC_M hown hK hP hD hS 0 rfl rfl 26 (by decide) (hts _ tw813) (fun _ h9 => h9) rfl (by decide +kernel) rfl rfl (Nat.le_of_ble_eq_true rfl) d_M_write_31 (fun H locs hP hD hS => ?_)
    have hP : va_P D vwCl (cw_M_write G a_t a_dNames a_names a_dValues a_values a_dSets a_sets a_parent a_owner a_sort a_aim a_indexClass a_indexPath a_classes1 a_draft a_lengths a_text a_classOfQuestion a_split a_steps a_what a_one a_two a_opened a_openedAt a_stands a_variable a_truth a_rest a_loopAt a_loopFound a_hits v_classes v_fields v_begun v_indexes v_made v_slotted v_half v_open_30 v_known v_fresh v_changed v_renamed v_down_30 (y30_1 - y30_0) v_written_30 v_logged v_marked v_logSize v_drafted v_questions v_now v_at v_bad v_opens v_deep v_aimed v_truths v_loops v_valued v_value v_set v_latest_30 v_fits_30 v_total_30 v_looked_30 v_dNames v_names_30 v_dValues v_values_30 v_dSets v_sets_30) H := hP
    have hD : va_D A (cw_M_write G a_t a_dNames a_names a_dValues a_values a_dSets a_sets a_parent a_owner a_sort a_aim a_indexClass a_indexPath a_classes1 a_draft a_lengths a_text a_classOfQuestion a_split a_steps a_what a_one a_two a_opened a_openedAt a_stands a_variable a_truth a_rest a_loopAt a_loopFound a_hits v_classes v_fields v_begun v_indexes v_made v_slotted v_half v_open_30 v_known v_fresh v_changed v_renamed v_down_30 (y30_1 - y30_0) v_written_30 v_logged v_marked v_logSize v_drafted v_questions v_now v_at v_bad v_opens v_deep v_aimed v_truths v_loops v_valued v_value v_set v_latest_30 v_fits_30 v_total_30 v_looked_30 v_dNames v_names_30 v_dValues v_values_30 v_dSets v_sets_30) := hD
    refine lv_aload_n hx hb d_M_write_34 rfl (lv_at hl 0 rfl) ?_
    refine lv_dup hx hb d_M_write_35 rfl ?_
    refine va_get (D := D) (ci := 11) (v := .int v_written_30) (C := "ObjectBaseModel") (T := TC_M) (N := 66) hx hb hts inC_M hown hK hP 0 rfl rfl 27 (by decide) (hts _ tw814) (fun _ h9 => h9) rfl d_M_write_36 ?_
    refine lv_iconst (v := 1) hx hb d_M_write_39 (by decide) ?_
    refine lv_iadd hx hb d_M_write_40 ?_
    refine va_put (D := D) (ci := 11) (v := .int (v_written_30 + 1)) (ty := .int) (C := "ObjectBaseModel") (T := TC_M) (N := 66) hx hb hts inC_M tyC_M tyC_M_ok nmC_M hown hK hP hD hS 0 rfl rfl 27 (by decide) (hts _ tw814) (fun _ h9 => h9) rfl (by decide +kernel) rfl rfl (Nat.le_of_ble_eq_true rfl) d_M_write_41 (fun H locs hP hD hS => ?_)
    have hP : va_P D vwCl (cw_M_write G a_t a_dNames a_names a_dValues a_values a_dSets a_sets a_parent a_owner a_sort a_aim a_indexClass a_indexPath a_classes1 a_draft a_lengths a_text a_classOfQuestion a_split a_steps a_what a_one a_two a_opened a_openedAt a_stands a_variable a_truth a_rest a_loopAt a_loopFound a_hits v_classes v_fields v_begun v_indexes v_made v_slotted v_half v_open_30 v_known v_fresh v_changed v_renamed v_down_30 (y30_1 - y30_0) (v_written_30 + 1) v_logged v_marked v_logSize v_drafted v_questions v_now v_at v_bad v_opens v_deep v_aimed v_truths v_loops v_valued v_value v_set v_latest_30 v_fits_30 v_total_30 v_looked_30 v_dNames v_names_30 v_dValues v_values_30 v_dSets v_sets_30) H := hP
    have hD : va_D A (cw_M_write G a_t a_dNames a_names a_dValues a_values a_dSets a_sets a_parent a_owner a_sort a_aim a_indexClass a_indexPath a_classes1 a_draft a_lengths a_text a_classOfQuestion a_split a_steps a_what a_one a_two a_opened a_openedAt a_stands a_variable a_truth a_rest a_loopAt a_loopFound a_hits v_classes v_fields v_begun v_indexes v_made v_slotted v_half v_open_30 v_known v_fresh v_changed v_renamed v_down_30 (y30_1 - y30_0) (v_written_30 + 1) v_logged v_marked v_logSize v_drafted v_questions v_now v_at v_bad v_opens v_deep v_aimed v_truths v_loops v_valued v_value v_set v_latest_30 v_fits_30 v_total_30 v_looked_30 v_dNames v_names_30 v_dValues v_values_30 v_dSets v_sets_30) := hD
    refine lv_iconst (v := 1) hx hb d_M_write_44 (by decide) ?_
    exact hret (1, v_open_30, v_down_30, y30_1 - y30_0, v_written_30 + 1, v_latest_30, v_fits_30, v_total_30, v_looked_30, v_names_30, v_values_30, v_sets_30) H locs _ ls hf hP hD hS narrow_b1 d_M_write_45
  refine lv_aload_n hx hb d_M_write_0 rfl (lv_at hl 0 rfl) ?_
  refine va_get (D := D) (ci := 11) (v := .int v_armed) (C := "ObjectBaseModel") (T := TC_M) (N := 66) hx hb hts inC_M hown hK hP 0 rfl rfl 26 (by decide) (hts _ tw813) (fun _ h9 => h9) rfl d_M_write_1 ?_
  refine lv_if_ne (tgt := 13) hx hb d_M_write_4 (by decide) (fun hc4 => ?_) (fun hc4 => ?_)
  · have hf := ob_f hc4 hf
    refine lv_aload_n hx hb d_M_write_13 rfl (lv_at hl 0 rfl) ?_
    refine lv_dup hx hb d_M_write_14 rfl ?_
    refine va_get (D := D) (ci := 11) (v := .int v_armed) (C := "ObjectBaseModel") (T := TC_M) (N := 66) hx hb hts inC_M hown hK hP 0 rfl rfl 26 (by decide) (hts _ tw813) (fun _ h9 => h9) rfl d_M_write_15 ?_
    refine lv_aload_n hx hb d_M_write_18 rfl (lv_at hl 0 rfl) ?_
    refine va_get (D := D) (ci := 11) (v := .int v_armed) (C := "ObjectBaseModel") (T := TC_M) (N := 66) hx hb hts inC_M hown hK hP 0 rfl rfl 26 (by decide) (hts _ tw813) (fun _ h9 => h9) rfl d_M_write_19 ?_
    refine lv_if_le (tgt := 29) hx hb d_M_write_22 (by decide) (fun hc22 => ?_) (fun hc22 => ?_)
    · have hf := ob_t hc22 hf
      refine lv_iconst (v := 0) hx hb d_M_write_29 (by decide) ?_
      exact blk30 0 v_armed v_open v_down v_armed v_written v_latest v_fits v_total v_looked v_names v_values v_sets ls H locs (lv_sub hl [0] rfl) hP hD hS hf
    · have hf := ob_f hc22 hf
      refine lv_iconst (v := 1) hx hb d_M_write_25 (by decide) ?_
      refine lv_goto (tgt := 30) hx hb d_M_write_26 (by decide) ?_
      exact blk30 1 v_armed v_open v_down v_armed v_written v_latest v_fits v_total v_looked v_names v_values v_sets ls H locs (lv_sub hl [0] rfl) hP hD hS hf
  · have hf := ob_t hc4 hf
    refine lv_aload_n hx hb d_M_write_7 rfl (lv_at hl 0 rfl) ?_
    obtain ⟨o8, ho8, hf⟩ := ob_b hf
    refine ob_callv (w2 := (cw_M_write G a_t a_dNames a_names a_dValues a_values a_dSets a_sets a_parent a_owner a_sort a_aim a_indexClass a_indexPath a_classes1 a_draft a_lengths a_text a_classOfQuestion a_split a_steps a_what a_one a_two a_opened a_openedAt a_stands a_variable a_truth a_rest a_loopAt a_loopFound a_hits v_classes v_fields v_begun v_indexes v_made v_slotted v_half o8.1 v_known v_fresh v_changed v_renamed o8.2.1 v_armed v_written v_logged v_marked v_logSize v_drafted v_questions v_now v_at v_bad v_opens v_deep v_aimed v_truths v_loops v_valued v_value v_set o8.2.2.1 o8.2.2.2.1 o8.2.2.2.2.1 o8.2.2.2.2.2.1 v_dNames o8.2.2.2.2.2.2.1 v_dValues o8.2.2.2.2.2.2.2.1 v_dSets o8.2.2.2.2.2.2.2.2)) (va_runV (As := []) (rest := []) ⟨hx, hb, hml, hown, hts⟩ (c_M_fall l D G a_t a_dNames a_names a_dValues a_values a_dSets a_sets a_parent a_owner a_sort a_aim a_indexClass a_indexPath a_classes1 a_draft a_lengths a_text a_classOfQuestion a_split a_steps a_what a_one a_two a_opened a_openedAt a_stands a_variable a_truth a_rest a_loopAt a_loopFound a_hits v_classes v_fields v_begun v_indexes v_made v_slotted v_half v_open v_known v_fresh v_changed v_renamed v_down v_armed v_written v_logged v_marked v_logSize v_drafted v_questions v_now v_at v_bad v_opens v_deep v_aimed v_truths v_loops v_valued v_value v_set v_latest v_fits v_total v_looked v_dNames v_names v_dValues v_values v_dSets v_sets o8 ho8 H.size) (cwV 0 hts (gV tw1069 tw1071 tp36 tw11 tw1072) rfl rfl rfl (by decide +kernel) ⟨Nat.le_of_ble_eq_true rfl, Nat.le_of_ble_eq_true rfl⟩) (ob_preV (q0 := 0) (ci := 11) hZ hK hP hD [0, 1, 2, 3, 4, 5, 6] rfl rfl rfl rfl rfl) rfl rfl hl.1 rfl (lv_room (Nat.le_of_ble_eq_true rfl)) d_M_write_8 ⟨Nat.le_refl _, Nat.le_refl _⟩) hP hD hA hS [0, 1, 2, 3, 4, 5, 6] rfl rfl rfl rfl (fun H locs hP hD hS => ?_)
    refine lv_iconst (v := 0) hx hb d_M_write_11 (by decide) ?_
    exact hret (0, o8.1, o8.2.1, v_armed, v_written, o8.2.2.1, o8.2.2.2.1, o8.2.2.2.2.1, o8.2.2.2.2.2.1, o8.2.2.2.2.2.2.1, o8.2.2.2.2.2.2.2.1, o8.2.2.2.2.2.2.2.2) H locs _ ls hf hP hD hS narrow_b0 d_M_write_12
