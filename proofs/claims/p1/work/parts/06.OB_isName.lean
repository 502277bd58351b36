abbrev bc_OB_isName : ByteArray := prog_1_method_31_code
abbrev y_OB_isName : MethodName := ⟨"ObjectBase", "isName", "(I)Z"⟩
def ws_OB_isName : List Cond := .code y_OB_isName bc_OB_isName 1 (some .boolean) :: obW
theorem d_OB_isName_0 : decode bc_OB_isName 0 = .ok (.iload_n 0, 1) := by decide +kernel
theorem d_OB_isName_1 : decode bc_OB_isName 1 = .ok (.ifCond .lt 12, 3) := by decide +kernel
theorem d_OB_isName_4 : decode bc_OB_isName 4 = .ok (.iload_n 0, 1) := by decide +kernel
theorem d_OB_isName_5 : decode bc_OB_isName 5 = .ok (.iconst 4, 1) := by decide +kernel
theorem d_OB_isName_6 : decode bc_OB_isName 6 = .ok (.if_icmp .ge 7, 3) := by decide +kernel
theorem d_OB_isName_9 : decode bc_OB_isName 9 = .ok (.iconst 1, 1) := by decide +kernel
theorem d_OB_isName_10 : decode bc_OB_isName 10 = .ok (.goto 4, 3) := by decide +kernel
theorem d_OB_isName_13 : decode bc_OB_isName 13 = .ok (.iconst 0, 1) := by decide +kernel
theorem d_OB_isName_14 : decode bc_OB_isName 14 = .ok (.ireturn, 1) := by decide +kernel
def cw_OB_isName (G : Nat → ClassId) : va_W := []
def f_OB_isName (p0 : Int32) : Option (Int32) := if p0 < 0 then (some 0) else (if 4 ≤ p0 then (some 0) else (some 1))
set_option maxHeartbeats 4000000 in
set_option maxRecDepth 100000 in
theorem c_OB_isName (l : Launch) (D : va_G) (G : Nat → ClassId) (p0 : Int32) (o : Int32) (hf : f_OB_isName p0 = some o) (sz : Nat) : MetI l y_OB_isName ws_OB_isName ({ frames := 0, cells := 0, slots := 0, locals := 0 }) D (obT G) (cw_OB_isName G) (cw_OB_isName G) [.int p0] o sz := by
  refine ob_of (cc := bc_OB_isName) (maxL := 1) (ret := (some .boolean)) (Qc := ObQi D (obT G) (cw_OB_isName G) o) (by decide) rfl (Nat.le_of_ble_eq_true rfl) ?_
  intro p e s m below meth c A ls H locs hx hb hr hml hts hown hlk hnm hZ hP hK hD hA hS hl
  have hret : ∀ (o' : Int32) (H : Heap) (locs : List Loc) (pc : Nat) (ls : Array Slot), some o' = some o → va_P D vwCl (cw_OB_isName G) H → va_D A (cw_OB_isName G) → va_S A s.heap H locs → narrow .boolean (.int o') = .int o' → decode bc_OB_isName pc = .ok (.ireturn, 1) → W p l e { frames := 0, cells := 0, slots := 0, locals := 0 } s m ([.int p0] : List Value).toArray below meth c H locs 0 0 (MQ below (ObQi D (obT G) (cw_OB_isName G) o A) ([.int p0] : List Value).toArray s 0 0 A) (F0 m pc ls [.int o']) := by
    intro o' H locs pc ls he hP hD hS hn hd
    obtain rfl := Option.some.inj he
    exact ob_iret hx hb hr hlk hK hP hD hS hn hd
  generalize MQ below (ObQi D (obT G) (cw_OB_isName G) o A) ([.int p0] : List Value).toArray s 0 0 A = Q at hret ⊢
  have hl : lv_has ls 1 [(0, .int p0)] := hl
  unfold f_OB_isName at hf
  refine lv_iload_n hx hb d_OB_isName_0 rfl (lv_at hl 0 rfl) ?_
  refine lv_if_lt (tgt := 13) hx hb d_OB_isName_1 (by decide) (fun hc1 => ?_) (fun hc1 => ?_)
  · have hf := ob_t hc1 hf
    refine lv_iconst (v := 0) hx hb d_OB_isName_13 (by decide) ?_
    exact hret 0 H locs _ ls hf hP hD hS narrow_b0 d_OB_isName_14
  · have hf := ob_f hc1 hf
    refine lv_iload_n hx hb d_OB_isName_4 rfl (lv_at hl 0 rfl) ?_
    refine lv_iconst (v := 4) hx hb d_OB_isName_5 (by decide) ?_
    refine lv_icmp_ge (tgt := 13) hx hb d_OB_isName_6 (by decide) (fun hc6 => ?_) (fun hc6 => ?_)
    · have hf := ob_t hc6 hf
      refine lv_iconst (v := 0) hx hb d_OB_isName_13 (by decide) ?_
      exact hret 0 H locs _ ls hf hP hD hS narrow_b0 d_OB_isName_14
    · have hf := ob_f hc6 hf
      refine lv_iconst (v := 1) hx hb d_OB_isName_9 (by decide) ?_
      refine lv_goto (tgt := 14) hx hb d_OB_isName_10 (by decide) ?_
      exact hret 1 H locs _ ls hf hP hD hS narrow_b1 d_OB_isName_14
abbrev bc_OB_shown : ByteArray := prog_1_method_32_code
abbrev y_OB_shown : MethodName := ⟨"ObjectBase", "shown", "()LObjectBase$Image;"⟩
def ws_OB_shown : List Cond := .code y_OB_shown bc_OB_shown 1 (some (.object "ObjectBase$Image")) :: obW
theorem d_OB_shown_0 : decode bc_OB_shown 0 = .ok (.aload_n 0, 1) := by decide +kernel
theorem d_OB_shown_1 : decode bc_OB_shown 1 = .ok (.getfield 42, 3) := by decide +kernel
theorem d_OB_shown_4 : decode bc_OB_shown 4 = .ok (.getfield 110, 3) := by decide +kernel
theorem d_OB_shown_7 : decode bc_OB_shown 7 = .ok (.ifCond .eq 13, 3) := by decide +kernel
theorem d_OB_shown_10 : decode bc_OB_shown 10 = .ok (.aload_n 0, 1) := by decide +kernel
theorem d_OB_shown_11 : decode bc_OB_shown 11 = .ok (.getfield 42, 3) := by decide +kernel
theorem d_OB_shown_14 : decode bc_OB_shown 14 = .ok (.getfield 151, 3) := by decide +kernel
theorem d_OB_shown_17 : decode bc_OB_shown 17 = .ok (.goto 7, 3) := by decide +kernel
theorem d_OB_shown_20 : decode bc_OB_shown 20 = .ok (.aload_n 0, 1) := by decide +kernel
theorem d_OB_shown_21 : decode bc_OB_shown 21 = .ok (.getfield 35, 3) := by decide +kernel
theorem d_OB_shown_24 : decode bc_OB_shown 24 = .ok (.areturn, 1) := by decide +kernel
def cw_OB_shown (G : Nat → ClassId) (a_t a_batch a_schema a_indexes a_disk a_kept a_draftText a_questions a_reader a_judge a_latest a_batch_image : Nat) (v_questionCount : Int32) (v_idsGiven : Int32) (v_everBegun : Int32) (v_batch_known : Int64) (v_batch_touched : Int64) (v_batch_namesTouched : Int32) (v_batch_open : Int32) : va_W := [(a_t, .inr (0, [.ref a_schema, .ref a_indexes, .ref a_disk, .ref a_kept, .ref a_batch, .ref a_draftText, .ref a_questions, .ref a_reader, .ref a_judge, .ref a_latest, .int v_questionCount, .int v_idsGiven, .int v_everBegun])), (a_batch, .inr (5, [.ref a_batch_image, .long v_batch_known, .long v_batch_touched, .int v_batch_namesTouched, .int v_batch_open]))]
def f_OB_shown (v_batch_open : Int32) : Option (Nat) := if v_batch_open = 0 then (some 1) else (some 0)
set_option maxHeartbeats 4000000 in
set_option maxRecDepth 100000 in
theorem c_OB_shown (l : Launch) (D : va_G) (G : Nat → ClassId) (a_t a_batch a_schema a_indexes a_disk a_kept a_draftText a_questions a_reader a_judge a_latest a_batch_image : Nat) (v_questionCount : Int32) (v_idsGiven : Int32) (v_everBegun : Int32) (v_batch_known : Int64) (v_batch_touched : Int64) (v_batch_namesTouched : Int32) (v_batch_open : Int32) (o : Nat) (hf : f_OB_shown v_batch_open = some o) (sz : Nat) : MetR l y_OB_shown ws_OB_shown ({ frames := 0, cells := 0, slots := 0, locals := 0 }) D (obT G) (cw_OB_shown G a_t a_batch a_schema a_indexes a_disk a_kept a_draftText a_questions a_reader a_judge a_latest a_batch_image v_questionCount v_idsGiven v_everBegun v_batch_known v_batch_touched v_batch_namesTouched v_batch_open) (cw_OB_shown G a_t a_batch a_schema a_indexes a_disk a_kept a_draftText a_questions a_reader a_judge a_latest a_batch_image v_questionCount v_idsGiven v_everBegun v_batch_known v_batch_touched v_batch_namesTouched v_batch_open) [.ref a_t] (ob_sel o a_batch_image a_kept) sz := by
  refine ob_of (cc := bc_OB_shown) (maxL := 1) (ret := (some (.object "ObjectBase$Image"))) (Qc := ObQr D (obT G) (cw_OB_shown G a_t a_batch a_schema a_indexes a_disk a_kept a_draftText a_questions a_reader a_judge a_latest a_batch_image v_questionCount v_idsGiven v_everBegun v_batch_known v_batch_touched v_batch_namesTouched v_batch_open) (ob_sel o a_batch_image a_kept)) (by decide) rfl (Nat.le_of_ble_eq_true rfl) ?_
  intro p e s m below meth c A ls H locs hx hb hr hml hts hown hlk hnm hZ hP hK hD hA hS hl
  have hret : ∀ (o' : Nat) (H : Heap) (locs : List Loc) (pc : Nat) (ls : Array Slot), some o' = some o → va_P D vwCl (cw_OB_shown G a_t a_batch a_schema a_indexes a_disk a_kept a_draftText a_questions a_reader a_judge a_latest a_batch_image v_questionCount v_idsGiven v_everBegun v_batch_known v_batch_touched v_batch_namesTouched v_batch_open) H → va_D A (cw_OB_shown G a_t a_batch a_schema a_indexes a_disk a_kept a_draftText a_questions a_reader a_judge a_latest a_batch_image v_questionCount v_idsGiven v_everBegun v_batch_known v_batch_touched v_batch_namesTouched v_batch_open) → va_S A s.heap H locs → decode bc_OB_shown pc = .ok (.areturn, 1) → W p l e { frames := 0, cells := 0, slots := 0, locals := 0 } s m ([.ref a_t] : List Value).toArray below meth c H locs 0 0 (MQ below (ObQr D (obT G) (cw_OB_shown G a_t a_batch a_schema a_indexes a_disk a_kept a_draftText a_questions a_reader a_judge a_latest a_batch_image v_questionCount v_idsGiven v_everBegun v_batch_known v_batch_touched v_batch_namesTouched v_batch_open) (ob_sel o a_batch_image a_kept) A) ([.ref a_t] : List Value).toArray s 0 0 A) (F0 m pc ls [.ref (ob_sel o' a_batch_image a_kept)]) := by
    intro o' H locs pc ls he hP hD hS hd
    obtain rfl := Option.some.inj he
    exact ob_aret hx hb hr hlk hK hP hD hS hd
  generalize MQ below (ObQr D (obT G) (cw_OB_shown G a_t a_batch a_schema a_indexes a_disk a_kept a_draftText a_questions a_reader a_judge a_latest a_batch_image v_questionCount v_idsGiven v_everBegun v_batch_known v_batch_touched v_batch_namesTouched v_batch_open) (ob_sel o a_batch_image a_kept) A) ([.ref a_t] : List Value).toArray s 0 0 A = Q at hret ⊢
  have hl : lv_has ls 1 [(0, .ref a_t)] := hl
  unfold f_OB_shown at hf
  refine lv_aload_n hx hb d_OB_shown_0 rfl (lv_at hl 0 rfl) ?_
  refine va_get (D := D) (ci := 0) (v := .ref a_batch) (C := "ObjectBase") (T := TC_OB) (N := 13) hx hb hts inC_OB hown hK hP 0 rfl rfl 4 (by decide) (hts _ tw236) (fun _ h9 => h9) rfl d_OB_shown_1 ?_
  refine va_get (D := D) (ci := 5) (v := .int v_batch_open) (C := "ObjectBase$Batch") (T := TC_Batch) (N := 5) hx hb hts inC_Batch hown hK hP 1 rfl rfl 4 (by decide) (hts _ tw138) (fun _ h9 => h9) rfl d_OB_shown_4 ?_
  refine lv_if_eq (tgt := 20) hx hb d_OB_shown_7 (by decide) (fun hc7 => ?_) (fun hc7 => ?_)
  · have hf := ob_t hc7 hf
    refine lv_aload_n hx hb d_OB_shown_20 rfl (lv_at hl 0 rfl) ?_
    refine va_get (D := D) (ci := 0) (v := .ref a_kept) (C := "ObjectBase") (T := TC_OB) (N := 13) hx hb hts inC_OB hown hK hP 0 rfl rfl 3 (by decide) (hts _ tw235) (fun _ h9 => h9) rfl d_OB_shown_21 ?_
    exact hret 1 H locs _ ls hf hP hD hS d_OB_shown_24
  · have hf := ob_f hc7 hf
    refine lv_aload_n hx hb d_OB_shown_10 rfl (lv_at hl 0 rfl) ?_
    refine va_get (D := D) (ci := 0) (v := .ref a_batch) (C := "ObjectBase") (T := TC_OB) (N := 13) hx hb hts inC_OB hown hK hP 0 rfl rfl 4 (by decide) (hts _ tw236) (fun _ h9 => h9) rfl d_OB_shown_11 ?_
    refine va_get (D := D) (ci := 5) (v := .ref a_batch_image) (C := "ObjectBase$Batch") (T := TC_Batch) (N := 5) hx hb hts inC_Batch hown hK hP 1 rfl rfl 0 (by decide) (hts _ tw132) (fun _ h9 => h9) rfl d_OB_shown_14 ?_
    refine lv_goto (tgt := 24) hx hb d_OB_shown_17 (by decide) ?_
    exact hret 0 H locs _ ls hf hP hD hS d_OB_shown_24
abbrev bc_OB_spareQuestion : ByteArray := prog_1_method_36_code
abbrev y_OB_spareQuestion : MethodName := ⟨"ObjectBase", "spareQuestion", "()LObjectBase$Question;"⟩
def ws_OB_spareQuestion : List Cond := .code y_OB_spareQuestion bc_OB_spareQuestion 1 (some (.object "ObjectBase$Question")) :: obW
theorem d_OB_spareQuestion_0 : decode bc_OB_spareQuestion 0 = .ok (.aload_n 0, 1) := by decide +kernel
theorem d_OB_spareQuestion_1 : decode bc_OB_spareQuestion 1 = .ok (.getfield 55, 3) := by decide +kernel
theorem d_OB_spareQuestion_4 : decode bc_OB_spareQuestion 4 = .ok (.aload_n 0, 1) := by decide +kernel
theorem d_OB_spareQuestion_5 : decode bc_OB_spareQuestion 5 = .ok (.getfield 259, 3) := by decide +kernel
theorem d_OB_spareQuestion_8 : decode bc_OB_spareQuestion 8 = .ok (.aaload, 1) := by decide +kernel
theorem d_OB_spareQuestion_9 : decode bc_OB_spareQuestion 9 = .ok (.ifnonnull 19, 3) := by decide +kernel
theorem d_OB_spareQuestion_12 : decode bc_OB_spareQuestion 12 = .ok (.aload_n 0, 1) := by decide +kernel
theorem d_OB_spareQuestion_13 : decode bc_OB_spareQuestion 13 = .ok (.getfield 55, 3) := by decide +kernel
theorem d_OB_spareQuestion_16 : decode bc_OB_spareQuestion 16 = .ok (.aload_n 0, 1) := by decide +kernel
theorem d_OB_spareQuestion_17 : decode bc_OB_spareQuestion 17 = .ok (.getfield 259, 3) := by decide +kernel
theorem d_OB_spareQuestion_20 : decode bc_OB_spareQuestion 20 = .ok (.new 53, 3) := by decide +kernel
theorem d_OB_spareQuestion_23 : decode bc_OB_spareQuestion 23 = .ok (.dup, 1) := by decide +kernel
theorem d_OB_spareQuestion_24 : decode bc_OB_spareQuestion 24 = .ok (.invokespecial 293, 3) := by decide +kernel
theorem d_OB_spareQuestion_27 : decode bc_OB_spareQuestion 27 = .ok (.aastore, 1) := by decide +kernel
theorem d_OB_spareQuestion_28 : decode bc_OB_spareQuestion 28 = .ok (.aload_n 0, 1) := by decide +kernel
theorem d_OB_spareQuestion_29 : decode bc_OB_spareQuestion 29 = .ok (.getfield 55, 3) := by decide +kernel
theorem d_OB_spareQuestion_32 : decode bc_OB_spareQuestion 32 = .ok (.aload_n 0, 1) := by decide +kernel
theorem d_OB_spareQuestion_33 : decode bc_OB_spareQuestion 33 = .ok (.getfield 259, 3) := by decide +kernel
theorem d_OB_spareQuestion_36 : decode bc_OB_spareQuestion 36 = .ok (.aaload, 1) := by decide +kernel
theorem d_OB_spareQuestion_37 : decode bc_OB_spareQuestion 37 = .ok (.areturn, 1) := by decide +kernel
def cw_OB_spareQuestion (G : Nat → ClassId) (a_t a_questions a_q a_schema a_indexes a_disk a_kept a_batch a_draftText a_reader a_judge a_latest a_q_text a_q_numbers a_q_kinds a_q_inner a_q_next a_q_left a_q_right : Nat) (v_questionCount : Int32) (v_idsGiven : Int32) (v_everBegun : Int32) (v_questions : Nat → Option Nat) (v_q_nodeCount : Int32) (v_q_root : Int32) (v_q_asked : Int32) (v_q_mode : Int32) : va_W := [(a_t, .inr (0, [.ref a_schema, .ref a_indexes, .ref a_disk, .ref a_kept, .ref a_batch, .ref a_draftText, .ref a_questions, .ref a_reader, .ref a_judge, .ref a_latest, .int v_questionCount, .int v_idsGiven, .int v_everBegun])), (a_questions, .inl (G 4, 13, .inr (.inr (.inr (.inr v_questions))))), (a_q, .inr (7, [.ref a_q_text, .ref a_q_numbers, .ref a_q_kinds, .ref a_q_inner, .ref a_q_next, .ref a_q_left, .ref a_q_right, .int v_q_nodeCount, .int v_q_root, .int v_q_asked, .int v_q_mode]))]
def f_OB_spareQuestion_J28 (v_questionCount : Int32) : Option (Unit) := ob_iv v_questionCount 13 (some ())
def f_OB_spareQuestion (v_questionCount : Int32) : Option (Unit) := ob_iv v_questionCount 13 (f_OB_spareQuestion_J28 v_questionCount)
set_option maxHeartbeats 4000000 in
set_option maxRecDepth 100000 in
theorem c_OB_spareQuestion (l : Launch) (D : va_G) (G : Nat → ClassId) (a_t a_questions a_q a_schema a_indexes a_disk a_kept a_batch a_draftText a_reader a_judge a_latest a_q_text a_q_numbers a_q_kinds a_q_inner a_q_next a_q_left a_q_right : Nat) (v_questionCount : Int32) (v_idsGiven : Int32) (v_everBegun : Int32) (v_questions : Nat → Option Nat) (v_q_nodeCount : Int32) (v_q_root : Int32) (v_q_asked : Int32) (v_q_mode : Int32) (o : Unit) (hf : f_OB_spareQuestion v_questionCount = some o) (hq : v_questions v_questionCount.toNatClampNeg = some a_q) (sz : Nat) : MetR l y_OB_spareQuestion ws_OB_spareQuestion ({ frames := 0, cells := 0, slots := 0, locals := 0 }) D (obT G) (cw_OB_spareQuestion G a_t a_questions a_q a_schema a_indexes a_disk a_kept a_batch a_draftText a_reader a_judge a_latest a_q_text a_q_numbers a_q_kinds a_q_inner a_q_next a_q_left a_q_right v_questionCount v_idsGiven v_everBegun v_questions v_q_nodeCount v_q_root v_q_asked v_q_mode) (cw_OB_spareQuestion G a_t a_questions a_q a_schema a_indexes a_disk a_kept a_batch a_draftText a_reader a_judge a_latest a_q_text a_q_numbers a_q_kinds a_q_inner a_q_next a_q_left a_q_right v_questionCount v_idsGiven v_everBegun v_questions v_q_nodeCount v_q_root v_q_asked v_q_mode) [.ref a_t] a_q sz := by
  refine ob_of (cc := bc_OB_spareQuestion) (maxL := 1) (ret := (some (.object "ObjectBase$Question"))) (Qc := ObQr D (obT G) (cw_OB_spareQuestion G a_t a_questions a_q a_schema a_indexes a_disk a_kept a_batch a_draftText a_reader a_judge a_latest a_q_text a_q_numbers a_q_kinds a_q_inner a_q_next a_q_left a_q_right v_questionCount v_idsGiven v_everBegun v_questions v_q_nodeCount v_q_root v_q_asked v_q_mode) a_q) (by decide) rfl (Nat.le_of_ble_eq_true rfl) ?_
  intro p e s m below meth c A ls H locs hx hb hr hml hts hown hlk hnm hZ hP hK hD hA hS hl
  have hret : ∀ (o' : Unit) (H : Heap) (locs : List Loc) (pc : Nat) (ls : Array Slot), some o' = some o → va_P D vwCl (cw_OB_spareQuestion G a_t a_questions a_q a_schema a_indexes a_disk a_kept a_batch a_draftText a_reader a_judge a_latest a_q_text a_q_numbers a_q_kinds a_q_inner a_q_next a_q_left a_q_right v_questionCount v_idsGiven v_everBegun v_questions v_q_nodeCount v_q_root v_q_asked v_q_mode) H → va_D A (cw_OB_spareQuestion G a_t a_questions a_q a_schema a_indexes a_disk a_kept a_batch a_draftText a_reader a_judge a_latest a_q_text a_q_numbers a_q_kinds a_q_inner a_q_next a_q_left a_q_right v_questionCount v_idsGiven v_everBegun v_questions v_q_nodeCount v_q_root v_q_asked v_q_mode) → va_S A s.heap H locs → decode bc_OB_spareQuestion pc = .ok (.areturn, 1) → W p l e { frames := 0, cells := 0, slots := 0, locals := 0 } s m ([.ref a_t] : List Value).toArray below meth c H locs 0 0 (MQ below (ObQr D (obT G) (cw_OB_spareQuestion G a_t a_questions a_q a_schema a_indexes a_disk a_kept a_batch a_draftText a_reader a_judge a_latest a_q_text a_q_numbers a_q_kinds a_q_inner a_q_next a_q_left a_q_right v_questionCount v_idsGiven v_everBegun v_questions v_q_nodeCount v_q_root v_q_asked v_q_mode) a_q A) ([.ref a_t] : List Value).toArray s 0 0 A) (F0 m pc ls [.ref a_q]) := by
    intro o' H locs pc ls he hP hD hS hd
    obtain rfl := Option.some.inj he
    exact ob_aret hx hb hr hlk hK hP hD hS hd
  generalize MQ below (ObQr D (obT G) (cw_OB_spareQuestion G a_t a_questions a_q a_schema a_indexes a_disk a_kept a_batch a_draftText a_reader a_judge a_latest a_q_text a_q_numbers a_q_kinds a_q_inner a_q_next a_q_left a_q_right v_questionCount v_idsGiven v_everBegun v_questions v_q_nodeCount v_q_root v_q_asked v_q_mode) a_q A) ([.ref a_t] : List Value).toArray s 0 0 A = Q at hret ⊢
  have hl : lv_has ls 1 [(0, .ref a_t)] := hl
  unfold f_OB_spareQuestion at hf
  have blk28 : ∀ (ls : Array Slot) (H : Heap) (locs : List Loc), lv_has ls 1 [(0, .ref a_t)] → va_P D vwCl (cw_OB_spareQuestion G a_t a_questions a_q a_schema a_indexes a_disk a_kept a_batch a_draftText a_reader a_judge a_latest a_q_text a_q_numbers a_q_kinds a_q_inner a_q_next a_q_left a_q_right v_questionCount v_idsGiven v_everBegun v_questions v_q_nodeCount v_q_root v_q_asked v_q_mode) H → va_D A (cw_OB_spareQuestion G a_t a_questions a_q a_schema a_indexes a_disk a_kept a_batch a_draftText a_reader a_judge a_latest a_q_text a_q_numbers a_q_kinds a_q_inner a_q_next a_q_left a_q_right v_questionCount v_idsGiven v_everBegun v_questions v_q_nodeCount v_q_root v_q_asked v_q_mode) → va_S A s.heap H locs → f_OB_spareQuestion_J28 v_questionCount = some o → W p l e ({ frames := 0, cells := 0, slots := 0, locals := 0 }) s m ([.ref a_t] : List Value).toArray below meth c H locs 0 0 Q (F0 m 28 ls []) := by
    intro ls H locs hl hP hD hS hf
    unfold f_OB_spareQuestion_J28 at hf
    refine lv_aload_n hx hb d_OB_spareQuestion_28 rfl (lv_at hl 0 rfl) ?_
    refine va_get (D := D) (ci := 0) (v := .ref a_questions) (C := "ObjectBase") (T := TC_OB) (N := 13) hx hb hts inC_OB hown hK hP 0 rfl rfl 6 (by decide) (hts _ tw238) (fun _ h9 => h9) rfl d_OB_spareQuestion_29 ?_
    refine lv_aload_n hx hb d_OB_spareQuestion_32 rfl (lv_at hl 0 rfl) ?_
    refine va_get (D := D) (ci := 0) (v := .int v_questionCount) (C := "ObjectBase") (T := TC_OB) (N := 13) hx hb hts inC_OB hown hK hP 0 rfl rfl 10 (by decide) (hts _ tw242) (fun _ h9 => h9) rfl d_OB_spareQuestion_33 ?_
    obtain ⟨hg36, hf⟩ := ob_iv_g hf
    refine va_aldq hx hb hK hP 1 4 rfl rfl hg36 d_OB_spareQuestion_36 ?_
    refine W.eq (g2 := F0 m 37 ls [.ref a_q]) (by rw [hq]; rfl) ?_
    exact hret () H locs _ ls hf hP hD hS d_OB_spareQuestion_37
  refine lv_aload_n hx hb d_OB_spareQuestion_0 rfl (lv_at hl 0 rfl) ?_
  refine va_get (D := D) (ci := 0) (v := .ref a_questions) (C := "ObjectBase") (T := TC_OB) (N := 13) hx hb hts inC_OB hown hK hP 0 rfl rfl 6 (by decide) (hts _ tw238) (fun _ h9 => h9) rfl d_OB_spareQuestion_1 ?_
  refine lv_aload_n hx hb d_OB_spareQuestion_4 rfl (lv_at hl 0 rfl) ?_
  refine va_get (D := D) (ci := 0) (v := .int v_questionCount) (C := "ObjectBase") (T := TC_OB) (N := 13) hx hb hts inC_OB hown hK hP 0 rfl rfl 10 (by decide) (hts _ tw242) (fun _ h9 => h9) rfl d_OB_spareQuestion_5 ?_
  obtain ⟨hg8, hf⟩ := ob_iv_g hf
  refine va_aldq hx hb hK hP 1 4 rfl rfl hg8 d_OB_spareQuestion_8 ?_
  refine W.eq (g2 := F0 m 9 ls [.ref a_q]) (by rw [hq]; rfl) ?_
  refine lv_ifnonnull (tgt := 28) hx hb d_OB_spareQuestion_9 (by decide) ?_
  exact blk28 ls H locs (lv_sub hl [0] rfl) hP hD hS hf
abbrev bc_Schema_init : ByteArray := prog_10_method_1_code
abbrev y_Schema_init : MethodName := ⟨"ObjectBase$Schema", "<init>", "()V"⟩
def ws_Schema_init : List Cond := .code y_Schema_init bc_Schema_init 1 none :: obW
theorem d_Schema_init_0 : decode bc_Schema_init 0 = .ok (.aload_n 0, 1) := by decide +kernel
theorem d_Schema_init_1 : decode bc_Schema_init 1 = .ok (.invokespecial 3, 3) := by decide +kernel
theorem d_Schema_init_4 : decode bc_Schema_init 4 = .ok (.aload_n 0, 1) := by decide +kernel
theorem d_Schema_init_5 : decode bc_Schema_init 5 = .ok (.bipush 6, 2) := by decide +kernel
theorem d_Schema_init_7 : decode bc_Schema_init 7 = .ok (.newarray .int, 2) := by decide +kernel
theorem d_Schema_init_9 : decode bc_Schema_init 9 = .ok (.putfield 9, 3) := by decide +kernel
theorem d_Schema_init_12 : decode bc_Schema_init 12 = .ok (.aload_n 0, 1) := by decide +kernel
theorem d_Schema_init_13 : decode bc_Schema_init 13 = .ok (.bipush 8, 2) := by decide +kernel
theorem d_Schema_init_15 : decode bc_Schema_init 15 = .ok (.newarray .int, 2) := by decide +kernel
theorem d_Schema_init_17 : decode bc_Schema_init 17 = .ok (.putfield 15, 3) := by decide +kernel
theorem d_Schema_init_20 : decode bc_Schema_init 20 = .ok (.aload_n 0, 1) := by decide +kernel
theorem d_Schema_init_21 : decode bc_Schema_init 21 = .ok (.bipush 8, 2) := by decide +kernel
theorem d_Schema_init_23 : decode bc_Schema_init 23 = .ok (.newarray .int, 2) := by decide +kernel
theorem d_Schema_init_25 : decode bc_Schema_init 25 = .ok (.putfield 18, 3) := by decide +kernel
theorem d_Schema_init_28 : decode bc_Schema_init 28 = .ok (.aload_n 0, 1) := by decide +kernel
theorem d_Schema_init_29 : decode bc_Schema_init 29 = .ok (.bipush 8, 2) := by decide +kernel
theorem d_Schema_init_31 : decode bc_Schema_init 31 = .ok (.newarray .int, 2) := by decide +kernel
theorem d_Schema_init_33 : decode bc_Schema_init 33 = .ok (.putfield 21, 3) := by decide +kernel
theorem d_Schema_init_36 : decode bc_Schema_init 36 = .ok (.return_, 1) := by decide +kernel
def nw_Schema (G : Nat → ClassId) (a_t : Nat) (b0 : Nat) (b1 : Nat) (b2 : Nat) (b3 : Nat) : va_W := [(a_t, .inr (1, [.ref b0, .ref b1, .ref b2, .ref b3, .int 0, .int 0])), (b0, .inl (G 0, 6, .inl (fun _ => 0))), (b1, .inl (G 0, 8, .inl (fun _ => 0))), (b2, .inl (G 0, 8, .inl (fun _ => 0))), (b3, .inl (G 0, 8, .inl (fun _ => 0)))]
set_option maxHeartbeats 4000000 in
set_option maxRecDepth 100000 in
theorem n_Schema (l : Launch) (D : va_G) (G : Nat → ClassId) (a_t : Nat) (sz : Nat) : Met l y_Schema_init ws_Schema_init ({ frames := 1, cells := 4, slots := 30, locals := 12 }) (ObPre D (obT G) [(a_t, .inr (1, [.null, .null, .null, .null, .int 0, .int 0]))] sz [.ref a_t]) (va_Qv (S := Nat × Nat × Nat × Nat) (fun _ => True) (fun u t => ObAt D (obT G) (nw_Schema G a_t u.1 u.2.1 u.2.2.1 u.2.2.2) (va_A [(a_t, .inr (1, [.null, .null, .null, .null, .int 0, .int 0]))] sz) t) (va_A [(a_t, .inr (1, [.null, .null, .null, .null, .int 0, .int 0]))] sz)) 4 30 (va_A [(a_t, .inr (1, [.null, .null, .null, .null, .int 0, .int 0]))] sz) := by
  refine ob_of (cc := bc_Schema_init) (maxL := 1) (ret := none) (Qc := fun A => va_Qv (S := Nat × Nat × Nat × Nat) (fun _ => True) (fun u t => ObAt D (obT G) (nw_Schema G a_t u.1 u.2.1 u.2.2.1 u.2.2.2) A t) A) (by decide) rfl (Nat.le_of_ble_eq_true rfl) ?_
  intro p e s m below meth c A ls H locs hx hb hr hml hts hown hlk hnm hZ hP hK hD hA hS hl
  have hin : meth.name = "<init>" := hnm
  have hl : lv_has ls 1 [(0, .ref a_t)] := hl
  refine lv_aload_n hx hb d_Schema_init_0 rfl (lv_at hl 0 rfl) ?_
  refine W.objInit hx hb hown (hts _ tw28) (hts _ tw21) (hts _ tw22) rfl (by rw [hml]; exact hl.1) rfl d_Schema_init_1 (Nat.le_of_ble_eq_true rfl) (Nat.le_of_ble_eq_true rfl) ?_
  refine W.eq (g2 := F0 m 4 ls []) rfl ?_
  refine lv_aload_n hx hb d_Schema_init_4 rfl (lv_at hl 0 rfl) ?_
  refine lv_bipush (v := 6) hx hb d_Schema_init_5 (by decide) ?_
  refine ob_newa (atype := .int) (N' := 6) (a0 := (6, .inl (fun _ => 0))) hx hb (hts _ tw56) rfl hK 0 rfl hP hD hS hA (fun _ => rfl) (by decide) (by decide) (by decide) (Nat.le_of_ble_eq_true rfl) (Nat.le_of_ble_eq_true rfl) d_Schema_init_7 (fun q7 H hP hD hS => ?_)
  refine W.cs (cells' := 1) (slots' := 6) rfl rfl ?_
  have hP : va_P D vwCl [(a_t, .inr (1, [.null, .null, .null, .null, .int 0, .int 0])), (q7, .inl (G 0, 6, .inl (fun _ => 0)))] H := hP
  have hD : va_D A [(a_t, .inr (1, [.null, .null, .null, .null, .int 0, .int 0])), (q7, .inl (G 0, 6, .inl (fun _ => 0)))] := hD
  refine va_putF (D := D) (ci := 1) (v := .ref q7) (ty := .array .int) (C := "ObjectBase$Schema") (T := TC_Schema) (N := 6) hx hb hts inC_Schema tyC_Schema tyC_Schema_ok nmC_Schema hown hK hP hD hS 0 rfl rfl 0 (by decide) (hts _ tw29) (fun _ h9 => h9) rfl hin rfl (by decide +kernel) rfl rfl (Nat.le_of_ble_eq_true rfl) d_Schema_init_9 (fun H locs hP hD hS => ?_)
  have hP : va_P D vwCl [(a_t, .inr (1, [.ref q7, .null, .null, .null, .int 0, .int 0])), (q7, .inl (G 0, 6, .inl (fun _ => 0)))] H := hP
  have hD : va_D A [(a_t, .inr (1, [.ref q7, .null, .null, .null, .int 0, .int 0])), (q7, .inl (G 0, 6, .inl (fun _ => 0)))] := hD
  refine lv_aload_n hx hb d_Schema_init_12 rfl (lv_at hl 0 rfl) ?_
  refine lv_bipush (v := 8) hx hb d_Schema_init_13 (by decide) ?_
  refine ob_newa (atype := .int) (N' := 8) (a0 := (8, .inl (fun _ => 0))) hx hb (hts _ tw56) rfl hK 0 rfl hP hD hS hA (fun _ => rfl) (by decide) (by decide) (by decide) (Nat.le_of_ble_eq_true rfl) (Nat.le_of_ble_eq_true rfl) d_Schema_init_15 (fun q15 H hP hD hS => ?_)
  refine W.cs (cells' := 2) (slots' := 14) rfl rfl ?_
  have hP : va_P D vwCl [(a_t, .inr (1, [.ref q7, .null, .null, .null, .int 0, .int 0])), (q7, .inl (G 0, 6, .inl (fun _ => 0))), (q15, .inl (G 0, 8, .inl (fun _ => 0)))] H := hP
  have hD : va_D A [(a_t, .inr (1, [.ref q7, .null, .null, .null, .int 0, .int 0])), (q7, .inl (G 0, 6, .inl (fun _ => 0))), (q15, .inl (G 0, 8, .inl (fun _ => 0)))] := hD
  refine va_putF (D := D) (ci := 1) (v := .ref q15) (ty := .array .int) (C := "ObjectBase$Schema") (T := TC_Schema) (N := 6) hx hb hts inC_Schema tyC_Schema tyC_Schema_ok nmC_Schema hown hK hP hD hS 0 rfl rfl 1 (by decide) (hts _ tw30) (fun _ h9 => h9) rfl hin rfl (by decide +kernel) rfl rfl (Nat.le_of_ble_eq_true rfl) d_Schema_init_17 (fun H locs hP hD hS => ?_)
  have hP : va_P D vwCl [(a_t, .inr (1, [.ref q7, .ref q15, .null, .null, .int 0, .int 0])), (q7, .inl (G 0, 6, .inl (fun _ => 0))), (q15, .inl (G 0, 8, .inl (fun _ => 0)))] H := hP
  have hD : va_D A [(a_t, .inr (1, [.ref q7, .ref q15, .null, .null, .int 0, .int 0])), (q7, .inl (G 0, 6, .inl (fun _ => 0))), (q15, .inl (G 0, 8, .inl (fun _ => 0)))] := hD
  refine lv_aload_n hx hb d_Schema_init_20 rfl (lv_at hl 0 rfl) ?_
  refine lv_bipush (v := 8) hx hb d_Schema_init_21 (by decide) ?_
  refine ob_newa (atype := .int) (N' := 8) (a0 := (8, .inl (fun _ => 0))) hx hb (hts _ tw56) rfl hK 0 rfl hP hD hS hA (fun _ => rfl) (by decide) (by decide) (by decide) (Nat.le_of_ble_eq_true rfl) (Nat.le_of_ble_eq_true rfl) d_Schema_init_23 (fun q23 H hP hD hS => ?_)
  refine W.cs (cells' := 3) (slots' := 22) rfl rfl ?_
  have hP : va_P D vwCl [(a_t, .inr (1, [.ref q7, .ref q15, .null, .null, .int 0, .int 0])), (q7, .inl (G 0, 6, .inl (fun _ => 0))), (q15, .inl (G 0, 8, .inl (fun _ => 0))), (q23, .inl (G 0, 8, .inl (fun _ => 0)))] H := hP
  have hD : va_D A [(a_t, .inr (1, [.ref q7, .ref q15, .null, .null, .int 0, .int 0])), (q7, .inl (G 0, 6, .inl (fun _ => 0))), (q15, .inl (G 0, 8, .inl (fun _ => 0))), (q23, .inl (G 0, 8, .inl (fun _ => 0)))] := hD
  refine va_putF (D := D) (ci := 1) (v := .ref q23) (ty := .array .int) (C := "ObjectBase$Schema") (T := TC_Schema) (N := 6) hx hb hts inC_Schema tyC_Schema tyC_Schema_ok nmC_Schema hown hK hP hD hS 0 rfl rfl 2 (by decide) (hts _ tw31) (fun _ h9 => h9) rfl hin rfl (by decide +kernel) rfl rfl (Nat.le_of_ble_eq_true rfl) d_Schema_init_25 (fun H locs hP hD hS => ?_)
  have hP : va_P D vwCl [(a_t, .inr (1, [.ref q7, .ref q15, .ref q23, .null, .int 0, .int 0])), (q7, .inl (G 0, 6, .inl (fun _ => 0))), (q15, .inl (G 0, 8, .inl (fun _ => 0))), (q23, .inl (G 0, 8, .inl (fun _ => 0)))] H := hP
  have hD : va_D A [(a_t, .inr (1, [.ref q7, .ref q15, .ref q23, .null, .int 0, .int 0])), (q7, .inl (G 0, 6, .inl (fun _ => 0))), (q15, .inl (G 0, 8, .inl (fun _ => 0))), (q23, .inl (G 0, 8, .inl (fun _ => 0)))] := hD
  refine lv_aload_n hx hb d_Schema_init_28 rfl (lv_at hl 0 rfl) ?_
  refine lv_bipush (v := 8) hx hb d_Schema_init_29 (by decide) ?_
  refine ob_newa (atype := .int) (N' := 8) (a0 := (8, .inl (fun _ => 0))) hx hb (hts _ tw56) rfl hK 0 rfl hP hD hS hA (fun _ => rfl) (by decide) (by decide) (by decide) (Nat.le_of_ble_eq_true rfl) (Nat.le_of_ble_eq_true rfl) d_Schema_init_31 (fun q31 H hP hD hS => ?_)
  refine W.cs (cells' := 4) (slots' := 30) rfl rfl ?_
  have hP : va_P D vwCl [(a_t, .inr (1, [.ref q7, .ref q15, .ref q23, .null, .int 0, .int 0])), (q7, .inl (G 0, 6, .inl (fun _ => 0))), (q15, .inl (G 0, 8, .inl (fun _ => 0))), (q23, .inl (G 0, 8, .inl (fun _ => 0))), (q31, .inl (G 0, 8, .inl (fun _ => 0)))] H := hP
  have hD : va_D A [(a_t, .inr (1, [.ref q7, .ref q15, .ref q23, .null, .int 0, .int 0])), (q7, .inl (G 0, 6, .inl (fun _ => 0))), (q15, .inl (G 0, 8, .inl (fun _ => 0))), (q23, .inl (G 0, 8, .inl (fun _ => 0))), (q31, .inl (G 0, 8, .inl (fun _ => 0)))] := hD
  refine va_putF (D := D) (ci := 1) (v := .ref q31) (ty := .array .int) (C := "ObjectBase$Schema") (T := TC_Schema) (N := 6) hx hb hts inC_Schema tyC_Schema tyC_Schema_ok nmC_Schema hown hK hP hD hS 0 rfl rfl 3 (by decide) (hts _ tw35) (fun _ h9 => h9) rfl hin rfl (by decide +kernel) rfl rfl (Nat.le_of_ble_eq_true rfl) d_Schema_init_33 (fun H locs hP hD hS => ?_)
  have hP : va_P D vwCl [(a_t, .inr (1, [.ref q7, .ref q15, .ref q23, .ref q31, .int 0, .int 0])), (q7, .inl (G 0, 6, .inl (fun _ => 0))), (q15, .inl (G 0, 8, .inl (fun _ => 0))), (q23, .inl (G 0, 8, .inl (fun _ => 0))), (q31, .inl (G 0, 8, .inl (fun _ => 0)))] H := hP
  have hD : va_D A [(a_t, .inr (1, [.ref q7, .ref q15, .ref q23, .ref q31, .int 0, .int 0])), (q7, .inl (G 0, 6, .inl (fun _ => 0))), (q15, .inl (G 0, 8, .inl (fun _ => 0))), (q23, .inl (G 0, 8, .inl (fun _ => 0))), (q31, .inl (G 0, 8, .inl (fun _ => 0)))] := hD
  exact W.vret hx hb hr (fun t ht hW => ⟨⟨(q7, q15, q23, q31), rfl, trivial, by rw [ht]; exact hP, va_K.moved hW.alike hK, hD⟩, hS.F ht⟩) hS.2.2 d_Schema_init_36 hlk
abbrev bc_Schema_hasClass : ByteArray := prog_10_method_2_code
abbrev y_Schema_hasClass : MethodName := ⟨"ObjectBase$Schema", "hasClass", "(I)Z"⟩
def ws_Schema_hasClass : List Cond := .code y_Schema_hasClass bc_Schema_hasClass 2 (some .boolean) :: obW
theorem d_Schema_hasClass_0 : decode bc_Schema_hasClass 0 = .ok (.iload_n 1, 1) := by decide +kernel
theorem d_Schema_hasClass_1 : decode bc_Schema_hasClass 1 = .ok (.iconst 1, 1) := by decide +kernel
theorem d_Schema_hasClass_2 : decode bc_Schema_hasClass 2 = .ok (.if_icmp .lt 15, 3) := by decide +kernel
theorem d_Schema_hasClass_5 : decode bc_Schema_hasClass 5 = .ok (.iload_n 1, 1) := by decide +kernel
theorem d_Schema_hasClass_6 : decode bc_Schema_hasClass 6 = .ok (.aload_n 0, 1) := by decide +kernel
theorem d_Schema_hasClass_7 : decode bc_Schema_hasClass 7 = .ok (.getfield 24, 3) := by decide +kernel
theorem d_Schema_hasClass_10 : decode bc_Schema_hasClass 10 = .ok (.if_icmp .gt 7, 3) := by decide +kernel
theorem d_Schema_hasClass_13 : decode bc_Schema_hasClass 13 = .ok (.iconst 1, 1) := by decide +kernel
theorem d_Schema_hasClass_14 : decode bc_Schema_hasClass 14 = .ok (.goto 4, 3) := by decide +kernel
theorem d_Schema_hasClass_17 : decode bc_Schema_hasClass 17 = .ok (.iconst 0, 1) := by decide +kernel
theorem d_Schema_hasClass_18 : decode bc_Schema_hasClass 18 = .ok (.ireturn, 1) := by decide +kernel
def cw_Schema_hasClass (G : Nat → ClassId) (a_t a_above a_owners a_kinds a_targets : Nat) (v_classCount : Int32) (v_fieldCount : Int32) : va_W := [(a_t, .inr (1, [.ref a_above, .ref a_owners, .ref a_kinds, .ref a_targets, .int v_classCount, .int v_fieldCount]))]
def f_Schema_hasClass (v_classCount : Int32) (p1 : Int32) : Option (Int32) := if p1 < 1 then (some 0) else (if v_classCount < p1 then (some 0) else (some 1))
set_option maxHeartbeats 4000000 in
set_option maxRecDepth 100000 in
theorem c_Schema_hasClass (l : Launch) (D : va_G) (G : Nat → ClassId) (a_t a_above a_owners a_kinds a_targets : Nat) (v_classCount : Int32) (v_fieldCount : Int32) (p1 : Int32) (o : Int32) (hf : f_Schema_hasClass v_classCount p1 = some o) (sz : Nat) : MetI l y_Schema_hasClass ws_Schema_hasClass ({ frames := 0, cells := 0, slots := 0, locals := 0 }) D (obT G) (cw_Schema_hasClass G a_t a_above a_owners a_kinds a_targets v_classCount v_fieldCount) (cw_Schema_hasClass G a_t a_above a_owners a_kinds a_targets v_classCount v_fieldCount) [.ref a_t, .int p1] o sz := by
  refine ob_of (cc := bc_Schema_hasClass) (maxL := 2) (ret := (some .boolean)) (Qc := ObQi D (obT G) (cw_Schema_hasClass G a_t a_above a_owners a_kinds a_targets v_classCount v_fieldCount) o) (by decide) rfl (Nat.le_of_ble_eq_true rfl) ?_
  intro p e s m below meth c A ls H locs hx hb hr hml hts hown hlk hnm hZ hP hK hD hA hS hl
  have hret : ∀ (o' : Int32) (H : Heap) (locs : List Loc) (pc : Nat) (ls : Array Slot), some o' = some o → va_P D vwCl (cw_Schema_hasClass G a_t a_above a_owners a_kinds a_targets v_classCount v_fieldCount) H → va_D A (cw_Schema_hasClass G a_t a_above a_owners a_kinds a_targets v_classCount v_fieldCount) → va_S A s.heap H locs → narrow .boolean (.int o') = .int o' → decode bc_Schema_hasClass pc = .ok (.ireturn, 1) → W p l e { frames := 0, cells := 0, slots := 0, locals := 0 } s m ([.ref a_t, .int p1] : List Value).toArray below meth c H locs 0 0 (MQ below (ObQi D (obT G) (cw_Schema_hasClass G a_t a_above a_owners a_kinds a_targets v_classCount v_fieldCount) o A) ([.ref a_t, .int p1] : List Value).toArray s 0 0 A) (F0 m pc ls [.int o']) := by
    intro o' H locs pc ls he hP hD hS hn hd
    obtain rfl := Option.some.inj he
    exact ob_iret hx hb hr hlk hK hP hD hS hn hd
  generalize MQ below (ObQi D (obT G) (cw_Schema_hasClass G a_t a_above a_owners a_kinds a_targets v_classCount v_fieldCount) o A) ([.ref a_t, .int p1] : List Value).toArray s 0 0 A = Q at hret ⊢
  have hl : lv_has ls 2 [(0, .ref a_t), (1, .int p1)] := hl
  unfold f_Schema_hasClass at hf
  refine lv_iload_n hx hb d_Schema_hasClass_0 rfl (lv_at hl 1 rfl) ?_
  refine lv_iconst (v := 1) hx hb d_Schema_hasClass_1 (by decide) ?_
  refine lv_icmp_lt (tgt := 17) hx hb d_Schema_hasClass_2 (by decide) (fun hc2 => ?_) (fun hc2 => ?_)
  · have hf := ob_t hc2 hf
    refine lv_iconst (v := 0) hx hb d_Schema_hasClass_17 (by decide) ?_
    exact hret 0 H locs _ ls hf hP hD hS narrow_b0 d_Schema_hasClass_18
  · have hf := ob_f hc2 hf
    refine lv_iload_n hx hb d_Schema_hasClass_5 rfl (lv_at hl 1 rfl) ?_
    refine lv_aload_n hx hb d_Schema_hasClass_6 rfl (lv_at hl 0 rfl) ?_
    refine va_get (D := D) (ci := 1) (v := .int v_classCount) (C := "ObjectBase$Schema") (T := TC_Schema) (N := 6) hx hb hts inC_Schema hown hK hP 0 rfl rfl 4 (by decide) (hts _ tw38) (fun _ h9 => h9) rfl d_Schema_hasClass_7 ?_
    refine lv_icmp_gt (tgt := 17) hx hb d_Schema_hasClass_10 (by decide) (fun hc10 => ?_) (fun hc10 => ?_)
    · have hf := ob_t hc10 hf
      refine lv_iconst (v := 0) hx hb d_Schema_hasClass_17 (by decide) ?_
      exact hret 0 H locs _ ls hf hP hD hS narrow_b0 d_Schema_hasClass_18
    · have hf := ob_f hc10 hf
      refine lv_iconst (v := 1) hx hb d_Schema_hasClass_13 (by decide) ?_
      refine lv_goto (tgt := 18) hx hb d_Schema_hasClass_14 (by decide) ?_
      exact hret 1 H locs _ ls hf hP hD hS narrow_b1 d_Schema_hasClass_18
abbrev bc_Schema_addClass : ByteArray := prog_10_method_3_code
abbrev y_Schema_addClass : MethodName := ⟨"ObjectBase$Schema", "addClass", "(I)I"⟩
def ws_Schema_addClass : List Cond := .code y_Schema_addClass bc_Schema_addClass 2 (some .int) :: obW
theorem d_Schema_addClass_0 : decode bc_Schema_addClass 0 = .ok (.aload_n 0, 1) := by decide +kernel
theorem d_Schema_addClass_1 : decode bc_Schema_addClass 1 = .ok (.dup, 1) := by decide +kernel
theorem d_Schema_addClass_2 : decode bc_Schema_addClass 2 = .ok (.getfield 24, 3) := by decide +kernel
theorem d_Schema_addClass_5 : decode bc_Schema_addClass 5 = .ok (.iconst 1, 1) := by decide +kernel
theorem d_Schema_addClass_6 : decode bc_Schema_addClass 6 = .ok (.iadd, 1) := by decide +kernel
theorem d_Schema_addClass_7 : decode bc_Schema_addClass 7 = .ok (.putfield 24, 3) := by decide +kernel
theorem d_Schema_addClass_10 : decode bc_Schema_addClass 10 = .ok (.aload_n 0, 1) := by decide +kernel
theorem d_Schema_addClass_11 : decode bc_Schema_addClass 11 = .ok (.getfield 9, 3) := by decide +kernel
theorem d_Schema_addClass_14 : decode bc_Schema_addClass 14 = .ok (.aload_n 0, 1) := by decide +kernel
theorem d_Schema_addClass_15 : decode bc_Schema_addClass 15 = .ok (.getfield 24, 3) := by decide +kernel
theorem d_Schema_addClass_18 : decode bc_Schema_addClass 18 = .ok (.aload_n 0, 1) := by decide +kernel
theorem d_Schema_addClass_19 : decode bc_Schema_addClass 19 = .ok (.getfield 9, 3) := by decide +kernel
theorem d_Schema_addClass_22 : decode bc_Schema_addClass 22 = .ok (.iload_n 1, 1) := by decide +kernel
theorem d_Schema_addClass_23 : decode bc_Schema_addClass 23 = .ok (.iaload, 1) := by decide +kernel
theorem d_Schema_addClass_24 : decode bc_Schema_addClass 24 = .ok (.iconst 1, 1) := by decide +kernel
theorem d_Schema_addClass_25 : decode bc_Schema_addClass 25 = .ok (.aload_n 0, 1) := by decide +kernel
theorem d_Schema_addClass_26 : decode bc_Schema_addClass 26 = .ok (.getfield 24, 3) := by decide +kernel
theorem d_Schema_addClass_29 : decode bc_Schema_addClass 29 = .ok (.ishl, 1) := by decide +kernel
theorem d_Schema_addClass_30 : decode bc_Schema_addClass 30 = .ok (.ior, 1) := by decide +kernel
theorem d_Schema_addClass_31 : decode bc_Schema_addClass 31 = .ok (.iastore, 1) := by decide +kernel
theorem d_Schema_addClass_32 : decode bc_Schema_addClass 32 = .ok (.aload_n 0, 1) := by decide +kernel
theorem d_Schema_addClass_33 : decode bc_Schema_addClass 33 = .ok (.getfield 24, 3) := by decide +kernel
theorem d_Schema_addClass_36 : decode bc_Schema_addClass 36 = .ok (.ireturn, 1) := by decide +kernel
def cw_Schema_addClass (G : Nat → ClassId) (a_t a_above a_owners a_kinds a_targets : Nat) (v_classCount : Int32) (v_fieldCount : Int32) (v_above : Nat → Int32) : va_W := [(a_t, .inr (1, [.ref a_above, .ref a_owners, .ref a_kinds, .ref a_targets, .int v_classCount, .int v_fieldCount])), (a_above, .inl (G 0, 6, .inl v_above))]
def f_Schema_addClass (v_classCount : Int32) (v_above : Nat → Int32) (p1 : Int32) : Option (Int32 × Int32 × (Nat → Int32)) := ob_iv p1 6 (ob_iv (v_classCount + 1) 6 (some (v_classCount + 1, v_classCount + 1, upd v_above (v_classCount + 1).toNatClampNeg ((v_above p1.toNatClampNeg) ||| (1 <<< ((v_classCount + 1) &&& 31))))))
set_option maxHeartbeats 4000000 in
set_option maxRecDepth 100000 in
theorem c_Schema_addClass (l : Launch) (D : va_G) (G : Nat → ClassId) (a_t a_above a_owners a_kinds a_targets : Nat) (v_classCount : Int32) (v_fieldCount : Int32) (v_above : Nat → Int32) (p1 : Int32) (o : Int32 × Int32 × (Nat → Int32)) (hf : f_Schema_addClass v_classCount v_above p1 = some o) (sz : Nat) : MetI l y_Schema_addClass ws_Schema_addClass ({ frames := 0, cells := 0, slots := 0, locals := 0 }) D (obT G) (cw_Schema_addClass G a_t a_above a_owners a_kinds a_targets v_classCount v_fieldCount v_above) (cw_Schema_addClass G a_t a_above a_owners a_kinds a_targets o.2.1 v_fieldCount o.2.2) [.ref a_t, .int p1] o.1 sz := by
  refine ob_of (cc := bc_Schema_addClass) (maxL := 2) (ret := (some .int)) (Qc := ObQi D (obT G) (cw_Schema_addClass G a_t a_above a_owners a_kinds a_targets o.2.1 v_fieldCount o.2.2) o.1) (by decide) rfl (Nat.le_of_ble_eq_true rfl) ?_
  intro p e s m below meth c A ls H locs hx hb hr hml hts hown hlk hnm hZ hP hK hD hA hS hl
  have hret : ∀ (o' : Int32 × Int32 × (Nat → Int32)) (H : Heap) (locs : List Loc) (pc : Nat) (ls : Array Slot), some o' = some o → va_P D vwCl (cw_Schema_addClass G a_t a_above a_owners a_kinds a_targets o'.2.1 v_fieldCount o'.2.2) H → va_D A (cw_Schema_addClass G a_t a_above a_owners a_kinds a_targets o'.2.1 v_fieldCount o'.2.2) → va_S A s.heap H locs → narrow .int (.int o'.1) = .int o'.1 → decode bc_Schema_addClass pc = .ok (.ireturn, 1) → W p l e { frames := 0, cells := 0, slots := 0, locals := 0 } s m ([.ref a_t, .int p1] : List Value).toArray below meth c H locs 0 0 (MQ below (ObQi D (obT G) (cw_Schema_addClass G a_t a_above a_owners a_kinds a_targets o.2.1 v_fieldCount o.2.2) o.1 A) ([.ref a_t, .int p1] : List Value).toArray s 0 0 A) (F0 m pc ls [.int o'.1]) := by
    intro o' H locs pc ls he hP hD hS hn hd
    obtain rfl := Option.some.inj he
    exact ob_iret hx hb hr hlk hK hP hD hS hn hd
  generalize MQ below (ObQi D (obT G) (cw_Schema_addClass G a_t a_above a_owners a_kinds a_targets o.2.1 v_fieldCount o.2.2) o.1 A) ([.ref a_t, .int p1] : List Value).toArray s 0 0 A = Q at hret ⊢
  have hl : lv_has ls 2 [(0, .ref a_t), (1, .int p1)] := hl
  unfold f_Schema_addClass at hf
  refine lv_aload_n hx hb d_Schema_addClass_0 rfl (lv_at hl 0 rfl) ?_
  refine lv_dup hx hb d_Schema_addClass_1 rfl ?_
  refine va_get (D := D) (ci := 1) (v := .int v_classCount) (C := "ObjectBase$Schema") (T := TC_Schema) (N := 6) hx hb hts inC_Schema hown hK hP 0 rfl rfl 4 (by decide) (hts _ tw38) (fun _ h9 => h9) rfl d_Schema_addClass_2 ?_
  refine lv_iconst (v := 1) hx hb d_Schema_addClass_5 (by decide) ?_
  refine lv_iadd hx hb d_Schema_addClass_6 ?_
  refine va_put (D := D) (ci := 1) (v := .int (v_classCount + 1)) (ty := .int) (C := "ObjectBase$Schema") (T := TC_Schema) (N := 6) hx hb hts inC_Schema tyC_Schema tyC_Schema_ok nmC_Schema hown hK hP hD hS 0 rfl rfl 4 (by decide) (hts _ tw38) (fun _ h9 => h9) rfl (by decide +kernel) rfl rfl (Nat.le_of_ble_eq_true rfl) d_Schema_addClass_7 (fun H locs hP hD hS => ?_)
  have hP : va_P D vwCl (cw_Schema_addClass G a_t a_above a_owners a_kinds a_targets (v_classCount + 1) v_fieldCount v_above) H := hP
  have hD : va_D A (cw_Schema_addClass G a_t a_above a_owners a_kinds a_targets (v_classCount + 1) v_fieldCount v_above) := hD
  refine lv_aload_n hx hb d_Schema_addClass_10 rfl (lv_at hl 0 rfl) ?_
  refine va_get (D := D) (ci := 1) (v := .ref a_above) (C := "ObjectBase$Schema") (T := TC_Schema) (N := 6) hx hb hts inC_Schema hown hK hP 0 rfl rfl 0 (by decide) (hts _ tw29) (fun _ h9 => h9) rfl d_Schema_addClass_11 ?_
  refine lv_aload_n hx hb d_Schema_addClass_14 rfl (lv_at hl 0 rfl) ?_
  refine va_get (D := D) (ci := 1) (v := .int (v_classCount + 1)) (C := "ObjectBase$Schema") (T := TC_Schema) (N := 6) hx hb hts inC_Schema hown hK hP 0 rfl rfl 4 (by decide) (hts _ tw38) (fun _ h9 => h9) rfl d_Schema_addClass_15 ?_
  refine lv_aload_n hx hb d_Schema_addClass_18 rfl (lv_at hl 0 rfl) ?_
  refine va_get (D := D) (ci := 1) (v := .ref a_above) (C := "ObjectBase$Schema") (T := TC_Schema) (N := 6) hx hb hts inC_Schema hown hK hP 0 rfl rfl 0 (by decide) (hts _ tw29) (fun _ h9 => h9) rfl d_Schema_addClass_19 ?_
  refine lv_iload_n hx hb d_Schema_addClass_22 rfl (lv_at hl 1 rfl) ?_
  obtain ⟨hg23, hf⟩ := ob_iv_g hf
  refine va_iald hx hb hK hP 1 0 rfl rfl hg23 d_Schema_addClass_23 ?_
  refine lv_iconst (v := 1) hx hb d_Schema_addClass_24 (by decide) ?_
  refine lv_aload_n hx hb d_Schema_addClass_25 rfl (lv_at hl 0 rfl) ?_
  refine va_get (D := D) (ci := 1) (v := .int (v_classCount + 1)) (C := "ObjectBase$Schema") (T := TC_Schema) (N := 6) hx hb hts inC_Schema hown hK hP 0 rfl rfl 4 (by decide) (hts _ tw38) (fun _ h9 => h9) rfl d_Schema_addClass_26 ?_
  refine lv_ishl hx hb d_Schema_addClass_29 ?_
  refine lv_ior hx hb d_Schema_addClass_30 ?_
  obtain ⟨hg31, hf⟩ := ob_iv_g hf
  refine va_iast hx hb hK hP hD hS 1 0 rfl rfl hg31 d_Schema_addClass_31 (fun H locs hP hD hS => ?_)
  have hP : va_P D vwCl (cw_Schema_addClass G a_t a_above a_owners a_kinds a_targets (v_classCount + 1) v_fieldCount (upd v_above (v_classCount + 1).toNatClampNeg ((v_above p1.toNatClampNeg) ||| (1 <<< ((v_classCount + 1) &&& 31))))) H := hP
  have hD : va_D A (cw_Schema_addClass G a_t a_above a_owners a_kinds a_targets (v_classCount + 1) v_fieldCount (upd v_above (v_classCount + 1).toNatClampNeg ((v_above p1.toNatClampNeg) ||| (1 <<< ((v_classCount + 1) &&& 31))))) := hD
  refine lv_aload_n hx hb d_Schema_addClass_32 rfl (lv_at hl 0 rfl) ?_
  refine va_get (D := D) (ci := 1) (v := .int (v_classCount + 1)) (C := "ObjectBase$Schema") (T := TC_Schema) (N := 6) hx hb hts inC_Schema hown hK hP 0 rfl rfl 4 (by decide) (hts _ tw38) (fun _ h9 => h9) rfl d_Schema_addClass_33 ?_
  exact hret (v_classCount + 1, v_classCount + 1, upd v_above (v_classCount + 1).toNatClampNeg ((v_above p1.toNatClampNeg) ||| (1 <<< ((v_classCount + 1) &&& 31)))) H locs _ ls hf hP hD hS rfl d_Schema_addClass_36
abbrev bc_Schema_addField : ByteArray := prog_10_method_4_code
abbrev y_Schema_addField : MethodName := ⟨"ObjectBase$Schema", "addField", "(III)I"⟩
def ws_Schema_addField : List Cond := .code y_Schema_addField bc_Schema_addField 4 (some .int) :: obW
theorem d_Schema_addField_0 : decode bc_Schema_addField 0 = .ok (.aload_n 0, 1) := by decide +kernel
theorem d_Schema_addField_1 : decode bc_Schema_addField 1 = .ok (.getfield 15, 3) := by decide +kernel
theorem d_Schema_addField_4 : decode bc_Schema_addField 4 = .ok (.aload_n 0, 1) := by decide +kernel
theorem d_Schema_addField_5 : decode bc_Schema_addField 5 = .ok (.getfield 28, 3) := by decide +kernel
theorem d_Schema_addField_8 : decode bc_Schema_addField 8 = .ok (.iload_n 1, 1) := by decide +kernel
theorem d_Schema_addField_9 : decode bc_Schema_addField 9 = .ok (.iastore, 1) := by decide +kernel
theorem d_Schema_addField_10 : decode bc_Schema_addField 10 = .ok (.aload_n 0, 1) := by decide +kernel
theorem d_Schema_addField_11 : decode bc_Schema_addField 11 = .ok (.getfield 18, 3) := by decide +kernel
theorem d_Schema_addField_14 : decode bc_Schema_addField 14 = .ok (.aload_n 0, 1) := by decide +kernel
theorem d_Schema_addField_15 : decode bc_Schema_addField 15 = .ok (.getfield 28, 3) := by decide +kernel
theorem d_Schema_addField_18 : decode bc_Schema_addField 18 = .ok (.iload_n 2, 1) := by decide +kernel
theorem d_Schema_addField_19 : decode bc_Schema_addField 19 = .ok (.iastore, 1) := by decide +kernel
theorem d_Schema_addField_20 : decode bc_Schema_addField 20 = .ok (.aload_n 0, 1) := by decide +kernel
theorem d_Schema_addField_21 : decode bc_Schema_addField 21 = .ok (.getfield 21, 3) := by decide +kernel
theorem d_Schema_addField_24 : decode bc_Schema_addField 24 = .ok (.aload_n 0, 1) := by decide +kernel
theorem d_Schema_addField_25 : decode bc_Schema_addField 25 = .ok (.getfield 28, 3) := by decide +kernel
theorem d_Schema_addField_28 : decode bc_Schema_addField 28 = .ok (.iload_n 2, 1) := by decide +kernel
theorem d_Schema_addField_29 : decode bc_Schema_addField 29 = .ok (.ifCond .ne 7, 3) := by decide +kernel
theorem d_Schema_addField_32 : decode bc_Schema_addField 32 = .ok (.iconst 0, 1) := by decide +kernel
theorem d_Schema_addField_33 : decode bc_Schema_addField 33 = .ok (.goto 4, 3) := by decide +kernel
theorem d_Schema_addField_36 : decode bc_Schema_addField 36 = .ok (.iload_n 3, 1) := by decide +kernel
theorem d_Schema_addField_37 : decode bc_Schema_addField 37 = .ok (.iastore, 1) := by decide +kernel
theorem d_Schema_addField_38 : decode bc_Schema_addField 38 = .ok (.aload_n 0, 1) := by decide +kernel
theorem d_Schema_addField_39 : decode bc_Schema_addField 39 = .ok (.dup, 1) := by decide +kernel
theorem d_Schema_addField_40 : decode bc_Schema_addField 40 = .ok (.getfield 28, 3) := by decide +kernel
theorem d_Schema_addField_43 : decode bc_Schema_addField 43 = .ok (.iconst 1, 1) := by decide +kernel
theorem d_Schema_addField_44 : decode bc_Schema_addField 44 = .ok (.iadd, 1) := by decide +kernel
theorem d_Schema_addField_45 : decode bc_Schema_addField 45 = .ok (.putfield 28, 3) := by decide +kernel
theorem d_Schema_addField_48 : decode bc_Schema_addField 48 = .ok (.aload_n 0, 1) := by decide +kernel
theorem d_Schema_addField_49 : decode bc_Schema_addField 49 = .ok (.getfield 28, 3) := by decide +kernel
theorem d_Schema_addField_52 : decode bc_Schema_addField 52 = .ok (.iconst 1, 1) := by decide +kernel
theorem d_Schema_addField_53 : decode bc_Schema_addField 53 = .ok (.isub, 1) := by decide +kernel
theorem d_Schema_addField_54 : decode bc_Schema_addField 54 = .ok (.ireturn, 1) := by decide +kernel
def cw_Schema_addField (G : Nat → ClassId) (a_t a_owners a_kinds a_targets a_above : Nat) (v_classCount : Int32) (v_fieldCount : Int32) (v_owners : Nat → Int32) (v_kinds : Nat → Int32) (v_targets : Nat → Int32) : va_W := [(a_t, .inr (1, [.ref a_above, .ref a_owners, .ref a_kinds, .ref a_targets, .int v_classCount, .int v_fieldCount])), (a_owners, .inl (G 0, 8, .inl v_owners)), (a_kinds, .inl (G 0, 8, .inl v_kinds)), (a_targets, .inl (G 0, 8, .inl v_targets))]
def f_Schema_addField_J37 (y37_0 : Int32) (y37_1 : Int32) (v_fieldCount_37 : Int32) (v_owners_37 : Nat → Int32) (v_kinds_37 : Nat → Int32) (v_targets_37 : Nat → Int32) : Option (Int32 × Int32 × (Nat → Int32) × (Nat → Int32) × (Nat → Int32)) := ob_iv y37_1 8 (some ((v_fieldCount_37 + 1) - 1, v_fieldCount_37 + 1, v_owners_37, v_kinds_37, upd v_targets_37 y37_1.toNatClampNeg y37_0))
def f_Schema_addField (v_fieldCount : Int32) (v_owners : Nat → Int32) (v_kinds : Nat → Int32) (v_targets : Nat → Int32) (p1 : Int32) (p2 : Int32) (p3 : Int32) : Option (Int32 × Int32 × (Nat → Int32) × (Nat → Int32) × (Nat → Int32)) := ob_iv v_fieldCount 8 (ob_iv v_fieldCount 8 (if p2 = 0 then (f_Schema_addField_J37 0 v_fieldCount v_fieldCount (upd v_owners v_fieldCount.toNatClampNeg p1) (upd v_kinds v_fieldCount.toNatClampNeg p2) v_targets) else (f_Schema_addField_J37 p3 v_fieldCount v_fieldCount (upd v_owners v_fieldCount.toNatClampNeg p1) (upd v_kinds v_fieldCount.toNatClampNeg p2) v_targets)))
set_option maxHeartbeats 4000000 in
set_option maxRecDepth 100000 in
theorem c_Schema_addField (l : Launch) (D : va_G) (G : Nat → ClassId) (a_t a_owners a_kinds a_targets a_above : Nat) (v_classCount : Int32) (v_fieldCount : Int32) (v_owners : Nat → Int32) (v_kinds : Nat → Int32) (v_targets : Nat → Int32) (p1 : Int32) (p2 : Int32) (p3 : Int32) (o : Int32 × Int32 × (Nat → Int32) × (Nat → Int32) × (Nat → Int32)) (hf : f_Schema_addField v_fieldCount v_owners v_kinds v_targets p1 p2 p3 = some o) (sz : Nat) : MetI l y_Schema_addField ws_Schema_addField ({ frames := 0, cells := 0, slots := 0, locals := 0 }) D (obT G) (cw_Schema_addField G a_t a_owners a_kinds a_targets a_above v_classCount v_fieldCount v_owners v_kinds v_targets) (cw_Schema_addField G a_t a_owners a_kinds a_targets a_above v_classCount o.2.1 o.2.2.1 o.2.2.2.1 o.2.2.2.2) [.ref a_t, .int p1, .int p2, .int p3] o.1 sz := by
  refine ob_of (cc := bc_Schema_addField) (maxL := 4) (ret := (some .int)) (Qc := ObQi D (obT G) (cw_Schema_addField G a_t a_owners a_kinds a_targets a_above v_classCount o.2.1 o.2.2.1 o.2.2.2.1 o.2.2.2.2) o.1) (by decide) rfl (Nat.le_of_ble_eq_true rfl) ?_
  intro p e s m below meth c A ls H locs hx hb hr hml hts hown hlk hnm hZ hP hK hD hA hS hl
  have hret : ∀ (o' : Int32 × Int32 × (Nat → Int32) × (Nat → Int32) × (Nat → Int32)) (H : Heap) (locs : List Loc) (pc : Nat) (ls : Array Slot), some o' = some o → va_P D vwCl (cw_Schema_addField G a_t a_owners a_kinds a_targets a_above v_classCount o'.2.1 o'.2.2.1 o'.2.2.2.1 o'.2.2.2.2) H → va_D A (cw_Schema_addField G a_t a_owners a_kinds a_targets a_above v_classCount o'.2.1 o'.2.2.1 o'.2.2.2.1 o'.2.2.2.2) → va_S A s.heap H locs → narrow .int (.int o'.1) = .int o'.1 → decode bc_Schema_addField pc = .ok (.ireturn, 1) → W p l e { frames := 0, cells := 0, slots := 0, locals := 0 } s m ([.ref a_t, .int p1, .int p2, .int p3] : List Value).toArray below meth c H locs 0 0 (MQ below (ObQi D (obT G) (cw_Schema_addField G a_t a_owners a_kinds a_targets a_above v_classCount o.2.1 o.2.2.1 o.2.2.2.1 o.2.2.2.2) o.1 A) ([.ref a_t, .int p1, .int p2, .int p3] : List Value).toArray s 0 0 A) (F0 m pc ls [.int o'.1]) := by
    intro o' H locs pc ls he hP hD hS hn hd
    obtain rfl := Option.some.inj he
    exact ob_iret hx hb hr hlk hK hP hD hS hn hd
  generalize MQ below (ObQi D (obT G) (cw_Schema_addField G a_t a_owners a_kinds a_targets a_above v_classCount o.2.1 o.2.2.1 o.2.2.2.1 o.2.2.2.2) o.1 A) ([.ref a_t, .int p1, .int p2, .int p3] : List Value).toArray s 0 0 A = Q at hret ⊢
  have hl : lv_has ls 4 [(0, .ref a_t), (1, .int p1), (2, .int p2), (3, .int p3)] := hl
  unfold f_Schema_addField at hf
  have blk37 : ∀ (y37_0 : Int32) (y37_1 : Int32) (v_fieldCount_37 : Int32) (v_owners_37 : Nat → Int32) (v_kinds_37 : Nat → Int32) (v_targets_37 : Nat → Int32) (ls : Array Slot) (H : Heap) (locs : List Loc), lv_has ls 4 [(0, .ref a_t)] → va_P D vwCl (cw_Schema_addField G a_t a_owners a_kinds a_targets a_above v_classCount v_fieldCount_37 v_owners_37 v_kinds_37 v_targets_37) H → va_D A (cw_Schema_addField G a_t a_owners a_kinds a_targets a_above v_classCount v_fieldCount_37 v_owners_37 v_kinds_37 v_targets_37) → va_S A s.heap H locs → f_Schema_addField_J37 y37_0 y37_1 v_fieldCount_37 v_owners_37 v_kinds_37 v_targets_37 = some o → W p l e ({ frames := 0, cells := 0, slots := 0, locals := 0 }) s m ([.ref a_t, .int p1, .int p2, .int p3] : List Value).toArray below meth c H locs 0 0 Q (F0 m 37 ls [.int y37_0, .int y37_1, .ref a_targets]) := by
    intro y37_0 y37_1 v_fieldCount_37 v_owners_37 v_kinds_37 v_targets_37 ls H locs hl hP hD hS hf
    unfold f_Schema_addField_J37 at hf
    obtain ⟨hg37, hf⟩ := ob_iv_g hf
    refine va_iast hx hb hK hP hD hS 3 0 rfl rfl hg37 d_Schema_addField_37 (fun H locs hP hD hS => ?_)
    have hP : va_P D vwCl (cw_Schema_addField G a_t a_owners a_kinds a_targets a_above v_classCount v_fieldCount_37 v_owners_37 v_kinds_37 (upd v_targets_37 y37_1.toNatClampNeg y37_0)) H := hP
    have hD : va_D A (cw_Schema_addField G a_t a_owners a_kinds a_targets a_above v_classCount v_fieldCount_37 v_owners_37 v_kinds_37 (upd v_targets_37 y37_1.toNatClampNeg y37_0)) := hD
    refine lv_aload_n hx hb d_Schema_addField_38 rfl (lv_at hl 0 rfl) ?_
    refine lv_dup hx hb d_Schema_addField_39 rfl ?_
    refine va_get (D := D) (ci := 1) (v := .int v_fieldCount_37) (C := "ObjectBase$Schema") (T := TC_Schema) (N := 6) hx hb hts inC_Schema hown hK hP 0 rfl rfl 5 (by decide) (hts _ tw41) (fun _ h9 => h9) rfl d_Schema_addField_40 ?_
    refine lv_iconst (v := 1) hx hb d_Schema_addField_43 (by decide) ?_
    refine lv_iadd hx hb d_Schema_addField_44 ?_
    refine va_put (D := D) (ci := 1) (v := .int (v_fieldCount_37 + 1)) (ty := .int) (C := "ObjectBase$Schema") (T := TC_Schema) (N := 6) hx hb hts inC_Schema tyC_Schema tyC_Schema_ok nmC_Schema hown hK hP hD hS 0 rfl rfl 5 (by decide) (hts _ tw41) (fun _ h9 => h9) rfl (by decide +kernel) rfl rfl (Nat.le_of_ble_eq_true rfl) d_Schema_addField_45 (fun H locs hP hD hS => ?_)
    have hP : va_P D vwCl (cw_Schema_addField G a_t a_owners a_kinds a_targets a_above v_classCount (v_fieldCount_37 + 1) v_owners_37 v_kinds_37 (upd v_targets_37 y37_1.toNatClampNeg y37_0)) H := hP
    have hD : va_D A (cw_Schema_addField G a_t a_owners a_kinds a_targets a_above v_classCount (v_fieldCount_37 + 1) v_owners_37 v_kinds_37 (upd v_targets_37 y37_1.toNatClampNeg y37_0)) := hD
    refine lv_aload_n hx hb d_Schema_addField_48 rfl (lv_at hl 0 rfl) ?_
    refine va_get (D := D) (ci := 1) (v := .int (v_fieldCount_37 + 1)) (C := "ObjectBase$Schema") (T := TC_Schema) (N := 6) hx hb hts inC_Schema hown hK hP 0 rfl rfl 5 (by decide) (hts _ tw41) (fun _ h9 => h9) rfl d_Schema_addField_49 ?_
    refine lv_iconst (v := 1) hx hb d_Schema_addField_52 (by decide) ?_
    refine lv_isub hx hb d_Schema_addField_53 ?_
    exact hret ((v_fieldCount_37 + 1) - 1, v_fieldCount_37 + 1, v_owners_37, v_kinds_37, upd v_targets_37 y37_1.toNatClampNeg y37_0) H locs _ ls hf hP hD hS rfl d_Schema_addField_54
  refine lv_aload_n hx hb d_Schema_addField_0 rfl (lv_at hl 0 rfl) ?_
  refine va_get (D := D) (ci := 1) (v := .ref a_owners) (C := "ObjectBase$Schema") (T := TC_Schema) (N := 6) hx hb hts inC_Schema hown hK hP 0 rfl rfl 1 (by decide) (hts _ tw30) (fun _ h9 => h9) rfl d_Schema_addField_1 ?_
  refine lv_aload_n hx hb d_Schema_addField_4 rfl (lv_at hl 0 rfl) ?_
  refine va_get (D := D) (ci := 1) (v := .int v_fieldCount) (C := "ObjectBase$Schema") (T := TC_Schema) (N := 6) hx hb hts inC_Schema hown hK hP 0 rfl rfl 5 (by decide) (hts _ tw41) (fun _ h9 => h9) rfl d_Schema_addField_5 ?_
  refine lv_iload_n hx hb d_Schema_addField_8 rfl (lv_at hl 1 rfl) ?_
  obtain ⟨hg9, hf⟩ := ob_iv_g hf
  refine va_iast hx hb hK hP hD hS 1 0 rfl rfl hg9 d_Schema_addField_9 (fun H locs hP hD hS => ?_)
  have hP : va_P D vwCl (cw_Schema_addField G a_t a_owners a_kinds a_targets a_above v_classCount v_fieldCount (upd v_owners v_fieldCount.toNatClampNeg p1) v_kinds v_targets) H := hP
  have hD : va_D A (cw_Schema_addField G a_t a_owners a_kinds a_targets a_above v_classCount v_fieldCount (upd v_owners v_fieldCount.toNatClampNeg p1) v_kinds v_targets) := hD
  refine lv_aload_n hx hb d_Schema_addField_10 rfl (lv_at hl 0 rfl) ?_
  refine va_get (D := D) (ci := 1) (v := .ref a_kinds) (C := "ObjectBase$Schema") (T := TC_Schema) (N := 6) hx hb hts inC_Schema hown hK hP 0 rfl rfl 2 (by decide) (hts _ tw31) (fun _ h9 => h9) rfl d_Schema_addField_11 ?_
  refine lv_aload_n hx hb d_Schema_addField_14 rfl (lv_at hl 0 rfl) ?_
  refine va_get (D := D) (ci := 1) (v := .int v_fieldCount) (C := "ObjectBase$Schema") (T := TC_Schema) (N := 6) hx hb hts inC_Schema hown hK hP 0 rfl rfl 5 (by decide) (hts _ tw41) (fun _ h9 => h9) rfl d_Schema_addField_15 ?_
  refine lv_iload_n hx hb d_Schema_addField_18 rfl (lv_at hl 2 rfl) ?_
  obtain ⟨hg19, hf⟩ := ob_iv_g hf
  refine va_iast hx hb hK hP hD hS 2 0 rfl rfl hg19 d_Schema_addField_19 (fun H locs hP hD hS => ?_)
  have hP : va_P D vwCl (cw_Schema_addField G a_t a_owners a_kinds a_targets a_above v_classCount v_fieldCount (upd v_owners v_fieldCount.toNatClampNeg p1) (upd v_kinds v_fieldCount.toNatClampNeg p2) v_targets) H := hP
  have hD : va_D A (cw_Schema_addField G a_t a_owners a_kinds a_targets a_above v_classCount v_fieldCount (upd v_owners v_fieldCount.toNatClampNeg p1) (upd v_kinds v_fieldCount.toNatClampNeg p2) v_targets) := hD
  refine lv_aload_n hx hb d_Schema_addField_20 rfl (lv_at hl 0 rfl) ?_
  refine va_get (D := D) (ci := 1) (v := .ref a_targets) (C := "ObjectBase$Schema") (T := TC_Schema) (N := 6) hx hb hts inC_Schema hown hK hP 0 rfl rfl 3 (by decide) (hts _ tw35) (fun _ h9 => h9) rfl d_Schema_addField_21 ?_
  refine lv_aload_n hx hb d_Schema_addField_24 rfl (lv_at hl 0 rfl) ?_
  refine va_get (D := D) (ci := 1) (v := .int v_fieldCount) (C := "ObjectBase$Schema") (T := TC_Schema) (N := 6) hx hb hts inC_Schema hown hK hP 0 rfl rfl 5 (by decide) (hts _ tw41) (fun _ h9 => h9) rfl d_Schema_addField_25 ?_
  refine lv_iload_n hx hb d_Schema_addField_28 rfl (lv_at hl 2 rfl) ?_
  refine lv_if_ne (tgt := 36) hx hb d_Schema_addField_29 (by decide) (fun hc29 => ?_) (fun hc29 => ?_)
  · have hf := ob_f hc29 hf
    refine lv_iload_n hx hb d_Schema_addField_36 rfl (lv_at hl 3 rfl) ?_
    exact blk37 p3 v_fieldCount v_fieldCount (upd v_owners v_fieldCount.toNatClampNeg p1) (upd v_kinds v_fieldCount.toNatClampNeg p2) v_targets ls H locs (lv_sub hl [0] rfl) hP hD hS hf
  · have hf := ob_t hc29 hf
    refine lv_iconst (v := 0) hx hb d_Schema_addField_32 (by decide) ?_
    refine lv_goto (tgt := 37) hx hb d_Schema_addField_33 (by decide) ?_
    exact blk37 0 v_fieldCount v_fieldCount (upd v_owners v_fieldCount.toNatClampNeg p1) (upd v_kinds v_fieldCount.toNatClampNeg p2) v_targets ls H locs (lv_sub hl [0] rfl) hP hD hS hf
abbrev bc_Schema_isOf : ByteArray := prog_10_method_5_code
abbrev y_Schema_isOf : MethodName := ⟨"ObjectBase$Schema", "isOf", "(II)Z"⟩
def ws_Schema_isOf : List Cond := .code y_Schema_isOf bc_Schema_isOf 3 (some .boolean) :: obW
theorem d_Schema_isOf_0 : decode bc_Schema_isOf 0 = .ok (.aload_n 0, 1) := by decide +kernel
theorem d_Schema_isOf_1 : decode bc_Schema_isOf 1 = .ok (.getfield 9, 3) := by decide +kernel
theorem d_Schema_isOf_4 : decode bc_Schema_isOf 4 = .ok (.iload_n 1, 1) := by decide +kernel
theorem d_Schema_isOf_5 : decode bc_Schema_isOf 5 = .ok (.iaload, 1) := by decide +kernel
theorem d_Schema_isOf_6 : decode bc_Schema_isOf 6 = .ok (.iload_n 2, 1) := by decide +kernel
theorem d_Schema_isOf_7 : decode bc_Schema_isOf 7 = .ok (.ishr, 1) := by decide +kernel
theorem d_Schema_isOf_8 : decode bc_Schema_isOf 8 = .ok (.iconst 1, 1) := by decide +kernel
theorem d_Schema_isOf_9 : decode bc_Schema_isOf 9 = .ok (.iand, 1) := by decide +kernel
theorem d_Schema_isOf_10 : decode bc_Schema_isOf 10 = .ok (.ifCond .eq 7, 3) := by decide +kernel
theorem d_Schema_isOf_13 : decode bc_Schema_isOf 13 = .ok (.iconst 1, 1) := by decide +kernel
theorem d_Schema_isOf_14 : decode bc_Schema_isOf 14 = .ok (.goto 4, 3) := by decide +kernel
theorem d_Schema_isOf_17 : decode bc_Schema_isOf 17 = .ok (.iconst 0, 1) := by decide +kernel
theorem d_Schema_isOf_18 : decode bc_Schema_isOf 18 = .ok (.ireturn, 1) := by decide +kernel
def cw_Schema_isOf (G : Nat → ClassId) (a_t a_above a_owners a_kinds a_targets : Nat) (v_classCount : Int32) (v_fieldCount : Int32) (v_above : Nat → Int32) : va_W := [(a_t, .inr (1, [.ref a_above, .ref a_owners, .ref a_kinds, .ref a_targets, .int v_classCount, .int v_fieldCount])), (a_above, .inl (G 0, 6, .inl v_above))]
def f_Schema_isOf (v_above : Nat → Int32) (p1 : Int32) (p2 : Int32) : Option (Int32) := ob_iv p1 6 (if (((v_above p1.toNatClampNeg) >>> (p2 &&& 31)) &&& 1) = 0 then (some 0) else (some 1))
set_option maxHeartbeats 4000000 in
set_option maxRecDepth 100000 in
theorem c_Schema_isOf (l : Launch) (D : va_G) (G : Nat → ClassId) (a_t a_above a_owners a_kinds a_targets : Nat) (v_classCount : Int32) (v_fieldCount : Int32) (v_above : Nat → Int32) (p1 : Int32) (p2 : Int32) (o : Int32) (hf : f_Schema_isOf v_above p1 p2 = some o) (sz : Nat) : MetI l y_Schema_isOf ws_Schema_isOf ({ frames := 0, cells := 0, slots := 0, locals := 0 }) D (obT G) (cw_Schema_isOf G a_t a_above a_owners a_kinds a_targets v_classCount v_fieldCount v_above) (cw_Schema_isOf G a_t a_above a_owners a_kinds a_targets v_classCount v_fieldCount v_above) [.ref a_t, .int p1, .int p2] o sz := by
  refine ob_of (cc := bc_Schema_isOf) (maxL := 3) (ret := (some .boolean)) (Qc := ObQi D (obT G) (cw_Schema_isOf G a_t a_above a_owners a_kinds a_targets v_classCount v_fieldCount v_above) o) (by decide) rfl (Nat.le_of_ble_eq_true rfl) ?_
  intro p e s m below meth c A ls H locs hx hb hr hml hts hown hlk hnm hZ hP hK hD hA hS hl
  have hret : ∀ (o' : Int32) (H : Heap) (locs : List Loc) (pc : Nat) (ls : Array Slot), some o' = some o → va_P D vwCl (cw_Schema_isOf G a_t a_above a_owners a_kinds a_targets v_classCount v_fieldCount v_above) H → va_D A (cw_Schema_isOf G a_t a_above a_owners a_kinds a_targets v_classCount v_fieldCount v_above) → va_S A s.heap H locs → narrow .boolean (.int o') = .int o' → decode bc_Schema_isOf pc = .ok (.ireturn, 1) → W p l e { frames := 0, cells := 0, slots := 0, locals := 0 } s m ([.ref a_t, .int p1, .int p2] : List Value).toArray below meth c H locs 0 0 (MQ below (ObQi D (obT G) (cw_Schema_isOf G a_t a_above a_owners a_kinds a_targets v_classCount v_fieldCount v_above) o A) ([.ref a_t, .int p1, .int p2] : List Value).toArray s 0 0 A) (F0 m pc ls [.int o']) := by
    intro o' H locs pc ls he hP hD hS hn hd
    obtain rfl := Option.some.inj he
    exact ob_iret hx hb hr hlk hK hP hD hS hn hd
  generalize MQ below (ObQi D (obT G) (cw_Schema_isOf G a_t a_above a_owners a_kinds a_targets v_classCount v_fieldCount v_above) o A) ([.ref a_t, .int p1, .int p2] : List Value).toArray s 0 0 A = Q at hret ⊢
  have hl : lv_has ls 3 [(0, .ref a_t), (1, .int p1), (2, .int p2)] := hl
  unfold f_Schema_isOf at hf
  refine lv_aload_n hx hb d_Schema_isOf_0 rfl (lv_at hl 0 rfl) ?_
  refine va_get (D := D) (ci := 1) (v := .ref a_above) (C := "ObjectBase$Schema") (T := TC_Schema) (N := 6) hx hb hts inC_Schema hown hK hP 0 rfl rfl 0 (by decide) (hts _ tw29) (fun _ h9 => h9) rfl d_Schema_isOf_1 ?_
  refine lv_iload_n hx hb d_Schema_isOf_4 rfl (lv_at hl 1 rfl) ?_
  obtain ⟨hg5, hf⟩ := ob_iv_g hf
  refine va_iald hx hb hK hP 1 0 rfl rfl hg5 d_Schema_isOf_5 ?_
  refine lv_iload_n hx hb d_Schema_isOf_6 rfl (lv_at hl 2 rfl) ?_
  refine lv_ishr hx hb d_Schema_isOf_7 ?_
  refine lv_iconst (v := 1) hx hb d_Schema_isOf_8 (by decide) ?_
  refine lv_iand hx hb d_Schema_isOf_9 ?_
  refine lv_if_eq (tgt := 17) hx hb d_Schema_isOf_10 (by decide) (fun hc10 => ?_) (fun hc10 => ?_)
  · have hf := ob_t hc10 hf
    refine lv_iconst (v := 0) hx hb d_Schema_isOf_17 (by decide) ?_
    exact hret 0 H locs _ ls hf hP hD hS narrow_b0 d_Schema_isOf_18
  · have hf := ob_f hc10 hf
    refine lv_iconst (v := 1) hx hb d_Schema_isOf_13 (by decide) ?_
    refine lv_goto (tgt := 18) hx hb d_Schema_isOf_14 (by decide) ?_
    exact hret 1 H locs _ ls hf hP hD hS narrow_b1 d_Schema_isOf_18
abbrev bc_Schema_hasField : ByteArray := prog_10_method_6_code
abbrev y_Schema_hasField : MethodName := ⟨"ObjectBase$Schema", "hasField", "(II)Z"⟩
def ws_Schema_hasField : List Cond := .code y_Schema_hasField bc_Schema_hasField 3 (some .boolean) :: obW
theorem d_Schema_hasField_0 : decode bc_Schema_hasField 0 = .ok (.iload_n 2, 1) := by decide +kernel
theorem d_Schema_hasField_1 : decode bc_Schema_hasField 1 = .ok (.ifCond .lt 33, 3) := by decide +kernel
theorem d_Schema_hasField_4 : decode bc_Schema_hasField 4 = .ok (.iload_n 2, 1) := by decide +kernel
theorem d_Schema_hasField_5 : decode bc_Schema_hasField 5 = .ok (.aload_n 0, 1) := by decide +kernel
theorem d_Schema_hasField_6 : decode bc_Schema_hasField 6 = .ok (.getfield 28, 3) := by decide +kernel
theorem d_Schema_hasField_9 : decode bc_Schema_hasField 9 = .ok (.if_icmp .ge 25, 3) := by decide +kernel
theorem d_Schema_hasField_12 : decode bc_Schema_hasField 12 = .ok (.aload_n 0, 1) := by decide +kernel
theorem d_Schema_hasField_13 : decode bc_Schema_hasField 13 = .ok (.getfield 9, 3) := by decide +kernel
theorem d_Schema_hasField_16 : decode bc_Schema_hasField 16 = .ok (.iload_n 1, 1) := by decide +kernel
theorem d_Schema_hasField_17 : decode bc_Schema_hasField 17 = .ok (.iaload, 1) := by decide +kernel
theorem d_Schema_hasField_18 : decode bc_Schema_hasField 18 = .ok (.aload_n 0, 1) := by decide +kernel
theorem d_Schema_hasField_19 : decode bc_Schema_hasField 19 = .ok (.getfield 15, 3) := by decide +kernel
theorem d_Schema_hasField_22 : decode bc_Schema_hasField 22 = .ok (.iload_n 2, 1) := by decide +kernel
theorem d_Schema_hasField_23 : decode bc_Schema_hasField 23 = .ok (.iaload, 1) := by decide +kernel
theorem d_Schema_hasField_24 : decode bc_Schema_hasField 24 = .ok (.ishr, 1) := by decide +kernel
theorem d_Schema_hasField_25 : decode bc_Schema_hasField 25 = .ok (.iconst 1, 1) := by decide +kernel
theorem d_Schema_hasField_26 : decode bc_Schema_hasField 26 = .ok (.iand, 1) := by decide +kernel
theorem d_Schema_hasField_27 : decode bc_Schema_hasField 27 = .ok (.ifCond .eq 7, 3) := by decide +kernel
theorem d_Schema_hasField_30 : decode bc_Schema_hasField 30 = .ok (.iconst 1, 1) := by decide +kernel
theorem d_Schema_hasField_31 : decode bc_Schema_hasField 31 = .ok (.goto 4, 3) := by decide +kernel
theorem d_Schema_hasField_34 : decode bc_Schema_hasField 34 = .ok (.iconst 0, 1) := by decide +kernel
theorem d_Schema_hasField_35 : decode bc_Schema_hasField 35 = .ok (.ireturn, 1) := by decide +kernel
def cw_Schema_hasField (G : Nat → ClassId) (a_t a_above a_owners a_kinds a_targets : Nat) (v_classCount : Int32) (v_fieldCount : Int32) (v_above : Nat → Int32) (v_owners : Nat → Int32) : va_W := [(a_t, .inr (1, [.ref a_above, .ref a_owners, .ref a_kinds, .ref a_targets, .int v_classCount, .int v_fieldCount])), (a_above, .inl (G 0, 6, .inl v_above)), (a_owners, .inl (G 0, 8, .inl v_owners))]
def f_Schema_hasField (v_fieldCount : Int32) (v_above : Nat → Int32) (v_owners : Nat → Int32) (p1 : Int32) (p2 : Int32) : Option (Int32) := if p2 < 0 then (some 0) else (if v_fieldCount ≤ p2 then (some 0) else (ob_iv p1 6 (ob_iv p2 8 (if (((v_above p1.toNatClampNeg) >>> ((v_owners p2.toNatClampNeg) &&& 31)) &&& 1) = 0 then (some 0) else (some 1)))))
set_option maxHeartbeats 4000000 in
set_option maxRecDepth 100000 in
theorem c_Schema_hasField (l : Launch) (D : va_G) (G : Nat → ClassId) (a_t a_above a_owners a_kinds a_targets : Nat) (v_classCount : Int32) (v_fieldCount : Int32) (v_above : Nat → Int32) (v_owners : Nat → Int32) (p1 : Int32) (p2 : Int32) (o : Int32) (hf : f_Schema_hasField v_fieldCount v_above v_owners p1 p2 = some o) (sz : Nat) : MetI l y_Schema_hasField ws_Schema_hasField ({ frames := 0, cells := 0, slots := 0, locals := 0 }) D (obT G) (cw_Schema_hasField G a_t a_above a_owners a_kinds a_targets v_classCount v_fieldCount v_above v_owners) (cw_Schema_hasField G a_t a_above a_owners a_kinds a_targets v_classCount v_fieldCount v_above v_owners) [.ref a_t, .int p1, .int p2] o sz := by
  refine ob_of (cc := bc_Schema_hasField) (maxL := 3) (ret := (some .boolean)) (Qc := ObQi D (obT G) (cw_Schema_hasField G a_t a_above a_owners a_kinds a_targets v_classCount v_fieldCount v_above v_owners) o) (by decide) rfl (Nat.le_of_ble_eq_true rfl) ?_
  intro p e s m below meth c A ls H locs hx hb hr hml hts hown hlk hnm hZ hP hK hD hA hS hl
  have hret : ∀ (o' : Int32) (H : Heap) (locs : List Loc) (pc : Nat) (ls : Array Slot), some o' = some o → va_P D vwCl (cw_Schema_hasField G a_t a_above a_owners a_kinds a_targets v_classCount v_fieldCount v_above v_owners) H → va_D A (cw_Schema_hasField G a_t a_above a_owners a_kinds a_targets v_classCount v_fieldCount v_above v_owners) → va_S A s.heap H locs → narrow .boolean (.int o') = .int o' → decode bc_Schema_hasField pc = .ok (.ireturn, 1) → W p l e { frames := 0, cells := 0, slots := 0, locals := 0 } s m ([.ref a_t, .int p1, .int p2] : List Value).toArray below meth c H locs 0 0 (MQ below (ObQi D (obT G) (cw_Schema_hasField G a_t a_above a_owners a_kinds a_targets v_classCount v_fieldCount v_above v_owners) o A) ([.ref a_t, .int p1, .int p2] : List Value).toArray s 0 0 A) (F0 m pc ls [.int o']) := by
    intro o' H locs pc ls he hP hD hS hn hd
    obtain rfl := Option.some.inj he
    exact ob_iret hx hb hr hlk hK hP hD hS hn hd
  generalize MQ below (ObQi D (obT G) (cw_Schema_hasField G a_t a_above a_owners a_kinds a_targets v_classCount v_fieldCount v_above v_owners) o A) ([.ref a_t, .int p1, .int p2] : List Value).toArray s 0 0 A = Q at hret ⊢
  have hl : lv_has ls 3 [(0, .ref a_t), (1, .int p1), (2, .int p2)] := hl
  unfold f_Schema_hasField at hf
  refine lv_iload_n hx hb d_Schema_hasField_0 rfl (lv_at hl 2 rfl) ?_
  refine lv_if_lt (tgt := 34) hx hb d_Schema_hasField_1 (by decide) (fun hc1 => ?_) (fun hc1 => ?_)
  · have hf := ob_t hc1 hf
    refine lv_iconst (v := 0) hx hb d_Schema_hasField_34 (by decide) ?_
    exact hret 0 H locs _ ls hf hP hD hS narrow_b0 d_Schema_hasField_35
  · have hf := ob_f hc1 hf
    refine lv_iload_n hx hb d_Schema_hasField_4 rfl (lv_at hl 2 rfl) ?_
    refine lv_aload_n hx hb d_Schema_hasField_5 rfl (lv_at hl 0 rfl) ?_
    refine va_get (D := D) (ci := 1) (v := .int v_fieldCount) (C := "ObjectBase$Schema") (T := TC_Schema) (N := 6) hx hb hts inC_Schema hown hK hP 0 rfl rfl 5 (by decide) (hts _ tw41) (fun _ h9 => h9) rfl d_Schema_hasField_6 ?_
    refine lv_icmp_ge (tgt := 34) hx hb d_Schema_hasField_9 (by decide) (fun hc9 => ?_) (fun hc9 => ?_)
    · have hf := ob_t hc9 hf
      refine lv_iconst (v := 0) hx hb d_Schema_hasField_34 (by decide) ?_
      exact hret 0 H locs _ ls hf hP hD hS narrow_b0 d_Schema_hasField_35
    · have hf := ob_f hc9 hf
      refine lv_aload_n hx hb d_Schema_hasField_12 rfl (lv_at hl 0 rfl) ?_
      refine va_get (D := D) (ci := 1) (v := .ref a_above) (C := "ObjectBase$Schema") (T := TC_Schema) (N := 6) hx hb hts inC_Schema hown hK hP 0 rfl rfl 0 (by decide) (hts _ tw29) (fun _ h9 => h9) rfl d_Schema_hasField_13 ?_
      refine lv_iload_n hx hb d_Schema_hasField_16 rfl (lv_at hl 1 rfl) ?_
      obtain ⟨hg17, hf⟩ := ob_iv_g hf
      refine va_iald hx hb hK hP 1 0 rfl rfl hg17 d_Schema_hasField_17 ?_
      refine lv_aload_n hx hb d_Schema_hasField_18 rfl (lv_at hl 0 rfl) ?_
      refine va_get (D := D) (ci := 1) (v := .ref a_owners) (C := "ObjectBase$Schema") (T := TC_Schema) (N := 6) hx hb hts inC_Schema hown hK hP 0 rfl rfl 1 (by decide) (hts _ tw30) (fun _ h9 => h9) rfl d_Schema_hasField_19 ?_
      refine lv_iload_n hx hb d_Schema_hasField_22 rfl (lv_at hl 2 rfl) ?_
      obtain ⟨hg23, hf⟩ := ob_iv_g hf
      refine va_iald hx hb hK hP 2 0 rfl rfl hg23 d_Schema_hasField_23 ?_
      refine lv_ishr hx hb d_Schema_hasField_24 ?_
      refine lv_iconst (v := 1) hx hb d_Schema_hasField_25 (by decide) ?_
      refine lv_iand hx hb d_Schema_hasField_26 ?_
      refine lv_if_eq (tgt := 34) hx hb d_Schema_hasField_27 (by decide) (fun hc27 => ?_) (fun hc27 => ?_)
      · have hf := ob_t hc27 hf
        refine lv_iconst (v := 0) hx hb d_Schema_hasField_34 (by decide) ?_
        exact hret 0 H locs _ ls hf hP hD hS narrow_b0 d_Schema_hasField_35
      · have hf := ob_f hc27 hf
        refine lv_iconst (v := 1) hx hb d_Schema_hasField_30 (by decide) ?_
        refine lv_goto (tgt := 35) hx hb d_Schema_hasField_31 (by decide) ?_
        exact hret 1 H locs _ ls hf hP hD hS narrow_b1 d_Schema_hasField_35
abbrev bc_Schema_hasFieldOfKind : ByteArray := prog_10_method_7_code
abbrev y_Schema_hasFieldOfKind : MethodName := ⟨"ObjectBase$Schema", "hasFieldOfKind", "(III)Z"⟩
def ws_Schema_hasFieldOfKind : List Cond := .code y_Schema_hasFieldOfKind bc_Schema_hasFieldOfKind 4 (some .boolean) :: obW
theorem d_Schema_hasFieldOfKind_0 : decode bc_Schema_hasFieldOfKind 0 = .ok (.aload_n 0, 1) := by decide +kernel
theorem d_Schema_hasFieldOfKind_1 : decode bc_Schema_hasFieldOfKind 1 = .ok (.iload_n 1, 1) := by decide +kernel
theorem d_Schema_hasFieldOfKind_2 : decode bc_Schema_hasFieldOfKind 2 = .ok (.iload_n 2, 1) := by decide +kernel
theorem d_Schema_hasFieldOfKind_3 : decode bc_Schema_hasFieldOfKind 3 = .ok (.invokevirtual 31, 3) := by decide +kernel
theorem d_Schema_hasFieldOfKind_6 : decode bc_Schema_hasFieldOfKind 6 = .ok (.ifCond .eq 17, 3) := by decide +kernel
theorem d_Schema_hasFieldOfKind_9 : decode bc_Schema_hasFieldOfKind 9 = .ok (.aload_n 0, 1) := by decide +kernel
theorem d_Schema_hasFieldOfKind_10 : decode bc_Schema_hasFieldOfKind 10 = .ok (.getfield 18, 3) := by decide +kernel
theorem d_Schema_hasFieldOfKind_13 : decode bc_Schema_hasFieldOfKind 13 = .ok (.iload_n 2, 1) := by decide +kernel
theorem d_Schema_hasFieldOfKind_14 : decode bc_Schema_hasFieldOfKind 14 = .ok (.iaload, 1) := by decide +kernel
theorem d_Schema_hasFieldOfKind_15 : decode bc_Schema_hasFieldOfKind 15 = .ok (.iload_n 3, 1) := by decide +kernel
theorem d_Schema_hasFieldOfKind_16 : decode bc_Schema_hasFieldOfKind 16 = .ok (.if_icmp .ne 7, 3) := by decide +kernel
theorem d_Schema_hasFieldOfKind_19 : decode bc_Schema_hasFieldOfKind 19 = .ok (.iconst 1, 1) := by decide +kernel
theorem d_Schema_hasFieldOfKind_20 : decode bc_Schema_hasFieldOfKind 20 = .ok (.goto 4, 3) := by decide +kernel
theorem d_Schema_hasFieldOfKind_23 : decode bc_Schema_hasFieldOfKind 23 = .ok (.iconst 0, 1) := by decide +kernel
theorem d_Schema_hasFieldOfKind_24 : decode bc_Schema_hasFieldOfKind 24 = .ok (.ireturn, 1) := by decide +kernel
def cw_Schema_hasFieldOfKind (G : Nat → ClassId) (a_t a_above a_owners a_kinds a_targets : Nat) (v_classCount : Int32) (v_fieldCount : Int32) (v_above : Nat → Int32) (v_owners : Nat → Int32) (v_kinds : Nat → Int32) : va_W := [(a_t, .inr (1, [.ref a_above, .ref a_owners, .ref a_kinds, .ref a_targets, .int v_classCount, .int v_fieldCount])), (a_above, .inl (G 0, 6, .inl v_above)), (a_owners, .inl (G 0, 8, .inl v_owners)), (a_kinds, .inl (G 0, 8, .inl v_kinds))]
def f_Schema_hasFieldOfKind (v_fieldCount : Int32) (v_above : Nat → Int32) (v_owners : Nat → Int32) (v_kinds : Nat → Int32) (p1 : Int32) (p2 : Int32) (p3 : Int32) : Option (Int32) := (f_Schema_hasField v_fieldCount v_above v_owners p1 p2).bind fun o3 => (if o3 = 0 then (some 0) else (ob_iv p2 8 (if (v_kinds p2.toNatClampNeg) = p3 then (some 1) else (some 0))))
set_option maxHeartbeats 4000000 in
set_option maxRecDepth 100000 in
theorem c_Schema_hasFieldOfKind (l : Launch) (D : va_G) (G : Nat → ClassId) (a_t a_above a_owners a_kinds a_targets : Nat) (v_classCount : Int32) (v_fieldCount : Int32) (v_above : Nat → Int32) (v_owners : Nat → Int32) (v_kinds : Nat → Int32) (p1 : Int32) (p2 : Int32) (p3 : Int32) (o : Int32) (hf : f_Schema_hasFieldOfKind v_fieldCount v_above v_owners v_kinds p1 p2 p3 = some o) (sz : Nat) : MetI l y_Schema_hasFieldOfKind ws_Schema_hasFieldOfKind ({ frames := 1, cells := 0, slots := 0, locals := 22 }) D (obT G) (cw_Schema_hasFieldOfKind G a_t a_above a_owners a_kinds a_targets v_classCount v_fieldCount v_above v_owners v_kinds) (cw_Schema_hasFieldOfKind G a_t a_above a_owners a_kinds a_targets v_classCount v_fieldCount v_above v_owners v_kinds) [.ref a_t, .int p1, .int p2, .int p3] o sz := by
  refine ob_of (cc := bc_Schema_hasFieldOfKind) (maxL := 4) (ret := (some .boolean)) (Qc := ObQi D (obT G) (cw_Schema_hasFieldOfKind G a_t a_above a_owners a_kinds a_targets v_classCount v_fieldCount v_above v_owners v_kinds) o) (by decide) rfl (Nat.le_of_ble_eq_true rfl) ?_
  intro p e s m below meth c A ls H locs hx hb hr hml hts hown hlk hnm hZ hP hK hD hA hS hl
  have hret : ∀ (o' : Int32) (H : Heap) (locs : List Loc) (pc : Nat) (ls : Array Slot), some o' = some o → va_P D vwCl (cw_Schema_hasFieldOfKind G a_t a_above a_owners a_kinds a_targets v_classCount v_fieldCount v_above v_owners v_kinds) H → va_D A (cw_Schema_hasFieldOfKind G a_t a_above a_owners a_kinds a_targets v_classCount v_fieldCount v_above v_owners v_kinds) → va_S A s.heap H locs → narrow .boolean (.int o') = .int o' → decode bc_Schema_hasFieldOfKind pc = .ok (.ireturn, 1) → W p l e { frames := 1, cells := 0, slots := 0, locals := 22 } s m ([.ref a_t, .int p1, .int p2, .int p3] : List Value).toArray below meth c H locs 0 0 (MQ below (ObQi D (obT G) (cw_Schema_hasFieldOfKind G a_t a_above a_owners a_kinds a_targets v_classCount v_fieldCount v_above v_owners v_kinds) o A) ([.ref a_t, .int p1, .int p2, .int p3] : List Value).toArray s 0 0 A) (F0 m pc ls [.int o']) := by
    intro o' H locs pc ls he hP hD hS hn hd
    obtain rfl := Option.some.inj he
    exact ob_iret hx hb hr hlk hK hP hD hS hn hd
  generalize MQ below (ObQi D (obT G) (cw_Schema_hasFieldOfKind G a_t a_above a_owners a_kinds a_targets v_classCount v_fieldCount v_above v_owners v_kinds) o A) ([.ref a_t, .int p1, .int p2, .int p3] : List Value).toArray s 0 0 A = Q at hret ⊢
  have hl : lv_has ls 4 [(0, .ref a_t), (1, .int p1), (2, .int p2), (3, .int p3)] := hl
  unfold f_Schema_hasFieldOfKind at hf
  refine lv_aload_n hx hb d_Schema_hasFieldOfKind_0 rfl (lv_at hl 0 rfl) ?_
  refine lv_iload_n hx hb d_Schema_hasFieldOfKind_1 rfl (lv_at hl 1 rfl) ?_
  refine lv_iload_n hx hb d_Schema_hasFieldOfKind_2 rfl (lv_at hl 2 rfl) ?_
  obtain ⟨o3, ho3, hf⟩ := ob_b hf
  refine ob_calli (w2 := (cw_Schema_hasFieldOfKind G a_t a_above a_owners a_kinds a_targets v_classCount v_fieldCount v_above v_owners v_kinds)) (va_runV (As := [.int p1, .int p2]) (rest := []) ⟨hx, hb, hml, hown, hts⟩ (c_Schema_hasField l D G a_t a_above a_owners a_kinds a_targets v_classCount v_fieldCount v_above v_owners p1 p2 o3 ho3 H.size) (cwV 2 hts (gV tw304 tw305 tw306 tw2 tw307) rfl rfl rfl (by decide +kernel) ⟨Nat.le_of_ble_eq_true rfl, Nat.le_of_ble_eq_true rfl⟩) (ob_preV (q0 := 0) (ci := 1) hZ hK hP hD [0, 1, 2] rfl rfl rfl rfl rfl) rfl rfl hl.1 rfl (lv_room (Nat.le_of_ble_eq_true rfl)) d_Schema_hasFieldOfKind_3 ⟨Nat.le_refl _, Nat.le_refl _⟩) hP hD hA hS [0, 1, 2] rfl rfl rfl rfl (fun H locs hP hD hS => ?_)
  refine lv_if_eq (tgt := 23) hx hb d_Schema_hasFieldOfKind_6 (by decide) (fun hc6 => ?_) (fun hc6 => ?_)
  · have hf := ob_t hc6 hf
    refine lv_iconst (v := 0) hx hb d_Schema_hasFieldOfKind_23 (by decide) ?_
    exact hret 0 H locs _ ls hf hP hD hS narrow_b0 d_Schema_hasFieldOfKind_24
  · have hf := ob_f hc6 hf
    refine lv_aload_n hx hb d_Schema_hasFieldOfKind_9 rfl (lv_at hl 0 rfl) ?_
    refine va_get (D := D) (ci := 1) (v := .ref a_kinds) (C := "ObjectBase$Schema") (T := TC_Schema) (N := 6) hx hb hts inC_Schema hown hK hP 0 rfl rfl 2 (by decide) (hts _ tw31) (fun _ h9 => h9) rfl d_Schema_hasFieldOfKind_10 ?_
    refine lv_iload_n hx hb d_Schema_hasFieldOfKind_13 rfl (lv_at hl 2 rfl) ?_
    obtain ⟨hg14, hf⟩ := ob_iv_g hf
    refine va_iald hx hb hK hP 3 0 rfl rfl hg14 d_Schema_hasFieldOfKind_14 ?_
    refine lv_iload_n hx hb d_Schema_hasFieldOfKind_15 rfl (lv_at hl 3 rfl) ?_
    refine lv_icmp_ne (tgt := 23) hx hb d_Schema_hasFieldOfKind_16 (by decide) (fun hc16 => ?_) (fun hc16 => ?_)
    · have hf := ob_f hc16 hf
      refine lv_iconst (v := 0) hx hb d_Schema_hasFieldOfKind_23 (by decide) ?_
      exact hret 0 H locs _ ls hf hP hD hS narrow_b0 d_Schema_hasFieldOfKind_24
    · have hf := ob_t hc16 hf
      refine lv_iconst (v := 1) hx hb d_Schema_hasFieldOfKind_19 (by decide) ?_
      refine lv_goto (tgt := 24) hx hb d_Schema_hasFieldOfKind_20 (by decide) ?_
      exact hret 1 H locs _ ls hf hP hD hS narrow_b1 d_Schema_hasFieldOfKind_24
