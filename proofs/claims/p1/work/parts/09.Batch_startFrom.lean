abbrev bc_Batch_startFrom : ByteArray := prog_3_method_2_code
abbrev y_Batch_startFrom : MethodName := ⟨"ObjectBase$Batch", "startFrom", "(LObjectBase$Image;J)V"⟩
def ws_Batch_startFrom : List Cond := .code y_Batch_startFrom bc_Batch_startFrom 4 none :: obW
theorem d_Batch_startFrom_0 : decode bc_Batch_startFrom 0 = .ok (.aload_n 0, 1) := by decide +kernel
theorem d_Batch_startFrom_1 : decode bc_Batch_startFrom 1 = .ok (.getfield 12, 3) := by decide +kernel
theorem d_Batch_startFrom_4 : decode bc_Batch_startFrom 4 = .ok (.aload_n 1, 1) := by decide +kernel
theorem d_Batch_startFrom_5 : decode bc_Batch_startFrom 5 = .ok (.invokevirtual 18, 3) := by decide +kernel
theorem d_Batch_startFrom_8 : decode bc_Batch_startFrom 8 = .ok (.aload_n 0, 1) := by decide +kernel
theorem d_Batch_startFrom_9 : decode bc_Batch_startFrom 9 = .ok (.lload_n 2, 1) := by decide +kernel
theorem d_Batch_startFrom_10 : decode bc_Batch_startFrom 10 = .ok (.putfield 22, 3) := by decide +kernel
theorem d_Batch_startFrom_13 : decode bc_Batch_startFrom 13 = .ok (.aload_n 0, 1) := by decide +kernel
theorem d_Batch_startFrom_14 : decode bc_Batch_startFrom 14 = .ok (.lconst 0, 1) := by decide +kernel
theorem d_Batch_startFrom_15 : decode bc_Batch_startFrom 15 = .ok (.putfield 26, 3) := by decide +kernel
theorem d_Batch_startFrom_18 : decode bc_Batch_startFrom 18 = .ok (.aload_n 0, 1) := by decide +kernel
theorem d_Batch_startFrom_19 : decode bc_Batch_startFrom 19 = .ok (.iconst 0, 1) := by decide +kernel
theorem d_Batch_startFrom_20 : decode bc_Batch_startFrom 20 = .ok (.putfield 29, 3) := by decide +kernel
theorem d_Batch_startFrom_23 : decode bc_Batch_startFrom 23 = .ok (.aload_n 0, 1) := by decide +kernel
theorem d_Batch_startFrom_24 : decode bc_Batch_startFrom 24 = .ok (.iconst 1, 1) := by decide +kernel
theorem d_Batch_startFrom_25 : decode bc_Batch_startFrom 25 = .ok (.putfield 33, 3) := by decide +kernel
theorem d_Batch_startFrom_28 : decode bc_Batch_startFrom 28 = .ok (.return_, 1) := by decide +kernel
def cw_Batch_startFrom (G : Nat → ClassId) (a_t a_image a_p1 a_image_classes a_p1_classes a_image_values a_p1_values a_image_names a_p1_names : Nat) (v_known : Int64) (v_touched : Int64) (v_namesTouched : Int32) (v_open : Int32) (v_image_classes : Nat → Int32) (v_p1_classes : Nat → Int32) (v_image_values : Nat → Int64) (v_p1_values : Nat → Int64) (v_image_names : Nat → Int32) (v_p1_names : Nat → Int32) : va_W := [(a_t, .inr (5, [.ref a_image, .long v_known, .long v_touched, .int v_namesTouched, .int v_open])), (a_image, .inr (4, [.ref a_image_classes, .ref a_image_values, .ref a_image_names])), (a_p1, .inr (4, [.ref a_p1_classes, .ref a_p1_values, .ref a_p1_names])), (a_image_classes, .inl (G 0, 63, .inl v_image_classes)), (a_p1_classes, .inl (G 0, 63, .inl v_p1_classes)), (a_image_values, .inl (G 1, 504, .inr (.inl v_image_values))), (a_p1_values, .inl (G 1, 504, .inr (.inl v_p1_values))), (a_image_names, .inl (G 0, 4, .inl v_image_names)), (a_p1_names, .inl (G 0, 4, .inl v_p1_names))]
def f_Batch_startFrom (v_image_classes : Nat → Int32) (v_p1_classes : Nat → Int32) (v_image_values : Nat → Int64) (v_p1_values : Nat → Int64) (v_image_names : Nat → Int32) (v_p1_names : Nat → Int32) (p2 : Int64) : Option (Int64 × Int64 × Int32 × Int32 × (Nat → Int32) × (Nat → Int64) × (Nat → Int32)) := (f_Image_copyFrom v_image_classes v_p1_classes v_image_values v_p1_values v_image_names v_p1_names).bind fun o5 => (some (p2, 0, 0, 1, o5.1, o5.2.1, o5.2.2))
set_option maxHeartbeats 4000000 in
set_option maxRecDepth 100000 in
theorem c_Batch_startFrom (l : Launch) (D : va_G) (G : Nat → ClassId) (a_t a_image a_p1 a_image_classes a_p1_classes a_image_values a_p1_values a_image_names a_p1_names : Nat) (v_known : Int64) (v_touched : Int64) (v_namesTouched : Int32) (v_open : Int32) (v_image_classes : Nat → Int32) (v_p1_classes : Nat → Int32) (v_image_values : Nat → Int64) (v_p1_values : Nat → Int64) (v_image_names : Nat → Int32) (v_p1_names : Nat → Int32) (p2 : Int64) (o : Int64 × Int64 × Int32 × Int32 × (Nat → Int32) × (Nat → Int64) × (Nat → Int32)) (hf : f_Batch_startFrom v_image_classes v_p1_classes v_image_values v_p1_values v_image_names v_p1_names p2 = some o) (sz : Nat) : MetV l y_Batch_startFrom ws_Batch_startFrom ({ frames := 2, cells := 0, slots := 0, locals := 93 }) D (obT G) (cw_Batch_startFrom G a_t a_image a_p1 a_image_classes a_p1_classes a_image_values a_p1_values a_image_names a_p1_names v_known v_touched v_namesTouched v_open v_image_classes v_p1_classes v_image_values v_p1_values v_image_names v_p1_names) (cw_Batch_startFrom G a_t a_image a_p1 a_image_classes a_p1_classes a_image_values a_p1_values a_image_names a_p1_names o.1 o.2.1 o.2.2.1 o.2.2.2.1 o.2.2.2.2.1 v_p1_classes o.2.2.2.2.2.1 v_p1_values o.2.2.2.2.2.2 v_p1_names) [.ref a_t, .ref a_p1, .long p2] sz := by
  refine ob_of (cc := bc_Batch_startFrom) (maxL := 4) (ret := none) (Qc := ObQv D (obT G) (cw_Batch_startFrom G a_t a_image a_p1 a_image_classes a_p1_classes a_image_values a_p1_values a_image_names a_p1_names o.1 o.2.1 o.2.2.1 o.2.2.2.1 o.2.2.2.2.1 v_p1_classes o.2.2.2.2.2.1 v_p1_values o.2.2.2.2.2.2 v_p1_names)) (by decide) rfl (Nat.le_of_ble_eq_true rfl) ?_
  intro p e s m below meth c A ls H locs hx hb hr hml hts hown hlk hnm hZ hP hK hD hA hS hl
  have hret : ∀ (o' : Int64 × Int64 × Int32 × Int32 × (Nat → Int32) × (Nat → Int64) × (Nat → Int32)) (H : Heap) (locs : List Loc) (pc : Nat) (ls : Array Slot), some o' = some o → va_P D vwCl (cw_Batch_startFrom G a_t a_image a_p1 a_image_classes a_p1_classes a_image_values a_p1_values a_image_names a_p1_names o'.1 o'.2.1 o'.2.2.1 o'.2.2.2.1 o'.2.2.2.2.1 v_p1_classes o'.2.2.2.2.2.1 v_p1_values o'.2.2.2.2.2.2 v_p1_names) H → va_D A (cw_Batch_startFrom G a_t a_image a_p1 a_image_classes a_p1_classes a_image_values a_p1_values a_image_names a_p1_names o'.1 o'.2.1 o'.2.2.1 o'.2.2.2.1 o'.2.2.2.2.1 v_p1_classes o'.2.2.2.2.2.1 v_p1_values o'.2.2.2.2.2.2 v_p1_names) → va_S A s.heap H locs → decode bc_Batch_startFrom pc = .ok (.return_, 1) → W p l e { frames := 2, cells := 0, slots := 0, locals := 93 } s m ([.ref a_t, .ref a_p1, .long p2] : List Value).toArray below meth c H locs 0 0 (MQ below (ObQv D (obT G) (cw_Batch_startFrom G a_t a_image a_p1 a_image_classes a_p1_classes a_image_values a_p1_values a_image_names a_p1_names o.1 o.2.1 o.2.2.1 o.2.2.2.1 o.2.2.2.2.1 v_p1_classes o.2.2.2.2.2.1 v_p1_values o.2.2.2.2.2.2 v_p1_names) A) ([.ref a_t, .ref a_p1, .long p2] : List Value).toArray s 0 0 A) (F0 m pc ls []) := by
    intro o' H locs pc ls he hP hD hS hd
    obtain rfl := Option.some.inj he
    exact ob_vret hx hb hr hlk hK hP hD hS hd
  generalize MQ below (ObQv D (obT G) (cw_Batch_startFrom G a_t a_image a_p1 a_image_classes a_p1_classes a_image_values a_p1_values a_image_names a_p1_names o.1 o.2.1 o.2.2.1 o.2.2.2.1 o.2.2.2.2.1 v_p1_classes o.2.2.2.2.2.1 v_p1_values o.2.2.2.2.2.2 v_p1_names) A) ([.ref a_t, .ref a_p1, .long p2] : List Value).toArray s 0 0 A = Q at hret ⊢
  have hl : lv_has ls 4 [(0, .ref a_t), (1, .ref a_p1), (2, .long p2)] := hl
  unfold f_Batch_startFrom at hf
  refine lv_aload_n hx hb d_Batch_startFrom_0 rfl (lv_at hl 0 rfl) ?_
  refine va_get (D := D) (ci := 5) (v := .ref a_image) (C := "ObjectBase$Batch") (T := TC_Batch) (N := 5) hx hb hts inC_Batch hown hK hP 0 rfl rfl 0 (by decide) (hts _ tw131) (fun _ h9 => h9) rfl d_Batch_startFrom_1 ?_
  refine lv_aload_n hx hb d_Batch_startFrom_4 rfl (lv_at hl 1 rfl) ?_
  obtain ⟨o5, ho5, hf⟩ := ob_b hf
  refine ob_callv (w2 := (cw_Batch_startFrom G a_t a_image a_p1 a_image_classes a_p1_classes a_image_values a_p1_values a_image_names a_p1_names v_known v_touched v_namesTouched v_open o5.1 v_p1_classes o5.2.1 v_p1_values o5.2.2 v_p1_names)) (va_runV (As := [.ref a_p1]) (rest := []) ⟨hx, hb, hml, hown, hts⟩ (c_Image_copyFrom l D G a_p1 a_image a_image_classes a_p1_classes a_image_values a_p1_values a_image_names a_p1_names v_image_classes v_p1_classes v_image_values v_p1_values v_image_names v_p1_names o5 ho5 H.size) (cwV 1 hts (gV tw339 tw340 tw341 tw5 tw342) rfl rfl rfl (by decide +kernel) ⟨Nat.le_of_ble_eq_true rfl, Nat.le_of_ble_eq_true rfl⟩) (ob_preV (q0 := 1) (ci := 4) hZ hK hP hD [2, 1, 3, 4, 5, 6, 7, 8] rfl rfl rfl rfl rfl) rfl rfl hl.1 rfl (lv_room (Nat.le_of_ble_eq_true rfl)) d_Batch_startFrom_5 ⟨Nat.le_refl _, Nat.le_refl _⟩) hP hD hA hS [2, 1, 3, 4, 5, 6, 7, 8] rfl rfl rfl rfl (fun H locs hP hD hS => ?_)
  refine lv_aload_n hx hb d_Batch_startFrom_8 rfl (lv_at hl 0 rfl) ?_
  refine lv_lload_n hx hb d_Batch_startFrom_9 rfl (lv_at hl 2 rfl) ?_
  refine va_put (D := D) (ci := 5) (v := .long p2) (ty := .long) (C := "ObjectBase$Batch") (T := TC_Batch) (N := 5) hx hb hts inC_Batch tyC_Batch tyC_Batch_ok nmC_Batch hown hK hP hD hS 0 rfl rfl 1 (by decide) (hts _ tw133) (fun _ h9 => h9) rfl (by decide +kernel) rfl rfl (Nat.le_of_ble_eq_true rfl) d_Batch_startFrom_10 (fun H locs hP hD hS => ?_)
  have hP : va_P D vwCl (cw_Batch_startFrom G a_t a_image a_p1 a_image_classes a_p1_classes a_image_values a_p1_values a_image_names a_p1_names p2 v_touched v_namesTouched v_open o5.1 v_p1_classes o5.2.1 v_p1_values o5.2.2 v_p1_names) H := hP
  have hD : va_D A (cw_Batch_startFrom G a_t a_image a_p1 a_image_classes a_p1_classes a_image_values a_p1_values a_image_names a_p1_names p2 v_touched v_namesTouched v_open o5.1 v_p1_classes o5.2.1 v_p1_values o5.2.2 v_p1_names) := hD
  refine lv_aload_n hx hb d_Batch_startFrom_13 rfl (lv_at hl 0 rfl) ?_
  refine lv_lconst (v := 0) hx hb d_Batch_startFrom_14 (by decide) ?_
  refine va_put (D := D) (ci := 5) (v := .long 0) (ty := .long) (C := "ObjectBase$Batch") (T := TC_Batch) (N := 5) hx hb hts inC_Batch tyC_Batch tyC_Batch_ok nmC_Batch hown hK hP hD hS 0 rfl rfl 2 (by decide) (hts _ tw135) (fun _ h9 => h9) rfl (by decide +kernel) rfl rfl (Nat.le_of_ble_eq_true rfl) d_Batch_startFrom_15 (fun H locs hP hD hS => ?_)
  have hP : va_P D vwCl (cw_Batch_startFrom G a_t a_image a_p1 a_image_classes a_p1_classes a_image_values a_p1_values a_image_names a_p1_names p2 0 v_namesTouched v_open o5.1 v_p1_classes o5.2.1 v_p1_values o5.2.2 v_p1_names) H := hP
  have hD : va_D A (cw_Batch_startFrom G a_t a_image a_p1 a_image_classes a_p1_classes a_image_values a_p1_values a_image_names a_p1_names p2 0 v_namesTouched v_open o5.1 v_p1_classes o5.2.1 v_p1_values o5.2.2 v_p1_names) := hD
  refine lv_aload_n hx hb d_Batch_startFrom_18 rfl (lv_at hl 0 rfl) ?_
  refine lv_iconst (v := 0) hx hb d_Batch_startFrom_19 (by decide) ?_
  refine va_put (D := D) (ci := 5) (v := .int 0) (ty := .boolean) (C := "ObjectBase$Batch") (T := TC_Batch) (N := 5) hx hb hts inC_Batch tyC_Batch tyC_Batch_ok nmC_Batch hown hK hP hD hS 0 rfl rfl 3 (by decide) (hts _ tw136) (fun _ h9 => h9) rfl (by decide +kernel) rfl rfl (Nat.le_of_ble_eq_true rfl) d_Batch_startFrom_20 (fun H locs hP hD hS => ?_)
  have hP : va_P D vwCl (cw_Batch_startFrom G a_t a_image a_p1 a_image_classes a_p1_classes a_image_values a_p1_values a_image_names a_p1_names p2 0 0 v_open o5.1 v_p1_classes o5.2.1 v_p1_values o5.2.2 v_p1_names) H := hP
  have hD : va_D A (cw_Batch_startFrom G a_t a_image a_p1 a_image_classes a_p1_classes a_image_values a_p1_values a_image_names a_p1_names p2 0 0 v_open o5.1 v_p1_classes o5.2.1 v_p1_values o5.2.2 v_p1_names) := hD
  refine lv_aload_n hx hb d_Batch_startFrom_23 rfl (lv_at hl 0 rfl) ?_
  refine lv_iconst (v := 1) hx hb d_Batch_startFrom_24 (by decide) ?_
  refine va_put (D := D) (ci := 5) (v := .int 1) (ty := .boolean) (C := "ObjectBase$Batch") (T := TC_Batch) (N := 5) hx hb hts inC_Batch tyC_Batch tyC_Batch_ok nmC_Batch hown hK hP hD hS 0 rfl rfl 4 (by decide) (hts _ tw137) (fun _ h9 => h9) rfl (by decide +kernel) rfl rfl (Nat.le_of_ble_eq_true rfl) d_Batch_startFrom_25 (fun H locs hP hD hS => ?_)
  have hP : va_P D vwCl (cw_Batch_startFrom G a_t a_image a_p1 a_image_classes a_p1_classes a_image_values a_p1_values a_image_names a_p1_names p2 0 0 1 o5.1 v_p1_classes o5.2.1 v_p1_values o5.2.2 v_p1_names) H := hP
  have hD : va_D A (cw_Batch_startFrom G a_t a_image a_p1 a_image_classes a_p1_classes a_image_values a_p1_values a_image_names a_p1_names p2 0 0 1 o5.1 v_p1_classes o5.2.1 v_p1_values o5.2.2 v_p1_names) := hD
  exact hret (p2, 0, 0, 1, o5.1, o5.2.1, o5.2.2) H locs _ ls hf hP hD hS d_Batch_startFrom_28
abbrev bc_Batch_addObject : ByteArray := prog_3_method_3_code
abbrev y_Batch_addObject : MethodName := ⟨"ObjectBase$Batch", "addObject", "(II)V"⟩
def ws_Batch_addObject : List Cond := .code y_Batch_addObject bc_Batch_addObject 3 none :: obW
theorem d_Batch_addObject_0 : decode bc_Batch_addObject 0 = .ok (.aload_n 0, 1) := by decide +kernel
theorem d_Batch_addObject_1 : decode bc_Batch_addObject 1 = .ok (.getfield 12, 3) := by decide +kernel
theorem d_Batch_addObject_4 : decode bc_Batch_addObject 4 = .ok (.getfield 36, 3) := by decide +kernel
theorem d_Batch_addObject_7 : decode bc_Batch_addObject 7 = .ok (.iload_n 1, 1) := by decide +kernel
theorem d_Batch_addObject_8 : decode bc_Batch_addObject 8 = .ok (.iload_n 2, 1) := by decide +kernel
theorem d_Batch_addObject_9 : decode bc_Batch_addObject 9 = .ok (.iastore, 1) := by decide +kernel
theorem d_Batch_addObject_10 : decode bc_Batch_addObject 10 = .ok (.aload_n 0, 1) := by decide +kernel
theorem d_Batch_addObject_11 : decode bc_Batch_addObject 11 = .ok (.dup, 1) := by decide +kernel
theorem d_Batch_addObject_12 : decode bc_Batch_addObject 12 = .ok (.getfield 22, 3) := by decide +kernel
theorem d_Batch_addObject_15 : decode bc_Batch_addObject 15 = .ok (.iload_n 1, 1) := by decide +kernel
theorem d_Batch_addObject_16 : decode bc_Batch_addObject 16 = .ok (.invokestatic 40, 3) := by decide +kernel
theorem d_Batch_addObject_19 : decode bc_Batch_addObject 19 = .ok (.lor, 1) := by decide +kernel
theorem d_Batch_addObject_20 : decode bc_Batch_addObject 20 = .ok (.putfield 22, 3) := by decide +kernel
theorem d_Batch_addObject_23 : decode bc_Batch_addObject 23 = .ok (.aload_n 0, 1) := by decide +kernel
theorem d_Batch_addObject_24 : decode bc_Batch_addObject 24 = .ok (.dup, 1) := by decide +kernel
theorem d_Batch_addObject_25 : decode bc_Batch_addObject 25 = .ok (.getfield 26, 3) := by decide +kernel
theorem d_Batch_addObject_28 : decode bc_Batch_addObject 28 = .ok (.iload_n 1, 1) := by decide +kernel
theorem d_Batch_addObject_29 : decode bc_Batch_addObject 29 = .ok (.invokestatic 40, 3) := by decide +kernel
theorem d_Batch_addObject_32 : decode bc_Batch_addObject 32 = .ok (.lor, 1) := by decide +kernel
theorem d_Batch_addObject_33 : decode bc_Batch_addObject 33 = .ok (.putfield 26, 3) := by decide +kernel
theorem d_Batch_addObject_36 : decode bc_Batch_addObject 36 = .ok (.return_, 1) := by decide +kernel
def cw_Batch_addObject (G : Nat → ClassId) (a_t a_image a_image_classes a_image_values a_image_names : Nat) (v_known : Int64) (v_touched : Int64) (v_namesTouched : Int32) (v_open : Int32) (v_image_classes : Nat → Int32) : va_W := [(a_t, .inr (5, [.ref a_image, .long v_known, .long v_touched, .int v_namesTouched, .int v_open])), (a_image, .inr (4, [.ref a_image_classes, .ref a_image_values, .ref a_image_names])), (a_image_classes, .inl (G 0, 63, .inl v_image_classes))]
def f_Batch_addObject (v_known : Int64) (v_touched : Int64) (v_image_classes : Nat → Int32) (p1 : Int32) (p2 : Int32) : Option (Int64 × Int64 × (Nat → Int32)) := ob_iv p1 63 ((f_OB_setOf p1).bind fun o16 => ((f_OB_setOf p1).bind fun o29 => (some (v_known ||| o16, v_touched ||| o29, upd v_image_classes p1.toNatClampNeg p2))))
set_option maxHeartbeats 4000000 in
set_option maxRecDepth 100000 in
theorem c_Batch_addObject (l : Launch) (D : va_G) (G : Nat → ClassId) (a_t a_image a_image_classes a_image_values a_image_names : Nat) (v_known : Int64) (v_touched : Int64) (v_namesTouched : Int32) (v_open : Int32) (v_image_classes : Nat → Int32) (p1 : Int32) (p2 : Int32) (o : Int64 × Int64 × (Nat → Int32)) (hf : f_Batch_addObject v_known v_touched v_image_classes p1 p2 = some o) (sz : Nat) : MetV l y_Batch_addObject ws_Batch_addObject ({ frames := 1, cells := 0, slots := 0, locals := 20 }) D (obT G) (cw_Batch_addObject G a_t a_image a_image_classes a_image_values a_image_names v_known v_touched v_namesTouched v_open v_image_classes) (cw_Batch_addObject G a_t a_image a_image_classes a_image_values a_image_names o.1 o.2.1 v_namesTouched v_open o.2.2) [.ref a_t, .int p1, .int p2] sz := by
  refine ob_of (cc := bc_Batch_addObject) (maxL := 3) (ret := none) (Qc := ObQv D (obT G) (cw_Batch_addObject G a_t a_image a_image_classes a_image_values a_image_names o.1 o.2.1 v_namesTouched v_open o.2.2)) (by decide) rfl (Nat.le_of_ble_eq_true rfl) ?_
  intro p e s m below meth c A ls H locs hx hb hr hml hts hown hlk hnm hZ hP hK hD hA hS hl
  have hret : ∀ (o' : Int64 × Int64 × (Nat → Int32)) (H : Heap) (locs : List Loc) (pc : Nat) (ls : Array Slot), some o' = some o → va_P D vwCl (cw_Batch_addObject G a_t a_image a_image_classes a_image_values a_image_names o'.1 o'.2.1 v_namesTouched v_open o'.2.2) H → va_D A (cw_Batch_addObject G a_t a_image a_image_classes a_image_values a_image_names o'.1 o'.2.1 v_namesTouched v_open o'.2.2) → va_S A s.heap H locs → decode bc_Batch_addObject pc = .ok (.return_, 1) → W p l e { frames := 1, cells := 0, slots := 0, locals := 20 } s m ([.ref a_t, .int p1, .int p2] : List Value).toArray below meth c H locs 0 0 (MQ below (ObQv D (obT G) (cw_Batch_addObject G a_t a_image a_image_classes a_image_values a_image_names o.1 o.2.1 v_namesTouched v_open o.2.2) A) ([.ref a_t, .int p1, .int p2] : List Value).toArray s 0 0 A) (F0 m pc ls []) := by
    intro o' H locs pc ls he hP hD hS hd
    obtain rfl := Option.some.inj he
    exact ob_vret hx hb hr hlk hK hP hD hS hd
  generalize MQ below (ObQv D (obT G) (cw_Batch_addObject G a_t a_image a_image_classes a_image_values a_image_names o.1 o.2.1 v_namesTouched v_open o.2.2) A) ([.ref a_t, .int p1, .int p2] : List Value).toArray s 0 0 A = Q at hret ⊢
  have hl : lv_has ls 3 [(0, .ref a_t), (1, .int p1), (2, .int p2)] := hl
  unfold f_Batch_addObject at hf
  refine lv_aload_n hx hb d_Batch_addObject_0 rfl (lv_at hl 0 rfl) ?_
  refine va_get (D := D) (ci := 5) (v := .ref a_image) (C := "ObjectBase$Batch") (T := TC_Batch) (N := 5) hx hb hts inC_Batch hown hK hP 0 rfl rfl 0 (by decide) (hts _ tw131) (fun _ h9 => h9) rfl d_Batch_addObject_1 ?_
  refine va_get (D := D) (ci := 4) (v := .ref a_image_classes) (C := "ObjectBase$Image") (T := TC_Image) (N := 3) hx hb hts inC_Image hown hK hP 1 rfl rfl 0 (by decide) (hts _ tw109) (fun _ h9 => h9) rfl d_Batch_addObject_4 ?_
  refine lv_iload_n hx hb d_Batch_addObject_7 rfl (lv_at hl 1 rfl) ?_
  refine lv_iload_n hx hb d_Batch_addObject_8 rfl (lv_at hl 2 rfl) ?_
  obtain ⟨hg9, hf⟩ := ob_iv_g hf
  refine va_iast hx hb hK hP hD hS 2 0 rfl rfl hg9 d_Batch_addObject_9 (fun H locs hP hD hS => ?_)
  have hP : va_P D vwCl (cw_Batch_addObject G a_t a_image a_image_classes a_image_values a_image_names v_known v_touched v_namesTouched v_open (upd v_image_classes p1.toNatClampNeg p2)) H := hP
  have hD : va_D A (cw_Batch_addObject G a_t a_image a_image_classes a_image_values a_image_names v_known v_touched v_namesTouched v_open (upd v_image_classes p1.toNatClampNeg p2)) := hD
  refine lv_aload_n hx hb d_Batch_addObject_10 rfl (lv_at hl 0 rfl) ?_
  refine lv_dup hx hb d_Batch_addObject_11 rfl ?_
  refine va_get (D := D) (ci := 5) (v := .long v_known) (C := "ObjectBase$Batch") (T := TC_Batch) (N := 5) hx hb hts inC_Batch hown hK hP 0 rfl rfl 1 (by decide) (hts _ tw133) (fun _ h9 => h9) rfl d_Batch_addObject_12 ?_
  refine lv_iload_n hx hb d_Batch_addObject_15 rfl (lv_at hl 1 rfl) ?_
  obtain ⟨o16, ho16, hf⟩ := ob_b hf
  refine ob_calll (w2 := (cw_Batch_addObject G a_t a_image a_image_classes a_image_values a_image_names v_known v_touched v_namesTouched v_open (upd v_image_classes p1.toNatClampNeg p2))) (va_runSN (As := [.int p1]) (rest := [.long v_known, .ref a_t]) ⟨hx, hb, hml, hown, hts⟩ (c_OB_setOf l D G  p1 o16 ho16 H.size) ⟨va_cnB 1 hts (gN tw322) rfl rfl rfl (hZ.2 _ _ _ _ tw354) (hts _ tw1) (by decide +kernel) ⟨Nat.le_of_ble_eq_true rfl, Nat.le_of_ble_eq_true rfl⟩, hts _ tw321, trivial⟩ (ob_preS hZ hK hP hD [] rfl rfl) rfl rfl hl.1 rfl (lv_room (Nat.le_of_ble_eq_true rfl)) d_Batch_addObject_16 ⟨Nat.le_refl _, Nat.le_refl _⟩) hP hD hA hS [] rfl rfl rfl rfl (fun H locs hP hD hS => ?_)
  refine lv_lor hx hb d_Batch_addObject_19 ?_
  refine va_put (D := D) (ci := 5) (v := .long (v_known ||| o16)) (ty := .long) (C := "ObjectBase$Batch") (T := TC_Batch) (N := 5) hx hb hts inC_Batch tyC_Batch tyC_Batch_ok nmC_Batch hown hK hP hD hS 0 rfl rfl 1 (by decide) (hts _ tw133) (fun _ h9 => h9) rfl (by decide +kernel) rfl rfl (Nat.le_of_ble_eq_true rfl) d_Batch_addObject_20 (fun H locs hP hD hS => ?_)
  have hP : va_P D vwCl (cw_Batch_addObject G a_t a_image a_image_classes a_image_values a_image_names (v_known ||| o16) v_touched v_namesTouched v_open (upd v_image_classes p1.toNatClampNeg p2)) H := hP
  have hD : va_D A (cw_Batch_addObject G a_t a_image a_image_classes a_image_values a_image_names (v_known ||| o16) v_touched v_namesTouched v_open (upd v_image_classes p1.toNatClampNeg p2)) := hD
  refine lv_aload_n hx hb d_Batch_addObject_23 rfl (lv_at hl 0 rfl) ?_
  refine lv_dup hx hb d_Batch_addObject_24 rfl ?_
  refine va_get (D := D) (ci := 5) (v := .long v_touched) (C := "ObjectBase$Batch") (T := TC_Batch) (N := 5) hx hb hts inC_Batch hown hK hP 0 rfl rfl 2 (by decide) (hts _ tw135) (fun _ h9 => h9) rfl d_Batch_addObject_25 ?_
  refine lv_iload_n hx hb d_Batch_addObject_28 rfl (lv_at hl 1 rfl) ?_
  obtain ⟨o29, ho29, hf⟩ := ob_b hf
  refine ob_calll (w2 := (cw_Batch_addObject G a_t a_image a_image_classes a_image_values a_image_names (v_known ||| o16) v_touched v_namesTouched v_open (upd v_image_classes p1.toNatClampNeg p2))) (va_runSN (As := [.int p1]) (rest := [.long v_touched, .ref a_t]) ⟨hx, hb, hml, hown, hts⟩ (c_OB_setOf l D G  p1 o29 ho29 H.size) ⟨va_cnB 1 hts (gN tw322) rfl rfl rfl (hZ.2 _ _ _ _ tw354) (hts _ tw1) (by decide +kernel) ⟨Nat.le_of_ble_eq_true rfl, Nat.le_of_ble_eq_true rfl⟩, hts _ tw321, trivial⟩ (ob_preS hZ hK hP hD [] rfl rfl) rfl rfl hl.1 rfl (lv_room (Nat.le_of_ble_eq_true rfl)) d_Batch_addObject_29 ⟨Nat.le_refl _, Nat.le_refl _⟩) hP hD hA hS [] rfl rfl rfl rfl (fun H locs hP hD hS => ?_)
  refine lv_lor hx hb d_Batch_addObject_32 ?_
  refine va_put (D := D) (ci := 5) (v := .long (v_touched ||| o29)) (ty := .long) (C := "ObjectBase$Batch") (T := TC_Batch) (N := 5) hx hb hts inC_Batch tyC_Batch tyC_Batch_ok nmC_Batch hown hK hP hD hS 0 rfl rfl 2 (by decide) (hts _ tw135) (fun _ h9 => h9) rfl (by decide +kernel) rfl rfl (Nat.le_of_ble_eq_true rfl) d_Batch_addObject_33 (fun H locs hP hD hS => ?_)
  have hP : va_P D vwCl (cw_Batch_addObject G a_t a_image a_image_classes a_image_values a_image_names (v_known ||| o16) (v_touched ||| o29) v_namesTouched v_open (upd v_image_classes p1.toNatClampNeg p2)) H := hP
  have hD : va_D A (cw_Batch_addObject G a_t a_image a_image_classes a_image_values a_image_names (v_known ||| o16) (v_touched ||| o29) v_namesTouched v_open (upd v_image_classes p1.toNatClampNeg p2)) := hD
  exact hret (v_known ||| o16, v_touched ||| o29, upd v_image_classes p1.toNatClampNeg p2) H locs _ ls hf hP hD hS d_Batch_addObject_36
abbrev bc_Batch_setValue : ByteArray := prog_3_method_4_code
abbrev y_Batch_setValue : MethodName := ⟨"ObjectBase$Batch", "setValue", "(IIJ)V"⟩
def ws_Batch_setValue : List Cond := .code y_Batch_setValue bc_Batch_setValue 5 none :: obW
theorem d_Batch_setValue_0 : decode bc_Batch_setValue 0 = .ok (.aload_n 0, 1) := by decide +kernel
theorem d_Batch_setValue_1 : decode bc_Batch_setValue 1 = .ok (.getfield 12, 3) := by decide +kernel
theorem d_Batch_setValue_4 : decode bc_Batch_setValue 4 = .ok (.getfield 44, 3) := by decide +kernel
theorem d_Batch_setValue_7 : decode bc_Batch_setValue 7 = .ok (.iload_n 1, 1) := by decide +kernel
theorem d_Batch_setValue_8 : decode bc_Batch_setValue 8 = .ok (.bipush 8, 2) := by decide +kernel
theorem d_Batch_setValue_10 : decode bc_Batch_setValue 10 = .ok (.imul, 1) := by decide +kernel
theorem d_Batch_setValue_11 : decode bc_Batch_setValue 11 = .ok (.iload_n 2, 1) := by decide +kernel
theorem d_Batch_setValue_12 : decode bc_Batch_setValue 12 = .ok (.iadd, 1) := by decide +kernel
theorem d_Batch_setValue_13 : decode bc_Batch_setValue 13 = .ok (.lload_n 3, 1) := by decide +kernel
theorem d_Batch_setValue_14 : decode bc_Batch_setValue 14 = .ok (.lastore, 1) := by decide +kernel
theorem d_Batch_setValue_15 : decode bc_Batch_setValue 15 = .ok (.aload_n 0, 1) := by decide +kernel
theorem d_Batch_setValue_16 : decode bc_Batch_setValue 16 = .ok (.dup, 1) := by decide +kernel
theorem d_Batch_setValue_17 : decode bc_Batch_setValue 17 = .ok (.getfield 26, 3) := by decide +kernel
theorem d_Batch_setValue_20 : decode bc_Batch_setValue 20 = .ok (.iload_n 1, 1) := by decide +kernel
theorem d_Batch_setValue_21 : decode bc_Batch_setValue 21 = .ok (.invokestatic 40, 3) := by decide +kernel
theorem d_Batch_setValue_24 : decode bc_Batch_setValue 24 = .ok (.lor, 1) := by decide +kernel
theorem d_Batch_setValue_25 : decode bc_Batch_setValue 25 = .ok (.putfield 26, 3) := by decide +kernel
theorem d_Batch_setValue_28 : decode bc_Batch_setValue 28 = .ok (.return_, 1) := by decide +kernel
def cw_Batch_setValue (G : Nat → ClassId) (a_t a_image a_image_values a_image_classes a_image_names : Nat) (v_known : Int64) (v_touched : Int64) (v_namesTouched : Int32) (v_open : Int32) (v_image_values : Nat → Int64) : va_W := [(a_t, .inr (5, [.ref a_image, .long v_known, .long v_touched, .int v_namesTouched, .int v_open])), (a_image, .inr (4, [.ref a_image_classes, .ref a_image_values, .ref a_image_names])), (a_image_values, .inl (G 1, 504, .inr (.inl v_image_values)))]
def f_Batch_setValue (v_touched : Int64) (v_image_values : Nat → Int64) (p1 : Int32) (p2 : Int32) (p3 : Int64) : Option (Int64 × (Nat → Int64)) := ob_iv ((p1 * 8) + p2) 504 ((f_OB_setOf p1).bind fun o21 => (some (v_touched ||| o21, vp_updL v_image_values ((p1 * 8) + p2).toNatClampNeg p3)))
set_option maxHeartbeats 4000000 in
set_option maxRecDepth 100000 in
theorem c_Batch_setValue (l : Launch) (D : va_G) (G : Nat → ClassId) (a_t a_image a_image_values a_image_classes a_image_names : Nat) (v_known : Int64) (v_touched : Int64) (v_namesTouched : Int32) (v_open : Int32) (v_image_values : Nat → Int64) (p1 : Int32) (p2 : Int32) (p3 : Int64) (o : Int64 × (Nat → Int64)) (hf : f_Batch_setValue v_touched v_image_values p1 p2 p3 = some o) (sz : Nat) : MetV l y_Batch_setValue ws_Batch_setValue ({ frames := 1, cells := 0, slots := 0, locals := 20 }) D (obT G) (cw_Batch_setValue G a_t a_image a_image_values a_image_classes a_image_names v_known v_touched v_namesTouched v_open v_image_values) (cw_Batch_setValue G a_t a_image a_image_values a_image_classes a_image_names v_known o.1 v_namesTouched v_open o.2) [.ref a_t, .int p1, .int p2, .long p3] sz := by
  refine ob_of (cc := bc_Batch_setValue) (maxL := 5) (ret := none) (Qc := ObQv D (obT G) (cw_Batch_setValue G a_t a_image a_image_values a_image_classes a_image_names v_known o.1 v_namesTouched v_open o.2)) (by decide) rfl (Nat.le_of_ble_eq_true rfl) ?_
  intro p e s m below meth c A ls H locs hx hb hr hml hts hown hlk hnm hZ hP hK hD hA hS hl
  have hret : ∀ (o' : Int64 × (Nat → Int64)) (H : Heap) (locs : List Loc) (pc : Nat) (ls : Array Slot), some o' = some o → va_P D vwCl (cw_Batch_setValue G a_t a_image a_image_values a_image_classes a_image_names v_known o'.1 v_namesTouched v_open o'.2) H → va_D A (cw_Batch_setValue G a_t a_image a_image_values a_image_classes a_image_names v_known o'.1 v_namesTouched v_open o'.2) → va_S A s.heap H locs → decode bc_Batch_setValue pc = .ok (.return_, 1) → W p l e { frames := 1, cells := 0, slots := 0, locals := 20 } s m ([.ref a_t, .int p1, .int p2, .long p3] : List Value).toArray below meth c H locs 0 0 (MQ below (ObQv D (obT G) (cw_Batch_setValue G a_t a_image a_image_values a_image_classes a_image_names v_known o.1 v_namesTouched v_open o.2) A) ([.ref a_t, .int p1, .int p2, .long p3] : List Value).toArray s 0 0 A) (F0 m pc ls []) := by
    intro o' H locs pc ls he hP hD hS hd
    obtain rfl := Option.some.inj he
    exact ob_vret hx hb hr hlk hK hP hD hS hd
  generalize MQ below (ObQv D (obT G) (cw_Batch_setValue G a_t a_image a_image_values a_image_classes a_image_names v_known o.1 v_namesTouched v_open o.2) A) ([.ref a_t, .int p1, .int p2, .long p3] : List Value).toArray s 0 0 A = Q at hret ⊢
  have hl : lv_has ls 5 [(0, .ref a_t), (1, .int p1), (2, .int p2), (3, .long p3)] := hl
  unfold f_Batch_setValue at hf
  refine lv_aload_n hx hb d_Batch_setValue_0 rfl (lv_at hl 0 rfl) ?_
  refine va_get (D := D) (ci := 5) (v := .ref a_image) (C := "ObjectBase$Batch") (T := TC_Batch) (N := 5) hx hb hts inC_Batch hown hK hP 0 rfl rfl 0 (by decide) (hts _ tw131) (fun _ h9 => h9) rfl d_Batch_setValue_1 ?_
  refine va_get (D := D) (ci := 4) (v := .ref a_image_values) (C := "ObjectBase$Image") (T := TC_Image) (N := 3) hx hb hts inC_Image hown hK hP 1 rfl rfl 1 (by decide) (hts _ tw111) (fun _ h9 => h9) rfl d_Batch_setValue_4 ?_
  refine lv_iload_n hx hb d_Batch_setValue_7 rfl (lv_at hl 1 rfl) ?_
  refine lv_bipush (v := 8) hx hb d_Batch_setValue_8 (by decide) ?_
  refine lv_imul hx hb d_Batch_setValue_10 ?_
  refine lv_iload_n hx hb d_Batch_setValue_11 rfl (lv_at hl 2 rfl) ?_
  refine lv_iadd hx hb d_Batch_setValue_12 ?_
  refine lv_lload_n hx hb d_Batch_setValue_13 rfl (lv_at hl 3 rfl) ?_
  obtain ⟨hg14, hf⟩ := ob_iv_g hf
  refine va_last hx hb hK hP hD hS 2 1 rfl rfl hg14 d_Batch_setValue_14 (fun H locs hP hD hS => ?_)
  have hP : va_P D vwCl (cw_Batch_setValue G a_t a_image a_image_values a_image_classes a_image_names v_known v_touched v_namesTouched v_open (vp_updL v_image_values ((p1 * 8) + p2).toNatClampNeg p3)) H := hP
  have hD : va_D A (cw_Batch_setValue G a_t a_image a_image_values a_image_classes a_image_names v_known v_touched v_namesTouched v_open (vp_updL v_image_values ((p1 * 8) + p2).toNatClampNeg p3)) := hD
  refine lv_aload_n hx hb d_Batch_setValue_15 rfl (lv_at hl 0 rfl) ?_
  refine lv_dup hx hb d_Batch_setValue_16 rfl ?_
  refine va_get (D := D) (ci := 5) (v := .long v_touched) (C := "ObjectBase$Batch") (T := TC_Batch) (N := 5) hx hb hts inC_Batch hown hK hP 0 rfl rfl 2 (by decide) (hts _ tw135) (fun _ h9 => h9) rfl d_Batch_setValue_17 ?_
  refine lv_iload_n hx hb d_Batch_setValue_20 rfl (lv_at hl 1 rfl) ?_
  obtain ⟨o21, ho21, hf⟩ := ob_b hf
  refine ob_calll (w2 := (cw_Batch_setValue G a_t a_image a_image_values a_image_classes a_image_names v_known v_touched v_namesTouched v_open (vp_updL v_image_values ((p1 * 8) + p2).toNatClampNeg p3))) (va_runSN (As := [.int p1]) (rest := [.long v_touched, .ref a_t]) ⟨hx, hb, hml, hown, hts⟩ (c_OB_setOf l D G  p1 o21 ho21 H.size) ⟨va_cnB 1 hts (gN tw322) rfl rfl rfl (hZ.2 _ _ _ _ tw354) (hts _ tw1) (by decide +kernel) ⟨Nat.le_of_ble_eq_true rfl, Nat.le_of_ble_eq_true rfl⟩, hts _ tw321, trivial⟩ (ob_preS hZ hK hP hD [] rfl rfl) rfl rfl hl.1 rfl (lv_room (Nat.le_of_ble_eq_true rfl)) d_Batch_setValue_21 ⟨Nat.le_refl _, Nat.le_refl _⟩) hP hD hA hS [] rfl rfl rfl rfl (fun H locs hP hD hS => ?_)
  refine lv_lor hx hb d_Batch_setValue_24 ?_
  refine va_put (D := D) (ci := 5) (v := .long (v_touched ||| o21)) (ty := .long) (C := "ObjectBase$Batch") (T := TC_Batch) (N := 5) hx hb hts inC_Batch tyC_Batch tyC_Batch_ok nmC_Batch hown hK hP hD hS 0 rfl rfl 2 (by decide) (hts _ tw135) (fun _ h9 => h9) rfl (by decide +kernel) rfl rfl (Nat.le_of_ble_eq_true rfl) d_Batch_setValue_25 (fun H locs hP hD hS => ?_)
  have hP : va_P D vwCl (cw_Batch_setValue G a_t a_image a_image_values a_image_classes a_image_names v_known (v_touched ||| o21) v_namesTouched v_open (vp_updL v_image_values ((p1 * 8) + p2).toNatClampNeg p3)) H := hP
  have hD : va_D A (cw_Batch_setValue G a_t a_image a_image_values a_image_classes a_image_names v_known (v_touched ||| o21) v_namesTouched v_open (vp_updL v_image_values ((p1 * 8) + p2).toNatClampNeg p3)) := hD
  exact hret (v_touched ||| o21, vp_updL v_image_values ((p1 * 8) + p2).toNatClampNeg p3) H locs _ ls hf hP hD hS d_Batch_setValue_28
abbrev bc_Batch_setName : ByteArray := prog_3_method_5_code
abbrev y_Batch_setName : MethodName := ⟨"ObjectBase$Batch", "setName", "(II)V"⟩
def ws_Batch_setName : List Cond := .code y_Batch_setName bc_Batch_setName 3 none :: obW
theorem d_Batch_setName_0 : decode bc_Batch_setName 0 = .ok (.aload_n 0, 1) := by decide +kernel
theorem d_Batch_setName_1 : decode bc_Batch_setName 1 = .ok (.getfield 12, 3) := by decide +kernel
theorem d_Batch_setName_4 : decode bc_Batch_setName 4 = .ok (.getfield 48, 3) := by decide +kernel
theorem d_Batch_setName_7 : decode bc_Batch_setName 7 = .ok (.iload_n 1, 1) := by decide +kernel
theorem d_Batch_setName_8 : decode bc_Batch_setName 8 = .ok (.iload_n 2, 1) := by decide +kernel
theorem d_Batch_setName_9 : decode bc_Batch_setName 9 = .ok (.iastore, 1) := by decide +kernel
theorem d_Batch_setName_10 : decode bc_Batch_setName 10 = .ok (.aload_n 0, 1) := by decide +kernel
theorem d_Batch_setName_11 : decode bc_Batch_setName 11 = .ok (.iconst 1, 1) := by decide +kernel
theorem d_Batch_setName_12 : decode bc_Batch_setName 12 = .ok (.putfield 29, 3) := by decide +kernel
theorem d_Batch_setName_15 : decode bc_Batch_setName 15 = .ok (.return_, 1) := by decide +kernel
def cw_Batch_setName (G : Nat → ClassId) (a_t a_image a_image_names a_image_classes a_image_values : Nat) (v_known : Int64) (v_touched : Int64) (v_namesTouched : Int32) (v_open : Int32) (v_image_names : Nat → Int32) : va_W := [(a_t, .inr (5, [.ref a_image, .long v_known, .long v_touched, .int v_namesTouched, .int v_open])), (a_image, .inr (4, [.ref a_image_classes, .ref a_image_values, .ref a_image_names])), (a_image_names, .inl (G 0, 4, .inl v_image_names))]
def f_Batch_setName (v_image_names : Nat → Int32) (p1 : Int32) (p2 : Int32) : Option (Int32 × (Nat → Int32)) := ob_iv p1 4 (some (1, upd v_image_names p1.toNatClampNeg p2))
set_option maxHeartbeats 4000000 in
set_option maxRecDepth 100000 in
theorem c_Batch_setName (l : Launch) (D : va_G) (G : Nat → ClassId) (a_t a_image a_image_names a_image_classes a_image_values : Nat) (v_known : Int64) (v_touched : Int64) (v_namesTouched : Int32) (v_open : Int32) (v_image_names : Nat → Int32) (p1 : Int32) (p2 : Int32) (o : Int32 × (Nat → Int32)) (hf : f_Batch_setName v_image_names p1 p2 = some o) (sz : Nat) : MetV l y_Batch_setName ws_Batch_setName ({ frames := 0, cells := 0, slots := 0, locals := 0 }) D (obT G) (cw_Batch_setName G a_t a_image a_image_names a_image_classes a_image_values v_known v_touched v_namesTouched v_open v_image_names) (cw_Batch_setName G a_t a_image a_image_names a_image_classes a_image_values v_known v_touched o.1 v_open o.2) [.ref a_t, .int p1, .int p2] sz := by
  refine ob_of (cc := bc_Batch_setName) (maxL := 3) (ret := none) (Qc := ObQv D (obT G) (cw_Batch_setName G a_t a_image a_image_names a_image_classes a_image_values v_known v_touched o.1 v_open o.2)) (by decide) rfl (Nat.le_of_ble_eq_true rfl) ?_
  intro p e s m below meth c A ls H locs hx hb hr hml hts hown hlk hnm hZ hP hK hD hA hS hl
  have hret : ∀ (o' : Int32 × (Nat → Int32)) (H : Heap) (locs : List Loc) (pc : Nat) (ls : Array Slot), some o' = some o → va_P D vwCl (cw_Batch_setName G a_t a_image a_image_names a_image_classes a_image_values v_known v_touched o'.1 v_open o'.2) H → va_D A (cw_Batch_setName G a_t a_image a_image_names a_image_classes a_image_values v_known v_touched o'.1 v_open o'.2) → va_S A s.heap H locs → decode bc_Batch_setName pc = .ok (.return_, 1) → W p l e { frames := 0, cells := 0, slots := 0, locals := 0 } s m ([.ref a_t, .int p1, .int p2] : List Value).toArray below meth c H locs 0 0 (MQ below (ObQv D (obT G) (cw_Batch_setName G a_t a_image a_image_names a_image_classes a_image_values v_known v_touched o.1 v_open o.2) A) ([.ref a_t, .int p1, .int p2] : List Value).toArray s 0 0 A) (F0 m pc ls []) := by
    intro o' H locs pc ls he hP hD hS hd
    obtain rfl := Option.some.inj he
    exact ob_vret hx hb hr hlk hK hP hD hS hd
  generalize MQ below (ObQv D (obT G) (cw_Batch_setName G a_t a_image a_image_names a_image_classes a_image_values v_known v_touched o.1 v_open o.2) A) ([.ref a_t, .int p1, .int p2] : List Value).toArray s 0 0 A = Q at hret ⊢
  have hl : lv_has ls 3 [(0, .ref a_t), (1, .int p1), (2, .int p2)] := hl
  unfold f_Batch_setName at hf
  refine lv_aload_n hx hb d_Batch_setName_0 rfl (lv_at hl 0 rfl) ?_
  refine va_get (D := D) (ci := 5) (v := .ref a_image) (C := "ObjectBase$Batch") (T := TC_Batch) (N := 5) hx hb hts inC_Batch hown hK hP 0 rfl rfl 0 (by decide) (hts _ tw131) (fun _ h9 => h9) rfl d_Batch_setName_1 ?_
  refine va_get (D := D) (ci := 4) (v := .ref a_image_names) (C := "ObjectBase$Image") (T := TC_Image) (N := 3) hx hb hts inC_Image hown hK hP 1 rfl rfl 2 (by decide) (hts _ tw113) (fun _ h9 => h9) rfl d_Batch_setName_4 ?_
  refine lv_iload_n hx hb d_Batch_setName_7 rfl (lv_at hl 1 rfl) ?_
  refine lv_iload_n hx hb d_Batch_setName_8 rfl (lv_at hl 2 rfl) ?_
  obtain ⟨hg9, hf⟩ := ob_iv_g hf
  refine va_iast hx hb hK hP hD hS 2 0 rfl rfl hg9 d_Batch_setName_9 (fun H locs hP hD hS => ?_)
  have hP : va_P D vwCl (cw_Batch_setName G a_t a_image a_image_names a_image_classes a_image_values v_known v_touched v_namesTouched v_open (upd v_image_names p1.toNatClampNeg p2)) H := hP
  have hD : va_D A (cw_Batch_setName G a_t a_image a_image_names a_image_classes a_image_values v_known v_touched v_namesTouched v_open (upd v_image_names p1.toNatClampNeg p2)) := hD
  refine lv_aload_n hx hb d_Batch_setName_10 rfl (lv_at hl 0 rfl) ?_
  refine lv_iconst (v := 1) hx hb d_Batch_setName_11 (by decide) ?_
  refine va_put (D := D) (ci := 5) (v := .int 1) (ty := .boolean) (C := "ObjectBase$Batch") (T := TC_Batch) (N := 5) hx hb hts inC_Batch tyC_Batch tyC_Batch_ok nmC_Batch hown hK hP hD hS 0 rfl rfl 3 (by decide) (hts _ tw136) (fun _ h9 => h9) rfl (by decide +kernel) rfl rfl (Nat.le_of_ble_eq_true rfl) d_Batch_setName_12 (fun H locs hP hD hS => ?_)
  have hP : va_P D vwCl (cw_Batch_setName G a_t a_image a_image_names a_image_classes a_image_values v_known v_touched 1 v_open (upd v_image_names p1.toNatClampNeg p2)) H := hP
  have hD : va_D A (cw_Batch_setName G a_t a_image a_image_names a_image_classes a_image_values v_known v_touched 1 v_open (upd v_image_names p1.toNatClampNeg p2)) := hD
  exact hret (1, upd v_image_names p1.toNatClampNeg p2) H locs _ ls hf hP hD hS d_Batch_setName_15
abbrev bc_Batch_blockCount : ByteArray := prog_3_method_6_code
abbrev y_Batch_blockCount : MethodName := ⟨"ObjectBase$Batch", "blockCount", "()I"⟩
def ws_Batch_blockCount : List Cond := .code y_Batch_blockCount bc_Batch_blockCount 1 (some .int) :: obW
theorem d_Batch_blockCount_0 : decode bc_Batch_blockCount 0 = .ok (.aload_n 0, 1) := by decide +kernel
theorem d_Batch_blockCount_1 : decode bc_Batch_blockCount 1 = .ok (.getfield 26, 3) := by decide +kernel
theorem d_Batch_blockCount_4 : decode bc_Batch_blockCount 4 = .ok (.invokestatic 51, 3) := by decide +kernel
theorem d_Batch_blockCount_7 : decode bc_Batch_blockCount 7 = .ok (.aload_n 0, 1) := by decide +kernel
theorem d_Batch_blockCount_8 : decode bc_Batch_blockCount 8 = .ok (.getfield 29, 3) := by decide +kernel
theorem d_Batch_blockCount_11 : decode bc_Batch_blockCount 11 = .ok (.ifCond .eq 7, 3) := by decide +kernel
theorem d_Batch_blockCount_14 : decode bc_Batch_blockCount 14 = .ok (.iconst 1, 1) := by decide +kernel
theorem d_Batch_blockCount_15 : decode bc_Batch_blockCount 15 = .ok (.goto 4, 3) := by decide +kernel
theorem d_Batch_blockCount_18 : decode bc_Batch_blockCount 18 = .ok (.iconst 0, 1) := by decide +kernel
theorem d_Batch_blockCount_19 : decode bc_Batch_blockCount 19 = .ok (.iadd, 1) := by decide +kernel
theorem d_Batch_blockCount_20 : decode bc_Batch_blockCount 20 = .ok (.ireturn, 1) := by decide +kernel
def cw_Batch_blockCount (G : Nat → ClassId) (a_t a_image : Nat) (v_known : Int64) (v_touched : Int64) (v_namesTouched : Int32) (v_open : Int32) : va_W := [(a_t, .inr (5, [.ref a_image, .long v_known, .long v_touched, .int v_namesTouched, .int v_open]))]
def f_Batch_blockCount (v_touched : Int64) (v_namesTouched : Int32) : Option (Int32) := (f_Long_bitCount v_touched).bind fun o4 => (if v_namesTouched = 0 then (some (o4 + 0)) else (some (o4 + 1)))
set_option maxHeartbeats 4000000 in
set_option maxRecDepth 100000 in
theorem c_Batch_blockCount (l : Launch) (D : va_G) (G : Nat → ClassId) (a_t a_image : Nat) (v_known : Int64) (v_touched : Int64) (v_namesTouched : Int32) (v_open : Int32) (o : Int32) (hf : f_Batch_blockCount v_touched v_namesTouched = some o) (sz : Nat) : MetI l y_Batch_blockCount ws_Batch_blockCount ({ frames := 1, cells := 0, slots := 0, locals := 21 }) D (obT G) (cw_Batch_blockCount G a_t a_image v_known v_touched v_namesTouched v_open) (cw_Batch_blockCount G a_t a_image v_known v_touched v_namesTouched v_open) [.ref a_t] o sz := by
  refine ob_of (cc := bc_Batch_blockCount) (maxL := 1) (ret := (some .int)) (Qc := ObQi D (obT G) (cw_Batch_blockCount G a_t a_image v_known v_touched v_namesTouched v_open) o) (by decide) rfl (Nat.le_of_ble_eq_true rfl) ?_
  intro p e s m below meth c A ls H locs hx hb hr hml hts hown hlk hnm hZ hP hK hD hA hS hl
  have hret : ∀ (o' : Int32) (H : Heap) (locs : List Loc) (pc : Nat) (ls : Array Slot), some o' = some o → va_P D vwCl (cw_Batch_blockCount G a_t a_image v_known v_touched v_namesTouched v_open) H → va_D A (cw_Batch_blockCount G a_t a_image v_known v_touched v_namesTouched v_open) → va_S A s.heap H locs → narrow .int (.int o') = .int o' → decode bc_Batch_blockCount pc = .ok (.ireturn, 1) → W p l e { frames := 1, cells := 0, slots := 0, locals := 21 } s m ([.ref a_t] : List Value).toArray below meth c H locs 0 0 (MQ below (ObQi D (obT G) (cw_Batch_blockCount G a_t a_image v_known v_touched v_namesTouched v_open) o A) ([.ref a_t] : List Value).toArray s 0 0 A) (F0 m pc ls [.int o']) := by
    intro o' H locs pc ls he hP hD hS hn hd
    obtain rfl := Option.some.inj he
    exact ob_iret hx hb hr hlk hK hP hD hS hn hd
  generalize MQ below (ObQi D (obT G) (cw_Batch_blockCount G a_t a_image v_known v_touched v_namesTouched v_open) o A) ([.ref a_t] : List Value).toArray s 0 0 A = Q at hret ⊢
  have hl : lv_has ls 1 [(0, .ref a_t)] := hl
  unfold f_Batch_blockCount at hf
  refine lv_aload_n hx hb d_Batch_blockCount_0 rfl (lv_at hl 0 rfl) ?_
  refine va_get (D := D) (ci := 5) (v := .long v_touched) (C := "ObjectBase$Batch") (T := TC_Batch) (N := 5) hx hb hts inC_Batch hown hK hP 0 rfl rfl 2 (by decide) (hts _ tw135) (fun _ h9 => h9) rfl d_Batch_blockCount_1 ?_
  obtain ⟨o4, ho4, hf⟩ := ob_b hf
  refine ob_calli (w2 := (cw_Batch_blockCount G a_t a_image v_known v_touched v_namesTouched v_open)) (va_runS (As := [.long v_touched]) (rest := []) ⟨hx, hb, hml, hown, hts⟩ (c_Long_bitCount l D G  v_touched o4 ho4 H.size) (va_cwS 1 hts (gS tw415 tw416 tw13 tw417) rfl rfl rfl (by decide +kernel) ⟨Nat.le_of_ble_eq_true rfl, Nat.le_of_ble_eq_true rfl⟩) (ob_preS hZ hK hP hD [] rfl rfl) rfl rfl hl.1 rfl (lv_room (Nat.le_of_ble_eq_true rfl)) d_Batch_blockCount_4 ⟨Nat.le_refl _, Nat.le_refl _⟩) hP hD hA hS [] rfl rfl rfl rfl (fun H locs hP hD hS => ?_)
  refine lv_aload_n hx hb d_Batch_blockCount_7 rfl (lv_at hl 0 rfl) ?_
  refine va_get (D := D) (ci := 5) (v := .int v_namesTouched) (C := "ObjectBase$Batch") (T := TC_Batch) (N := 5) hx hb hts inC_Batch hown hK hP 0 rfl rfl 3 (by decide) (hts _ tw136) (fun _ h9 => h9) rfl d_Batch_blockCount_8 ?_
  refine lv_if_eq (tgt := 18) hx hb d_Batch_blockCount_11 (by decide) (fun hc11 => ?_) (fun hc11 => ?_)
  · have hf := ob_t hc11 hf
    refine lv_iconst (v := 0) hx hb d_Batch_blockCount_18 (by decide) ?_
    refine lv_iadd hx hb d_Batch_blockCount_19 ?_
    exact hret (o4 + 0) H locs _ ls hf hP hD hS rfl d_Batch_blockCount_20
  · have hf := ob_f hc11 hf
    refine lv_iconst (v := 1) hx hb d_Batch_blockCount_14 (by decide) ?_
    refine lv_goto (tgt := 19) hx hb d_Batch_blockCount_15 (by decide) ?_
    refine lv_iadd hx hb d_Batch_blockCount_19 ?_
    exact hret (o4 + 1) H locs _ ls hf hP hD hS rfl d_Batch_blockCount_20
abbrev bc_Text_init : ByteArray := prog_11_method_1_code
abbrev y_Text_init : MethodName := ⟨"ObjectBase$Text", "<init>", "()V"⟩
def ws_Text_init : List Cond := .code y_Text_init bc_Text_init 1 none :: obW
theorem d_Text_init_0 : decode bc_Text_init 0 = .ok (.aload_n 0, 1) := by decide +kernel
theorem d_Text_init_1 : decode bc_Text_init 1 = .ok (.invokespecial 3, 3) := by decide +kernel
theorem d_Text_init_4 : decode bc_Text_init 4 = .ok (.aload_n 0, 1) := by decide +kernel
theorem d_Text_init_5 : decode bc_Text_init 5 = .ok (.bipush 60, 2) := by decide +kernel
theorem d_Text_init_7 : decode bc_Text_init 7 = .ok (.newarray .char, 2) := by decide +kernel
theorem d_Text_init_9 : decode bc_Text_init 9 = .ok (.putfield 9, 3) := by decide +kernel
theorem d_Text_init_12 : decode bc_Text_init 12 = .ok (.return_, 1) := by decide +kernel
def nw_Text (G : Nat → ClassId) (a_t : Nat) (b0 : Nat) : va_W := [(a_t, .inr (6, [.ref b0, .int 0])), (b0, .inl (G 2, 60, .inl (fun _ => 0)))]
set_option maxHeartbeats 4000000 in
set_option maxRecDepth 100000 in
theorem n_Text (l : Launch) (D : va_G) (G : Nat → ClassId) (a_t : Nat) (sz : Nat) : Met l y_Text_init ws_Text_init ({ frames := 1, cells := 1, slots := 60, locals := 12 }) (ObPre D (obT G) [(a_t, .inr (6, [.null, .int 0]))] sz [.ref a_t]) (va_Qv (S := Nat) (fun _ => True) (fun u t => ObAt D (obT G) (nw_Text G a_t u) (va_A [(a_t, .inr (6, [.null, .int 0]))] sz) t) (va_A [(a_t, .inr (6, [.null, .int 0]))] sz)) 1 60 (va_A [(a_t, .inr (6, [.null, .int 0]))] sz) := by
  refine ob_of (cc := bc_Text_init) (maxL := 1) (ret := none) (Qc := fun A => va_Qv (S := Nat) (fun _ => True) (fun u t => ObAt D (obT G) (nw_Text G a_t u) A t) A) (by decide) rfl (Nat.le_of_ble_eq_true rfl) ?_
  intro p e s m below meth c A ls H locs hx hb hr hml hts hown hlk hnm hZ hP hK hD hA hS hl
  have hin : meth.name = "<init>" := hnm
  have hl : lv_has ls 1 [(0, .ref a_t)] := hl
  refine lv_aload_n hx hb d_Text_init_0 rfl (lv_at hl 0 rfl) ?_
  refine W.objInit hx hb hown (hts _ tw155) (hts _ tw21) (hts _ tw22) rfl (by rw [hml]; exact hl.1) rfl d_Text_init_1 (Nat.le_of_ble_eq_true rfl) (Nat.le_of_ble_eq_true rfl) ?_
  refine W.eq (g2 := F0 m 4 ls []) rfl ?_
  refine lv_aload_n hx hb d_Text_init_4 rfl (lv_at hl 0 rfl) ?_
  refine lv_bipush (v := 60) hx hb d_Text_init_5 (by decide) ?_
  refine ob_newa (atype := .char) (N' := 60) (a0 := (60, .inl (fun _ => 0))) hx hb (hts _ tw166) rfl hK 2 rfl hP hD hS hA (fun _ => rfl) (by decide) (by decide) (by decide) (Nat.le_of_ble_eq_true rfl) (Nat.le_of_ble_eq_true rfl) d_Text_init_7 (fun q7 H hP hD hS => ?_)
  refine W.cs (cells' := 1) (slots' := 60) rfl rfl ?_
  have hP : va_P D vwCl [(a_t, .inr (6, [.null, .int 0])), (q7, .inl (G 2, 60, .inl (fun _ => 0)))] H := hP
  have hD : va_D A [(a_t, .inr (6, [.null, .int 0])), (q7, .inl (G 2, 60, .inl (fun _ => 0)))] := hD
  refine va_putF (D := D) (ci := 6) (v := .ref q7) (ty := .array .char) (C := "ObjectBase$Text") (T := TC_Text) (N := 2) hx hb hts inC_Text tyC_Text tyC_Text_ok nmC_Text hown hK hP hD hS 0 rfl rfl 0 (by decide) (hts _ tw156) (fun _ h9 => h9) rfl hin rfl (by decide +kernel) rfl rfl (Nat.le_of_ble_eq_true rfl) d_Text_init_9 (fun H locs hP hD hS => ?_)
  have hP : va_P D vwCl [(a_t, .inr (6, [.ref q7, .int 0])), (q7, .inl (G 2, 60, .inl (fun _ => 0)))] H := hP
  have hD : va_D A [(a_t, .inr (6, [.ref q7, .int 0])), (q7, .inl (G 2, 60, .inl (fun _ => 0)))] := hD
  exact W.vret hx hb hr (fun t ht hW => ⟨⟨q7, rfl, trivial, by rw [ht]; exact hP, va_K.moved hW.alike hK, hD⟩, hS.F ht⟩) hS.2.2 d_Text_init_12 hlk
abbrev bc_Text_at : ByteArray := prog_11_method_2_code
abbrev y_Text_at : MethodName := ⟨"ObjectBase$Text", "at", "(I)C"⟩
def ws_Text_at : List Cond := .code y_Text_at bc_Text_at 2 (some .char) :: obW
theorem d_Text_at_0 : decode bc_Text_at 0 = .ok (.iload_n 1, 1) := by decide +kernel
theorem d_Text_at_1 : decode bc_Text_at 1 = .ok (.ifCond .lt 20, 3) := by decide +kernel
theorem d_Text_at_4 : decode bc_Text_at 4 = .ok (.iload_n 1, 1) := by decide +kernel
theorem d_Text_at_5 : decode bc_Text_at 5 = .ok (.aload_n 0, 1) := by decide +kernel
theorem d_Text_at_6 : decode bc_Text_at 6 = .ok (.getfield 15, 3) := by decide +kernel
theorem d_Text_at_9 : decode bc_Text_at 9 = .ok (.if_icmp .ge 12, 3) := by decide +kernel
theorem d_Text_at_12 : decode bc_Text_at 12 = .ok (.aload_n 0, 1) := by decide +kernel
theorem d_Text_at_13 : decode bc_Text_at 13 = .ok (.getfield 9, 3) := by decide +kernel
theorem d_Text_at_16 : decode bc_Text_at 16 = .ok (.iload_n 1, 1) := by decide +kernel
theorem d_Text_at_17 : decode bc_Text_at 17 = .ok (.caload, 1) := by decide +kernel
theorem d_Text_at_18 : decode bc_Text_at 18 = .ok (.goto 4, 3) := by decide +kernel
theorem d_Text_at_21 : decode bc_Text_at 21 = .ok (.iconst 0, 1) := by decide +kernel
theorem d_Text_at_22 : decode bc_Text_at 22 = .ok (.ireturn, 1) := by decide +kernel
def cw_Text_at (G : Nat → ClassId) (a_t a_chars : Nat) (v_length : Int32) (v_chars : Nat → Int32) : va_W := [(a_t, .inr (6, [.ref a_chars, .int v_length])), (a_chars, .inl (G 2, 60, .inl v_chars))]
def f_Text_at (v_length : Int32) (v_chars : Nat → Int32) (p1 : Int32) : Option (Int32) := if p1 < 0 then (some 0) else (if v_length ≤ p1 then (some 0) else (ob_iv p1 60 (ob_nc (v_chars p1.toNatClampNeg) (some (v_chars p1.toNatClampNeg)))))
set_option maxHeartbeats 4000000 in
set_option maxRecDepth 100000 in
theorem c_Text_at (l : Launch) (D : va_G) (G : Nat → ClassId) (a_t a_chars : Nat) (v_length : Int32) (v_chars : Nat → Int32) (p1 : Int32) (o : Int32) (hf : f_Text_at v_length v_chars p1 = some o) (sz : Nat) : MetI l y_Text_at ws_Text_at ({ frames := 0, cells := 0, slots := 0, locals := 0 }) D (obT G) (cw_Text_at G a_t a_chars v_length v_chars) (cw_Text_at G a_t a_chars v_length v_chars) [.ref a_t, .int p1] o sz := by
  refine ob_of (cc := bc_Text_at) (maxL := 2) (ret := (some .char)) (Qc := ObQi D (obT G) (cw_Text_at G a_t a_chars v_length v_chars) o) (by decide) rfl (Nat.le_of_ble_eq_true rfl) ?_
  intro p e s m below meth c A ls H locs hx hb hr hml hts hown hlk hnm hZ hP hK hD hA hS hl
  have hret : ∀ (o' : Int32) (H : Heap) (locs : List Loc) (pc : Nat) (ls : Array Slot), some o' = some o → va_P D vwCl (cw_Text_at G a_t a_chars v_length v_chars) H → va_D A (cw_Text_at G a_t a_chars v_length v_chars) → va_S A s.heap H locs → narrow .char (.int o') = .int o' → decode bc_Text_at pc = .ok (.ireturn, 1) → W p l e { frames := 0, cells := 0, slots := 0, locals := 0 } s m ([.ref a_t, .int p1] : List Value).toArray below meth c H locs 0 0 (MQ below (ObQi D (obT G) (cw_Text_at G a_t a_chars v_length v_chars) o A) ([.ref a_t, .int p1] : List Value).toArray s 0 0 A) (F0 m pc ls [.int o']) := by
    intro o' H locs pc ls he hP hD hS hn hd
    obtain rfl := Option.some.inj he
    exact ob_iret hx hb hr hlk hK hP hD hS hn hd
  generalize MQ below (ObQi D (obT G) (cw_Text_at G a_t a_chars v_length v_chars) o A) ([.ref a_t, .int p1] : List Value).toArray s 0 0 A = Q at hret ⊢
  have hl : lv_has ls 2 [(0, .ref a_t), (1, .int p1)] := hl
  unfold f_Text_at at hf
  refine lv_iload_n hx hb d_Text_at_0 rfl (lv_at hl 1 rfl) ?_
  refine lv_if_lt (tgt := 21) hx hb d_Text_at_1 (by decide) (fun hc1 => ?_) (fun hc1 => ?_)
  · have hf := ob_t hc1 hf
    refine lv_iconst (v := 0) hx hb d_Text_at_21 (by decide) ?_
    exact hret 0 H locs _ ls hf hP hD hS ob_nc0 d_Text_at_22
  · have hf := ob_f hc1 hf
    refine lv_iload_n hx hb d_Text_at_4 rfl (lv_at hl 1 rfl) ?_
    refine lv_aload_n hx hb d_Text_at_5 rfl (lv_at hl 0 rfl) ?_
    refine va_get (D := D) (ci := 6) (v := .int v_length) (C := "ObjectBase$Text") (T := TC_Text) (N := 2) hx hb hts inC_Text hown hK hP 0 rfl rfl 1 (by decide) (hts _ tw158) (fun _ h9 => h9) rfl d_Text_at_6 ?_
    refine lv_icmp_ge (tgt := 21) hx hb d_Text_at_9 (by decide) (fun hc9 => ?_) (fun hc9 => ?_)
    · have hf := ob_t hc9 hf
      refine lv_iconst (v := 0) hx hb d_Text_at_21 (by decide) ?_
      exact hret 0 H locs _ ls hf hP hD hS ob_nc0 d_Text_at_22
    · have hf := ob_f hc9 hf
      refine lv_aload_n hx hb d_Text_at_12 rfl (lv_at hl 0 rfl) ?_
      refine va_get (D := D) (ci := 6) (v := .ref a_chars) (C := "ObjectBase$Text") (T := TC_Text) (N := 2) hx hb hts inC_Text hown hK hP 0 rfl rfl 0 (by decide) (hts _ tw156) (fun _ h9 => h9) rfl d_Text_at_13 ?_
      refine lv_iload_n hx hb d_Text_at_16 rfl (lv_at hl 1 rfl) ?_
      obtain ⟨hg17, hf⟩ := ob_iv_g hf
      refine va_cald hx hb hK hP 1 2 rfl rfl hg17 d_Text_at_17 ?_
      refine lv_goto (tgt := 22) hx hb d_Text_at_18 (by decide) ?_
      obtain ⟨hg22, hf⟩ := ob_nc_g hf
      exact hret (v_chars p1.toNatClampNeg) H locs _ ls hf hP hD hS hg22.1 d_Text_at_22
abbrev bc_Text_copyFrom : ByteArray := prog_11_method_3_code
abbrev y_Text_copyFrom : MethodName := ⟨"ObjectBase$Text", "copyFrom", "(LObjectBase$Text;)V"⟩
def ws_Text_copyFrom : List Cond := .code y_Text_copyFrom bc_Text_copyFrom 2 none :: obW
theorem d_Text_copyFrom_0 : decode bc_Text_copyFrom 0 = .ok (.aload_n 1, 1) := by decide +kernel
theorem d_Text_copyFrom_1 : decode bc_Text_copyFrom 1 = .ok (.getfield 9, 3) := by decide +kernel
theorem d_Text_copyFrom_4 : decode bc_Text_copyFrom 4 = .ok (.iconst 0, 1) := by decide +kernel
theorem d_Text_copyFrom_5 : decode bc_Text_copyFrom 5 = .ok (.aload_n 0, 1) := by decide +kernel
theorem d_Text_copyFrom_6 : decode bc_Text_copyFrom 6 = .ok (.getfield 9, 3) := by decide +kernel
theorem d_Text_copyFrom_9 : decode bc_Text_copyFrom 9 = .ok (.iconst 0, 1) := by decide +kernel
theorem d_Text_copyFrom_10 : decode bc_Text_copyFrom 10 = .ok (.bipush 60, 2) := by decide +kernel
theorem d_Text_copyFrom_12 : decode bc_Text_copyFrom 12 = .ok (.invokestatic 19, 3) := by decide +kernel
theorem d_Text_copyFrom_15 : decode bc_Text_copyFrom 15 = .ok (.aload_n 0, 1) := by decide +kernel
theorem d_Text_copyFrom_16 : decode bc_Text_copyFrom 16 = .ok (.aload_n 1, 1) := by decide +kernel
theorem d_Text_copyFrom_17 : decode bc_Text_copyFrom 17 = .ok (.getfield 15, 3) := by decide +kernel
theorem d_Text_copyFrom_20 : decode bc_Text_copyFrom 20 = .ok (.putfield 15, 3) := by decide +kernel
theorem d_Text_copyFrom_23 : decode bc_Text_copyFrom 23 = .ok (.return_, 1) := by decide +kernel
def cw_Text_copyFrom (G : Nat → ClassId) (a_p1 a_t a_p1_chars a_chars : Nat) (v_p1_length : Int32) (v_length : Int32) (v_p1_chars : Nat → Int32) (v_chars : Nat → Int32) : va_W := [(a_p1, .inr (6, [.ref a_p1_chars, .int v_p1_length])), (a_t, .inr (6, [.ref a_chars, .int v_length])), (a_p1_chars, .inl (G 2, 60, .inl v_p1_chars)), (a_chars, .inl (G 2, 60, .inl v_chars))]
def f_Text_copyFrom (v_p1_length : Int32) (v_p1_chars : Nat → Int32) (v_chars : Nat → Int32) : Option (Int32 × (Nat → Int32)) := ob_fa .char v_p1_chars (0 : Int32).toNatClampNeg (60 : Int32).toNatClampNeg (some (v_p1_length, va_cpy v_p1_chars v_chars (0 : Int32).toNatClampNeg (0 : Int32).toNatClampNeg (60 : Int32).toNatClampNeg))
set_option maxHeartbeats 4000000 in
set_option maxRecDepth 100000 in
theorem c_Text_copyFrom (l : Launch) (D : va_G) (G : Nat → ClassId) (a_p1 a_t a_p1_chars a_chars : Nat) (v_p1_length : Int32) (v_length : Int32) (v_p1_chars : Nat → Int32) (v_chars : Nat → Int32) (o : Int32 × (Nat → Int32)) (hf : f_Text_copyFrom v_p1_length v_p1_chars v_chars = some o) (sz : Nat) : MetV l y_Text_copyFrom ws_Text_copyFrom ({ frames := 1, cells := 0, slots := 0, locals := 72 }) D (obT G) (cw_Text_copyFrom G a_p1 a_t a_p1_chars a_chars v_p1_length v_length v_p1_chars v_chars) (cw_Text_copyFrom G a_p1 a_t a_p1_chars a_chars v_p1_length o.1 v_p1_chars o.2) [.ref a_t, .ref a_p1] sz := by
  refine ob_of (cc := bc_Text_copyFrom) (maxL := 2) (ret := none) (Qc := ObQv D (obT G) (cw_Text_copyFrom G a_p1 a_t a_p1_chars a_chars v_p1_length o.1 v_p1_chars o.2)) (by decide) rfl (Nat.le_of_ble_eq_true rfl) ?_
  intro p e s m below meth c A ls H locs hx hb hr hml hts hown hlk hnm hZ hP hK hD hA hS hl
  have hret : ∀ (o' : Int32 × (Nat → Int32)) (H : Heap) (locs : List Loc) (pc : Nat) (ls : Array Slot), some o' = some o → va_P D vwCl (cw_Text_copyFrom G a_p1 a_t a_p1_chars a_chars v_p1_length o'.1 v_p1_chars o'.2) H → va_D A (cw_Text_copyFrom G a_p1 a_t a_p1_chars a_chars v_p1_length o'.1 v_p1_chars o'.2) → va_S A s.heap H locs → decode bc_Text_copyFrom pc = .ok (.return_, 1) → W p l e { frames := 1, cells := 0, slots := 0, locals := 72 } s m ([.ref a_t, .ref a_p1] : List Value).toArray below meth c H locs 0 0 (MQ below (ObQv D (obT G) (cw_Text_copyFrom G a_p1 a_t a_p1_chars a_chars v_p1_length o.1 v_p1_chars o.2) A) ([.ref a_t, .ref a_p1] : List Value).toArray s 0 0 A) (F0 m pc ls []) := by
    intro o' H locs pc ls he hP hD hS hd
    obtain rfl := Option.some.inj he
    exact ob_vret hx hb hr hlk hK hP hD hS hd
  generalize MQ below (ObQv D (obT G) (cw_Text_copyFrom G a_p1 a_t a_p1_chars a_chars v_p1_length o.1 v_p1_chars o.2) A) ([.ref a_t, .ref a_p1] : List Value).toArray s 0 0 A = Q at hret ⊢
  have hl : lv_has ls 2 [(0, .ref a_t), (1, .ref a_p1)] := hl
  unfold f_Text_copyFrom at hf
  refine lv_aload_n hx hb d_Text_copyFrom_0 rfl (lv_at hl 1 rfl) ?_
  refine va_get (D := D) (ci := 6) (v := .ref a_p1_chars) (C := "ObjectBase$Text") (T := TC_Text) (N := 2) hx hb hts inC_Text hown hK hP 0 rfl rfl 0 (by decide) (hts _ tw156) (fun _ h9 => h9) rfl d_Text_copyFrom_1 ?_
  refine lv_iconst (v := 0) hx hb d_Text_copyFrom_4 (by decide) ?_
  refine lv_aload_n hx hb d_Text_copyFrom_5 rfl (lv_at hl 0 rfl) ?_
  refine va_get (D := D) (ci := 6) (v := .ref a_chars) (C := "ObjectBase$Text") (T := TC_Text) (N := 2) hx hb hts inC_Text hown hK hP 1 rfl rfl 0 (by decide) (hts _ tw156) (fun _ h9 => h9) rfl d_Text_copyFrom_6 ?_
  refine lv_iconst (v := 0) hx hb d_Text_copyFrom_9 (by decide) ?_
  refine lv_bipush (v := 60) hx hb d_Text_copyFrom_10 (by decide) ?_
  obtain ⟨hg12, hf⟩ := ob_fa_g hf
  refine va_copyi hx hb (by rw [hml]; exact hl.1.symm) hown (hts _ tw591) (hts _ tw345) (hts _ tw344) (hts _ tw12) hK hP hD hS 2 3 2 2 rfl rfl rfl rfl rfl (by decide) (by decide) (by decide) (by decide) (by decide) hg12 (Nat.le_of_ble_eq_true rfl) (Nat.le_of_ble_eq_true rfl) d_Text_copyFrom_12 (fun H locs hP hD hS => ?_)
  have hP : va_P D vwCl (cw_Text_copyFrom G a_p1 a_t a_p1_chars a_chars v_p1_length v_length v_p1_chars (va_cpy v_p1_chars v_chars (0 : Int32).toNatClampNeg (0 : Int32).toNatClampNeg (60 : Int32).toNatClampNeg)) H := hP
  have hD : va_D A (cw_Text_copyFrom G a_p1 a_t a_p1_chars a_chars v_p1_length v_length v_p1_chars (va_cpy v_p1_chars v_chars (0 : Int32).toNatClampNeg (0 : Int32).toNatClampNeg (60 : Int32).toNatClampNeg)) := hD
  refine lv_aload_n hx hb d_Text_copyFrom_15 rfl (lv_at hl 0 rfl) ?_
  refine lv_aload_n hx hb d_Text_copyFrom_16 rfl (lv_at hl 1 rfl) ?_
  refine va_get (D := D) (ci := 6) (v := .int v_p1_length) (C := "ObjectBase$Text") (T := TC_Text) (N := 2) hx hb hts inC_Text hown hK hP 0 rfl rfl 1 (by decide) (hts _ tw158) (fun _ h9 => h9) rfl d_Text_copyFrom_17 ?_
  refine va_put (D := D) (ci := 6) (v := .int v_p1_length) (ty := .int) (C := "ObjectBase$Text") (T := TC_Text) (N := 2) hx hb hts inC_Text tyC_Text tyC_Text_ok nmC_Text hown hK hP hD hS 1 rfl rfl 1 (by decide) (hts _ tw158) (fun _ h9 => h9) rfl (by decide +kernel) rfl rfl (Nat.le_of_ble_eq_true rfl) d_Text_copyFrom_20 (fun H locs hP hD hS => ?_)
  have hP : va_P D vwCl (cw_Text_copyFrom G a_p1 a_t a_p1_chars a_chars v_p1_length v_p1_length v_p1_chars (va_cpy v_p1_chars v_chars (0 : Int32).toNatClampNeg (0 : Int32).toNatClampNeg (60 : Int32).toNatClampNeg)) H := hP
  have hD : va_D A (cw_Text_copyFrom G a_p1 a_t a_p1_chars a_chars v_p1_length v_p1_length v_p1_chars (va_cpy v_p1_chars v_chars (0 : Int32).toNatClampNeg (0 : Int32).toNatClampNeg (60 : Int32).toNatClampNeg)) := hD
  exact hret (v_p1_length, va_cpy v_p1_chars v_chars (0 : Int32).toNatClampNeg (0 : Int32).toNatClampNeg (60 : Int32).toNatClampNeg) H locs _ ls hf hP hD hS d_Text_copyFrom_23
abbrev bc_Text_fieldOfPath : ByteArray := prog_11_method_5_code
abbrev y_Text_fieldOfPath : MethodName := ⟨"ObjectBase$Text", "fieldOfPath", "(II)I"⟩
def ws_Text_fieldOfPath : List Cond := .code y_Text_fieldOfPath bc_Text_fieldOfPath 4 (some .int) :: obW
theorem d_Text_fieldOfPath_0 : decode bc_Text_fieldOfPath 0 = .ok (.iconst 0, 1) := by decide +kernel
theorem d_Text_fieldOfPath_1 : decode bc_Text_fieldOfPath 1 = .ok (.istore_n 3, 1) := by decide +kernel
theorem d_Text_fieldOfPath_2 : decode bc_Text_fieldOfPath 2 = .ok (.iload_n 3, 1) := by decide +kernel
theorem d_Text_fieldOfPath_3 : decode bc_Text_fieldOfPath 3 = .ok (.iload_n 2, 1) := by decide +kernel
theorem d_Text_fieldOfPath_4 : decode bc_Text_fieldOfPath 4 = .ok (.if_icmp .gt 27, 3) := by decide +kernel
theorem d_Text_fieldOfPath_7 : decode bc_Text_fieldOfPath 7 = .ok (.aload_n 0, 1) := by decide +kernel
theorem d_Text_fieldOfPath_8 : decode bc_Text_fieldOfPath 8 = .ok (.iload_n 1, 1) := by decide +kernel
theorem d_Text_fieldOfPath_9 : decode bc_Text_fieldOfPath 9 = .ok (.iconst 1, 1) := by decide +kernel
theorem d_Text_fieldOfPath_10 : decode bc_Text_fieldOfPath 10 = .ok (.iadd, 1) := by decide +kernel
theorem d_Text_fieldOfPath_11 : decode bc_Text_fieldOfPath 11 = .ok (.iconst 2, 1) := by decide +kernel
theorem d_Text_fieldOfPath_12 : decode bc_Text_fieldOfPath 12 = .ok (.iload_n 3, 1) := by decide +kernel
theorem d_Text_fieldOfPath_13 : decode bc_Text_fieldOfPath 13 = .ok (.imul, 1) := by decide +kernel
theorem d_Text_fieldOfPath_14 : decode bc_Text_fieldOfPath 14 = .ok (.iadd, 1) := by decide +kernel
theorem d_Text_fieldOfPath_15 : decode bc_Text_fieldOfPath 15 = .ok (.invokevirtual 29, 3) := by decide +kernel
theorem d_Text_fieldOfPath_18 : decode bc_Text_fieldOfPath 18 = .ok (.bipush 46, 2) := by decide +kernel
theorem d_Text_fieldOfPath_20 : decode bc_Text_fieldOfPath 20 = .ok (.if_icmp .eq 5, 3) := by decide +kernel
theorem d_Text_fieldOfPath_23 : decode bc_Text_fieldOfPath 23 = .ok (.iconst (-1), 1) := by decide +kernel
theorem d_Text_fieldOfPath_24 : decode bc_Text_fieldOfPath 24 = .ok (.ireturn, 1) := by decide +kernel
theorem d_Text_fieldOfPath_25 : decode bc_Text_fieldOfPath 25 = .ok (.iinc 3 1, 3) := by decide +kernel
theorem d_Text_fieldOfPath_28 : decode bc_Text_fieldOfPath 28 = .ok (.goto (-26), 3) := by decide +kernel
theorem d_Text_fieldOfPath_31 : decode bc_Text_fieldOfPath 31 = .ok (.aload_n 0, 1) := by decide +kernel
theorem d_Text_fieldOfPath_32 : decode bc_Text_fieldOfPath 32 = .ok (.iload_n 1, 1) := by decide +kernel
theorem d_Text_fieldOfPath_33 : decode bc_Text_fieldOfPath 33 = .ok (.iconst 2, 1) := by decide +kernel
theorem d_Text_fieldOfPath_34 : decode bc_Text_fieldOfPath 34 = .ok (.iadd, 1) := by decide +kernel
theorem d_Text_fieldOfPath_35 : decode bc_Text_fieldOfPath 35 = .ok (.iconst 2, 1) := by decide +kernel
theorem d_Text_fieldOfPath_36 : decode bc_Text_fieldOfPath 36 = .ok (.iload_n 2, 1) := by decide +kernel
theorem d_Text_fieldOfPath_37 : decode bc_Text_fieldOfPath 37 = .ok (.imul, 1) := by decide +kernel
theorem d_Text_fieldOfPath_38 : decode bc_Text_fieldOfPath 38 = .ok (.iadd, 1) := by decide +kernel
theorem d_Text_fieldOfPath_39 : decode bc_Text_fieldOfPath 39 = .ok (.invokevirtual 29, 3) := by decide +kernel
theorem d_Text_fieldOfPath_42 : decode bc_Text_fieldOfPath 42 = .ok (.bipush 97, 2) := by decide +kernel
theorem d_Text_fieldOfPath_44 : decode bc_Text_fieldOfPath 44 = .ok (.isub, 1) := by decide +kernel
theorem d_Text_fieldOfPath_45 : decode bc_Text_fieldOfPath 45 = .ok (.ireturn, 1) := by decide +kernel
def cw_Text_fieldOfPath (G : Nat → ClassId) (a_t a_chars : Nat) (v_length : Int32) (v_chars : Nat → Int32) : va_W := [(a_t, .inr (6, [.ref a_chars, .int v_length])), (a_chars, .inl (G 2, 60, .inl v_chars))]
def f_Text_fieldOfPath_B2 (p2 : Int32) (v_length : Int32) (v_chars : Nat → Int32) (p1 : Int32) (k2 : Int32 → Option (Int32)) (x2_3 : Int32) : Option (Int32) := if p2 < x2_3 then ((f_Text_at v_length v_chars ((p1 + 2) + (2 * p2))).bind fun o39 => (some (o39 - 97))) else ((f_Text_at v_length v_chars ((p1 + 1) + (2 * x2_3))).bind fun o15 => (if o15 = 46 then (k2 (x2_3 + 1)) else (some (-1))))
def f_Text_fieldOfPath_L2 (p2 : Int32) (v_length : Int32) (v_chars : Nat → Int32) (p1 : Int32) : Nat → Int32 → Option (Int32) := ob_lp1 (f_Text_fieldOfPath_B2 p2 v_length v_chars p1)
def f_Text_fieldOfPath (v_length : Int32) (v_chars : Nat → Int32) (p1 : Int32) (p2 : Int32) : Option (Int32) := f_Text_fieldOfPath_L2 p2 v_length v_chars p1 1000 0
set_option maxHeartbeats 4000000 in
set_option maxRecDepth 100000 in
theorem c_Text_fieldOfPath (l : Launch) (D : va_G) (G : Nat → ClassId) (a_t a_chars : Nat) (v_length : Int32) (v_chars : Nat → Int32) (p1 : Int32) (p2 : Int32) (o : Int32) (hf : f_Text_fieldOfPath v_length v_chars p1 p2 = some o) (sz : Nat) : MetI l y_Text_fieldOfPath ws_Text_fieldOfPath ({ frames := 1, cells := 0, slots := 0, locals := 21 }) D (obT G) (cw_Text_fieldOfPath G a_t a_chars v_length v_chars) (cw_Text_fieldOfPath G a_t a_chars v_length v_chars) [.ref a_t, .int p1, .int p2] o sz := by
  refine ob_of (cc := bc_Text_fieldOfPath) (maxL := 4) (ret := (some .int)) (Qc := ObQi D (obT G) (cw_Text_fieldOfPath G a_t a_chars v_length v_chars) o) (by decide) rfl (Nat.le_of_ble_eq_true rfl) ?_
  intro p e s m below meth c A ls H locs hx hb hr hml hts hown hlk hnm hZ hP hK hD hA hS hl
  have hret : ∀ (o' : Int32) (H : Heap) (locs : List Loc) (pc : Nat) (ls : Array Slot), some o' = some o → va_P D vwCl (cw_Text_fieldOfPath G a_t a_chars v_length v_chars) H → va_D A (cw_Text_fieldOfPath G a_t a_chars v_length v_chars) → va_S A s.heap H locs → narrow .int (.int o') = .int o' → decode bc_Text_fieldOfPath pc = .ok (.ireturn, 1) → W p l e { frames := 1, cells := 0, slots := 0, locals := 21 } s m ([.ref a_t, .int p1, .int p2] : List Value).toArray below meth c H locs 0 0 (MQ below (ObQi D (obT G) (cw_Text_fieldOfPath G a_t a_chars v_length v_chars) o A) ([.ref a_t, .int p1, .int p2] : List Value).toArray s 0 0 A) (F0 m pc ls [.int o']) := by
    intro o' H locs pc ls he hP hD hS hn hd
    obtain rfl := Option.some.inj he
    exact ob_iret hx hb hr hlk hK hP hD hS hn hd
  generalize MQ below (ObQi D (obT G) (cw_Text_fieldOfPath G a_t a_chars v_length v_chars) o A) ([.ref a_t, .int p1, .int p2] : List Value).toArray s 0 0 A = Q at hret ⊢
  have hl : lv_has ls 4 [(0, .ref a_t), (1, .int p1), (2, .int p2)] := hl
  unfold f_Text_fieldOfPath at hf
  have loop2 : ∀ (n2 : Nat) (x2_3 : Int32) (ls : Array Slot) (H : Heap) (locs : List Loc), lv_has ls 4 [(0, .ref a_t), (1, .int p1), (2, .int p2), (3, .int x2_3)] → va_P D vwCl (cw_Text_fieldOfPath G a_t a_chars v_length v_chars) H → va_D A (cw_Text_fieldOfPath G a_t a_chars v_length v_chars) → va_S A s.heap H locs → f_Text_fieldOfPath_L2 p2 v_length v_chars p1 n2 x2_3 = some o → W p l e ({ frames := 1, cells := 0, slots := 0, locals := 21 }) s m ([.ref a_t, .int p1, .int p2] : List Value).toArray below meth c H locs 0 0 Q (F0 m 2 ls []) := by
    intro n2
    induction n2 with
    | zero => intro x2_3 ls H locs hl hP hD hS hf; exact ob_no hf
    | succ n2 ih2 =>
      intro x2_3 ls H locs hl hP hD hS hf
      have hf : f_Text_fieldOfPath_B2 p2 v_length v_chars p1 (f_Text_fieldOfPath_L2 p2 v_length v_chars p1 n2) x2_3 = some o := hf
      unfold f_Text_fieldOfPath_B2 at hf
      refine lv_iload_n hx hb d_Text_fieldOfPath_2 rfl (lv_at hl 3 rfl) ?_
      refine lv_iload_n hx hb d_Text_fieldOfPath_3 rfl (lv_at hl 2 rfl) ?_
      refine lv_icmp_gt (tgt := 31) hx hb d_Text_fieldOfPath_4 (by decide) (fun hc4 => ?_) (fun hc4 => ?_)
      · have hf := ob_t hc4 hf
        refine lv_aload_n hx hb d_Text_fieldOfPath_31 rfl (lv_at hl 0 rfl) ?_
        refine lv_iload_n hx hb d_Text_fieldOfPath_32 rfl (lv_at hl 1 rfl) ?_
        refine lv_iconst (v := 2) hx hb d_Text_fieldOfPath_33 (by decide) ?_
        refine lv_iadd hx hb d_Text_fieldOfPath_34 ?_
        refine lv_iconst (v := 2) hx hb d_Text_fieldOfPath_35 (by decide) ?_
        refine lv_iload_n hx hb d_Text_fieldOfPath_36 rfl (lv_at hl 2 rfl) ?_
        refine lv_imul hx hb d_Text_fieldOfPath_37 ?_
        refine lv_iadd hx hb d_Text_fieldOfPath_38 ?_
        obtain ⟨o39, ho39, hf⟩ := ob_b hf
        refine ob_calli (w2 := (cw_Text_fieldOfPath G a_t a_chars v_length v_chars)) (va_runV (As := [.int ((p1 + 2) + (2 * p2))]) (rest := []) ⟨hx, hb, hml, hown, hts⟩ (c_Text_at l D G a_t a_chars v_length v_chars ((p1 + 2) + (2 * p2)) o39 ho39 H.size) (cwV 1 hts (gV tw709 tw605 tw606 tw7 tw607) rfl rfl rfl (by decide +kernel) ⟨Nat.le_of_ble_eq_true rfl, Nat.le_of_ble_eq_true rfl⟩) (ob_preV (q0 := 0) (ci := 6) hZ hK hP hD [0, 1] rfl rfl rfl rfl rfl) rfl rfl hl.1 rfl (lv_room (Nat.le_of_ble_eq_true rfl)) d_Text_fieldOfPath_39 ⟨Nat.le_refl _, Nat.le_refl _⟩) hP hD hA hS [0, 1] rfl rfl rfl rfl (fun H locs hP hD hS => ?_)
        refine lv_bipush (v := 97) hx hb d_Text_fieldOfPath_42 (by decide) ?_
        refine lv_isub hx hb d_Text_fieldOfPath_44 ?_
        exact hret (o39 - 97) H locs _ ls hf hP hD hS rfl d_Text_fieldOfPath_45
      · have hf := ob_f hc4 hf
        refine lv_aload_n hx hb d_Text_fieldOfPath_7 rfl (lv_at hl 0 rfl) ?_
        refine lv_iload_n hx hb d_Text_fieldOfPath_8 rfl (lv_at hl 1 rfl) ?_
        refine lv_iconst (v := 1) hx hb d_Text_fieldOfPath_9 (by decide) ?_
        refine lv_iadd hx hb d_Text_fieldOfPath_10 ?_
        refine lv_iconst (v := 2) hx hb d_Text_fieldOfPath_11 (by decide) ?_
        refine lv_iload_n hx hb d_Text_fieldOfPath_12 rfl (lv_at hl 3 rfl) ?_
        refine lv_imul hx hb d_Text_fieldOfPath_13 ?_
        refine lv_iadd hx hb d_Text_fieldOfPath_14 ?_
        obtain ⟨o15, ho15, hf⟩ := ob_b hf
        refine ob_calli (w2 := (cw_Text_fieldOfPath G a_t a_chars v_length v_chars)) (va_runV (As := [.int ((p1 + 1) + (2 * x2_3))]) (rest := []) ⟨hx, hb, hml, hown, hts⟩ (c_Text_at l D G a_t a_chars v_length v_chars ((p1 + 1) + (2 * x2_3)) o15 ho15 H.size) (cwV 1 hts (gV tw709 tw605 tw606 tw7 tw607) rfl rfl rfl (by decide +kernel) ⟨Nat.le_of_ble_eq_true rfl, Nat.le_of_ble_eq_true rfl⟩) (ob_preV (q0 := 0) (ci := 6) hZ hK hP hD [0, 1] rfl rfl rfl rfl rfl) rfl rfl hl.1 rfl (lv_room (Nat.le_of_ble_eq_true rfl)) d_Text_fieldOfPath_15 ⟨Nat.le_refl _, Nat.le_refl _⟩) hP hD hA hS [0, 1] rfl rfl rfl rfl (fun H locs hP hD hS => ?_)
        refine lv_bipush (v := 46) hx hb d_Text_fieldOfPath_18 (by decide) ?_
        refine lv_icmp_eq (tgt := 25) hx hb d_Text_fieldOfPath_20 (by decide) (fun hc20 => ?_) (fun hc20 => ?_)
        · have hf := ob_t hc20 hf
          refine lv_iinc (k := 3) (v := x2_3 + 1) (lv' := [(3, .int (x2_3 + 1)), (0, .ref a_t), (1, .int p1), (2, .int p2)]) hx hb d_Text_fieldOfPath_25 hl rfl (by rw [show Int32.ofInt 1 = (1 : Int32) from by decide]) (by decide) rfl (fun ls hl => ?_)
          refine lv_goto (tgt := 2) hx hb d_Text_fieldOfPath_28 (by decide) ?_
          exact ih2 (x2_3 + 1) ls H locs (lv_sub hl [1, 2, 3, 0] rfl) hP hD hS hf
        · have hf := ob_f hc20 hf
          refine lv_iconst (v := (-1)) hx hb d_Text_fieldOfPath_23 (by decide) ?_
          exact hret (-1) H locs _ ls hf hP hD hS rfl d_Text_fieldOfPath_24
  refine lv_iconst (v := 0) hx hb d_Text_fieldOfPath_0 (by decide) ?_
  refine lv_istore_n (lv' := [(3, .int 0), (0, .ref a_t), (1, .int p1), (2, .int p2)]) hx hb d_Text_fieldOfPath_1 rfl hl (by decide) rfl (fun ls hl => ?_)
  exact loop2 1000 0 ls H locs (lv_sub hl [1, 2, 3, 0] rfl) hP hD hS hf
abbrev bc_Text_byteOf : ByteArray := prog_11_method_6_code
abbrev y_Text_byteOf : MethodName := ⟨"ObjectBase$Text", "byteOf", "(JI)I"⟩
def ws_Text_byteOf : List Cond := .code y_Text_byteOf bc_Text_byteOf 3 (some .int) :: obW
theorem d_Text_byteOf_0 : decode bc_Text_byteOf 0 = .ok (.lload_n 0, 1) := by decide +kernel
theorem d_Text_byteOf_1 : decode bc_Text_byteOf 1 = .ok (.bipush 8, 2) := by decide +kernel
theorem d_Text_byteOf_3 : decode bc_Text_byteOf 3 = .ok (.iload_n 2, 1) := by decide +kernel
theorem d_Text_byteOf_4 : decode bc_Text_byteOf 4 = .ok (.imul, 1) := by decide +kernel
theorem d_Text_byteOf_5 : decode bc_Text_byteOf 5 = .ok (.lushr, 1) := by decide +kernel
theorem d_Text_byteOf_6 : decode bc_Text_byteOf 6 = .ok (.l2i, 1) := by decide +kernel
theorem d_Text_byteOf_7 : decode bc_Text_byteOf 7 = .ok (.sipush 255, 3) := by decide +kernel
theorem d_Text_byteOf_10 : decode bc_Text_byteOf 10 = .ok (.iand, 1) := by decide +kernel
theorem d_Text_byteOf_11 : decode bc_Text_byteOf 11 = .ok (.ireturn, 1) := by decide +kernel
def cw_Text_byteOf (G : Nat → ClassId) : va_W := []
def f_Text_byteOf (p0 : Int64) (p1 : Int32) : Option (Int32) := some ((((p0.toUInt64 >>> ((8 * p1).toInt64.toUInt64 &&& Int64.toUInt64 63)).toInt64).toInt32) &&& 255)
set_option maxHeartbeats 4000000 in
set_option maxRecDepth 100000 in
theorem c_Text_byteOf (l : Launch) (D : va_G) (G : Nat → ClassId) (p0 : Int64) (p1 : Int32) (o : Int32) (hf : f_Text_byteOf p0 p1 = some o) (sz : Nat) : MetI l y_Text_byteOf ws_Text_byteOf ({ frames := 0, cells := 0, slots := 0, locals := 0 }) D (obT G) (cw_Text_byteOf G) (cw_Text_byteOf G) [.long p0, .int p1] o sz := by
  refine ob_of (cc := bc_Text_byteOf) (maxL := 3) (ret := (some .int)) (Qc := ObQi D (obT G) (cw_Text_byteOf G) o) (by decide) rfl (Nat.le_of_ble_eq_true rfl) ?_
  intro p e s m below meth c A ls H locs hx hb hr hml hts hown hlk hnm hZ hP hK hD hA hS hl
  have hret : ∀ (o' : Int32) (H : Heap) (locs : List Loc) (pc : Nat) (ls : Array Slot), some o' = some o → va_P D vwCl (cw_Text_byteOf G) H → va_D A (cw_Text_byteOf G) → va_S A s.heap H locs → narrow .int (.int o') = .int o' → decode bc_Text_byteOf pc = .ok (.ireturn, 1) → W p l e { frames := 0, cells := 0, slots := 0, locals := 0 } s m ([.long p0, .int p1] : List Value).toArray below meth c H locs 0 0 (MQ below (ObQi D (obT G) (cw_Text_byteOf G) o A) ([.long p0, .int p1] : List Value).toArray s 0 0 A) (F0 m pc ls [.int o']) := by
    intro o' H locs pc ls he hP hD hS hn hd
    obtain rfl := Option.some.inj he
    exact ob_iret hx hb hr hlk hK hP hD hS hn hd
  generalize MQ below (ObQi D (obT G) (cw_Text_byteOf G) o A) ([.long p0, .int p1] : List Value).toArray s 0 0 A = Q at hret ⊢
  have hl : lv_has ls 3 [(0, .long p0), (2, .int p1)] := hl
  unfold f_Text_byteOf at hf
  refine lv_lload_n hx hb d_Text_byteOf_0 rfl (lv_at hl 0 rfl) ?_
  refine lv_bipush (v := 8) hx hb d_Text_byteOf_1 (by decide) ?_
  refine lv_iload_n hx hb d_Text_byteOf_3 rfl (lv_at hl 1 rfl) ?_
  refine lv_imul hx hb d_Text_byteOf_4 ?_
  refine lv_lushr hx hb d_Text_byteOf_5 rfl ?_
  refine lv_l2i hx hb d_Text_byteOf_6 rfl ?_
  refine lv_sipush (v := 255) hx hb d_Text_byteOf_7 (by decide) ?_
  refine lv_iand hx hb d_Text_byteOf_10 ?_
  exact hret ((((p0.toUInt64 >>> ((8 * p1).toInt64.toUInt64 &&& Int64.toUInt64 63)).toInt64).toInt32) &&& 255) H locs _ ls hf hP hD hS rfl d_Text_byteOf_11
