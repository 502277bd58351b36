abbrev bc_Disk_restart : ByteArray := prog_4_method_6_code
abbrev y_Disk_restart : MethodName := ⟨"ObjectBase$Disk", "restart", "()Z"⟩
def ws_Disk_restart : List Cond := .code y_Disk_restart bc_Disk_restart 1 (some .boolean) :: obW
theorem d_Disk_restart_0 : decode bc_Disk_restart 0 = .ok (.aload_n 0, 1) := by decide +kernel
theorem d_Disk_restart_1 : decode bc_Disk_restart 1 = .ok (.iconst (-1), 1) := by decide +kernel
theorem d_Disk_restart_2 : decode bc_Disk_restart 2 = .ok (.putfield 9, 3) := by decide +kernel
theorem d_Disk_restart_5 : decode bc_Disk_restart 5 = .ok (.aload_n 0, 1) := by decide +kernel
theorem d_Disk_restart_6 : decode bc_Disk_restart 6 = .ok (.iconst 0, 1) := by decide +kernel
theorem d_Disk_restart_7 : decode bc_Disk_restart 7 = .ok (.putfield 33, 3) := by decide +kernel
theorem d_Disk_restart_10 : decode bc_Disk_restart 10 = .ok (.aload_n 0, 1) := by decide +kernel
theorem d_Disk_restart_11 : decode bc_Disk_restart 11 = .ok (.getfield 25, 3) := by decide +kernel
theorem d_Disk_restart_14 : decode bc_Disk_restart 14 = .ok (.ifCond .eq 8, 3) := by decide +kernel
theorem d_Disk_restart_17 : decode bc_Disk_restart 17 = .ok (.aload_n 0, 1) := by decide +kernel
theorem d_Disk_restart_18 : decode bc_Disk_restart 18 = .ok (.invokevirtual 36, 3) := by decide +kernel
theorem d_Disk_restart_21 : decode bc_Disk_restart 21 = .ok (.ireturn, 1) := by decide +kernel
theorem d_Disk_restart_22 : decode bc_Disk_restart 22 = .ok (.aload_n 0, 1) := by decide +kernel
theorem d_Disk_restart_23 : decode bc_Disk_restart 23 = .ok (.getfield 22, 3) := by decide +kernel
theorem d_Disk_restart_26 : decode bc_Disk_restart 26 = .ok (.ifCond .le 13, 3) := by decide +kernel
theorem d_Disk_restart_29 : decode bc_Disk_restart 29 = .ok (.aload_n 0, 1) := by decide +kernel
theorem d_Disk_restart_30 : decode bc_Disk_restart 30 = .ok (.invokevirtual 18, 3) := by decide +kernel
theorem d_Disk_restart_33 : decode bc_Disk_restart 33 = .ok (.pop, 1) := by decide +kernel
theorem d_Disk_restart_34 : decode bc_Disk_restart 34 = .ok (.aload_n 0, 1) := by decide +kernel
theorem d_Disk_restart_35 : decode bc_Disk_restart 35 = .ok (.iconst 0, 1) := by decide +kernel
theorem d_Disk_restart_36 : decode bc_Disk_restart 36 = .ok (.putfield 22, 3) := by decide +kernel
theorem d_Disk_restart_39 : decode bc_Disk_restart 39 = .ok (.iconst 0, 1) := by decide +kernel
theorem d_Disk_restart_40 : decode bc_Disk_restart 40 = .ok (.ireturn, 1) := by decide +kernel
def cw_Disk_restart (G : Nat → ClassId) (a_t : Nat) (v_written : Int32) (v_armed : Int32) (v_half : Int32) (v_logged : Int32) (v_marked : Int32) (v_down : Int32) : va_W := [(a_t, .inr (3, [.int v_written, .int v_armed, .int v_half, .int v_logged, .int v_marked, .int v_down]))]
def f_Disk_restart (v_written : Int32) (v_logged : Int32) (v_marked : Int32) : Option (Int32 × Int32 × Int32 × Int32 × Int32 × Int32) := if v_marked = 0 then (if v_logged ≤ 0 then (some (0, v_written, (-1), v_logged, v_marked, 0)) else ((f_Disk_writeBlock v_written (-1)).bind fun o30 => (some (0, o30.2.1, o30.2.2, 0, v_marked, 0)))) else ((f_Disk_writeHome v_written (-1) v_logged v_marked).bind fun o18 => (ob_nz o18.1 (some (o18.1, o18.2.1, o18.2.2.1, o18.2.2.2.1, o18.2.2.2.2, 0))))
set_option maxHeartbeats 4000000 in
set_option maxRecDepth 100000 in
theorem c_Disk_restart (l : Launch) (D : va_G) (G : Nat → ClassId) (a_t : Nat) (v_written : Int32) (v_armed : Int32) (v_half : Int32) (v_logged : Int32) (v_marked : Int32) (v_down : Int32) (o : Int32 × Int32 × Int32 × Int32 × Int32 × Int32) (hf : f_Disk_restart v_written v_logged v_marked = some o) (sz : Nat) : MetI l y_Disk_restart ws_Disk_restart ({ frames := 3, cells := 0, slots := 0, locals := 62 }) D (obT G) (cw_Disk_restart G a_t v_written v_armed v_half v_logged v_marked v_down) (cw_Disk_restart G a_t o.2.1 o.2.2.1 v_half o.2.2.2.1 o.2.2.2.2.1 o.2.2.2.2.2) [.ref a_t] o.1 sz := by
  refine ob_of (cc := bc_Disk_restart) (maxL := 1) (ret := (some .boolean)) (Qc := ObQi D (obT G) (cw_Disk_restart G a_t o.2.1 o.2.2.1 v_half o.2.2.2.1 o.2.2.2.2.1 o.2.2.2.2.2) o.1) (by decide) rfl (Nat.le_of_ble_eq_true rfl) ?_
  intro p e s m below meth c A ls H locs hx hb hr hml hts hown hlk hnm hZ hP hK hD hA hS hl
  have hret : ∀ (o' : Int32 × Int32 × Int32 × Int32 × Int32 × Int32) (H : Heap) (locs : List Loc) (pc : Nat) (ls : Array Slot), some o' = some o → va_P D vwCl (cw_Disk_restart G a_t o'.2.1 o'.2.2.1 v_half o'.2.2.2.1 o'.2.2.2.2.1 o'.2.2.2.2.2) H → va_D A (cw_Disk_restart G a_t o'.2.1 o'.2.2.1 v_half o'.2.2.2.1 o'.2.2.2.2.1 o'.2.2.2.2.2) → va_S A s.heap H locs → narrow .boolean (.int o'.1) = .int o'.1 → decode bc_Disk_restart pc = .ok (.ireturn, 1) → W p l e { frames := 3, cells := 0, slots := 0, locals := 62 } s m ([.ref a_t] : List Value).toArray below meth c H locs 0 0 (MQ below (ObQi D (obT G) (cw_Disk_restart G a_t o.2.1 o.2.2.1 v_half o.2.2.2.1 o.2.2.2.2.1 o.2.2.2.2.2) o.1 A) ([.ref a_t] : List Value).toArray s 0 0 A) (F0 m pc ls [.int o'.1]) := by
    intro o' H locs pc ls he hP hD hS hn hd
    obtain rfl := Option.some.inj he
    exact ob_iret hx hb hr hlk hK hP hD hS hn hd
  generalize MQ below (ObQi D (obT G) (cw_Disk_restart G a_t o.2.1 o.2.2.1 v_half o.2.2.2.1 o.2.2.2.2.1 o.2.2.2.2.2) o.1 A) ([.ref a_t] : List Value).toArray s 0 0 A = Q at hret ⊢
  have hl : lv_has ls 1 [(0, .ref a_t)] := hl
  unfold f_Disk_restart at hf
  refine lv_aload_n hx hb d_Disk_restart_0 rfl (lv_at hl 0 rfl) ?_
  refine lv_iconst (v := (-1)) hx hb d_Disk_restart_1 (by decide) ?_
  refine va_put (D := D) (ci := 3) (v := .int (-1)) (ty := .int) (C := "ObjectBase$Disk") (T := TC_Disk) (N := 6) hx hb hts inC_Disk tyC_Disk tyC_Disk_ok nmC_Disk hown hK hP hD hS 0 rfl rfl 1 (by decide) (hts _ tw82) (fun _ h9 => h9) rfl (by decide +kernel) rfl rfl (Nat.le_of_ble_eq_true rfl) d_Disk_restart_2 (fun H locs hP hD hS => ?_)
  have hP : va_P D vwCl (cw_Disk_restart G a_t v_written (-1) v_half v_logged v_marked v_down) H := hP
  have hD : va_D A (cw_Disk_restart G a_t v_written (-1) v_half v_logged v_marked v_down) := hD
  refine lv_aload_n hx hb d_Disk_restart_5 rfl (lv_at hl 0 rfl) ?_
  refine lv_iconst (v := 0) hx hb d_Disk_restart_6 (by decide) ?_
  refine va_put (D := D) (ci := 3) (v := .int 0) (ty := .boolean) (C := "ObjectBase$Disk") (T := TC_Disk) (N := 6) hx hb hts inC_Disk tyC_Disk tyC_Disk_ok nmC_Disk hown hK hP hD hS 0 rfl rfl 5 (by decide) (hts _ tw88) (fun _ h9 => h9) rfl (by decide +kernel) rfl rfl (Nat.le_of_ble_eq_true rfl) d_Disk_restart_7 (fun H locs hP hD hS => ?_)
  have hP : va_P D vwCl (cw_Disk_restart G a_t v_written (-1) v_half v_logged v_marked 0) H := hP
  have hD : va_D A (cw_Disk_restart G a_t v_written (-1) v_half v_logged v_marked 0) := hD
  refine lv_aload_n hx hb d_Disk_restart_10 rfl (lv_at hl 0 rfl) ?_
  refine va_get (D := D) (ci := 3) (v := .int v_marked) (C := "ObjectBase$Disk") (T := TC_Disk) (N := 6) hx hb hts inC_Disk hown hK hP 0 rfl rfl 4 (by decide) (hts _ tw86) (fun _ h9 => h9) rfl d_Disk_restart_11 ?_
  refine lv_if_eq (tgt := 22) hx hb d_Disk_restart_14 (by decide) (fun hc14 => ?_) (fun hc14 => ?_)
  · have hf := ob_t hc14 hf
    refine lv_aload_n hx hb d_Disk_restart_22 rfl (lv_at hl 0 rfl) ?_
    refine va_get (D := D) (ci := 3) (v := .int v_logged) (C := "ObjectBase$Disk") (T := TC_Disk) (N := 6) hx hb hts inC_Disk hown hK hP 0 rfl rfl 3 (by decide) (hts _ tw85) (fun _ h9 => h9) rfl d_Disk_restart_23 ?_
    refine lv_if_le (tgt := 39) hx hb d_Disk_restart_26 (by decide) (fun hc26 => ?_) (fun hc26 => ?_)
    · have hf := ob_t hc26 hf
      refine lv_iconst (v := 0) hx hb d_Disk_restart_39 (by decide) ?_
      exact hret (0, v_written, (-1), v_logged, v_marked, 0) H locs _ ls hf hP hD hS narrow_b0 d_Disk_restart_40
    · have hf := ob_f hc26 hf
      refine lv_aload_n hx hb d_Disk_restart_29 rfl (lv_at hl 0 rfl) ?_
      obtain ⟨o30, ho30, hf⟩ := ob_b hf
      refine ob_calli (w2 := (cw_Disk_restart G a_t o30.2.1 o30.2.2 v_half v_logged v_marked 0)) (va_runV (As := []) (rest := []) ⟨hx, hb, hml, hown, hts⟩ (c_Disk_writeBlock l D G a_t v_written (-1) v_half v_logged v_marked 0 o30 ho30 H.size) (cwV 0 hts (gV tw425 tw426 tw427 tw4 tw428) rfl rfl rfl (by decide +kernel) ⟨Nat.le_of_ble_eq_true rfl, Nat.le_of_ble_eq_true rfl⟩) (ob_preV (q0 := 0) (ci := 3) hZ hK hP hD [0] rfl rfl rfl rfl rfl) rfl rfl hl.1 rfl (lv_room (Nat.le_of_ble_eq_true rfl)) d_Disk_restart_30 ⟨Nat.le_refl _, Nat.le_refl _⟩) hP hD hA hS [0] rfl rfl rfl rfl (fun H locs hP hD hS => ?_)
      refine lv_pop hx hb d_Disk_restart_33 rfl ?_
      refine lv_aload_n hx hb d_Disk_restart_34 rfl (lv_at hl 0 rfl) ?_
      refine lv_iconst (v := 0) hx hb d_Disk_restart_35 (by decide) ?_
      refine va_put (D := D) (ci := 3) (v := .int 0) (ty := .int) (C := "ObjectBase$Disk") (T := TC_Disk) (N := 6) hx hb hts inC_Disk tyC_Disk tyC_Disk_ok nmC_Disk hown hK hP hD hS 0 rfl rfl 3 (by decide) (hts _ tw85) (fun _ h9 => h9) rfl (by decide +kernel) rfl rfl (Nat.le_of_ble_eq_true rfl) d_Disk_restart_36 (fun H locs hP hD hS => ?_)
      have hP : va_P D vwCl (cw_Disk_restart G a_t o30.2.1 o30.2.2 v_half 0 v_marked 0) H := hP
      have hD : va_D A (cw_Disk_restart G a_t o30.2.1 o30.2.2 v_half 0 v_marked 0) := hD
      refine lv_iconst (v := 0) hx hb d_Disk_restart_39 (by decide) ?_
      exact hret (0, o30.2.1, o30.2.2, 0, v_marked, 0) H locs _ ls hf hP hD hS narrow_b0 d_Disk_restart_40
  · have hf := ob_f hc14 hf
    refine lv_aload_n hx hb d_Disk_restart_17 rfl (lv_at hl 0 rfl) ?_
    obtain ⟨o18, ho18, hf⟩ := ob_b hf
    refine ob_calli (w2 := (cw_Disk_restart G a_t o18.2.1 o18.2.2.1 v_half o18.2.2.2.1 o18.2.2.2.2 0)) (va_runV (As := []) (rest := []) ⟨hx, hb, hml, hown, hts⟩ (c_Disk_writeHome l D G a_t v_written (-1) v_half v_logged v_marked 0 o18 ho18 H.size) (cwV 0 hts (gV tw480 tw443 tw444 tw4 tw445) rfl rfl rfl (by decide +kernel) ⟨Nat.le_of_ble_eq_true rfl, Nat.le_of_ble_eq_true rfl⟩) (ob_preV (q0 := 0) (ci := 3) hZ hK hP hD [0] rfl rfl rfl rfl rfl) rfl rfl hl.1 rfl (lv_room (Nat.le_of_ble_eq_true rfl)) d_Disk_restart_18 ⟨Nat.le_refl _, Nat.le_refl _⟩) hP hD hA hS [0] rfl rfl rfl rfl (fun H locs hP hD hS => ?_)
    obtain ⟨hg21, hf⟩ := ob_nz_g hf
    exact hret (o18.1, o18.2.1, o18.2.2.1, o18.2.2.2.1, o18.2.2.2.2, 0) H locs _ ls hf hP hD hS hg21.1 d_Disk_restart_21
abbrev bc_Image_init : ByteArray := prog_5_method_1_code
abbrev y_Image_init : MethodName := ⟨"ObjectBase$Image", "<init>", "()V"⟩
def ws_Image_init : List Cond := .code y_Image_init bc_Image_init 1 none :: obW
theorem d_Image_init_0 : decode bc_Image_init 0 = .ok (.aload_n 0, 1) := by decide +kernel
theorem d_Image_init_1 : decode bc_Image_init 1 = .ok (.invokespecial 3, 3) := by decide +kernel
theorem d_Image_init_4 : decode bc_Image_init 4 = .ok (.aload_n 0, 1) := by decide +kernel
theorem d_Image_init_5 : decode bc_Image_init 5 = .ok (.bipush 63, 2) := by decide +kernel
theorem d_Image_init_7 : decode bc_Image_init 7 = .ok (.newarray .int, 2) := by decide +kernel
theorem d_Image_init_9 : decode bc_Image_init 9 = .ok (.putfield 9, 3) := by decide +kernel
theorem d_Image_init_12 : decode bc_Image_init 12 = .ok (.aload_n 0, 1) := by decide +kernel
theorem d_Image_init_13 : decode bc_Image_init 13 = .ok (.sipush 504, 3) := by decide +kernel
theorem d_Image_init_16 : decode bc_Image_init 16 = .ok (.newarray .long, 2) := by decide +kernel
theorem d_Image_init_18 : decode bc_Image_init 18 = .ok (.putfield 15, 3) := by decide +kernel
theorem d_Image_init_21 : decode bc_Image_init 21 = .ok (.aload_n 0, 1) := by decide +kernel
theorem d_Image_init_22 : decode bc_Image_init 22 = .ok (.iconst 4, 1) := by decide +kernel
theorem d_Image_init_23 : decode bc_Image_init 23 = .ok (.newarray .int, 2) := by decide +kernel
theorem d_Image_init_25 : decode bc_Image_init 25 = .ok (.putfield 19, 3) := by decide +kernel
theorem d_Image_init_28 : decode bc_Image_init 28 = .ok (.return_, 1) := by decide +kernel
def nw_Image (G : Nat → ClassId) (a_t : Nat) (b0 : Nat) (b1 : Nat) (b2 : Nat) : va_W := [(a_t, .inr (4, [.ref b0, .ref b1, .ref b2])), (b0, .inl (G 0, 63, .inl (fun _ => 0))), (b1, .inl (G 1, 504, .inr (.inl (fun _ => 0)))), (b2, .inl (G 0, 4, .inl (fun _ => 0)))]
set_option maxHeartbeats 4000000 in
set_option maxRecDepth 100000 in
theorem n_Image (l : Launch) (D : va_G) (G : Nat → ClassId) (a_t : Nat) (sz : Nat) : Met l y_Image_init ws_Image_init ({ frames := 1, cells := 3, slots := 571, locals := 12 }) (ObPre D (obT G) [(a_t, .inr (4, [.null, .null, .null]))] sz [.ref a_t]) (va_Qv (S := Nat × Nat × Nat) (fun _ => True) (fun u t => ObAt D (obT G) (nw_Image G a_t u.1 u.2.1 u.2.2) (va_A [(a_t, .inr (4, [.null, .null, .null]))] sz) t) (va_A [(a_t, .inr (4, [.null, .null, .null]))] sz)) 3 571 (va_A [(a_t, .inr (4, [.null, .null, .null]))] sz) := by
  refine ob_of (cc := bc_Image_init) (maxL := 1) (ret := none) (Qc := fun A => va_Qv (S := Nat × Nat × Nat) (fun _ => True) (fun u t => ObAt D (obT G) (nw_Image G a_t u.1 u.2.1 u.2.2) A t) A) (by decide) rfl (Nat.le_of_ble_eq_true rfl) ?_
  intro p e s m below meth c A ls H locs hx hb hr hml hts hown hlk hnm hZ hP hK hD hA hS hl
  have hin : meth.name = "<init>" := hnm
  have hl : lv_has ls 1 [(0, .ref a_t)] := hl
  refine lv_aload_n hx hb d_Image_init_0 rfl (lv_at hl 0 rfl) ?_
  refine W.objInit hx hb hown (hts _ tw107) (hts _ tw21) (hts _ tw22) rfl (by rw [hml]; exact hl.1) rfl d_Image_init_1 (Nat.le_of_ble_eq_true rfl) (Nat.le_of_ble_eq_true rfl) ?_
  refine W.eq (g2 := F0 m 4 ls []) rfl ?_
  refine lv_aload_n hx hb d_Image_init_4 rfl (lv_at hl 0 rfl) ?_
  refine lv_bipush (v := 63) hx hb d_Image_init_5 (by decide) ?_
  refine ob_newa (atype := .int) (N' := 63) (a0 := (63, .inl (fun _ => 0))) hx hb (hts _ tw56) rfl hK 0 rfl hP hD hS hA (fun _ => rfl) (by decide) (by decide) (by decide) (Nat.le_of_ble_eq_true rfl) (Nat.le_of_ble_eq_true rfl) d_Image_init_7 (fun q7 H hP hD hS => ?_)
  refine W.cs (cells' := 1) (slots' := 63) rfl rfl ?_
  have hP : va_P D vwCl [(a_t, .inr (4, [.null, .null, .null])), (q7, .inl (G 0, 63, .inl (fun _ => 0)))] H := hP
  have hD : va_D A [(a_t, .inr (4, [.null, .null, .null])), (q7, .inl (G 0, 63, .inl (fun _ => 0)))] := hD
  refine va_putF (D := D) (ci := 4) (v := .ref q7) (ty := .array .int) (C := "ObjectBase$Image") (T := TC_Image) (N := 3) hx hb hts inC_Image tyC_Image tyC_Image_ok nmC_Image hown hK hP hD hS 0 rfl rfl 0 (by decide) (hts _ tw108) (fun _ h9 => h9) rfl hin rfl (by decide +kernel) rfl rfl (Nat.le_of_ble_eq_true rfl) d_Image_init_9 (fun H locs hP hD hS => ?_)
  have hP : va_P D vwCl [(a_t, .inr (4, [.ref q7, .null, .null])), (q7, .inl (G 0, 63, .inl (fun _ => 0)))] H := hP
  have hD : va_D A [(a_t, .inr (4, [.ref q7, .null, .null])), (q7, .inl (G 0, 63, .inl (fun _ => 0)))] := hD
  refine lv_aload_n hx hb d_Image_init_12 rfl (lv_at hl 0 rfl) ?_
  refine lv_sipush (v := 504) hx hb d_Image_init_13 (by decide) ?_
  refine ob_newa (atype := .long) (N' := 504) (a0 := (504, .inr (.inl (fun _ => 0)))) hx hb (hts _ tw122) rfl hK 1 rfl hP hD hS hA (fun _ => rfl) (by decide) (by decide) (by decide) (Nat.le_of_ble_eq_true rfl) (Nat.le_of_ble_eq_true rfl) d_Image_init_16 (fun q16 H hP hD hS => ?_)
  refine W.cs (cells' := 2) (slots' := 567) rfl rfl ?_
  have hP : va_P D vwCl [(a_t, .inr (4, [.ref q7, .null, .null])), (q7, .inl (G 0, 63, .inl (fun _ => 0))), (q16, .inl (G 1, 504, .inr (.inl (fun _ => 0))))] H := hP
  have hD : va_D A [(a_t, .inr (4, [.ref q7, .null, .null])), (q7, .inl (G 0, 63, .inl (fun _ => 0))), (q16, .inl (G 1, 504, .inr (.inl (fun _ => 0))))] := hD
  refine va_putF (D := D) (ci := 4) (v := .ref q16) (ty := .array .long) (C := "ObjectBase$Image") (T := TC_Image) (N := 3) hx hb hts inC_Image tyC_Image tyC_Image_ok nmC_Image hown hK hP hD hS 0 rfl rfl 1 (by decide) (hts _ tw110) (fun _ h9 => h9) rfl hin rfl (by decide +kernel) rfl rfl (Nat.le_of_ble_eq_true rfl) d_Image_init_18 (fun H locs hP hD hS => ?_)
  have hP : va_P D vwCl [(a_t, .inr (4, [.ref q7, .ref q16, .null])), (q7, .inl (G 0, 63, .inl (fun _ => 0))), (q16, .inl (G 1, 504, .inr (.inl (fun _ => 0))))] H := hP
  have hD : va_D A [(a_t, .inr (4, [.ref q7, .ref q16, .null])), (q7, .inl (G 0, 63, .inl (fun _ => 0))), (q16, .inl (G 1, 504, .inr (.inl (fun _ => 0))))] := hD
  refine lv_aload_n hx hb d_Image_init_21 rfl (lv_at hl 0 rfl) ?_
  refine lv_iconst (v := 4) hx hb d_Image_init_22 (by decide) ?_
  refine ob_newa (atype := .int) (N' := 4) (a0 := (4, .inl (fun _ => 0))) hx hb (hts _ tw56) rfl hK 0 rfl hP hD hS hA (fun _ => rfl) (by decide) (by decide) (by decide) (Nat.le_of_ble_eq_true rfl) (Nat.le_of_ble_eq_true rfl) d_Image_init_23 (fun q23 H hP hD hS => ?_)
  refine W.cs (cells' := 3) (slots' := 571) rfl rfl ?_
  have hP : va_P D vwCl [(a_t, .inr (4, [.ref q7, .ref q16, .null])), (q7, .inl (G 0, 63, .inl (fun _ => 0))), (q16, .inl (G 1, 504, .inr (.inl (fun _ => 0)))), (q23, .inl (G 0, 4, .inl (fun _ => 0)))] H := hP
  have hD : va_D A [(a_t, .inr (4, [.ref q7, .ref q16, .null])), (q7, .inl (G 0, 63, .inl (fun _ => 0))), (q16, .inl (G 1, 504, .inr (.inl (fun _ => 0)))), (q23, .inl (G 0, 4, .inl (fun _ => 0)))] := hD
  refine va_putF (D := D) (ci := 4) (v := .ref q23) (ty := .array .int) (C := "ObjectBase$Image") (T := TC_Image) (N := 3) hx hb hts inC_Image tyC_Image tyC_Image_ok nmC_Image hown hK hP hD hS 0 rfl rfl 2 (by decide) (hts _ tw112) (fun _ h9 => h9) rfl hin rfl (by decide +kernel) rfl rfl (Nat.le_of_ble_eq_true rfl) d_Image_init_25 (fun H locs hP hD hS => ?_)
  have hP : va_P D vwCl [(a_t, .inr (4, [.ref q7, .ref q16, .ref q23])), (q7, .inl (G 0, 63, .inl (fun _ => 0))), (q16, .inl (G 1, 504, .inr (.inl (fun _ => 0)))), (q23, .inl (G 0, 4, .inl (fun _ => 0)))] H := hP
  have hD : va_D A [(a_t, .inr (4, [.ref q7, .ref q16, .ref q23])), (q7, .inl (G 0, 63, .inl (fun _ => 0))), (q16, .inl (G 1, 504, .inr (.inl (fun _ => 0)))), (q23, .inl (G 0, 4, .inl (fun _ => 0)))] := hD
  exact W.vret hx hb hr (fun t ht hW => ⟨⟨(q7, q16, q23), rfl, trivial, by rw [ht]; exact hP, va_K.moved hW.alike hK, hD⟩, hS.F ht⟩) hS.2.2 d_Image_init_28 hlk
abbrev bc_Image_copyFrom : ByteArray := prog_5_method_2_code
abbrev y_Image_copyFrom : MethodName := ⟨"ObjectBase$Image", "copyFrom", "(LObjectBase$Image;)V"⟩
def ws_Image_copyFrom : List Cond := .code y_Image_copyFrom bc_Image_copyFrom 2 none :: obW
theorem d_Image_copyFrom_0 : decode bc_Image_copyFrom 0 = .ok (.aload_n 1, 1) := by decide +kernel
theorem d_Image_copyFrom_1 : decode bc_Image_copyFrom 1 = .ok (.getfield 9, 3) := by decide +kernel
theorem d_Image_copyFrom_4 : decode bc_Image_copyFrom 4 = .ok (.iconst 0, 1) := by decide +kernel
theorem d_Image_copyFrom_5 : decode bc_Image_copyFrom 5 = .ok (.aload_n 0, 1) := by decide +kernel
theorem d_Image_copyFrom_6 : decode bc_Image_copyFrom 6 = .ok (.getfield 9, 3) := by decide +kernel
theorem d_Image_copyFrom_9 : decode bc_Image_copyFrom 9 = .ok (.iconst 0, 1) := by decide +kernel
theorem d_Image_copyFrom_10 : decode bc_Image_copyFrom 10 = .ok (.aload_n 0, 1) := by decide +kernel
theorem d_Image_copyFrom_11 : decode bc_Image_copyFrom 11 = .ok (.getfield 9, 3) := by decide +kernel
theorem d_Image_copyFrom_14 : decode bc_Image_copyFrom 14 = .ok (.arraylength, 1) := by decide +kernel
theorem d_Image_copyFrom_15 : decode bc_Image_copyFrom 15 = .ok (.invokestatic 22, 3) := by decide +kernel
theorem d_Image_copyFrom_18 : decode bc_Image_copyFrom 18 = .ok (.aload_n 1, 1) := by decide +kernel
theorem d_Image_copyFrom_19 : decode bc_Image_copyFrom 19 = .ok (.getfield 15, 3) := by decide +kernel
theorem d_Image_copyFrom_22 : decode bc_Image_copyFrom 22 = .ok (.iconst 0, 1) := by decide +kernel
theorem d_Image_copyFrom_23 : decode bc_Image_copyFrom 23 = .ok (.aload_n 0, 1) := by decide +kernel
theorem d_Image_copyFrom_24 : decode bc_Image_copyFrom 24 = .ok (.getfield 15, 3) := by decide +kernel
theorem d_Image_copyFrom_27 : decode bc_Image_copyFrom 27 = .ok (.iconst 0, 1) := by decide +kernel
theorem d_Image_copyFrom_28 : decode bc_Image_copyFrom 28 = .ok (.aload_n 0, 1) := by decide +kernel
theorem d_Image_copyFrom_29 : decode bc_Image_copyFrom 29 = .ok (.getfield 15, 3) := by decide +kernel
theorem d_Image_copyFrom_32 : decode bc_Image_copyFrom 32 = .ok (.arraylength, 1) := by decide +kernel
theorem d_Image_copyFrom_33 : decode bc_Image_copyFrom 33 = .ok (.invokestatic 22, 3) := by decide +kernel
theorem d_Image_copyFrom_36 : decode bc_Image_copyFrom 36 = .ok (.aload_n 1, 1) := by decide +kernel
theorem d_Image_copyFrom_37 : decode bc_Image_copyFrom 37 = .ok (.getfield 19, 3) := by decide +kernel
theorem d_Image_copyFrom_40 : decode bc_Image_copyFrom 40 = .ok (.iconst 0, 1) := by decide +kernel
theorem d_Image_copyFrom_41 : decode bc_Image_copyFrom 41 = .ok (.aload_n 0, 1) := by decide +kernel
theorem d_Image_copyFrom_42 : decode bc_Image_copyFrom 42 = .ok (.getfield 19, 3) := by decide +kernel
theorem d_Image_copyFrom_45 : decode bc_Image_copyFrom 45 = .ok (.iconst 0, 1) := by decide +kernel
theorem d_Image_copyFrom_46 : decode bc_Image_copyFrom 46 = .ok (.aload_n 0, 1) := by decide +kernel
theorem d_Image_copyFrom_47 : decode bc_Image_copyFrom 47 = .ok (.getfield 19, 3) := by decide +kernel
theorem d_Image_copyFrom_50 : decode bc_Image_copyFrom 50 = .ok (.arraylength, 1) := by decide +kernel
theorem d_Image_copyFrom_51 : decode bc_Image_copyFrom 51 = .ok (.invokestatic 22, 3) := by decide +kernel
theorem d_Image_copyFrom_54 : decode bc_Image_copyFrom 54 = .ok (.return_, 1) := by decide +kernel
def cw_Image_copyFrom (G : Nat → ClassId) (a_p1 a_t a_classes a_p1_classes a_values a_p1_values a_names a_p1_names : Nat) (v_classes : Nat → Int32) (v_p1_classes : Nat → Int32) (v_values : Nat → Int64) (v_p1_values : Nat → Int64) (v_names : Nat → Int32) (v_p1_names : Nat → Int32) : va_W := [(a_p1, .inr (4, [.ref a_p1_classes, .ref a_p1_values, .ref a_p1_names])), (a_t, .inr (4, [.ref a_classes, .ref a_values, .ref a_names])), (a_classes, .inl (G 0, 63, .inl v_classes)), (a_p1_classes, .inl (G 0, 63, .inl v_p1_classes)), (a_values, .inl (G 1, 504, .inr (.inl v_values))), (a_p1_values, .inl (G 1, 504, .inr (.inl v_p1_values))), (a_names, .inl (G 0, 4, .inl v_names)), (a_p1_names, .inl (G 0, 4, .inl v_p1_names))]
def f_Image_copyFrom (v_classes : Nat → Int32) (v_p1_classes : Nat → Int32) (v_values : Nat → Int64) (v_p1_values : Nat → Int64) (v_names : Nat → Int32) (v_p1_names : Nat → Int32) : Option ((Nat → Int32) × (Nat → Int64) × (Nat → Int32)) := some (va_cpy v_p1_classes v_classes (0 : Int32).toNatClampNeg (0 : Int32).toNatClampNeg (63 : Int32).toNatClampNeg, va_cpy v_p1_values v_values (0 : Int32).toNatClampNeg (0 : Int32).toNatClampNeg (504 : Int32).toNatClampNeg, va_cpy v_p1_names v_names (0 : Int32).toNatClampNeg (0 : Int32).toNatClampNeg (4 : Int32).toNatClampNeg)
set_option maxHeartbeats 4000000 in
set_option maxRecDepth 100000 in
theorem c_Image_copyFrom (l : Launch) (D : va_G) (G : Nat → ClassId) (a_p1 a_t a_classes a_p1_classes a_values a_p1_values a_names a_p1_names : Nat) (v_classes : Nat → Int32) (v_p1_classes : Nat → Int32) (v_values : Nat → Int64) (v_p1_values : Nat → Int64) (v_names : Nat → Int32) (v_p1_names : Nat → Int32) (o : (Nat → Int32) × (Nat → Int64) × (Nat → Int32)) (hf : f_Image_copyFrom v_classes v_p1_classes v_values v_p1_values v_names v_p1_names = some o) (sz : Nat) : MetV l y_Image_copyFrom ws_Image_copyFrom ({ frames := 1, cells := 0, slots := 0, locals := 72 }) D (obT G) (cw_Image_copyFrom G a_p1 a_t a_classes a_p1_classes a_values a_p1_values a_names a_p1_names v_classes v_p1_classes v_values v_p1_values v_names v_p1_names) (cw_Image_copyFrom G a_p1 a_t a_classes a_p1_classes a_values a_p1_values a_names a_p1_names o.1 v_p1_classes o.2.1 v_p1_values o.2.2 v_p1_names) [.ref a_t, .ref a_p1] sz := by
  refine ob_of (cc := bc_Image_copyFrom) (maxL := 2) (ret := none) (Qc := ObQv D (obT G) (cw_Image_copyFrom G a_p1 a_t a_classes a_p1_classes a_values a_p1_values a_names a_p1_names o.1 v_p1_classes o.2.1 v_p1_values o.2.2 v_p1_names)) (by decide) rfl (Nat.le_of_ble_eq_true rfl) ?_
  intro p e s m below meth c A ls H locs hx hb hr hml hts hown hlk hnm hZ hP hK hD hA hS hl
  have hret : ∀ (o' : (Nat → Int32) × (Nat → Int64) × (Nat → Int32)) (H : Heap) (locs : List Loc) (pc : Nat) (ls : Array Slot), some o' = some o → va_P D vwCl (cw_Image_copyFrom G a_p1 a_t a_classes a_p1_classes a_values a_p1_values a_names a_p1_names o'.1 v_p1_classes o'.2.1 v_p1_values o'.2.2 v_p1_names) H → va_D A (cw_Image_copyFrom G a_p1 a_t a_classes a_p1_classes a_values a_p1_values a_names a_p1_names o'.1 v_p1_classes o'.2.1 v_p1_values o'.2.2 v_p1_names) → va_S A s.heap H locs → decode bc_Image_copyFrom pc = .ok (.return_, 1) → W p l e { frames := 1, cells := 0, slots := 0, locals := 72 } s m ([.ref a_t, .ref a_p1] : List Value).toArray below meth c H locs 0 0 (MQ below (ObQv D (obT G) (cw_Image_copyFrom G a_p1 a_t a_classes a_p1_classes a_values a_p1_values a_names a_p1_names o.1 v_p1_classes o.2.1 v_p1_values o.2.2 v_p1_names) A) ([.ref a_t, .ref a_p1] : List Value).toArray s 0 0 A) (F0 m pc ls []) := by
    intro o' H locs pc ls he hP hD hS hd
    obtain rfl := Option.some.inj he
    exact ob_vret hx hb hr hlk hK hP hD hS hd
  generalize MQ below (ObQv D (obT G) (cw_Image_copyFrom G a_p1 a_t a_classes a_p1_classes a_values a_p1_values a_names a_p1_names o.1 v_p1_classes o.2.1 v_p1_values o.2.2 v_p1_names) A) ([.ref a_t, .ref a_p1] : List Value).toArray s 0 0 A = Q at hret ⊢
  have hl : lv_has ls 2 [(0, .ref a_t), (1, .ref a_p1)] := hl
  unfold f_Image_copyFrom at hf
  refine lv_aload_n hx hb d_Image_copyFrom_0 rfl (lv_at hl 1 rfl) ?_
  refine va_get (D := D) (ci := 4) (v := .ref a_p1_classes) (C := "ObjectBase$Image") (T := TC_Image) (N := 3) hx hb hts inC_Image hown hK hP 0 rfl rfl 0 (by decide) (hts _ tw108) (fun _ h9 => h9) rfl d_Image_copyFrom_1 ?_
  refine lv_iconst (v := 0) hx hb d_Image_copyFrom_4 (by decide) ?_
  refine lv_aload_n hx hb d_Image_copyFrom_5 rfl (lv_at hl 0 rfl) ?_
  refine va_get (D := D) (ci := 4) (v := .ref a_classes) (C := "ObjectBase$Image") (T := TC_Image) (N := 3) hx hb hts inC_Image hown hK hP 1 rfl rfl 0 (by decide) (hts _ tw108) (fun _ h9 => h9) rfl d_Image_copyFrom_6 ?_
  refine lv_iconst (v := 0) hx hb d_Image_copyFrom_9 (by decide) ?_
  refine lv_aload_n hx hb d_Image_copyFrom_10 rfl (lv_at hl 0 rfl) ?_
  refine va_get (D := D) (ci := 4) (v := .ref a_classes) (C := "ObjectBase$Image") (T := TC_Image) (N := 3) hx hb hts inC_Image hown hK hP 1 rfl rfl 0 (by decide) (hts _ tw108) (fun _ h9 => h9) rfl d_Image_copyFrom_11 ?_
  refine va_alen (v := 63) hx hb hK hP 2 0 rfl rfl rfl d_Image_copyFrom_14 ?_
  refine va_copyi hx hb (by rw [hml]; exact hl.1.symm) hown (hts _ tw343) (hts _ tw345) (hts _ tw344) (hts _ tw12) hK hP hD hS 3 2 0 0 rfl rfl rfl rfl rfl (by decide) (by decide) (by decide) (by decide) (by decide) (fun _ _ => rfl) (Nat.le_of_ble_eq_true rfl) (Nat.le_of_ble_eq_true rfl) d_Image_copyFrom_15 (fun H locs hP hD hS => ?_)
  have hP : va_P D vwCl (cw_Image_copyFrom G a_p1 a_t a_classes a_p1_classes a_values a_p1_values a_names a_p1_names (va_cpy v_p1_classes v_classes (0 : Int32).toNatClampNeg (0 : Int32).toNatClampNeg (63 : Int32).toNatClampNeg) v_p1_classes v_values v_p1_values v_names v_p1_names) H := hP
  have hD : va_D A (cw_Image_copyFrom G a_p1 a_t a_classes a_p1_classes a_values a_p1_values a_names a_p1_names (va_cpy v_p1_classes v_classes (0 : Int32).toNatClampNeg (0 : Int32).toNatClampNeg (63 : Int32).toNatClampNeg) v_p1_classes v_values v_p1_values v_names v_p1_names) := hD
  refine lv_aload_n hx hb d_Image_copyFrom_18 rfl (lv_at hl 1 rfl) ?_
  refine va_get (D := D) (ci := 4) (v := .ref a_p1_values) (C := "ObjectBase$Image") (T := TC_Image) (N := 3) hx hb hts inC_Image hown hK hP 0 rfl rfl 1 (by decide) (hts _ tw110) (fun _ h9 => h9) rfl d_Image_copyFrom_19 ?_
  refine lv_iconst (v := 0) hx hb d_Image_copyFrom_22 (by decide) ?_
  refine lv_aload_n hx hb d_Image_copyFrom_23 rfl (lv_at hl 0 rfl) ?_
  refine va_get (D := D) (ci := 4) (v := .ref a_values) (C := "ObjectBase$Image") (T := TC_Image) (N := 3) hx hb hts inC_Image hown hK hP 1 rfl rfl 1 (by decide) (hts _ tw110) (fun _ h9 => h9) rfl d_Image_copyFrom_24 ?_
  refine lv_iconst (v := 0) hx hb d_Image_copyFrom_27 (by decide) ?_
  refine lv_aload_n hx hb d_Image_copyFrom_28 rfl (lv_at hl 0 rfl) ?_
  refine va_get (D := D) (ci := 4) (v := .ref a_values) (C := "ObjectBase$Image") (T := TC_Image) (N := 3) hx hb hts inC_Image hown hK hP 1 rfl rfl 1 (by decide) (hts _ tw110) (fun _ h9 => h9) rfl d_Image_copyFrom_29 ?_
  refine va_alen (v := 504) hx hb hK hP 4 1 rfl rfl rfl d_Image_copyFrom_32 ?_
  refine va_copyl hx hb (by rw [hml]; exact hl.1.symm) hown (hts _ tw343) (hts _ tw345) (hts _ tw344) (hts _ tw12) hK hP hD hS 5 4 1 1 rfl rfl rfl rfl rfl (by decide) (by decide) (by decide) (by decide) (by decide) (fun _ _ => rfl) (Nat.le_of_ble_eq_true rfl) (Nat.le_of_ble_eq_true rfl) d_Image_copyFrom_33 (fun H locs hP hD hS => ?_)
  have hP : va_P D vwCl (cw_Image_copyFrom G a_p1 a_t a_classes a_p1_classes a_values a_p1_values a_names a_p1_names (va_cpy v_p1_classes v_classes (0 : Int32).toNatClampNeg (0 : Int32).toNatClampNeg (63 : Int32).toNatClampNeg) v_p1_classes (va_cpy v_p1_values v_values (0 : Int32).toNatClampNeg (0 : Int32).toNatClampNeg (504 : Int32).toNatClampNeg) v_p1_values v_names v_p1_names) H := hP
  have hD : va_D A (cw_Image_copyFrom G a_p1 a_t a_classes a_p1_classes a_values a_p1_values a_names a_p1_names (va_cpy v_p1_classes v_classes (0 : Int32).toNatClampNeg (0 : Int32).toNatClampNeg (63 : Int32).toNatClampNeg) v_p1_classes (va_cpy v_p1_values v_values (0 : Int32).toNatClampNeg (0 : Int32).toNatClampNeg (504 : Int32).toNatClampNeg) v_p1_values v_names v_p1_names) := hD
  refine lv_aload_n hx hb d_Image_copyFrom_36 rfl (lv_at hl 1 rfl) ?_
  refine va_get (D := D) (ci := 4) (v := .ref a_p1_names) (C := "ObjectBase$Image") (T := TC_Image) (N := 3) hx hb hts inC_Image hown hK hP 0 rfl rfl 2 (by decide) (hts _ tw112) (fun _ h9 => h9) rfl d_Image_copyFrom_37 ?_
  refine lv_iconst (v := 0) hx hb d_Image_copyFrom_40 (by decide) ?_
  refine lv_aload_n hx hb d_Image_copyFrom_41 rfl (lv_at hl 0 rfl) ?_
  refine va_get (D := D) (ci := 4) (v := .ref a_names) (C := "ObjectBase$Image") (T := TC_Image) (N := 3) hx hb hts inC_Image hown hK hP 1 rfl rfl 2 (by decide) (hts _ tw112) (fun _ h9 => h9) rfl d_Image_copyFrom_42 ?_
  refine lv_iconst (v := 0) hx hb d_Image_copyFrom_45 (by decide) ?_
  refine lv_aload_n hx hb d_Image_copyFrom_46 rfl (lv_at hl 0 rfl) ?_
  refine va_get (D := D) (ci := 4) (v := .ref a_names) (C := "ObjectBase$Image") (T := TC_Image) (N := 3) hx hb hts inC_Image hown hK hP 1 rfl rfl 2 (by decide) (hts _ tw112) (fun _ h9 => h9) rfl d_Image_copyFrom_47 ?_
  refine va_alen (v := 4) hx hb hK hP 6 0 rfl rfl rfl d_Image_copyFrom_50 ?_
  refine va_copyi hx hb (by rw [hml]; exact hl.1.symm) hown (hts _ tw343) (hts _ tw345) (hts _ tw344) (hts _ tw12) hK hP hD hS 7 6 0 0 rfl rfl rfl rfl rfl (by decide) (by decide) (by decide) (by decide) (by decide) (fun _ _ => rfl) (Nat.le_of_ble_eq_true rfl) (Nat.le_of_ble_eq_true rfl) d_Image_copyFrom_51 (fun H locs hP hD hS => ?_)
  have hP : va_P D vwCl (cw_Image_copyFrom G a_p1 a_t a_classes a_p1_classes a_values a_p1_values a_names a_p1_names (va_cpy v_p1_classes v_classes (0 : Int32).toNatClampNeg (0 : Int32).toNatClampNeg (63 : Int32).toNatClampNeg) v_p1_classes (va_cpy v_p1_values v_values (0 : Int32).toNatClampNeg (0 : Int32).toNatClampNeg (504 : Int32).toNatClampNeg) v_p1_values (va_cpy v_p1_names v_names (0 : Int32).toNatClampNeg (0 : Int32).toNatClampNeg (4 : Int32).toNatClampNeg) v_p1_names) H := hP
  have hD : va_D A (cw_Image_copyFrom G a_p1 a_t a_classes a_p1_classes a_values a_p1_values a_names a_p1_names (va_cpy v_p1_classes v_classes (0 : Int32).toNatClampNeg (0 : Int32).toNatClampNeg (63 : Int32).toNatClampNeg) v_p1_classes (va_cpy v_p1_values v_values (0 : Int32).toNatClampNeg (0 : Int32).toNatClampNeg (504 : Int32).toNatClampNeg) v_p1_values (va_cpy v_p1_names v_names (0 : Int32).toNatClampNeg (0 : Int32).toNatClampNeg (4 : Int32).toNatClampNeg) v_p1_names) := hD
  exact hret (va_cpy v_p1_classes v_classes (0 : Int32).toNatClampNeg (0 : Int32).toNatClampNeg (63 : Int32).toNatClampNeg, va_cpy v_p1_values v_values (0 : Int32).toNatClampNeg (0 : Int32).toNatClampNeg (504 : Int32).toNatClampNeg, va_cpy v_p1_names v_names (0 : Int32).toNatClampNeg (0 : Int32).toNatClampNeg (4 : Int32).toNatClampNeg) H locs _ ls hf hP hD hS d_Image_copyFrom_54
abbrev bc_Image_classAt : ByteArray := prog_5_method_3_code
abbrev y_Image_classAt : MethodName := ⟨"ObjectBase$Image", "classAt", "(I)I"⟩
def ws_Image_classAt : List Cond := .code y_Image_classAt bc_Image_classAt 2 (some .int) :: obW
theorem d_Image_classAt_0 : decode bc_Image_classAt 0 = .ok (.iload_n 1, 1) := by decide +kernel
theorem d_Image_classAt_1 : decode bc_Image_classAt 1 = .ok (.iconst 1, 1) := by decide +kernel
theorem d_Image_classAt_2 : decode bc_Image_classAt 2 = .ok (.if_icmp .lt 18, 3) := by decide +kernel
theorem d_Image_classAt_5 : decode bc_Image_classAt 5 = .ok (.iload_n 1, 1) := by decide +kernel
theorem d_Image_classAt_6 : decode bc_Image_classAt 6 = .ok (.bipush 62, 2) := by decide +kernel
theorem d_Image_classAt_8 : decode bc_Image_classAt 8 = .ok (.if_icmp .gt 12, 3) := by decide +kernel
theorem d_Image_classAt_11 : decode bc_Image_classAt 11 = .ok (.aload_n 0, 1) := by decide +kernel
theorem d_Image_classAt_12 : decode bc_Image_classAt 12 = .ok (.getfield 9, 3) := by decide +kernel
theorem d_Image_classAt_15 : decode bc_Image_classAt 15 = .ok (.iload_n 1, 1) := by decide +kernel
theorem d_Image_classAt_16 : decode bc_Image_classAt 16 = .ok (.iaload, 1) := by decide +kernel
theorem d_Image_classAt_17 : decode bc_Image_classAt 17 = .ok (.goto 4, 3) := by decide +kernel
theorem d_Image_classAt_20 : decode bc_Image_classAt 20 = .ok (.iconst 0, 1) := by decide +kernel
theorem d_Image_classAt_21 : decode bc_Image_classAt 21 = .ok (.ireturn, 1) := by decide +kernel
def cw_Image_classAt (G : Nat → ClassId) (a_t a_classes a_values a_names : Nat) (v_classes : Nat → Int32) : va_W := [(a_t, .inr (4, [.ref a_classes, .ref a_values, .ref a_names])), (a_classes, .inl (G 0, 63, .inl v_classes))]
def f_Image_classAt (v_classes : Nat → Int32) (p1 : Int32) : Option (Int32) := if p1 < 1 then (some 0) else (if 62 < p1 then (some 0) else (ob_iv p1 63 (some (v_classes p1.toNatClampNeg))))
set_option maxHeartbeats 4000000 in
set_option maxRecDepth 100000 in
theorem c_Image_classAt (l : Launch) (D : va_G) (G : Nat → ClassId) (a_t a_classes a_values a_names : Nat) (v_classes : Nat → Int32) (p1 : Int32) (o : Int32) (hf : f_Image_classAt v_classes p1 = some o) (sz : Nat) : MetI l y_Image_classAt ws_Image_classAt ({ frames := 0, cells := 0, slots := 0, locals := 0 }) D (obT G) (cw_Image_classAt G a_t a_classes a_values a_names v_classes) (cw_Image_classAt G a_t a_classes a_values a_names v_classes) [.ref a_t, .int p1] o sz := by
  refine ob_of (cc := bc_Image_classAt) (maxL := 2) (ret := (some .int)) (Qc := ObQi D (obT G) (cw_Image_classAt G a_t a_classes a_values a_names v_classes) o) (by decide) rfl (Nat.le_of_ble_eq_true rfl) ?_
  intro p e s m below meth c A ls H locs hx hb hr hml hts hown hlk hnm hZ hP hK hD hA hS hl
  have hret : ∀ (o' : Int32) (H : Heap) (locs : List Loc) (pc : Nat) (ls : Array Slot), some o' = some o → va_P D vwCl (cw_Image_classAt G a_t a_classes a_values a_names v_classes) H → va_D A (cw_Image_classAt G a_t a_classes a_values a_names v_classes) → va_S A s.heap H locs → narrow .int (.int o') = .int o' → decode bc_Image_classAt pc = .ok (.ireturn, 1) → W p l e { frames := 0, cells := 0, slots := 0, locals := 0 } s m ([.ref a_t, .int p1] : List Value).toArray below meth c H locs 0 0 (MQ below (ObQi D (obT G) (cw_Image_classAt G a_t a_classes a_values a_names v_classes) o A) ([.ref a_t, .int p1] : List Value).toArray s 0 0 A) (F0 m pc ls [.int o']) := by
    intro o' H locs pc ls he hP hD hS hn hd
    obtain rfl := Option.some.inj he
    exact ob_iret hx hb hr hlk hK hP hD hS hn hd
  generalize MQ below (ObQi D (obT G) (cw_Image_classAt G a_t a_classes a_values a_names v_classes) o A) ([.ref a_t, .int p1] : List Value).toArray s 0 0 A = Q at hret ⊢
  have hl : lv_has ls 2 [(0, .ref a_t), (1, .int p1)] := hl
  unfold f_Image_classAt at hf
  refine lv_iload_n hx hb d_Image_classAt_0 rfl (lv_at hl 1 rfl) ?_
  refine lv_iconst (v := 1) hx hb d_Image_classAt_1 (by decide) ?_
  refine lv_icmp_lt (tgt := 20) hx hb d_Image_classAt_2 (by decide) (fun hc2 => ?_) (fun hc2 => ?_)
  · have hf := ob_t hc2 hf
    refine lv_iconst (v := 0) hx hb d_Image_classAt_20 (by decide) ?_
    exact hret 0 H locs _ ls hf hP hD hS rfl d_Image_classAt_21
  · have hf := ob_f hc2 hf
    refine lv_iload_n hx hb d_Image_classAt_5 rfl (lv_at hl 1 rfl) ?_
    refine lv_bipush (v := 62) hx hb d_Image_classAt_6 (by decide) ?_
    refine lv_icmp_gt (tgt := 20) hx hb d_Image_classAt_8 (by decide) (fun hc8 => ?_) (fun hc8 => ?_)
    · have hf := ob_t hc8 hf
      refine lv_iconst (v := 0) hx hb d_Image_classAt_20 (by decide) ?_
      exact hret 0 H locs _ ls hf hP hD hS rfl d_Image_classAt_21
    · have hf := ob_f hc8 hf
      refine lv_aload_n hx hb d_Image_classAt_11 rfl (lv_at hl 0 rfl) ?_
      refine va_get (D := D) (ci := 4) (v := .ref a_classes) (C := "ObjectBase$Image") (T := TC_Image) (N := 3) hx hb hts inC_Image hown hK hP 0 rfl rfl 0 (by decide) (hts _ tw108) (fun _ h9 => h9) rfl d_Image_classAt_12 ?_
      refine lv_iload_n hx hb d_Image_classAt_15 rfl (lv_at hl 1 rfl) ?_
      obtain ⟨hg16, hf⟩ := ob_iv_g hf
      refine va_iald hx hb hK hP 1 0 rfl rfl hg16 d_Image_classAt_16 ?_
      refine lv_goto (tgt := 21) hx hb d_Image_classAt_17 (by decide) ?_
      exact hret (v_classes p1.toNatClampNeg) H locs _ ls hf hP hD hS rfl d_Image_classAt_21
abbrev bc_Image_valueOf : ByteArray := prog_5_method_4_code
abbrev y_Image_valueOf : MethodName := ⟨"ObjectBase$Image", "valueOf", "(II)J"⟩
def ws_Image_valueOf : List Cond := .code y_Image_valueOf bc_Image_valueOf 3 (some .long) :: obW
theorem d_Image_valueOf_0 : decode bc_Image_valueOf 0 = .ok (.iload_n 1, 1) := by decide +kernel
theorem d_Image_valueOf_1 : decode bc_Image_valueOf 1 = .ok (.iconst 1, 1) := by decide +kernel
theorem d_Image_valueOf_2 : decode bc_Image_valueOf 2 = .ok (.if_icmp .lt 19, 3) := by decide +kernel
theorem d_Image_valueOf_5 : decode bc_Image_valueOf 5 = .ok (.iload_n 1, 1) := by decide +kernel
theorem d_Image_valueOf_6 : decode bc_Image_valueOf 6 = .ok (.bipush 62, 2) := by decide +kernel
theorem d_Image_valueOf_8 : decode bc_Image_valueOf 8 = .ok (.if_icmp .gt 13, 3) := by decide +kernel
theorem d_Image_valueOf_11 : decode bc_Image_valueOf 11 = .ok (.iload_n 2, 1) := by decide +kernel
theorem d_Image_valueOf_12 : decode bc_Image_valueOf 12 = .ok (.ifCond .lt 9, 3) := by decide +kernel
theorem d_Image_valueOf_15 : decode bc_Image_valueOf 15 = .ok (.iload_n 2, 1) := by decide +kernel
theorem d_Image_valueOf_16 : decode bc_Image_valueOf 16 = .ok (.bipush 8, 2) := by decide +kernel
theorem d_Image_valueOf_18 : decode bc_Image_valueOf 18 = .ok (.if_icmp .lt 5, 3) := by decide +kernel
theorem d_Image_valueOf_21 : decode bc_Image_valueOf 21 = .ok (.lconst 0, 1) := by decide +kernel
theorem d_Image_valueOf_22 : decode bc_Image_valueOf 22 = .ok (.lreturn, 1) := by decide +kernel
theorem d_Image_valueOf_23 : decode bc_Image_valueOf 23 = .ok (.aload_n 0, 1) := by decide +kernel
theorem d_Image_valueOf_24 : decode bc_Image_valueOf 24 = .ok (.getfield 15, 3) := by decide +kernel
theorem d_Image_valueOf_27 : decode bc_Image_valueOf 27 = .ok (.iload_n 1, 1) := by decide +kernel
theorem d_Image_valueOf_28 : decode bc_Image_valueOf 28 = .ok (.bipush 8, 2) := by decide +kernel
theorem d_Image_valueOf_30 : decode bc_Image_valueOf 30 = .ok (.imul, 1) := by decide +kernel
theorem d_Image_valueOf_31 : decode bc_Image_valueOf 31 = .ok (.iload_n 2, 1) := by decide +kernel
theorem d_Image_valueOf_32 : decode bc_Image_valueOf 32 = .ok (.iadd, 1) := by decide +kernel
theorem d_Image_valueOf_33 : decode bc_Image_valueOf 33 = .ok (.laload, 1) := by decide +kernel
theorem d_Image_valueOf_34 : decode bc_Image_valueOf 34 = .ok (.lreturn, 1) := by decide +kernel
def cw_Image_valueOf (G : Nat → ClassId) (a_t a_values a_classes a_names : Nat) (v_values : Nat → Int64) : va_W := [(a_t, .inr (4, [.ref a_classes, .ref a_values, .ref a_names])), (a_values, .inl (G 1, 504, .inr (.inl v_values)))]
def f_Image_valueOf (v_values : Nat → Int64) (p1 : Int32) (p2 : Int32) : Option (Int64) := if p1 < 1 then (some 0) else (if 62 < p1 then (some 0) else (if p2 < 0 then (some 0) else (if p2 < 8 then (ob_iv ((p1 * 8) + p2) 504 (some (v_values ((p1 * 8) + p2).toNatClampNeg))) else (some 0))))
set_option maxHeartbeats 4000000 in
set_option maxRecDepth 100000 in
theorem c_Image_valueOf (l : Launch) (D : va_G) (G : Nat → ClassId) (a_t a_values a_classes a_names : Nat) (v_values : Nat → Int64) (p1 : Int32) (p2 : Int32) (o : Int64) (hf : f_Image_valueOf v_values p1 p2 = some o) (sz : Nat) : MetL l y_Image_valueOf ws_Image_valueOf ({ frames := 0, cells := 0, slots := 0, locals := 0 }) D (obT G) (cw_Image_valueOf G a_t a_values a_classes a_names v_values) (cw_Image_valueOf G a_t a_values a_classes a_names v_values) [.ref a_t, .int p1, .int p2] o sz := by
  refine ob_of (cc := bc_Image_valueOf) (maxL := 3) (ret := (some .long)) (Qc := ObQl D (obT G) (cw_Image_valueOf G a_t a_values a_classes a_names v_values) o) (by decide) rfl (Nat.le_of_ble_eq_true rfl) ?_
  intro p e s m below meth c A ls H locs hx hb hr hml hts hown hlk hnm hZ hP hK hD hA hS hl
  have hret : ∀ (o' : Int64) (H : Heap) (locs : List Loc) (pc : Nat) (ls : Array Slot), some o' = some o → va_P D vwCl (cw_Image_valueOf G a_t a_values a_classes a_names v_values) H → va_D A (cw_Image_valueOf G a_t a_values a_classes a_names v_values) → va_S A s.heap H locs → decode bc_Image_valueOf pc = .ok (.lreturn, 1) → W p l e { frames := 0, cells := 0, slots := 0, locals := 0 } s m ([.ref a_t, .int p1, .int p2] : List Value).toArray below meth c H locs 0 0 (MQ below (ObQl D (obT G) (cw_Image_valueOf G a_t a_values a_classes a_names v_values) o A) ([.ref a_t, .int p1, .int p2] : List Value).toArray s 0 0 A) (F0 m pc ls [.long o']) := by
    intro o' H locs pc ls he hP hD hS hd
    obtain rfl := Option.some.inj he
    exact ob_lret hx hb hr hlk hK hP hD hS hd
  generalize MQ below (ObQl D (obT G) (cw_Image_valueOf G a_t a_values a_classes a_names v_values) o A) ([.ref a_t, .int p1, .int p2] : List Value).toArray s 0 0 A = Q at hret ⊢
  have hl : lv_has ls 3 [(0, .ref a_t), (1, .int p1), (2, .int p2)] := hl
  unfold f_Image_valueOf at hf
  refine lv_iload_n hx hb d_Image_valueOf_0 rfl (lv_at hl 1 rfl) ?_
  refine lv_iconst (v := 1) hx hb d_Image_valueOf_1 (by decide) ?_
  refine lv_icmp_lt (tgt := 21) hx hb d_Image_valueOf_2 (by decide) (fun hc2 => ?_) (fun hc2 => ?_)
  · have hf := ob_t hc2 hf
    refine lv_lconst (v := 0) hx hb d_Image_valueOf_21 (by decide) ?_
    exact hret 0 H locs _ ls hf hP hD hS d_Image_valueOf_22
  · have hf := ob_f hc2 hf
    refine lv_iload_n hx hb d_Image_valueOf_5 rfl (lv_at hl 1 rfl) ?_
    refine lv_bipush (v := 62) hx hb d_Image_valueOf_6 (by decide) ?_
    refine lv_icmp_gt (tgt := 21) hx hb d_Image_valueOf_8 (by decide) (fun hc8 => ?_) (fun hc8 => ?_)
    · have hf := ob_t hc8 hf
      refine lv_lconst (v := 0) hx hb d_Image_valueOf_21 (by decide) ?_
      exact hret 0 H locs _ ls hf hP hD hS d_Image_valueOf_22
    · have hf := ob_f hc8 hf
      refine lv_iload_n hx hb d_Image_valueOf_11 rfl (lv_at hl 2 rfl) ?_
      refine lv_if_lt (tgt := 21) hx hb d_Image_valueOf_12 (by decide) (fun hc12 => ?_) (fun hc12 => ?_)
      · have hf := ob_t hc12 hf
        refine lv_lconst (v := 0) hx hb d_Image_valueOf_21 (by decide) ?_
        exact hret 0 H locs _ ls hf hP hD hS d_Image_valueOf_22
      · have hf := ob_f hc12 hf
        refine lv_iload_n hx hb d_Image_valueOf_15 rfl (lv_at hl 2 rfl) ?_
        refine lv_bipush (v := 8) hx hb d_Image_valueOf_16 (by decide) ?_
        refine lv_icmp_lt (tgt := 23) hx hb d_Image_valueOf_18 (by decide) (fun hc18 => ?_) (fun hc18 => ?_)
        · have hf := ob_t hc18 hf
          refine lv_aload_n hx hb d_Image_valueOf_23 rfl (lv_at hl 0 rfl) ?_
          refine va_get (D := D) (ci := 4) (v := .ref a_values) (C := "ObjectBase$Image") (T := TC_Image) (N := 3) hx hb hts inC_Image hown hK hP 0 rfl rfl 1 (by decide) (hts _ tw110) (fun _ h9 => h9) rfl d_Image_valueOf_24 ?_
          refine lv_iload_n hx hb d_Image_valueOf_27 rfl (lv_at hl 1 rfl) ?_
          refine lv_bipush (v := 8) hx hb d_Image_valueOf_28 (by decide) ?_
          refine lv_imul hx hb d_Image_valueOf_30 ?_
          refine lv_iload_n hx hb d_Image_valueOf_31 rfl (lv_at hl 2 rfl) ?_
          refine lv_iadd hx hb d_Image_valueOf_32 ?_
          obtain ⟨hg33, hf⟩ := ob_iv_g hf
          refine va_lald hx hb hK hP 1 1 rfl rfl hg33 d_Image_valueOf_33 ?_
          exact hret (v_values ((p1 * 8) + p2).toNatClampNeg) H locs _ ls hf hP hD hS d_Image_valueOf_34
        · have hf := ob_f hc18 hf
          refine lv_lconst (v := 0) hx hb d_Image_valueOf_21 (by decide) ?_
          exact hret 0 H locs _ ls hf hP hD hS d_Image_valueOf_22
abbrev bc_Image_objectCount : ByteArray := prog_5_method_5_code
abbrev y_Image_objectCount : MethodName := ⟨"ObjectBase$Image", "objectCount", "()I"⟩
def ws_Image_objectCount : List Cond := .code y_Image_objectCount bc_Image_objectCount 3 (some .int) :: obW
theorem d_Image_objectCount_0 : decode bc_Image_objectCount 0 = .ok (.iconst 0, 1) := by decide +kernel
theorem d_Image_objectCount_1 : decode bc_Image_objectCount 1 = .ok (.istore_n 1, 1) := by decide +kernel
theorem d_Image_objectCount_2 : decode bc_Image_objectCount 2 = .ok (.iconst 1, 1) := by decide +kernel
theorem d_Image_objectCount_3 : decode bc_Image_objectCount 3 = .ok (.istore_n 2, 1) := by decide +kernel
theorem d_Image_objectCount_4 : decode bc_Image_objectCount 4 = .ok (.iload_n 2, 1) := by decide +kernel
theorem d_Image_objectCount_5 : decode bc_Image_objectCount 5 = .ok (.bipush 62, 2) := by decide +kernel
theorem d_Image_objectCount_7 : decode bc_Image_objectCount 7 = .ok (.if_icmp .gt 21, 3) := by decide +kernel
theorem d_Image_objectCount_10 : decode bc_Image_objectCount 10 = .ok (.aload_n 0, 1) := by decide +kernel
theorem d_Image_objectCount_11 : decode bc_Image_objectCount 11 = .ok (.getfield 9, 3) := by decide +kernel
theorem d_Image_objectCount_14 : decode bc_Image_objectCount 14 = .ok (.iload_n 2, 1) := by decide +kernel
theorem d_Image_objectCount_15 : decode bc_Image_objectCount 15 = .ok (.iaload, 1) := by decide +kernel
theorem d_Image_objectCount_16 : decode bc_Image_objectCount 16 = .ok (.ifCond .eq 6, 3) := by decide +kernel
theorem d_Image_objectCount_19 : decode bc_Image_objectCount 19 = .ok (.iinc 1 1, 3) := by decide +kernel
theorem d_Image_objectCount_22 : decode bc_Image_objectCount 22 = .ok (.iinc 2 1, 3) := by decide +kernel
theorem d_Image_objectCount_25 : decode bc_Image_objectCount 25 = .ok (.goto (-21), 3) := by decide +kernel
theorem d_Image_objectCount_28 : decode bc_Image_objectCount 28 = .ok (.iload_n 1, 1) := by decide +kernel
theorem d_Image_objectCount_29 : decode bc_Image_objectCount 29 = .ok (.ireturn, 1) := by decide +kernel
def cw_Image_objectCount (G : Nat → ClassId) (a_t a_classes a_values a_names : Nat) (v_classes : Nat → Int32) : va_W := [(a_t, .inr (4, [.ref a_classes, .ref a_values, .ref a_names])), (a_classes, .inl (G 0, 63, .inl v_classes))]
def f_Image_objectCount_B4 (v_classes : Nat → Int32) (k4 : Int32 → Int32 → Option (Int32)) (x4_1 : Int32) (x4_2 : Int32) : Option (Int32) := if 62 < x4_2 then (some x4_1) else (ob_iv x4_2 63 (if (v_classes x4_2.toNatClampNeg) = 0 then (k4 x4_1 (x4_2 + 1)) else (k4 (x4_1 + 1) (x4_2 + 1))))
def f_Image_objectCount_L4 (v_classes : Nat → Int32) : Nat → Int32 → Int32 → Option (Int32) := ob_lp2 (f_Image_objectCount_B4 v_classes)
def f_Image_objectCount (v_classes : Nat → Int32) : Option (Int32) := f_Image_objectCount_L4 v_classes 1000 0 1
set_option maxHeartbeats 4000000 in
set_option maxRecDepth 100000 in
theorem c_Image_objectCount (l : Launch) (D : va_G) (G : Nat → ClassId) (a_t a_classes a_values a_names : Nat) (v_classes : Nat → Int32) (o : Int32) (hf : f_Image_objectCount v_classes = some o) (sz : Nat) : MetI l y_Image_objectCount ws_Image_objectCount ({ frames := 0, cells := 0, slots := 0, locals := 0 }) D (obT G) (cw_Image_objectCount G a_t a_classes a_values a_names v_classes) (cw_Image_objectCount G a_t a_classes a_values a_names v_classes) [.ref a_t] o sz := by
  refine ob_of (cc := bc_Image_objectCount) (maxL := 3) (ret := (some .int)) (Qc := ObQi D (obT G) (cw_Image_objectCount G a_t a_classes a_values a_names v_classes) o) (by decide) rfl (Nat.le_of_ble_eq_true rfl) ?_
  intro p e s m below meth c A ls H locs hx hb hr hml hts hown hlk hnm hZ hP hK hD hA hS hl
  have hret : ∀ (o' : Int32) (H : Heap) (locs : List Loc) (pc : Nat) (ls : Array Slot), some o' = some o → va_P D vwCl (cw_Image_objectCount G a_t a_classes a_values a_names v_classes) H → va_D A (cw_Image_objectCount G a_t a_classes a_values a_names v_classes) → va_S A s.heap H locs → narrow .int (.int o') = .int o' → decode bc_Image_objectCount pc = .ok (.ireturn, 1) → W p l e { frames := 0, cells := 0, slots := 0, locals := 0 } s m ([.ref a_t] : List Value).toArray below meth c H locs 0 0 (MQ below (ObQi D (obT G) (cw_Image_objectCount G a_t a_classes a_values a_names v_classes) o A) ([.ref a_t] : List Value).toArray s 0 0 A) (F0 m pc ls [.int o']) := by
    intro o' H locs pc ls he hP hD hS hn hd
    obtain rfl := Option.some.inj he
    exact ob_iret hx hb hr hlk hK hP hD hS hn hd
  generalize MQ below (ObQi D (obT G) (cw_Image_objectCount G a_t a_classes a_values a_names v_classes) o A) ([.ref a_t] : List Value).toArray s 0 0 A = Q at hret ⊢
  have hl : lv_has ls 3 [(0, .ref a_t)] := hl
  unfold f_Image_objectCount at hf
  have loop4 : ∀ (n4 : Nat) (x4_1 : Int32) (x4_2 : Int32) (ls : Array Slot) (H : Heap) (locs : List Loc), lv_has ls 3 [(0, .ref a_t), (1, .int x4_1), (2, .int x4_2)] → va_P D vwCl (cw_Image_objectCount G a_t a_classes a_values a_names v_classes) H → va_D A (cw_Image_objectCount G a_t a_classes a_values a_names v_classes) → va_S A s.heap H locs → f_Image_objectCount_L4 v_classes n4 x4_1 x4_2 = some o → W p l e ({ frames := 0, cells := 0, slots := 0, locals := 0 }) s m ([.ref a_t] : List Value).toArray below meth c H locs 0 0 Q (F0 m 4 ls []) := by
    intro n4
    induction n4 with
    | zero => intro x4_1 x4_2 ls H locs hl hP hD hS hf; exact ob_no hf
    | succ n4 ih4 =>
      intro x4_1 x4_2 ls H locs hl hP hD hS hf
      have hf : f_Image_objectCount_B4 v_classes (f_Image_objectCount_L4 v_classes n4) x4_1 x4_2 = some o := hf
      unfold f_Image_objectCount_B4 at hf
      refine lv_iload_n hx hb d_Image_objectCount_4 rfl (lv_at hl 2 rfl) ?_
      refine lv_bipush (v := 62) hx hb d_Image_objectCount_5 (by decide) ?_
      refine lv_icmp_gt (tgt := 28) hx hb d_Image_objectCount_7 (by decide) (fun hc7 => ?_) (fun hc7 => ?_)
      · have hf := ob_t hc7 hf
        refine lv_iload_n hx hb d_Image_objectCount_28 rfl (lv_at hl 1 rfl) ?_
        exact hret x4_1 H locs _ ls hf hP hD hS rfl d_Image_objectCount_29
      · have hf := ob_f hc7 hf
        refine lv_aload_n hx hb d_Image_objectCount_10 rfl (lv_at hl 0 rfl) ?_
        refine va_get (D := D) (ci := 4) (v := .ref a_classes) (C := "ObjectBase$Image") (T := TC_Image) (N := 3) hx hb hts inC_Image hown hK hP 0 rfl rfl 0 (by decide) (hts _ tw108) (fun _ h9 => h9) rfl d_Image_objectCount_11 ?_
        refine lv_iload_n hx hb d_Image_objectCount_14 rfl (lv_at hl 2 rfl) ?_
        obtain ⟨hg15, hf⟩ := ob_iv_g hf
        refine va_iald hx hb hK hP 1 0 rfl rfl hg15 d_Image_objectCount_15 ?_
        refine lv_if_eq (tgt := 22) hx hb d_Image_objectCount_16 (by decide) (fun hc16 => ?_) (fun hc16 => ?_)
        · have hf := ob_t hc16 hf
          refine lv_iinc (k := 2) (v := x4_2 + 1) (lv' := [(2, .int (x4_2 + 1)), (0, .ref a_t), (1, .int x4_1)]) hx hb d_Image_objectCount_22 hl rfl (by rw [show Int32.ofInt 1 = (1 : Int32) from by decide]) (by decide) rfl (fun ls hl => ?_)
          refine lv_goto (tgt := 4) hx hb d_Image_objectCount_25 (by decide) ?_
          exact ih4 x4_1 (x4_2 + 1) ls H locs (lv_sub hl [1, 2, 0] rfl) hP hD hS hf
        · have hf := ob_f hc16 hf
          refine lv_iinc (k := 1) (v := x4_1 + 1) (lv' := [(1, .int (x4_1 + 1)), (0, .ref a_t), (2, .int x4_2)]) hx hb d_Image_objectCount_19 hl rfl (by rw [show Int32.ofInt 1 = (1 : Int32) from by decide]) (by decide) rfl (fun ls hl => ?_)
          refine lv_iinc (k := 2) (v := x4_2 + 1) (lv' := [(2, .int (x4_2 + 1)), (1, .int (x4_1 + 1)), (0, .ref a_t)]) hx hb d_Image_objectCount_22 hl rfl (by rw [show Int32.ofInt 1 = (1 : Int32) from by decide]) (by decide) rfl (fun ls hl => ?_)
          refine lv_goto (tgt := 4) hx hb d_Image_objectCount_25 (by decide) ?_
          exact ih4 (x4_1 + 1) (x4_2 + 1) ls H locs (lv_sub hl [2, 1, 0] rfl) hP hD hS hf
  refine lv_iconst (v := 0) hx hb d_Image_objectCount_0 (by decide) ?_
  refine lv_istore_n (lv' := [(1, .int 0), (0, .ref a_t)]) hx hb d_Image_objectCount_1 rfl hl (by decide) rfl (fun ls hl => ?_)
  refine lv_iconst (v := 1) hx hb d_Image_objectCount_2 (by decide) ?_
  refine lv_istore_n (lv' := [(2, .int 1), (1, .int 0), (0, .ref a_t)]) hx hb d_Image_objectCount_3 rfl hl (by decide) rfl (fun ls hl => ?_)
  exact loop4 1000 0 1 ls H locs (lv_sub hl [2, 1, 0] rfl) hP hD hS hf
abbrev bc_Image_keepOnly : ByteArray := prog_5_method_7_code
abbrev y_Image_keepOnly : MethodName := ⟨"ObjectBase$Image", "keepOnly", "(J)V"⟩
def ws_Image_keepOnly : List Cond := .code y_Image_keepOnly bc_Image_keepOnly 4 none :: obW
theorem d_Image_keepOnly_0 : decode bc_Image_keepOnly 0 = .ok (.iconst 1, 1) := by decide +kernel
theorem d_Image_keepOnly_1 : decode bc_Image_keepOnly 1 = .ok (.istore_n 3, 1) := by decide +kernel
theorem d_Image_keepOnly_2 : decode bc_Image_keepOnly 2 = .ok (.iload_n 3, 1) := by decide +kernel
theorem d_Image_keepOnly_3 : decode bc_Image_keepOnly 3 = .ok (.bipush 62, 2) := by decide +kernel
theorem d_Image_keepOnly_5 : decode bc_Image_keepOnly 5 = .ok (.if_icmp .gt 24, 3) := by decide +kernel
theorem d_Image_keepOnly_8 : decode bc_Image_keepOnly 8 = .ok (.lload_n 1, 1) := by decide +kernel
theorem d_Image_keepOnly_9 : decode bc_Image_keepOnly 9 = .ok (.iload_n 3, 1) := by decide +kernel
theorem d_Image_keepOnly_10 : decode bc_Image_keepOnly 10 = .ok (.invokestatic 34, 3) := by decide +kernel
theorem d_Image_keepOnly_13 : decode bc_Image_keepOnly 13 = .ok (.ifCond .ne 10, 3) := by decide +kernel
theorem d_Image_keepOnly_16 : decode bc_Image_keepOnly 16 = .ok (.aload_n 0, 1) := by decide +kernel
theorem d_Image_keepOnly_17 : decode bc_Image_keepOnly 17 = .ok (.getfield 9, 3) := by decide +kernel
theorem d_Image_keepOnly_20 : decode bc_Image_keepOnly 20 = .ok (.iload_n 3, 1) := by decide +kernel
theorem d_Image_keepOnly_21 : decode bc_Image_keepOnly 21 = .ok (.iconst 0, 1) := by decide +kernel
theorem d_Image_keepOnly_22 : decode bc_Image_keepOnly 22 = .ok (.iastore, 1) := by decide +kernel
theorem d_Image_keepOnly_23 : decode bc_Image_keepOnly 23 = .ok (.iinc 3 1, 3) := by decide +kernel
theorem d_Image_keepOnly_26 : decode bc_Image_keepOnly 26 = .ok (.goto (-24), 3) := by decide +kernel
theorem d_Image_keepOnly_29 : decode bc_Image_keepOnly 29 = .ok (.return_, 1) := by decide +kernel
def cw_Image_keepOnly (G : Nat → ClassId) (a_t a_classes a_values a_names : Nat) (v_classes : Nat → Int32) : va_W := [(a_t, .inr (4, [.ref a_classes, .ref a_values, .ref a_names])), (a_classes, .inl (G 0, 63, .inl v_classes))]
def f_Image_keepOnly_B2 (p1 : Int64) (k2 : Int32 → (Nat → Int32) → Option ((Nat → Int32))) (x2_3 : Int32) (v_classes_2 : Nat → Int32) : Option ((Nat → Int32)) := if 62 < x2_3 then (some v_classes_2) else ((f_OB_contains p1 x2_3).bind fun o10 => (if o10 = 0 then (ob_iv x2_3 63 (k2 (x2_3 + 1) (upd v_classes_2 x2_3.toNatClampNeg 0))) else (k2 (x2_3 + 1) v_classes_2)))
def f_Image_keepOnly_L2 (p1 : Int64) : Nat → Int32 → (Nat → Int32) → Option ((Nat → Int32)) := ob_lp2 (f_Image_keepOnly_B2 p1)
def f_Image_keepOnly (v_classes : Nat → Int32) (p1 : Int64) : Option ((Nat → Int32)) := f_Image_keepOnly_L2 p1 1000 1 v_classes
set_option maxHeartbeats 4000000 in
set_option maxRecDepth 100000 in
theorem c_Image_keepOnly (l : Launch) (D : va_G) (G : Nat → ClassId) (a_t a_classes a_values a_names : Nat) (v_classes : Nat → Int32) (p1 : Int64) (o : (Nat → Int32)) (hf : f_Image_keepOnly v_classes p1 = some o) (sz : Nat) : MetV l y_Image_keepOnly ws_Image_keepOnly ({ frames := 1, cells := 0, slots := 0, locals := 22 }) D (obT G) (cw_Image_keepOnly G a_t a_classes a_values a_names v_classes) (cw_Image_keepOnly G a_t a_classes a_values a_names o) [.ref a_t, .long p1] sz := by
  refine ob_of (cc := bc_Image_keepOnly) (maxL := 4) (ret := none) (Qc := ObQv D (obT G) (cw_Image_keepOnly G a_t a_classes a_values a_names o)) (by decide) rfl (Nat.le_of_ble_eq_true rfl) ?_
  intro p e s m below meth c A ls H locs hx hb hr hml hts hown hlk hnm hZ hP hK hD hA hS hl
  have hret : ∀ (o' : (Nat → Int32)) (H : Heap) (locs : List Loc) (pc : Nat) (ls : Array Slot), some o' = some o → va_P D vwCl (cw_Image_keepOnly G a_t a_classes a_values a_names o') H → va_D A (cw_Image_keepOnly G a_t a_classes a_values a_names o') → va_S A s.heap H locs → decode bc_Image_keepOnly pc = .ok (.return_, 1) → W p l e { frames := 1, cells := 0, slots := 0, locals := 22 } s m ([.ref a_t, .long p1] : List Value).toArray below meth c H locs 0 0 (MQ below (ObQv D (obT G) (cw_Image_keepOnly G a_t a_classes a_values a_names o) A) ([.ref a_t, .long p1] : List Value).toArray s 0 0 A) (F0 m pc ls []) := by
    intro o' H locs pc ls he hP hD hS hd
    obtain rfl := Option.some.inj he
    exact ob_vret hx hb hr hlk hK hP hD hS hd
  generalize MQ below (ObQv D (obT G) (cw_Image_keepOnly G a_t a_classes a_values a_names o) A) ([.ref a_t, .long p1] : List Value).toArray s 0 0 A = Q at hret ⊢
  have hl : lv_has ls 4 [(0, .ref a_t), (1, .long p1)] := hl
  unfold f_Image_keepOnly at hf
  have loop2 : ∀ (n2 : Nat) (x2_3 : Int32) (v_classes_2 : Nat → Int32) (ls : Array Slot) (H : Heap) (locs : List Loc), lv_has ls 4 [(0, .ref a_t), (1, .long p1), (3, .int x2_3)] → va_P D vwCl (cw_Image_keepOnly G a_t a_classes a_values a_names v_classes_2) H → va_D A (cw_Image_keepOnly G a_t a_classes a_values a_names v_classes_2) → va_S A s.heap H locs → f_Image_keepOnly_L2 p1 n2 x2_3 v_classes_2 = some o → W p l e ({ frames := 1, cells := 0, slots := 0, locals := 22 }) s m ([.ref a_t, .long p1] : List Value).toArray below meth c H locs 0 0 Q (F0 m 2 ls []) := by
    intro n2
    induction n2 with
    | zero => intro x2_3 v_classes_2 ls H locs hl hP hD hS hf; exact ob_no hf
    | succ n2 ih2 =>
      intro x2_3 v_classes_2 ls H locs hl hP hD hS hf
      have hf : f_Image_keepOnly_B2 p1 (f_Image_keepOnly_L2 p1 n2) x2_3 v_classes_2 = some o := hf
      unfold f_Image_keepOnly_B2 at hf
      refine lv_iload_n hx hb d_Image_keepOnly_2 rfl (lv_at hl 2 rfl) ?_
      refine lv_bipush (v := 62) hx hb d_Image_keepOnly_3 (by decide) ?_
      refine lv_icmp_gt (tgt := 29) hx hb d_Image_keepOnly_5 (by decide) (fun hc5 => ?_) (fun hc5 => ?_)
      · have hf := ob_t hc5 hf
        exact hret v_classes_2 H locs _ ls hf hP hD hS d_Image_keepOnly_29
      · have hf := ob_f hc5 hf
        refine lv_lload_n hx hb d_Image_keepOnly_8 rfl (lv_at hl 1 rfl) ?_
        refine lv_iload_n hx hb d_Image_keepOnly_9 rfl (lv_at hl 2 rfl) ?_
        obtain ⟨o10, ho10, hf⟩ := ob_b hf
        refine ob_calli (w2 := (cw_Image_keepOnly G a_t a_classes a_values a_names v_classes_2)) (va_runSN (As := [.long p1, .int x2_3]) (rest := []) ⟨hx, hb, hml, hown, hts⟩ (c_OB_contains l D G  p1 x2_3 o10 ho10 H.size) ⟨va_cnB 2 hts (gN tw326) rfl rfl rfl (hZ.2 _ _ _ _ tw324) (hts _ tw1) (by decide +kernel) ⟨Nat.le_of_ble_eq_true rfl, Nat.le_of_ble_eq_true rfl⟩, hts _ tw325, trivial⟩ (ob_preS hZ hK hP hD [] rfl rfl) rfl rfl hl.1 rfl (lv_room (Nat.le_of_ble_eq_true rfl)) d_Image_keepOnly_10 ⟨Nat.le_refl _, Nat.le_refl _⟩) hP hD hA hS [] rfl rfl rfl rfl (fun H locs hP hD hS => ?_)
        refine lv_if_ne (tgt := 23) hx hb d_Image_keepOnly_13 (by decide) (fun hc13 => ?_) (fun hc13 => ?_)
        · have hf := ob_f hc13 hf
          refine lv_iinc (k := 2) (v := x2_3 + 1) (lv' := [(3, .int (x2_3 + 1)), (0, .ref a_t), (1, .long p1)]) hx hb d_Image_keepOnly_23 hl rfl (by rw [show Int32.ofInt 1 = (1 : Int32) from by decide]) (by decide) rfl (fun ls hl => ?_)
          refine lv_goto (tgt := 2) hx hb d_Image_keepOnly_26 (by decide) ?_
          exact ih2 (x2_3 + 1) v_classes_2 ls H locs (lv_sub hl [1, 2, 0] rfl) hP hD hS hf
        · have hf := ob_t hc13 hf
          refine lv_aload_n hx hb d_Image_keepOnly_16 rfl (lv_at hl 0 rfl) ?_
          refine va_get (D := D) (ci := 4) (v := .ref a_classes) (C := "ObjectBase$Image") (T := TC_Image) (N := 3) hx hb hts inC_Image hown hK hP 0 rfl rfl 0 (by decide) (hts _ tw108) (fun _ h9 => h9) rfl d_Image_keepOnly_17 ?_
          refine lv_iload_n hx hb d_Image_keepOnly_20 rfl (lv_at hl 2 rfl) ?_
          refine lv_iconst (v := 0) hx hb d_Image_keepOnly_21 (by decide) ?_
          obtain ⟨hg22, hf⟩ := ob_iv_g hf
          refine va_iast hx hb hK hP hD hS 1 0 rfl rfl hg22 d_Image_keepOnly_22 (fun H locs hP hD hS => ?_)
          have hP : va_P D vwCl (cw_Image_keepOnly G a_t a_classes a_values a_names (upd v_classes_2 x2_3.toNatClampNeg 0)) H := hP
          have hD : va_D A (cw_Image_keepOnly G a_t a_classes a_values a_names (upd v_classes_2 x2_3.toNatClampNeg 0)) := hD
          refine lv_iinc (k := 2) (v := x2_3 + 1) (lv' := [(3, .int (x2_3 + 1)), (0, .ref a_t), (1, .long p1)]) hx hb d_Image_keepOnly_23 hl rfl (by rw [show Int32.ofInt 1 = (1 : Int32) from by decide]) (by decide) rfl (fun ls hl => ?_)
          refine lv_goto (tgt := 2) hx hb d_Image_keepOnly_26 (by decide) ?_
          exact ih2 (x2_3 + 1) (upd v_classes_2 x2_3.toNatClampNeg 0) ls H locs (lv_sub hl [1, 2, 0] rfl) hP hD hS hf
  refine lv_iconst (v := 1) hx hb d_Image_keepOnly_0 (by decide) ?_
  refine lv_istore_n (lv' := [(3, .int 1), (0, .ref a_t), (1, .long p1)]) hx hb d_Image_keepOnly_1 rfl hl (by decide) rfl (fun ls hl => ?_)
  exact loop2 1000 1 v_classes ls H locs (lv_sub hl [1, 2, 0] rfl) hP hD hS hf
abbrev bc_Image_neighbours : ByteArray := prog_5_method_8_code
abbrev y_Image_neighbours : MethodName := ⟨"ObjectBase$Image", "neighbours", "(ILObjectBase$Schema;)J"⟩
def ws_Image_neighbours : List Cond := .code y_Image_neighbours bc_Image_neighbours 8 (some .long) :: obW
theorem d_Image_neighbours_0 : decode bc_Image_neighbours 0 = .ok (.lconst 0, 1) := by decide +kernel
theorem d_Image_neighbours_1 : decode bc_Image_neighbours 1 = .ok (.lstore_n 3, 1) := by decide +kernel
theorem d_Image_neighbours_2 : decode bc_Image_neighbours 2 = .ok (.iconst 0, 1) := by decide +kernel
theorem d_Image_neighbours_3 : decode bc_Image_neighbours 3 = .ok (.istore 5, 2) := by decide +kernel
theorem d_Image_neighbours_5 : decode bc_Image_neighbours 5 = .ok (.iload 5, 2) := by decide +kernel
theorem d_Image_neighbours_7 : decode bc_Image_neighbours 7 = .ok (.aload_n 2, 1) := by decide +kernel
theorem d_Image_neighbours_8 : decode bc_Image_neighbours 8 = .ok (.getfield 42, 3) := by decide +kernel
theorem d_Image_neighbours_11 : decode bc_Image_neighbours 11 = .ok (.if_icmp .ge 57, 3) := by decide +kernel
theorem d_Image_neighbours_14 : decode bc_Image_neighbours 14 = .ok (.aload_n 0, 1) := by decide +kernel
theorem d_Image_neighbours_15 : decode bc_Image_neighbours 15 = .ok (.iload_n 1, 1) := by decide +kernel
theorem d_Image_neighbours_16 : decode bc_Image_neighbours 16 = .ok (.iload 5, 2) := by decide +kernel
theorem d_Image_neighbours_18 : decode bc_Image_neighbours 18 = .ok (.invokevirtual 48, 3) := by decide +kernel
theorem d_Image_neighbours_21 : decode bc_Image_neighbours 21 = .ok (.lstore 6, 2) := by decide +kernel
theorem d_Image_neighbours_23 : decode bc_Image_neighbours 23 = .ok (.aload_n 2, 1) := by decide +kernel
theorem d_Image_neighbours_24 : decode bc_Image_neighbours 24 = .ok (.getfield 52, 3) := by decide +kernel
theorem d_Image_neighbours_27 : decode bc_Image_neighbours 27 = .ok (.iload 5, 2) := by decide +kernel
theorem d_Image_neighbours_29 : decode bc_Image_neighbours 29 = .ok (.iaload, 1) := by decide +kernel
theorem d_Image_neighbours_30 : decode bc_Image_neighbours 30 = .ok (.iconst 1, 1) := by decide +kernel
theorem d_Image_neighbours_31 : decode bc_Image_neighbours 31 = .ok (.if_icmp .ne 15, 3) := by decide +kernel
theorem d_Image_neighbours_34 : decode bc_Image_neighbours 34 = .ok (.lload_n 3, 1) := by decide +kernel
theorem d_Image_neighbours_35 : decode bc_Image_neighbours 35 = .ok (.lload 6, 2) := by decide +kernel
theorem d_Image_neighbours_37 : decode bc_Image_neighbours 37 = .ok (.l2i, 1) := by decide +kernel
theorem d_Image_neighbours_38 : decode bc_Image_neighbours 38 = .ok (.invokestatic 28, 3) := by decide +kernel
theorem d_Image_neighbours_41 : decode bc_Image_neighbours 41 = .ok (.lor, 1) := by decide +kernel
theorem d_Image_neighbours_42 : decode bc_Image_neighbours 42 = .ok (.lstore_n 3, 1) := by decide +kernel
theorem d_Image_neighbours_43 : decode bc_Image_neighbours 43 = .ok (.goto 19, 3) := by decide +kernel
theorem d_Image_neighbours_46 : decode bc_Image_neighbours 46 = .ok (.aload_n 2, 1) := by decide +kernel
theorem d_Image_neighbours_47 : decode bc_Image_neighbours 47 = .ok (.getfield 52, 3) := by decide +kernel
theorem d_Image_neighbours_50 : decode bc_Image_neighbours 50 = .ok (.iload 5, 2) := by decide +kernel
theorem d_Image_neighbours_52 : decode bc_Image_neighbours 52 = .ok (.iaload, 1) := by decide +kernel
theorem d_Image_neighbours_53 : decode bc_Image_neighbours 53 = .ok (.iconst 2, 1) := by decide +kernel
theorem d_Image_neighbours_54 : decode bc_Image_neighbours 54 = .ok (.if_icmp .ne 8, 3) := by decide +kernel
theorem d_Image_neighbours_57 : decode bc_Image_neighbours 57 = .ok (.lload_n 3, 1) := by decide +kernel
theorem d_Image_neighbours_58 : decode bc_Image_neighbours 58 = .ok (.lload 6, 2) := by decide +kernel
theorem d_Image_neighbours_60 : decode bc_Image_neighbours 60 = .ok (.lor, 1) := by decide +kernel
theorem d_Image_neighbours_61 : decode bc_Image_neighbours 61 = .ok (.lstore_n 3, 1) := by decide +kernel
theorem d_Image_neighbours_62 : decode bc_Image_neighbours 62 = .ok (.iinc 5 1, 3) := by decide +kernel
theorem d_Image_neighbours_65 : decode bc_Image_neighbours 65 = .ok (.goto (-60), 3) := by decide +kernel
theorem d_Image_neighbours_68 : decode bc_Image_neighbours 68 = .ok (.lload_n 3, 1) := by decide +kernel
theorem d_Image_neighbours_69 : decode bc_Image_neighbours 69 = .ok (.lreturn, 1) := by decide +kernel
def cw_Image_neighbours (G : Nat → ClassId) (a_p2 a_t a_values a_p2_kinds a_p2_above a_p2_owners a_p2_targets a_classes a_names : Nat) (v_p2_classCount : Int32) (v_p2_fieldCount : Int32) (v_values : Nat → Int64) (v_p2_kinds : Nat → Int32) : va_W := [(a_p2, .inr (1, [.ref a_p2_above, .ref a_p2_owners, .ref a_p2_kinds, .ref a_p2_targets, .int v_p2_classCount, .int v_p2_fieldCount])), (a_t, .inr (4, [.ref a_classes, .ref a_values, .ref a_names])), (a_values, .inl (G 1, 504, .inr (.inl v_values))), (a_p2_kinds, .inl (G 0, 8, .inl v_p2_kinds))]
def f_Image_neighbours_B5 (v_p2_fieldCount : Int32) (v_values : Nat → Int64) (p1 : Int32) (v_p2_kinds : Nat → Int32) (k5 : Int64 → Int32 → Option (Int64)) (x5_3 : Int64) (x5_5 : Int32) : Option (Int64) := if v_p2_fieldCount ≤ x5_5 then (some x5_3) else ((f_Image_valueOf v_values p1 x5_5).bind fun o18 => (ob_iv x5_5 8 (if (v_p2_kinds x5_5.toNatClampNeg) = 1 then ((f_OB_setOf o18.toInt32).bind fun o38 => (k5 (x5_3 ||| o38) (x5_5 + 1))) else (ob_iv x5_5 8 (if (v_p2_kinds x5_5.toNatClampNeg) = 2 then (k5 (x5_3 ||| o18) (x5_5 + 1)) else (k5 x5_3 (x5_5 + 1)))))))
def f_Image_neighbours_L5 (v_p2_fieldCount : Int32) (v_values : Nat → Int64) (p1 : Int32) (v_p2_kinds : Nat → Int32) : Nat → Int64 → Int32 → Option (Int64) := ob_lp2 (f_Image_neighbours_B5 v_p2_fieldCount v_values p1 v_p2_kinds)
def f_Image_neighbours (v_p2_fieldCount : Int32) (v_values : Nat → Int64) (v_p2_kinds : Nat → Int32) (p1 : Int32) : Option (Int64) := f_Image_neighbours_L5 v_p2_fieldCount v_values p1 v_p2_kinds 1000 0 0
set_option maxHeartbeats 4000000 in
set_option maxRecDepth 100000 in
theorem c_Image_neighbours (l : Launch) (D : va_G) (G : Nat → ClassId) (a_p2 a_t a_values a_p2_kinds a_p2_above a_p2_owners a_p2_targets a_classes a_names : Nat) (v_p2_classCount : Int32) (v_p2_fieldCount : Int32) (v_values : Nat → Int64) (v_p2_kinds : Nat → Int32) (p1 : Int32) (o : Int64) (hf : f_Image_neighbours v_p2_fieldCount v_values v_p2_kinds p1 = some o) (sz : Nat) : MetL l y_Image_neighbours ws_Image_neighbours ({ frames := 1, cells := 0, slots := 0, locals := 22 }) D (obT G) (cw_Image_neighbours G a_p2 a_t a_values a_p2_kinds a_p2_above a_p2_owners a_p2_targets a_classes a_names v_p2_classCount v_p2_fieldCount v_values v_p2_kinds) (cw_Image_neighbours G a_p2 a_t a_values a_p2_kinds a_p2_above a_p2_owners a_p2_targets a_classes a_names v_p2_classCount v_p2_fieldCount v_values v_p2_kinds) [.ref a_t, .int p1, .ref a_p2] o sz := by
  refine ob_of (cc := bc_Image_neighbours) (maxL := 8) (ret := (some .long)) (Qc := ObQl D (obT G) (cw_Image_neighbours G a_p2 a_t a_values a_p2_kinds a_p2_above a_p2_owners a_p2_targets a_classes a_names v_p2_classCount v_p2_fieldCount v_values v_p2_kinds) o) (by decide) rfl (Nat.le_of_ble_eq_true rfl) ?_
  intro p e s m below meth c A ls H locs hx hb hr hml hts hown hlk hnm hZ hP hK hD hA hS hl
  have hret : ∀ (o' : Int64) (H : Heap) (locs : List Loc) (pc : Nat) (ls : Array Slot), some o' = some o → va_P D vwCl (cw_Image_neighbours G a_p2 a_t a_values a_p2_kinds a_p2_above a_p2_owners a_p2_targets a_classes a_names v_p2_classCount v_p2_fieldCount v_values v_p2_kinds) H → va_D A (cw_Image_neighbours G a_p2 a_t a_values a_p2_kinds a_p2_above a_p2_owners a_p2_targets a_classes a_names v_p2_classCount v_p2_fieldCount v_values v_p2_kinds) → va_S A s.heap H locs → decode bc_Image_neighbours pc = .ok (.lreturn, 1) → W p l e { frames := 1, cells := 0, slots := 0, locals := 22 } s m ([.ref a_t, .int p1, .ref a_p2] : List Value).toArray below meth c H locs 0 0 (MQ below (ObQl D (obT G) (cw_Image_neighbours G a_p2 a_t a_values a_p2_kinds a_p2_above a_p2_owners a_p2_targets a_classes a_names v_p2_classCount v_p2_fieldCount v_values v_p2_kinds) o A) ([.ref a_t, .int p1, .ref a_p2] : List Value).toArray s 0 0 A) (F0 m pc ls [.long o']) := by
    intro o' H locs pc ls he hP hD hS hd
    obtain rfl := Option.some.inj he
    exact ob_lret hx hb hr hlk hK hP hD hS hd
  generalize MQ below (ObQl D (obT G) (cw_Image_neighbours G a_p2 a_t a_values a_p2_kinds a_p2_above a_p2_owners a_p2_targets a_classes a_names v_p2_classCount v_p2_fieldCount v_values v_p2_kinds) o A) ([.ref a_t, .int p1, .ref a_p2] : List Value).toArray s 0 0 A = Q at hret ⊢
  have hl : lv_has ls 8 [(0, .ref a_t), (1, .int p1), (2, .ref a_p2)] := hl
  unfold f_Image_neighbours at hf
  have loop5 : ∀ (n5 : Nat) (x5_3 : Int64) (x5_5 : Int32) (ls : Array Slot) (H : Heap) (locs : List Loc), lv_has ls 8 [(0, .ref a_t), (1, .int p1), (2, .ref a_p2), (3, .long x5_3), (5, .int x5_5)] → va_P D vwCl (cw_Image_neighbours G a_p2 a_t a_values a_p2_kinds a_p2_above a_p2_owners a_p2_targets a_classes a_names v_p2_classCount v_p2_fieldCount v_values v_p2_kinds) H → va_D A (cw_Image_neighbours G a_p2 a_t a_values a_p2_kinds a_p2_above a_p2_owners a_p2_targets a_classes a_names v_p2_classCount v_p2_fieldCount v_values v_p2_kinds) → va_S A s.heap H locs → f_Image_neighbours_L5 v_p2_fieldCount v_values p1 v_p2_kinds n5 x5_3 x5_5 = some o → W p l e ({ frames := 1, cells := 0, slots := 0, locals := 22 }) s m ([.ref a_t, .int p1, .ref a_p2] : List Value).toArray below meth c H locs 0 0 Q (F0 m 5 ls []) := by
    intro n5
    induction n5 with
    | zero => intro x5_3 x5_5 ls H locs hl hP hD hS hf; exact ob_no hf
    | succ n5 ih5 =>
      intro x5_3 x5_5 ls H locs hl hP hD hS hf
      have hf : f_Image_neighbours_B5 v_p2_fieldCount v_values p1 v_p2_kinds (f_Image_neighbours_L5 v_p2_fieldCount v_values p1 v_p2_kinds n5) x5_3 x5_5 = some o := hf
      unfold f_Image_neighbours_B5 at hf
      refine lv_iload hx hb d_Image_neighbours_5 (lv_at hl 4 rfl) ?_
      refine lv_aload_n hx hb d_Image_neighbours_7 rfl (lv_at hl 2 rfl) ?_
      refine va_get (D := D) (ci := 1) (v := .int v_p2_fieldCount) (C := "ObjectBase$Schema") (T := TC_Schema) (N := 6) hx hb hts inC_Schema hown hK hP 0 rfl rfl 5 (by decide) (hts _ tw42) (fun _ h9 => h9) rfl d_Image_neighbours_8 ?_
      refine lv_icmp_ge (tgt := 68) hx hb d_Image_neighbours_11 (by decide) (fun hc11 => ?_) (fun hc11 => ?_)
      · have hf := ob_t hc11 hf
        refine lv_lload_n hx hb d_Image_neighbours_68 rfl (lv_at hl 3 rfl) ?_
        exact hret x5_3 H locs _ ls hf hP hD hS d_Image_neighbours_69
      · have hf := ob_f hc11 hf
        refine lv_aload_n hx hb d_Image_neighbours_14 rfl (lv_at hl 0 rfl) ?_
        refine lv_iload_n hx hb d_Image_neighbours_15 rfl (lv_at hl 1 rfl) ?_
        refine lv_iload hx hb d_Image_neighbours_16 (lv_at hl 4 rfl) ?_
        obtain ⟨o18, ho18, hf⟩ := ob_b hf
        refine ob_calll (w2 := (cw_Image_neighbours G a_p2 a_t a_values a_p2_kinds a_p2_above a_p2_owners a_p2_targets a_classes a_names v_p2_classCount v_p2_fieldCount v_values v_p2_kinds)) (va_runV (As := [.int p1, .int x5_5]) (rest := []) ⟨hx, hb, hml, hown, hts⟩ (c_Image_valueOf l D G a_t a_values a_classes a_names v_values p1 x5_5 o18 ho18 H.size) (cwV 2 hts (gV tw331 tw332 tw333 tw5 tw334) rfl rfl rfl (by decide +kernel) ⟨Nat.le_of_ble_eq_true rfl, Nat.le_of_ble_eq_true rfl⟩) (ob_preV (q0 := 1) (ci := 4) hZ hK hP hD [1, 2] rfl rfl rfl rfl rfl) rfl rfl hl.1 rfl (lv_room (Nat.le_of_ble_eq_true rfl)) d_Image_neighbours_18 ⟨Nat.le_refl _, Nat.le_refl _⟩) hP hD hA hS [1, 2] rfl rfl rfl rfl (fun H locs hP hD hS => ?_)
        refine lv_lstore (lv' := [(6, .long o18), (0, .ref a_t), (1, .int p1), (2, .ref a_p2), (3, .long x5_3), (5, .int x5_5)]) hx hb d_Image_neighbours_21 hl (by decide) rfl (fun ls hl => ?_)
        refine lv_aload_n hx hb d_Image_neighbours_23 rfl (lv_at hl 3 rfl) ?_
        refine va_get (D := D) (ci := 1) (v := .ref a_p2_kinds) (C := "ObjectBase$Schema") (T := TC_Schema) (N := 6) hx hb hts inC_Schema hown hK hP 0 rfl rfl 2 (by decide) (hts _ tw32) (fun _ h9 => h9) rfl d_Image_neighbours_24 ?_
        refine lv_iload hx hb d_Image_neighbours_27 (lv_at hl 5 rfl) ?_
        obtain ⟨hg29, hf⟩ := ob_iv_g hf
        refine va_iald hx hb hK hP 3 0 rfl rfl hg29 d_Image_neighbours_29 ?_
        refine lv_iconst (v := 1) hx hb d_Image_neighbours_30 (by decide) ?_
        refine lv_icmp_ne (tgt := 46) hx hb d_Image_neighbours_31 (by decide) (fun hc31 => ?_) (fun hc31 => ?_)
        · have hf := ob_f hc31 hf
          refine lv_aload_n hx hb d_Image_neighbours_46 rfl (lv_at hl 3 rfl) ?_
          refine va_get (D := D) (ci := 1) (v := .ref a_p2_kinds) (C := "ObjectBase$Schema") (T := TC_Schema) (N := 6) hx hb hts inC_Schema hown hK hP 0 rfl rfl 2 (by decide) (hts _ tw32) (fun _ h9 => h9) rfl d_Image_neighbours_47 ?_
          refine lv_iload hx hb d_Image_neighbours_50 (lv_at hl 5 rfl) ?_
          obtain ⟨hg52, hf⟩ := ob_iv_g hf
          refine va_iald hx hb hK hP 3 0 rfl rfl hg52 d_Image_neighbours_52 ?_
          refine lv_iconst (v := 2) hx hb d_Image_neighbours_53 (by decide) ?_
          refine lv_icmp_ne (tgt := 62) hx hb d_Image_neighbours_54 (by decide) (fun hc54 => ?_) (fun hc54 => ?_)
          · have hf := ob_f hc54 hf
            refine lv_iinc (k := 5) (v := x5_5 + 1) (lv' := [(5, .int (x5_5 + 1)), (6, .long o18), (0, .ref a_t), (1, .int p1), (2, .ref a_p2), (3, .long x5_3)]) hx hb d_Image_neighbours_62 hl rfl (by rw [show Int32.ofInt 1 = (1 : Int32) from by decide]) (by decide) rfl (fun ls hl => ?_)
            refine lv_goto (tgt := 5) hx hb d_Image_neighbours_65 (by decide) ?_
            exact ih5 x5_3 (x5_5 + 1) ls H locs (lv_sub hl [2, 3, 4, 5, 0] rfl) hP hD hS hf
          · have hf := ob_t hc54 hf
            refine lv_lload_n hx hb d_Image_neighbours_57 rfl (lv_at hl 4 rfl) ?_
            refine lv_lload hx hb d_Image_neighbours_58 (lv_at hl 0 rfl) ?_
            refine lv_lor hx hb d_Image_neighbours_60 ?_
            refine lv_lstore_n (lv' := [(3, .long (x5_3 ||| o18)), (6, .long o18), (0, .ref a_t), (1, .int p1), (2, .ref a_p2), (5, .int x5_5)]) hx hb d_Image_neighbours_61 rfl hl (by decide) rfl (fun ls hl => ?_)
            refine lv_iinc (k := 5) (v := x5_5 + 1) (lv' := [(5, .int (x5_5 + 1)), (3, .long (x5_3 ||| o18)), (6, .long o18), (0, .ref a_t), (1, .int p1), (2, .ref a_p2)]) hx hb d_Image_neighbours_62 hl rfl (by rw [show Int32.ofInt 1 = (1 : Int32) from by decide]) (by decide) rfl (fun ls hl => ?_)
            refine lv_goto (tgt := 5) hx hb d_Image_neighbours_65 (by decide) ?_
            exact ih5 (x5_3 ||| o18) (x5_5 + 1) ls H locs (lv_sub hl [3, 4, 5, 1, 0] rfl) hP hD hS hf
        · have hf := ob_t hc31 hf
          refine lv_lload_n hx hb d_Image_neighbours_34 rfl (lv_at hl 4 rfl) ?_
          refine lv_lload hx hb d_Image_neighbours_35 (lv_at hl 0 rfl) ?_
          refine lv_l2i hx hb d_Image_neighbours_37 rfl ?_
          obtain ⟨o38, ho38, hf⟩ := ob_b hf
          refine ob_calll (w2 := (cw_Image_neighbours G a_p2 a_t a_values a_p2_kinds a_p2_above a_p2_owners a_p2_targets a_classes a_names v_p2_classCount v_p2_fieldCount v_values v_p2_kinds)) (va_runSN (As := [.int o18.toInt32]) (rest := [.long x5_3]) ⟨hx, hb, hml, hown, hts⟩ (c_OB_setOf l D G  o18.toInt32 o38 ho38 H.size) ⟨va_cnB 1 hts (gN tw322) rfl rfl rfl (hZ.2 _ _ _ _ tw320) (hts _ tw1) (by decide +kernel) ⟨Nat.le_of_ble_eq_true rfl, Nat.le_of_ble_eq_true rfl⟩, hts _ tw321, trivial⟩ (ob_preS hZ hK hP hD [] rfl rfl) rfl rfl hl.1 rfl (lv_room (Nat.le_of_ble_eq_true rfl)) d_Image_neighbours_38 ⟨Nat.le_refl _, Nat.le_refl _⟩) hP hD hA hS [] rfl rfl rfl rfl (fun H locs hP hD hS => ?_)
          refine lv_lor hx hb d_Image_neighbours_41 ?_
          refine lv_lstore_n (lv' := [(3, .long (x5_3 ||| o38)), (6, .long o18), (0, .ref a_t), (1, .int p1), (2, .ref a_p2), (5, .int x5_5)]) hx hb d_Image_neighbours_42 rfl hl (by decide) rfl (fun ls hl => ?_)
          refine lv_goto (tgt := 62) hx hb d_Image_neighbours_43 (by decide) ?_
          refine lv_iinc (k := 5) (v := x5_5 + 1) (lv' := [(5, .int (x5_5 + 1)), (3, .long (x5_3 ||| o38)), (6, .long o18), (0, .ref a_t), (1, .int p1), (2, .ref a_p2)]) hx hb d_Image_neighbours_62 hl rfl (by rw [show Int32.ofInt 1 = (1 : Int32) from by decide]) (by decide) rfl (fun ls hl => ?_)
          refine lv_goto (tgt := 5) hx hb d_Image_neighbours_65 (by decide) ?_
          exact ih5 (x5_3 ||| o38) (x5_5 + 1) ls H locs (lv_sub hl [3, 4, 5, 1, 0] rfl) hP hD hS hf
  refine lv_lconst (v := 0) hx hb d_Image_neighbours_0 (by decide) ?_
  refine lv_lstore_n (lv' := [(3, .long 0), (0, .ref a_t), (1, .int p1), (2, .ref a_p2)]) hx hb d_Image_neighbours_1 rfl hl (by decide) rfl (fun ls hl => ?_)
  refine lv_iconst (v := 0) hx hb d_Image_neighbours_2 (by decide) ?_
  refine lv_istore (lv' := [(5, .int 0), (3, .long 0), (0, .ref a_t), (1, .int p1), (2, .ref a_p2)]) hx hb d_Image_neighbours_3 hl (by decide) rfl (fun ls hl => ?_)
  exact loop5 1000 0 0 ls H locs (lv_sub hl [2, 3, 4, 1, 0] rfl) hP hD hS hf
abbrev bc_Batch_init : ByteArray := prog_3_method_1_code
abbrev y_Batch_init : MethodName := ⟨"ObjectBase$Batch", "<init>", "()V"⟩
def ws_Batch_init : List Cond := .code y_Batch_init bc_Batch_init 1 none :: obW
theorem d_Batch_init_0 : decode bc_Batch_init 0 = .ok (.aload_n 0, 1) := by decide +kernel
theorem d_Batch_init_1 : decode bc_Batch_init 1 = .ok (.invokespecial 3, 3) := by decide +kernel
theorem d_Batch_init_4 : decode bc_Batch_init 4 = .ok (.aload_n 0, 1) := by decide +kernel
theorem d_Batch_init_5 : decode bc_Batch_init 5 = .ok (.new 9, 3) := by decide +kernel
theorem d_Batch_init_8 : decode bc_Batch_init 8 = .ok (.dup, 1) := by decide +kernel
theorem d_Batch_init_9 : decode bc_Batch_init 9 = .ok (.invokespecial 11, 3) := by decide +kernel
theorem d_Batch_init_12 : decode bc_Batch_init 12 = .ok (.putfield 12, 3) := by decide +kernel
theorem d_Batch_init_15 : decode bc_Batch_init 15 = .ok (.return_, 1) := by decide +kernel
def nw_Batch (G : Nat → ClassId) (a_t : Nat) (b0 : Nat) (b1 : Nat) (b2 : Nat) (b3 : Nat) : va_W := [(a_t, .inr (5, [.ref b0, .long 0, .long 0, .int 0, .int 0])), (b0, .inr (4, [.ref b1, .ref b2, .ref b3])), (b1, .inl (G 0, 63, .inl (fun _ => 0))), (b2, .inl (G 1, 504, .inr (.inl (fun _ => 0)))), (b3, .inl (G 0, 4, .inl (fun _ => 0)))]
set_option maxHeartbeats 4000000 in
set_option maxRecDepth 100000 in
theorem n_Batch (l : Launch) (D : va_G) (G : Nat → ClassId) (a_t : Nat) (sz : Nat) : Met l y_Batch_init ws_Batch_init ({ frames := 2, cells := 4, slots := 574, locals := 32 }) (ObPre D (obT G) [(a_t, .inr (5, [.null, .long 0, .long 0, .int 0, .int 0]))] sz [.ref a_t]) (va_Qv (S := Nat × Nat × Nat × Nat) (fun _ => True) (fun u t => ObAt D (obT G) (nw_Batch G a_t u.1 u.2.1 u.2.2.1 u.2.2.2) (va_A [(a_t, .inr (5, [.null, .long 0, .long 0, .int 0, .int 0]))] sz) t) (va_A [(a_t, .inr (5, [.null, .long 0, .long 0, .int 0, .int 0]))] sz)) 4 574 (va_A [(a_t, .inr (5, [.null, .long 0, .long 0, .int 0, .int 0]))] sz) := by
  refine ob_of (cc := bc_Batch_init) (maxL := 1) (ret := none) (Qc := fun A => va_Qv (S := Nat × Nat × Nat × Nat) (fun _ => True) (fun u t => ObAt D (obT G) (nw_Batch G a_t u.1 u.2.1 u.2.2.1 u.2.2.2) A t) A) (by decide) rfl (Nat.le_of_ble_eq_true rfl) ?_
  intro p e s m below meth c A ls H locs hx hb hr hml hts hown hlk hnm hZ hP hK hD hA hS hl
  have hin : meth.name = "<init>" := hnm
  have hl : lv_has ls 1 [(0, .ref a_t)] := hl
  refine lv_aload_n hx hb d_Batch_init_0 rfl (lv_at hl 0 rfl) ?_
  refine W.objInit hx hb hown (hts _ tw128) (hts _ tw21) (hts _ tw22) rfl (by rw [hml]; exact hl.1) rfl d_Batch_init_1 (Nat.le_of_ble_eq_true rfl) (Nat.le_of_ble_eq_true rfl) ?_
  refine W.eq (g2 := F0 m 4 ls []) rfl ?_
  refine lv_aload_n hx hb d_Batch_init_4 rfl (lv_at hl 0 rfl) ?_
  refine va_new (ci := 4) (fs := [.null, .null, .null]) (C := "ObjectBase$Image") (T := TC_Image) (N := 3) hx hb hts inC_Image tyC_Image tyC_Image_ok hown (hts _ tw129) (hts _ tw103) (hts _ tw5) hK hP hD hS hA rfl (by intro j hj; rcases (show j = 0 ∨ j = 1 ∨ j = 2 by omega) with rfl | rfl | rfl <;> rfl) (Nat.le_of_ble_eq_true rfl) (Nat.le_of_ble_eq_true rfl) d_Batch_init_5 (fun q5 H hP hD hS => ?_)
  refine W.cs (cells' := 1) (slots' := 3) rfl rfl ?_
  have hP : va_P D vwCl [(a_t, .inr (5, [.null, .long 0, .long 0, .int 0, .int 0])), (q5, .inr (4, [.null, .null, .null]))] H := hP
  have hD : va_D A [(a_t, .inr (5, [.null, .long 0, .long 0, .int 0, .int 0])), (q5, .inr (4, [.null, .null, .null]))] := hD
  refine lv_dup hx hb d_Batch_init_8 rfl ?_
  have hFc := va_free (wc := [(q5, .inr (4, [.null, .null, .null]))]) hD hS hA [1] rfl
  refine va_callv (va_runIN (As := []) (rest := [.ref q5, .ref a_t]) ⟨hx, hb, hml, hown, hts⟩ (n_Image l D G q5 H.size) ⟨va_cnB 0 hts (gN tw106) rfl rfl rfl (hZ.2 _ _ _ _ tw130) (hts _ tw5) (by decide +kernel) ⟨Nat.le_of_ble_eq_true rfl, Nat.le_of_ble_eq_true rfl⟩, rfl, hts _ tw105⟩ (ob_preS hZ hK hP hD [1] rfl rfl) rfl rfl hl.1 rfl (lv_room (Nat.le_of_ble_eq_true rfl)) d_Batch_init_9 ⟨Nat.le_of_ble_eq_true rfl, Nat.le_of_ble_eq_true rfl⟩) hS (fun q _ h => hFc q h) hFc (fun u9 t H1 locs ht hvm hw hB hz1 hk1 hS => ?_)
  obtain ⟨hP1, hK1, hD1⟩ := hB
  rw [ht] at hP1
  obtain ⟨hP, hD⟩ := va_join (wr := [(a_t, .inr (5, [.null, .long 0, .long 0, .int 0, .int 0]))]) (w1 := [(q5, .inr (4, [.ref u9.1, .ref u9.2.1, .ref u9.2.2])), (u9.1, .inl (G 0, 63, .inl (fun _ => 0))), (u9.2.1, .inl (G 1, 504, .inr (.inl (fun _ => 0)))), (u9.2.2, .inl (G 0, 4, .inl (fun _ => 0)))]) hP hD [1] [0] rfl rfl (by decide) (by decide) hk1 hFc hP1 hD1
  generalize H1 = H at hP hS ⊢
  refine W.cs (cells' := 4) (slots' := 574) rfl rfl ?_
  have hP : va_P D vwCl [(a_t, .inr (5, [.null, .long 0, .long 0, .int 0, .int 0])), (q5, .inr (4, [.ref u9.1, .ref u9.2.1, .ref u9.2.2])), (u9.1, .inl (G 0, 63, .inl (fun _ => 0))), (u9.2.1, .inl (G 1, 504, .inr (.inl (fun _ => 0)))), (u9.2.2, .inl (G 0, 4, .inl (fun _ => 0)))] H := hP
  have hD : va_D A [(a_t, .inr (5, [.null, .long 0, .long 0, .int 0, .int 0])), (q5, .inr (4, [.ref u9.1, .ref u9.2.1, .ref u9.2.2])), (u9.1, .inl (G 0, 63, .inl (fun _ => 0))), (u9.2.1, .inl (G 1, 504, .inr (.inl (fun _ => 0)))), (u9.2.2, .inl (G 0, 4, .inl (fun _ => 0)))] := hD
  refine va_putF (D := D) (ci := 5) (v := .ref q5) (ty := .object "ObjectBase$Image") (C := "ObjectBase$Batch") (T := TC_Batch) (N := 5) hx hb hts inC_Batch tyC_Batch tyC_Batch_ok nmC_Batch hown hK hP hD hS 0 rfl rfl 0 (by decide) (hts _ tw131) (fun _ h9 => h9) rfl hin rfl (by decide +kernel) rfl rfl (Nat.le_of_ble_eq_true rfl) d_Batch_init_12 (fun H locs hP hD hS => ?_)
  have hP : va_P D vwCl [(a_t, .inr (5, [.ref q5, .long 0, .long 0, .int 0, .int 0])), (q5, .inr (4, [.ref u9.1, .ref u9.2.1, .ref u9.2.2])), (u9.1, .inl (G 0, 63, .inl (fun _ => 0))), (u9.2.1, .inl (G 1, 504, .inr (.inl (fun _ => 0)))), (u9.2.2, .inl (G 0, 4, .inl (fun _ => 0)))] H := hP
  have hD : va_D A [(a_t, .inr (5, [.ref q5, .long 0, .long 0, .int 0, .int 0])), (q5, .inr (4, [.ref u9.1, .ref u9.2.1, .ref u9.2.2])), (u9.1, .inl (G 0, 63, .inl (fun _ => 0))), (u9.2.1, .inl (G 1, 504, .inr (.inl (fun _ => 0)))), (u9.2.2, .inl (G 0, 4, .inl (fun _ => 0)))] := hD
  exact W.vret hx hb hr (fun t ht hW => ⟨⟨(q5, u9.1, u9.2.1, u9.2.2), rfl, trivial, by rw [ht]; exact hP, va_K.moved hW.alike hK, hD⟩, hS.F ht⟩) hS.2.2 d_Batch_init_15 hlk
