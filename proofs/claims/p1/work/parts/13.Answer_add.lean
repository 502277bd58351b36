abbrev bc_Answer_add : ByteArray := prog_2_method_4_code
abbrev y_Answer_add : MethodName := ⟨"ObjectBase$Answer", "add", "(IJ)V"⟩
def ws_Answer_add : List Cond := .code y_Answer_add bc_Answer_add 4 none :: obW
theorem d_Answer_add_0 : decode bc_Answer_add 0 = .ok (.aload_n 0, 1) := by decide +kernel
theorem d_Answer_add_1 : decode bc_Answer_add 1 = .ok (.dup, 1) := by decide +kernel
theorem d_Answer_add_2 : decode bc_Answer_add 2 = .ok (.getfield 19, 3) := by decide +kernel
theorem d_Answer_add_5 : decode bc_Answer_add 5 = .ok (.iload_n 1, 1) := by decide +kernel
theorem d_Answer_add_6 : decode bc_Answer_add 6 = .ok (.invokestatic 30, 3) := by decide +kernel
theorem d_Answer_add_9 : decode bc_Answer_add 9 = .ok (.lor, 1) := by decide +kernel
theorem d_Answer_add_10 : decode bc_Answer_add 10 = .ok (.putfield 19, 3) := by decide +kernel
theorem d_Answer_add_13 : decode bc_Answer_add 13 = .ok (.aload_n 0, 1) := by decide +kernel
theorem d_Answer_add_14 : decode bc_Answer_add 14 = .ok (.dup, 1) := by decide +kernel
theorem d_Answer_add_15 : decode bc_Answer_add 15 = .ok (.getfield 23, 3) := by decide +kernel
theorem d_Answer_add_18 : decode bc_Answer_add 18 = .ok (.lload_n 2, 1) := by decide +kernel
theorem d_Answer_add_19 : decode bc_Answer_add 19 = .ok (.ladd, 1) := by decide +kernel
theorem d_Answer_add_20 : decode bc_Answer_add 20 = .ok (.putfield 23, 3) := by decide +kernel
theorem d_Answer_add_23 : decode bc_Answer_add 23 = .ok (.return_, 1) := by decide +kernel
def cw_Answer_add (G : Nat → ClassId) (a_t : Nat) (v_mode : Int32) (v_fitting : Int64) (v_total : Int64) (v_looked : Int32) : va_W := [(a_t, .inr (10, [.int v_mode, .long v_fitting, .long v_total, .int v_looked]))]
def f_Answer_add (v_fitting : Int64) (v_total : Int64) (p1 : Int32) (p2 : Int64) : Option (Int64 × Int64) := (f_OB_setOf p1).bind fun o6 => (some (v_fitting ||| o6, v_total + p2))
set_option maxHeartbeats 4000000 in
set_option maxRecDepth 100000 in
theorem c_Answer_add (l : Launch) (D : va_G) (G : Nat → ClassId) (a_t : Nat) (v_mode : Int32) (v_fitting : Int64) (v_total : Int64) (v_looked : Int32) (p1 : Int32) (p2 : Int64) (o : Int64 × Int64) (hf : f_Answer_add v_fitting v_total p1 p2 = some o) (sz : Nat) : MetV l y_Answer_add ws_Answer_add ({ frames := 1, cells := 0, slots := 0, locals := 20 }) D (obT G) (cw_Answer_add G a_t v_mode v_fitting v_total v_looked) (cw_Answer_add G a_t v_mode o.1 o.2 v_looked) [.ref a_t, .int p1, .long p2] sz := by
  refine ob_of (cc := bc_Answer_add) (maxL := 4) (ret := none) (Qc := ObQv D (obT G) (cw_Answer_add G a_t v_mode o.1 o.2 v_looked)) (by decide) rfl (Nat.le_of_ble_eq_true rfl) ?_
  intro p e s m below meth c A ls H locs hx hb hr hml hts hown hlk hnm hZ hP hK hD hA hS hl
  have hret : ∀ (o' : Int64 × Int64) (H : Heap) (locs : List Loc) (pc : Nat) (ls : Array Slot), some o' = some o → va_P D vwCl (cw_Answer_add G a_t v_mode o'.1 o'.2 v_looked) H → va_D A (cw_Answer_add G a_t v_mode o'.1 o'.2 v_looked) → va_S A s.heap H locs → decode bc_Answer_add pc = .ok (.return_, 1) → W p l e { frames := 1, cells := 0, slots := 0, locals := 20 } s m ([.ref a_t, .int p1, .long p2] : List Value).toArray below meth c H locs 0 0 (MQ below (ObQv D (obT G) (cw_Answer_add G a_t v_mode o.1 o.2 v_looked) A) ([.ref a_t, .int p1, .long p2] : List Value).toArray s 0 0 A) (F0 m pc ls []) := by
    intro o' H locs pc ls he hP hD hS hd
    obtain rfl := Option.some.inj he
    exact ob_vret hx hb hr hlk hK hP hD hS hd
  generalize MQ below (ObQv D (obT G) (cw_Answer_add G a_t v_mode o.1 o.2 v_looked) A) ([.ref a_t, .int p1, .long p2] : List Value).toArray s 0 0 A = Q at hret ⊢
  have hl : lv_has ls 4 [(0, .ref a_t), (1, .int p1), (2, .long p2)] := hl
  unfold f_Answer_add at hf
  refine lv_aload_n hx hb d_Answer_add_0 rfl (lv_at hl 0 rfl) ?_
  refine lv_dup hx hb d_Answer_add_1 rfl ?_
  refine va_get (D := D) (ci := 10) (v := .long v_fitting) (C := "ObjectBase$Answer") (T := TC_Answer) (N := 4) hx hb hts inC_Answer hown hK hP 0 rfl rfl 1 (by decide) (hts _ tw218) (fun _ h9 => h9) rfl d_Answer_add_2 ?_
  refine lv_iload_n hx hb d_Answer_add_5 rfl (lv_at hl 1 rfl) ?_
  obtain ⟨o6, ho6, hf⟩ := ob_b hf
  refine ob_calll (w2 := (cw_Answer_add G a_t v_mode v_fitting v_total v_looked)) (va_runSN (As := [.int p1]) (rest := [.long v_fitting, .ref a_t]) ⟨hx, hb, hml, hown, hts⟩ (c_OB_setOf l D G  p1 o6 ho6 H.size) ⟨va_cnB 1 hts (gN tw322) rfl rfl rfl (hZ.2 _ _ _ _ tw758) (hts _ tw1) (by decide +kernel) ⟨Nat.le_of_ble_eq_true rfl, Nat.le_of_ble_eq_true rfl⟩, hts _ tw321, trivial⟩ (ob_preS hZ hK hP hD [] rfl rfl) rfl rfl hl.1 rfl (lv_room (Nat.le_of_ble_eq_true rfl)) d_Answer_add_6 ⟨Nat.le_refl _, Nat.le_refl _⟩) hP hD hA hS [] rfl rfl rfl rfl (fun H locs hP hD hS => ?_)
  refine lv_lor hx hb d_Answer_add_9 ?_
  refine va_put (D := D) (ci := 10) (v := .long (v_fitting ||| o6)) (ty := .long) (C := "ObjectBase$Answer") (T := TC_Answer) (N := 4) hx hb hts inC_Answer tyC_Answer tyC_Answer_ok nmC_Answer hown hK hP hD hS 0 rfl rfl 1 (by decide) (hts _ tw218) (fun _ h9 => h9) rfl (by decide +kernel) rfl rfl (Nat.le_of_ble_eq_true rfl) d_Answer_add_10 (fun H locs hP hD hS => ?_)
  have hP : va_P D vwCl (cw_Answer_add G a_t v_mode (v_fitting ||| o6) v_total v_looked) H := hP
  have hD : va_D A (cw_Answer_add G a_t v_mode (v_fitting ||| o6) v_total v_looked) := hD
  refine lv_aload_n hx hb d_Answer_add_13 rfl (lv_at hl 0 rfl) ?_
  refine lv_dup hx hb d_Answer_add_14 rfl ?_
  refine va_get (D := D) (ci := 10) (v := .long v_total) (C := "ObjectBase$Answer") (T := TC_Answer) (N := 4) hx hb hts inC_Answer hown hK hP 0 rfl rfl 2 (by decide) (hts _ tw219) (fun _ h9 => h9) rfl d_Answer_add_15 ?_
  refine lv_lload_n hx hb d_Answer_add_18 rfl (lv_at hl 2 rfl) ?_
  refine lv_ladd hx hb d_Answer_add_19 ?_
  refine va_put (D := D) (ci := 10) (v := .long (v_total + p2)) (ty := .long) (C := "ObjectBase$Answer") (T := TC_Answer) (N := 4) hx hb hts inC_Answer tyC_Answer tyC_Answer_ok nmC_Answer hown hK hP hD hS 0 rfl rfl 2 (by decide) (hts _ tw219) (fun _ h9 => h9) rfl (by decide +kernel) rfl rfl (Nat.le_of_ble_eq_true rfl) d_Answer_add_20 (fun H locs hP hD hS => ?_)
  have hP : va_P D vwCl (cw_Answer_add G a_t v_mode (v_fitting ||| o6) (v_total + p2) v_looked) H := hP
  have hD : va_D A (cw_Answer_add G a_t v_mode (v_fitting ||| o6) (v_total + p2) v_looked) := hD
  exact hret (v_fitting ||| o6, v_total + p2) H locs _ ls hf hP hD hS d_Answer_add_23
abbrev bc_Answer_count : ByteArray := prog_2_method_5_code
abbrev y_Answer_count : MethodName := ⟨"ObjectBase$Answer", "count", "()I"⟩
def ws_Answer_count : List Cond := .code y_Answer_count bc_Answer_count 1 (some .int) :: obW
theorem d_Answer_count_0 : decode bc_Answer_count 0 = .ok (.aload_n 0, 1) := by decide +kernel
theorem d_Answer_count_1 : decode bc_Answer_count 1 = .ok (.getfield 19, 3) := by decide +kernel
theorem d_Answer_count_4 : decode bc_Answer_count 4 = .ok (.invokestatic 34, 3) := by decide +kernel
theorem d_Answer_count_7 : decode bc_Answer_count 7 = .ok (.ireturn, 1) := by decide +kernel
def cw_Answer_count (G : Nat → ClassId) (a_t : Nat) (v_mode : Int32) (v_fitting : Int64) (v_total : Int64) (v_looked : Int32) : va_W := [(a_t, .inr (10, [.int v_mode, .long v_fitting, .long v_total, .int v_looked]))]
def f_Answer_count (v_fitting : Int64) : Option (Int32) := (f_Long_bitCount v_fitting).bind fun o4 => (some o4)
set_option maxHeartbeats 4000000 in
set_option maxRecDepth 100000 in
theorem c_Answer_count (l : Launch) (D : va_G) (G : Nat → ClassId) (a_t : Nat) (v_mode : Int32) (v_fitting : Int64) (v_total : Int64) (v_looked : Int32) (o : Int32) (hf : f_Answer_count v_fitting = some o) (sz : Nat) : MetI l y_Answer_count ws_Answer_count ({ frames := 1, cells := 0, slots := 0, locals := 21 }) D (obT G) (cw_Answer_count G a_t v_mode v_fitting v_total v_looked) (cw_Answer_count G a_t v_mode v_fitting v_total v_looked) [.ref a_t] o sz := by
  refine ob_of (cc := bc_Answer_count) (maxL := 1) (ret := (some .int)) (Qc := ObQi D (obT G) (cw_Answer_count G a_t v_mode v_fitting v_total v_looked) o) (by decide) rfl (Nat.le_of_ble_eq_true rfl) ?_
  intro p e s m below meth c A ls H locs hx hb hr hml hts hown hlk hnm hZ hP hK hD hA hS hl
  have hret : ∀ (o' : Int32) (H : Heap) (locs : List Loc) (pc : Nat) (ls : Array Slot), some o' = some o → va_P D vwCl (cw_Answer_count G a_t v_mode v_fitting v_total v_looked) H → va_D A (cw_Answer_count G a_t v_mode v_fitting v_total v_looked) → va_S A s.heap H locs → narrow .int (.int o') = .int o' → decode bc_Answer_count pc = .ok (.ireturn, 1) → W p l e { frames := 1, cells := 0, slots := 0, locals := 21 } s m ([.ref a_t] : List Value).toArray below meth c H locs 0 0 (MQ below (ObQi D (obT G) (cw_Answer_count G a_t v_mode v_fitting v_total v_looked) o A) ([.ref a_t] : List Value).toArray s 0 0 A) (F0 m pc ls [.int o']) := by
    intro o' H locs pc ls he hP hD hS hn hd
    obtain rfl := Option.some.inj he
    exact ob_iret hx hb hr hlk hK hP hD hS hn hd
  generalize MQ below (ObQi D (obT G) (cw_Answer_count G a_t v_mode v_fitting v_total v_looked) o A) ([.ref a_t] : List Value).toArray s 0 0 A = Q at hret ⊢
  have hl : lv_has ls 1 [(0, .ref a_t)] := hl
  unfold f_Answer_count at hf
  refine lv_aload_n hx hb d_Answer_count_0 rfl (lv_at hl 0 rfl) ?_
  refine va_get (D := D) (ci := 10) (v := .long v_fitting) (C := "ObjectBase$Answer") (T := TC_Answer) (N := 4) hx hb hts inC_Answer hown hK hP 0 rfl rfl 1 (by decide) (hts _ tw218) (fun _ h9 => h9) rfl d_Answer_count_1 ?_
  obtain ⟨o4, ho4, hf⟩ := ob_b hf
  refine ob_calli (w2 := (cw_Answer_count G a_t v_mode v_fitting v_total v_looked)) (va_runS (As := [.long v_fitting]) (rest := []) ⟨hx, hb, hml, hown, hts⟩ (c_Long_bitCount l D G  v_fitting o4 ho4 H.size) (va_cwS 1 hts (gS tw763 tw416 tw13 tw417) rfl rfl rfl (by decide +kernel) ⟨Nat.le_of_ble_eq_true rfl, Nat.le_of_ble_eq_true rfl⟩) (ob_preS hZ hK hP hD [] rfl rfl) rfl rfl hl.1 rfl (lv_room (Nat.le_of_ble_eq_true rfl)) d_Answer_count_4 ⟨Nat.le_refl _, Nat.le_refl _⟩) hP hD hA hS [] rfl rfl rfl rfl (fun H locs hP hD hS => ?_)
  exact hret o4 H locs _ ls hf hP hD hS rfl d_Answer_count_7
abbrev bc_Answer_idAt : ByteArray := prog_2_method_6_code
abbrev y_Answer_idAt : MethodName := ⟨"ObjectBase$Answer", "idAt", "(I)I"⟩
def ws_Answer_idAt : List Cond := .code y_Answer_idAt bc_Answer_idAt 4 (some .int) :: obW
theorem d_Answer_idAt_0 : decode bc_Answer_idAt 0 = .ok (.iconst 0, 1) := by decide +kernel
theorem d_Answer_idAt_1 : decode bc_Answer_idAt 1 = .ok (.istore_n 2, 1) := by decide +kernel
theorem d_Answer_idAt_2 : decode bc_Answer_idAt 2 = .ok (.iconst 1, 1) := by decide +kernel
theorem d_Answer_idAt_3 : decode bc_Answer_idAt 3 = .ok (.istore_n 3, 1) := by decide +kernel
theorem d_Answer_idAt_4 : decode bc_Answer_idAt 4 = .ok (.iload_n 3, 1) := by decide +kernel
theorem d_Answer_idAt_5 : decode bc_Answer_idAt 5 = .ok (.bipush 62, 2) := by decide +kernel
theorem d_Answer_idAt_7 : decode bc_Answer_idAt 7 = .ok (.if_icmp .gt 30, 3) := by decide +kernel
theorem d_Answer_idAt_10 : decode bc_Answer_idAt 10 = .ok (.aload_n 0, 1) := by decide +kernel
theorem d_Answer_idAt_11 : decode bc_Answer_idAt 11 = .ok (.getfield 19, 3) := by decide +kernel
theorem d_Answer_idAt_14 : decode bc_Answer_idAt 14 = .ok (.iload_n 3, 1) := by decide +kernel
theorem d_Answer_idAt_15 : decode bc_Answer_idAt 15 = .ok (.invokestatic 40, 3) := by decide +kernel
theorem d_Answer_idAt_18 : decode bc_Answer_idAt 18 = .ok (.ifCond .eq 13, 3) := by decide +kernel
theorem d_Answer_idAt_21 : decode bc_Answer_idAt 21 = .ok (.iload_n 2, 1) := by decide +kernel
theorem d_Answer_idAt_22 : decode bc_Answer_idAt 22 = .ok (.iload_n 1, 1) := by decide +kernel
theorem d_Answer_idAt_23 : decode bc_Answer_idAt 23 = .ok (.if_icmp .ne 5, 3) := by decide +kernel
theorem d_Answer_idAt_26 : decode bc_Answer_idAt 26 = .ok (.iload_n 3, 1) := by decide +kernel
theorem d_Answer_idAt_27 : decode bc_Answer_idAt 27 = .ok (.ireturn, 1) := by decide +kernel
theorem d_Answer_idAt_28 : decode bc_Answer_idAt 28 = .ok (.iinc 2 1, 3) := by decide +kernel
theorem d_Answer_idAt_31 : decode bc_Answer_idAt 31 = .ok (.iinc 3 1, 3) := by decide +kernel
theorem d_Answer_idAt_34 : decode bc_Answer_idAt 34 = .ok (.goto (-30), 3) := by decide +kernel
theorem d_Answer_idAt_37 : decode bc_Answer_idAt 37 = .ok (.iconst (-1), 1) := by decide +kernel
theorem d_Answer_idAt_38 : decode bc_Answer_idAt 38 = .ok (.ireturn, 1) := by decide +kernel
def cw_Answer_idAt (G : Nat → ClassId) (a_t : Nat) (v_mode : Int32) (v_fitting : Int64) (v_total : Int64) (v_looked : Int32) : va_W := [(a_t, .inr (10, [.int v_mode, .long v_fitting, .long v_total, .int v_looked]))]
def f_Answer_idAt_B4 (v_fitting : Int64) (p1 : Int32) (k4 : Int32 → Int32 → Option (Int32)) (x4_2 : Int32) (x4_3 : Int32) : Option (Int32) := if 62 < x4_3 then (some (-1)) else ((f_OB_contains v_fitting x4_3).bind fun o15 => (if o15 = 0 then (k4 x4_2 (x4_3 + 1)) else (if x4_2 = p1 then (some x4_3) else (k4 (x4_2 + 1) (x4_3 + 1)))))
def f_Answer_idAt_L4 (v_fitting : Int64) (p1 : Int32) : Nat → Int32 → Int32 → Option (Int32) := ob_lp2 (f_Answer_idAt_B4 v_fitting p1)
def f_Answer_idAt (v_fitting : Int64) (p1 : Int32) : Option (Int32) := f_Answer_idAt_L4 v_fitting p1 1000 0 1
set_option maxHeartbeats 4000000 in
set_option maxRecDepth 100000 in
theorem c_Answer_idAt (l : Launch) (D : va_G) (G : Nat → ClassId) (a_t : Nat) (v_mode : Int32) (v_fitting : Int64) (v_total : Int64) (v_looked : Int32) (p1 : Int32) (o : Int32) (hf : f_Answer_idAt v_fitting p1 = some o) (sz : Nat) : MetI l y_Answer_idAt ws_Answer_idAt ({ frames := 1, cells := 0, slots := 0, locals := 22 }) D (obT G) (cw_Answer_idAt G a_t v_mode v_fitting v_total v_looked) (cw_Answer_idAt G a_t v_mode v_fitting v_total v_looked) [.ref a_t, .int p1] o sz := by
  refine ob_of (cc := bc_Answer_idAt) (maxL := 4) (ret := (some .int)) (Qc := ObQi D (obT G) (cw_Answer_idAt G a_t v_mode v_fitting v_total v_looked) o) (by decide) rfl (Nat.le_of_ble_eq_true rfl) ?_
  intro p e s m below meth c A ls H locs hx hb hr hml hts hown hlk hnm hZ hP hK hD hA hS hl
  have hret : ∀ (o' : Int32) (H : Heap) (locs : List Loc) (pc : Nat) (ls : Array Slot), some o' = some o → va_P D vwCl (cw_Answer_idAt G a_t v_mode v_fitting v_total v_looked) H → va_D A (cw_Answer_idAt G a_t v_mode v_fitting v_total v_looked) → va_S A s.heap H locs → narrow .int (.int o') = .int o' → decode bc_Answer_idAt pc = .ok (.ireturn, 1) → W p l e { frames := 1, cells := 0, slots := 0, locals := 22 } s m ([.ref a_t, .int p1] : List Value).toArray below meth c H locs 0 0 (MQ below (ObQi D (obT G) (cw_Answer_idAt G a_t v_mode v_fitting v_total v_looked) o A) ([.ref a_t, .int p1] : List Value).toArray s 0 0 A) (F0 m pc ls [.int o']) := by
    intro o' H locs pc ls he hP hD hS hn hd
    obtain rfl := Option.some.inj he
    exact ob_iret hx hb hr hlk hK hP hD hS hn hd
  generalize MQ below (ObQi D (obT G) (cw_Answer_idAt G a_t v_mode v_fitting v_total v_looked) o A) ([.ref a_t, .int p1] : List Value).toArray s 0 0 A = Q at hret ⊢
  have hl : lv_has ls 4 [(0, .ref a_t), (1, .int p1)] := hl
  unfold f_Answer_idAt at hf
  have loop4 : ∀ (n4 : Nat) (x4_2 : Int32) (x4_3 : Int32) (ls : Array Slot) (H : Heap) (locs : List Loc), lv_has ls 4 [(0, .ref a_t), (1, .int p1), (2, .int x4_2), (3, .int x4_3)] → va_P D vwCl (cw_Answer_idAt G a_t v_mode v_fitting v_total v_looked) H → va_D A (cw_Answer_idAt G a_t v_mode v_fitting v_total v_looked) → va_S A s.heap H locs → f_Answer_idAt_L4 v_fitting p1 n4 x4_2 x4_3 = some o → W p l e ({ frames := 1, cells := 0, slots := 0, locals := 22 }) s m ([.ref a_t, .int p1] : List Value).toArray below meth c H locs 0 0 Q (F0 m 4 ls []) := by
    intro n4
    induction n4 with
    | zero => intro x4_2 x4_3 ls H locs hl hP hD hS hf; exact ob_no hf
    | succ n4 ih4 =>
      intro x4_2 x4_3 ls H locs hl hP hD hS hf
      have hf : f_Answer_idAt_B4 v_fitting p1 (f_Answer_idAt_L4 v_fitting p1 n4) x4_2 x4_3 = some o := hf
      unfold f_Answer_idAt_B4 at hf
      refine lv_iload_n hx hb d_Answer_idAt_4 rfl (lv_at hl 3 rfl) ?_
      refine lv_bipush (v := 62) hx hb d_Answer_idAt_5 (by decide) ?_
      refine lv_icmp_gt (tgt := 37) hx hb d_Answer_idAt_7 (by decide) (fun hc7 => ?_) (fun hc7 => ?_)
      · have hf := ob_t hc7 hf
        refine lv_iconst (v := (-1)) hx hb d_Answer_idAt_37 (by decide) ?_
        exact hret (-1) H locs _ ls hf hP hD hS rfl d_Answer_idAt_38
      · have hf := ob_f hc7 hf
        refine lv_aload_n hx hb d_Answer_idAt_10 rfl (lv_at hl 0 rfl) ?_
        refine va_get (D := D) (ci := 10) (v := .long v_fitting) (C := "ObjectBase$Answer") (T := TC_Answer) (N := 4) hx hb hts inC_Answer hown hK hP 0 rfl rfl 1 (by decide) (hts _ tw218) (fun _ h9 => h9) rfl d_Answer_idAt_11 ?_
        refine lv_iload_n hx hb d_Answer_idAt_14 rfl (lv_at hl 3 rfl) ?_
        obtain ⟨o15, ho15, hf⟩ := ob_b hf
        refine ob_calli (w2 := (cw_Answer_idAt G a_t v_mode v_fitting v_total v_looked)) (va_runSN (As := [.long v_fitting, .int x4_3]) (rest := []) ⟨hx, hb, hml, hown, hts⟩ (c_OB_contains l D G  v_fitting x4_3 o15 ho15 H.size) ⟨va_cnB 2 hts (gN tw326) rfl rfl rfl (hZ.2 _ _ _ _ tw776) (hts _ tw1) (by decide +kernel) ⟨Nat.le_of_ble_eq_true rfl, Nat.le_of_ble_eq_true rfl⟩, hts _ tw325, trivial⟩ (ob_preS hZ hK hP hD [] rfl rfl) rfl rfl hl.1 rfl (lv_room (Nat.le_of_ble_eq_true rfl)) d_Answer_idAt_15 ⟨Nat.le_refl _, Nat.le_refl _⟩) hP hD hA hS [] rfl rfl rfl rfl (fun H locs hP hD hS => ?_)
        refine lv_if_eq (tgt := 31) hx hb d_Answer_idAt_18 (by decide) (fun hc18 => ?_) (fun hc18 => ?_)
        · have hf := ob_t hc18 hf
          refine lv_iinc (k := 3) (v := x4_3 + 1) (lv' := [(3, .int (x4_3 + 1)), (0, .ref a_t), (1, .int p1), (2, .int x4_2)]) hx hb d_Answer_idAt_31 hl rfl (by rw [show Int32.ofInt 1 = (1 : Int32) from by decide]) (by decide) rfl (fun ls hl => ?_)
          refine lv_goto (tgt := 4) hx hb d_Answer_idAt_34 (by decide) ?_
          exact ih4 x4_2 (x4_3 + 1) ls H locs (lv_sub hl [1, 2, 3, 0] rfl) hP hD hS hf
        · have hf := ob_f hc18 hf
          refine lv_iload_n hx hb d_Answer_idAt_21 rfl (lv_at hl 2 rfl) ?_
          refine lv_iload_n hx hb d_Answer_idAt_22 rfl (lv_at hl 1 rfl) ?_
          refine lv_icmp_ne (tgt := 28) hx hb d_Answer_idAt_23 (by decide) (fun hc23 => ?_) (fun hc23 => ?_)
          · have hf := ob_f hc23 hf
            refine lv_iinc (k := 2) (v := x4_2 + 1) (lv' := [(2, .int (x4_2 + 1)), (0, .ref a_t), (1, .int p1), (3, .int x4_3)]) hx hb d_Answer_idAt_28 hl rfl (by rw [show Int32.ofInt 1 = (1 : Int32) from by decide]) (by decide) rfl (fun ls hl => ?_)
            refine lv_iinc (k := 3) (v := x4_3 + 1) (lv' := [(3, .int (x4_3 + 1)), (2, .int (x4_2 + 1)), (0, .ref a_t), (1, .int p1)]) hx hb d_Answer_idAt_31 hl rfl (by rw [show Int32.ofInt 1 = (1 : Int32) from by decide]) (by decide) rfl (fun ls hl => ?_)
            refine lv_goto (tgt := 4) hx hb d_Answer_idAt_34 (by decide) ?_
            exact ih4 (x4_2 + 1) (x4_3 + 1) ls H locs (lv_sub hl [2, 3, 1, 0] rfl) hP hD hS hf
          · have hf := ob_t hc23 hf
            refine lv_iload_n hx hb d_Answer_idAt_26 rfl (lv_at hl 3 rfl) ?_
            exact hret x4_3 H locs _ ls hf hP hD hS rfl d_Answer_idAt_27
  refine lv_iconst (v := 0) hx hb d_Answer_idAt_0 (by decide) ?_
  refine lv_istore_n (lv' := [(2, .int 0), (0, .ref a_t), (1, .int p1)]) hx hb d_Answer_idAt_1 rfl hl (by decide) rfl (fun ls hl => ?_)
  refine lv_iconst (v := 1) hx hb d_Answer_idAt_2 (by decide) ?_
  refine lv_istore_n (lv' := [(3, .int 1), (2, .int 0), (0, .ref a_t), (1, .int p1)]) hx hb d_Answer_idAt_3 rfl hl (by decide) rfl (fun ls hl => ?_)
  exact loop4 1000 0 1 ls H locs (lv_sub hl [2, 3, 1, 0] rfl) hP hD hS hf
