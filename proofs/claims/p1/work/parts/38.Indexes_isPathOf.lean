abbrev bc_Indexes_isPathOf : ByteArray := prog_6_method_5_code
abbrev y_Indexes_isPathOf : MethodName := ⟨"ObjectBase$Indexes", "isPathOf", "(ILObjectBase$Text;I)Z"⟩
def ws_Indexes_isPathOf : List Cond := .code y_Indexes_isPathOf bc_Indexes_isPathOf 5 (some .boolean) :: obW
theorem d_Indexes_isPathOf_0 : decode bc_Indexes_isPathOf 0 = .ok (.iconst 0, 1) := by decide +kernel
theorem d_Indexes_isPathOf_1 : decode bc_Indexes_isPathOf 1 = .ok (.istore 4, 2) := by decide +kernel
theorem d_Indexes_isPathOf_3 : decode bc_Indexes_isPathOf 3 = .ok (.iload 4, 2) := by decide +kernel
theorem d_Indexes_isPathOf_5 : decode bc_Indexes_isPathOf 5 = .ok (.iconst 3, 1) := by decide +kernel
theorem d_Indexes_isPathOf_6 : decode bc_Indexes_isPathOf 6 = .ok (.if_icmp .ge 32, 3) := by decide +kernel
theorem d_Indexes_isPathOf_9 : decode bc_Indexes_isPathOf 9 = .ok (.aload_n 2, 1) := by decide +kernel
theorem d_Indexes_isPathOf_10 : decode bc_Indexes_isPathOf 10 = .ok (.iload_n 3, 1) := by decide +kernel
theorem d_Indexes_isPathOf_11 : decode bc_Indexes_isPathOf 11 = .ok (.iload 4, 2) := by decide +kernel
theorem d_Indexes_isPathOf_13 : decode bc_Indexes_isPathOf 13 = .ok (.invokevirtual 55, 3) := by decide +kernel
theorem d_Indexes_isPathOf_16 : decode bc_Indexes_isPathOf 16 = .ok (.aload_n 0, 1) := by decide +kernel
theorem d_Indexes_isPathOf_17 : decode bc_Indexes_isPathOf 17 = .ok (.getfield 15, 3) := by decide +kernel
theorem d_Indexes_isPathOf_20 : decode bc_Indexes_isPathOf 20 = .ok (.iload_n 1, 1) := by decide +kernel
theorem d_Indexes_isPathOf_21 : decode bc_Indexes_isPathOf 21 = .ok (.iconst 3, 1) := by decide +kernel
theorem d_Indexes_isPathOf_22 : decode bc_Indexes_isPathOf 22 = .ok (.imul, 1) := by decide +kernel
theorem d_Indexes_isPathOf_23 : decode bc_Indexes_isPathOf 23 = .ok (.iload 4, 2) := by decide +kernel
theorem d_Indexes_isPathOf_25 : decode bc_Indexes_isPathOf 25 = .ok (.iadd, 1) := by decide +kernel
theorem d_Indexes_isPathOf_26 : decode bc_Indexes_isPathOf 26 = .ok (.iaload, 1) := by decide +kernel
theorem d_Indexes_isPathOf_27 : decode bc_Indexes_isPathOf 27 = .ok (.if_icmp .eq 5, 3) := by decide +kernel
theorem d_Indexes_isPathOf_30 : decode bc_Indexes_isPathOf 30 = .ok (.iconst 0, 1) := by decide +kernel
theorem d_Indexes_isPathOf_31 : decode bc_Indexes_isPathOf 31 = .ok (.ireturn, 1) := by decide +kernel
theorem d_Indexes_isPathOf_32 : decode bc_Indexes_isPathOf 32 = .ok (.iinc 4 1, 3) := by decide +kernel
theorem d_Indexes_isPathOf_35 : decode bc_Indexes_isPathOf 35 = .ok (.goto (-32), 3) := by decide +kernel
theorem d_Indexes_isPathOf_38 : decode bc_Indexes_isPathOf 38 = .ok (.aload_n 2, 1) := by decide +kernel
theorem d_Indexes_isPathOf_39 : decode bc_Indexes_isPathOf 39 = .ok (.iload_n 3, 1) := by decide +kernel
theorem d_Indexes_isPathOf_40 : decode bc_Indexes_isPathOf 40 = .ok (.iconst 3, 1) := by decide +kernel
theorem d_Indexes_isPathOf_41 : decode bc_Indexes_isPathOf 41 = .ok (.invokevirtual 55, 3) := by decide +kernel
theorem d_Indexes_isPathOf_44 : decode bc_Indexes_isPathOf 44 = .ok (.iconst (-1), 1) := by decide +kernel
theorem d_Indexes_isPathOf_45 : decode bc_Indexes_isPathOf 45 = .ok (.if_icmp .ne 7, 3) := by decide +kernel
theorem d_Indexes_isPathOf_48 : decode bc_Indexes_isPathOf 48 = .ok (.iconst 1, 1) := by decide +kernel
theorem d_Indexes_isPathOf_49 : decode bc_Indexes_isPathOf 49 = .ok (.goto 4, 3) := by decide +kernel
theorem d_Indexes_isPathOf_52 : decode bc_Indexes_isPathOf 52 = .ok (.iconst 0, 1) := by decide +kernel
theorem d_Indexes_isPathOf_53 : decode bc_Indexes_isPathOf 53 = .ok (.ireturn, 1) := by decide +kernel
def cw_Indexes_isPathOf (G : Nat → ClassId) (a_p2 a_p2_chars a_t a_fields a_classes : Nat) (v_p2_length : Int32) (v_p2_chars : Nat → Int32) (v_count : Int32) (v_fields : Nat → Int32) : va_W := [(a_p2, .inr (6, [.ref a_p2_chars, .int v_p2_length])), (a_p2_chars, .inl (G 2, 60, .inl v_p2_chars)), (a_t, .inr (2, [.ref a_classes, .ref a_fields, .int v_count])), (a_fields, .inl (G 0, 9, .inl v_fields))]
def f_Indexes_isPathOf_B3 (v_p2_length : Int32) (v_p2_chars : Nat → Int32) (p3 : Int32) (p1 : Int32) (v_fields : Nat → Int32) (k3 : Int32 → Option (Int32)) (x3_4 : Int32) : Option (Int32) := if 3 ≤ x3_4 then ((f_Text_fieldOfPath v_p2_length v_p2_chars p3 3).bind fun o41 => (if o41 = (-1) then (some 1) else (some 0))) else ((f_Text_fieldOfPath v_p2_length v_p2_chars p3 x3_4).bind fun o13 => (ob_iv ((p1 * 3) + x3_4) 9 (if o13 = (v_fields ((p1 * 3) + x3_4).toNatClampNeg) then (k3 (x3_4 + 1)) else (some 0))))
def f_Indexes_isPathOf_L3 (v_p2_length : Int32) (v_p2_chars : Nat → Int32) (p3 : Int32) (p1 : Int32) (v_fields : Nat → Int32) : Nat → Int32 → Option (Int32) := ob_lp1 (f_Indexes_isPathOf_B3 v_p2_length v_p2_chars p3 p1 v_fields)
def f_Indexes_isPathOf (v_p2_length : Int32) (v_p2_chars : Nat → Int32) (v_fields : Nat → Int32) (p1 : Int32) (p3 : Int32) : Option (Int32) := f_Indexes_isPathOf_L3 v_p2_length v_p2_chars p3 p1 v_fields 1000 0
set_option maxHeartbeats 4000000 in
set_option maxRecDepth 100000 in
theorem c_Indexes_isPathOf (l : Launch) (D : va_G) (G : Nat → ClassId) (a_p2 a_p2_chars a_t a_fields a_classes : Nat) (v_p2_length : Int32) (v_p2_chars : Nat → Int32) (v_count : Int32) (v_fields : Nat → Int32) (p1 : Int32) (p3 : Int32) (o : Int32) (hf : f_Indexes_isPathOf v_p2_length v_p2_chars v_fields p1 p3 = some o) (sz : Nat) : MetI l y_Indexes_isPathOf ws_Indexes_isPathOf ({ frames := 2, cells := 0, slots := 0, locals := 44 }) D (obT G) (cw_Indexes_isPathOf G a_p2 a_p2_chars a_t a_fields a_classes v_p2_length v_p2_chars v_count v_fields) (cw_Indexes_isPathOf G a_p2 a_p2_chars a_t a_fields a_classes v_p2_length v_p2_chars v_count v_fields) [.ref a_t, .int p1, .ref a_p2, .int p3] o sz := by
  refine ob_of (cc := bc_Indexes_isPathOf) (maxL := 5) (ret := (some .boolean)) (Qc := ObQi D (obT G) (cw_Indexes_isPathOf G a_p2 a_p2_chars a_t a_fields a_classes v_p2_length v_p2_chars v_count v_fields) o) (by decide) rfl (Nat.le_of_ble_eq_true rfl) ?_
  intro p e s m below meth c A ls H locs hx hb hr hml hts hown hlk hnm hZ hP hK hD hA hS hl
  have hret : ∀ (o' : Int32) (H : Heap) (locs : List Loc) (pc : Nat) (ls : Array Slot), some o' = some o → va_P D vwCl (cw_Indexes_isPathOf G a_p2 a_p2_chars a_t a_fields a_classes v_p2_length v_p2_chars v_count v_fields) H → va_D A (cw_Indexes_isPathOf G a_p2 a_p2_chars a_t a_fields a_classes v_p2_length v_p2_chars v_count v_fields) → va_S A s.heap H locs → narrow .boolean (.int o') = .int o' → decode bc_Indexes_isPathOf pc = .ok (.ireturn, 1) → W p l e { frames := 2, cells := 0, slots := 0, locals := 44 } s m ([.ref a_t, .int p1, .ref a_p2, .int p3] : List Value).toArray below meth c H locs 0 0 (MQ below (ObQi D (obT G) (cw_Indexes_isPathOf G a_p2 a_p2_chars a_t a_fields a_classes v_p2_length v_p2_chars v_count v_fields) o A) ([.ref a_t, .int p1, .ref a_p2, .int p3] : List Value).toArray s 0 0 A) (F0 m pc ls [.int o']) := by
    intro o' H locs pc ls he hP hD hS hn hd
    obtain rfl := Option.some.inj he
    exact ob_iret hx hb hr hlk hK hP hD hS hn hd
  generalize MQ below (ObQi D (obT G) (cw_Indexes_isPathOf G a_p2 a_p2_chars a_t a_fields a_classes v_p2_length v_p2_chars v_count v_fields) o A) ([.ref a_t, .int p1, .ref a_p2, .int p3] : List Value).toArray s 0 0 A = Q at hret ⊢
  have hl : lv_has ls 5 [(0, .ref a_t), (1, .int p1), (2, .ref a_p2), (3, .int p3)] := hl
  unfold f_Indexes_isPathOf at hf
  have loop3 : ∀ (n3 : Nat) (x3_4 : Int32) (ls : Array Slot) (H : Heap) (locs : List Loc), lv_has ls 5 [(0, .ref a_t), (1, .int p1), (2, .ref a_p2), (3, .int p3), (4, .int x3_4)] → va_P D vwCl (cw_Indexes_isPathOf G a_p2 a_p2_chars a_t a_fields a_classes v_p2_length v_p2_chars v_count v_fields) H → va_D A (cw_Indexes_isPathOf G a_p2 a_p2_chars a_t a_fields a_classes v_p2_length v_p2_chars v_count v_fields) → va_S A s.heap H locs → f_Indexes_isPathOf_L3 v_p2_length v_p2_chars p3 p1 v_fields n3 x3_4 = some o → W p l e ({ frames := 2, cells := 0, slots := 0, locals := 44 }) s m ([.ref a_t, .int p1, .ref a_p2, .int p3] : List Value).toArray below meth c H locs 0 0 Q (F0 m 3 ls []) := by
    intro n3
    induction n3 with
    | zero => intro x3_4 ls H locs hl hP hD hS hf; exact ob_no hf
    | succ n3 ih3 =>
      intro x3_4 ls H locs hl hP hD hS hf
      have hf : f_Indexes_isPathOf_B3 v_p2_length v_p2_chars p3 p1 v_fields (f_Indexes_isPathOf_L3 v_p2_length v_p2_chars p3 p1 v_fields n3) x3_4 = some o := hf
      unfold f_Indexes_isPathOf_B3 at hf
      refine lv_iload hx hb d_Indexes_isPathOf_3 (lv_at hl 4 rfl) ?_
      refine lv_iconst (v := 3) hx hb d_Indexes_isPathOf_5 (by decide) ?_
      refine lv_icmp_ge (tgt := 38) hx hb d_Indexes_isPathOf_6 (by decide) (fun hc6 => ?_) (fun hc6 => ?_)
      · have hf := ob_t hc6 hf
        refine lv_aload_n hx hb d_Indexes_isPathOf_38 rfl (lv_at hl 2 rfl) ?_
        refine lv_iload_n hx hb d_Indexes_isPathOf_39 rfl (lv_at hl 3 rfl) ?_
        refine lv_iconst (v := 3) hx hb d_Indexes_isPathOf_40 (by decide) ?_
        obtain ⟨o41, ho41, hf⟩ := ob_b hf
        refine ob_calli (w2 := (cw_Indexes_isPathOf G a_p2 a_p2_chars a_t a_fields a_classes v_p2_length v_p2_chars v_count v_fields)) (va_runV (As := [.int p3, .int 3]) (rest := []) ⟨hx, hb, hml, hown, hts⟩ (c_Text_fieldOfPath l D G a_p2 a_p2_chars v_p2_length v_p2_chars p3 3 o41 ho41 H.size) (cwV 2 hts (gV tw705 tw706 tw707 tw7 tw708) rfl rfl rfl (by decide +kernel) ⟨Nat.le_of_ble_eq_true rfl, Nat.le_of_ble_eq_true rfl⟩) (ob_preV (q0 := 0) (ci := 6) hZ hK hP hD [0, 1] rfl rfl rfl rfl rfl) rfl rfl hl.1 rfl (lv_room (Nat.le_of_ble_eq_true rfl)) d_Indexes_isPathOf_41 ⟨Nat.le_refl _, Nat.le_refl _⟩) hP hD hA hS [0, 1] rfl rfl rfl rfl (fun H locs hP hD hS => ?_)
        refine lv_iconst (v := (-1)) hx hb d_Indexes_isPathOf_44 (by decide) ?_
        refine lv_icmp_ne (tgt := 52) hx hb d_Indexes_isPathOf_45 (by decide) (fun hc45 => ?_) (fun hc45 => ?_)
        · have hf := ob_f hc45 hf
          refine lv_iconst (v := 0) hx hb d_Indexes_isPathOf_52 (by decide) ?_
          exact hret 0 H locs _ ls hf hP hD hS narrow_b0 d_Indexes_isPathOf_53
        · have hf := ob_t hc45 hf
          refine lv_iconst (v := 1) hx hb d_Indexes_isPathOf_48 (by decide) ?_
          refine lv_goto (tgt := 53) hx hb d_Indexes_isPathOf_49 (by decide) ?_
          exact hret 1 H locs _ ls hf hP hD hS narrow_b1 d_Indexes_isPathOf_53
      · have hf := ob_f hc6 hf
        refine lv_aload_n hx hb d_Indexes_isPathOf_9 rfl (lv_at hl 2 rfl) ?_
        refine lv_iload_n hx hb d_Indexes_isPathOf_10 rfl (lv_at hl 3 rfl) ?_
        refine lv_iload hx hb d_Indexes_isPathOf_11 (lv_at hl 4 rfl) ?_
        obtain ⟨o13, ho13, hf⟩ := ob_b hf
        refine ob_calli (w2 := (cw_Indexes_isPathOf G a_p2 a_p2_chars a_t a_fields a_classes v_p2_length v_p2_chars v_count v_fields)) (va_runV (As := [.int p3, .int x3_4]) (rest := []) ⟨hx, hb, hml, hown, hts⟩ (c_Text_fieldOfPath l D G a_p2 a_p2_chars v_p2_length v_p2_chars p3 x3_4 o13 ho13 H.size) (cwV 2 hts (gV tw705 tw706 tw707 tw7 tw708) rfl rfl rfl (by decide +kernel) ⟨Nat.le_of_ble_eq_true rfl, Nat.le_of_ble_eq_true rfl⟩) (ob_preV (q0 := 0) (ci := 6) hZ hK hP hD [0, 1] rfl rfl rfl rfl rfl) rfl rfl hl.1 rfl (lv_room (Nat.le_of_ble_eq_true rfl)) d_Indexes_isPathOf_13 ⟨Nat.le_refl _, Nat.le_refl _⟩) hP hD hA hS [0, 1] rfl rfl rfl rfl (fun H locs hP hD hS => ?_)
        refine lv_aload_n hx hb d_Indexes_isPathOf_16 rfl (lv_at hl 0 rfl) ?_
        refine va_get (D := D) (ci := 2) (v := .ref a_fields) (C := "ObjectBase$Indexes") (T := TC_Indexes) (N := 3) hx hb hts inC_Indexes hown hK hP 2 rfl rfl 1 (by decide) (hts _ tw64) (fun _ h9 => h9) rfl d_Indexes_isPathOf_17 ?_
        refine lv_iload_n hx hb d_Indexes_isPathOf_20 rfl (lv_at hl 1 rfl) ?_
        refine lv_iconst (v := 3) hx hb d_Indexes_isPathOf_21 (by decide) ?_
        refine lv_imul hx hb d_Indexes_isPathOf_22 ?_
        refine lv_iload hx hb d_Indexes_isPathOf_23 (lv_at hl 4 rfl) ?_
        refine lv_iadd hx hb d_Indexes_isPathOf_25 ?_
        obtain ⟨hg26, hf⟩ := ob_iv_g hf
        refine va_iald hx hb hK hP 3 0 rfl rfl hg26 d_Indexes_isPathOf_26 ?_
        refine lv_icmp_eq (tgt := 32) hx hb d_Indexes_isPathOf_27 (by decide) (fun hc27 => ?_) (fun hc27 => ?_)
        · have hf := ob_t hc27 hf
          refine lv_iinc (k := 4) (v := x3_4 + 1) (lv' := [(4, .int (x3_4 + 1)), (0, .ref a_t), (1, .int p1), (2, .ref a_p2), (3, .int p3)]) hx hb d_Indexes_isPathOf_32 hl rfl (by rw [show Int32.ofInt 1 = (1 : Int32) from by decide]) (by decide) rfl (fun ls hl => ?_)
          refine lv_goto (tgt := 3) hx hb d_Indexes_isPathOf_35 (by decide) ?_
          exact ih3 (x3_4 + 1) ls H locs (lv_sub hl [1, 2, 3, 4, 0] rfl) hP hD hS hf
        · have hf := ob_f hc27 hf
          refine lv_iconst (v := 0) hx hb d_Indexes_isPathOf_30 (by decide) ?_
          exact hret 0 H locs _ ls hf hP hD hS narrow_b0 d_Indexes_isPathOf_31
  refine lv_iconst (v := 0) hx hb d_Indexes_isPathOf_0 (by decide) ?_
  refine lv_istore (lv' := [(4, .int 0), (0, .ref a_t), (1, .int p1), (2, .ref a_p2), (3, .int p3)]) hx hb d_Indexes_isPathOf_1 hl (by decide) rfl (fun ls hl => ?_)
  exact loop3 1000 0 ls H locs (lv_sub hl [1, 2, 3, 4, 0] rfl) hP hD hS hf
abbrev bc_Image_reachedIds : ByteArray := prog_5_method_6_code
abbrev y_Image_reachedIds : MethodName := ⟨"ObjectBase$Image", "reachedIds", "(LObjectBase$Schema;)J"⟩
def ws_Image_reachedIds : List Cond := .code y_Image_reachedIds bc_Image_reachedIds 10 (some .long) :: obW
theorem d_Image_reachedIds_0 : decode bc_Image_reachedIds 0 = .ok (.lconst 0, 1) := by decide +kernel
theorem d_Image_reachedIds_1 : decode bc_Image_reachedIds 1 = .ok (.lstore_n 2, 1) := by decide +kernel
theorem d_Image_reachedIds_2 : decode bc_Image_reachedIds 2 = .ok (.iconst 0, 1) := by decide +kernel
theorem d_Image_reachedIds_3 : decode bc_Image_reachedIds 3 = .ok (.istore 4, 2) := by decide +kernel
theorem d_Image_reachedIds_5 : decode bc_Image_reachedIds 5 = .ok (.iload 4, 2) := by decide +kernel
theorem d_Image_reachedIds_7 : decode bc_Image_reachedIds 7 = .ok (.iconst 4, 1) := by decide +kernel
theorem d_Image_reachedIds_8 : decode bc_Image_reachedIds 8 = .ok (.if_icmp .ge 22, 3) := by decide +kernel
theorem d_Image_reachedIds_11 : decode bc_Image_reachedIds 11 = .ok (.lload_n 2, 1) := by decide +kernel
theorem d_Image_reachedIds_12 : decode bc_Image_reachedIds 12 = .ok (.aload_n 0, 1) := by decide +kernel
theorem d_Image_reachedIds_13 : decode bc_Image_reachedIds 13 = .ok (.getfield 19, 3) := by decide +kernel
theorem d_Image_reachedIds_16 : decode bc_Image_reachedIds 16 = .ok (.iload 4, 2) := by decide +kernel
theorem d_Image_reachedIds_18 : decode bc_Image_reachedIds 18 = .ok (.iaload, 1) := by decide +kernel
theorem d_Image_reachedIds_19 : decode bc_Image_reachedIds 19 = .ok (.invokestatic 28, 3) := by decide +kernel
theorem d_Image_reachedIds_22 : decode bc_Image_reachedIds 22 = .ok (.lor, 1) := by decide +kernel
theorem d_Image_reachedIds_23 : decode bc_Image_reachedIds 23 = .ok (.lstore_n 2, 1) := by decide +kernel
theorem d_Image_reachedIds_24 : decode bc_Image_reachedIds 24 = .ok (.iinc 4 1, 3) := by decide +kernel
theorem d_Image_reachedIds_27 : decode bc_Image_reachedIds 27 = .ok (.goto (-22), 3) := by decide +kernel
theorem d_Image_reachedIds_30 : decode bc_Image_reachedIds 30 = .ok (.lconst 0, 1) := by decide +kernel
theorem d_Image_reachedIds_31 : decode bc_Image_reachedIds 31 = .ok (.lstore 4, 2) := by decide +kernel
theorem d_Image_reachedIds_33 : decode bc_Image_reachedIds 33 = .ok (.iconst 0, 1) := by decide +kernel
theorem d_Image_reachedIds_34 : decode bc_Image_reachedIds 34 = .ok (.istore 6, 2) := by decide +kernel
theorem d_Image_reachedIds_36 : decode bc_Image_reachedIds 36 = .ok (.iload 6, 2) := by decide +kernel
theorem d_Image_reachedIds_38 : decode bc_Image_reachedIds 38 = .ok (.bipush 62, 2) := by decide +kernel
theorem d_Image_reachedIds_40 : decode bc_Image_reachedIds 40 = .ok (.if_icmp .ge 65, 3) := by decide +kernel
theorem d_Image_reachedIds_43 : decode bc_Image_reachedIds 43 = .ok (.lload_n 2, 1) := by decide +kernel
theorem d_Image_reachedIds_44 : decode bc_Image_reachedIds 44 = .ok (.lload 4, 2) := by decide +kernel
theorem d_Image_reachedIds_46 : decode bc_Image_reachedIds 46 = .ok (.lcmp, 1) := by decide +kernel
theorem d_Image_reachedIds_47 : decode bc_Image_reachedIds 47 = .ok (.ifCond .eq 58, 3) := by decide +kernel
theorem d_Image_reachedIds_50 : decode bc_Image_reachedIds 50 = .ok (.lload_n 2, 1) := by decide +kernel
theorem d_Image_reachedIds_51 : decode bc_Image_reachedIds 51 = .ok (.lload 4, 2) := by decide +kernel
theorem d_Image_reachedIds_53 : decode bc_Image_reachedIds 53 = .ok (.ldc2_w 32, 3) := by decide +kernel
theorem d_Image_reachedIds_56 : decode bc_Image_reachedIds 56 = .ok (.lxor, 1) := by decide +kernel
theorem d_Image_reachedIds_57 : decode bc_Image_reachedIds 57 = .ok (.land, 1) := by decide +kernel
theorem d_Image_reachedIds_58 : decode bc_Image_reachedIds 58 = .ok (.lstore 7, 2) := by decide +kernel
theorem d_Image_reachedIds_60 : decode bc_Image_reachedIds 60 = .ok (.lload_n 2, 1) := by decide +kernel
theorem d_Image_reachedIds_61 : decode bc_Image_reachedIds 61 = .ok (.lstore 4, 2) := by decide +kernel
theorem d_Image_reachedIds_63 : decode bc_Image_reachedIds 63 = .ok (.iconst 1, 1) := by decide +kernel
theorem d_Image_reachedIds_64 : decode bc_Image_reachedIds 64 = .ok (.istore 9, 2) := by decide +kernel
theorem d_Image_reachedIds_66 : decode bc_Image_reachedIds 66 = .ok (.iload 9, 2) := by decide +kernel
theorem d_Image_reachedIds_68 : decode bc_Image_reachedIds 68 = .ok (.bipush 62, 2) := by decide +kernel
theorem d_Image_reachedIds_70 : decode bc_Image_reachedIds 70 = .ok (.if_icmp .gt 29, 3) := by decide +kernel
theorem d_Image_reachedIds_73 : decode bc_Image_reachedIds 73 = .ok (.lload 7, 2) := by decide +kernel
theorem d_Image_reachedIds_75 : decode bc_Image_reachedIds 75 = .ok (.iload 9, 2) := by decide +kernel
theorem d_Image_reachedIds_77 : decode bc_Image_reachedIds 77 = .ok (.invokestatic 34, 3) := by decide +kernel
theorem d_Image_reachedIds_80 : decode bc_Image_reachedIds 80 = .ok (.ifCond .eq 13, 3) := by decide +kernel
theorem d_Image_reachedIds_83 : decode bc_Image_reachedIds 83 = .ok (.lload_n 2, 1) := by decide +kernel
theorem d_Image_reachedIds_84 : decode bc_Image_reachedIds 84 = .ok (.aload_n 0, 1) := by decide +kernel
theorem d_Image_reachedIds_85 : decode bc_Image_reachedIds 85 = .ok (.iload 9, 2) := by decide +kernel
theorem d_Image_reachedIds_87 : decode bc_Image_reachedIds 87 = .ok (.aload_n 1, 1) := by decide +kernel
theorem d_Image_reachedIds_88 : decode bc_Image_reachedIds 88 = .ok (.invokevirtual 38, 3) := by decide +kernel
theorem d_Image_reachedIds_91 : decode bc_Image_reachedIds 91 = .ok (.lor, 1) := by decide +kernel
theorem d_Image_reachedIds_92 : decode bc_Image_reachedIds 92 = .ok (.lstore_n 2, 1) := by decide +kernel
theorem d_Image_reachedIds_93 : decode bc_Image_reachedIds 93 = .ok (.iinc 9 1, 3) := by decide +kernel
theorem d_Image_reachedIds_96 : decode bc_Image_reachedIds 96 = .ok (.goto (-30), 3) := by decide +kernel
theorem d_Image_reachedIds_99 : decode bc_Image_reachedIds 99 = .ok (.iinc 6 1, 3) := by decide +kernel
theorem d_Image_reachedIds_102 : decode bc_Image_reachedIds 102 = .ok (.goto (-66), 3) := by decide +kernel
theorem d_Image_reachedIds_105 : decode bc_Image_reachedIds 105 = .ok (.lload_n 2, 1) := by decide +kernel
theorem d_Image_reachedIds_106 : decode bc_Image_reachedIds 106 = .ok (.lreturn, 1) := by decide +kernel
def cw_Image_reachedIds (G : Nat → ClassId) (a_t a_p1 a_values a_p1_kinds a_names a_classes a_p1_above a_p1_owners a_p1_targets : Nat) (v_p1_classCount : Int32) (v_p1_fieldCount : Int32) (v_values : Nat → Int64) (v_p1_kinds : Nat → Int32) (v_names : Nat → Int32) : va_W := [(a_t, .inr (4, [.ref a_classes, .ref a_values, .ref a_names])), (a_p1, .inr (1, [.ref a_p1_above, .ref a_p1_owners, .ref a_p1_kinds, .ref a_p1_targets, .int v_p1_classCount, .int v_p1_fieldCount])), (a_values, .inl (G 1, 504, .inr (.inl v_values))), (a_p1_kinds, .inl (G 0, 8, .inl v_p1_kinds)), (a_names, .inl (G 0, 4, .inl v_names))]
def f_Image_reachedIds_B66 (k36 : Int64 → Int64 → Int32 → Option (Int64)) (v_p1_fieldCount : Int32) (v_values : Nat → Int64) (v_p1_kinds : Nat → Int32) (k66 : Int64 → Int64 → Int32 → Int64 → Int32 → Option (Int64)) (x66_2 : Int64) (x66_4 : Int64) (x66_6 : Int32) (x66_7 : Int64) (x66_9 : Int32) : Option (Int64) := if 62 < x66_9 then (k36 x66_2 x66_4 (x66_6 + 1)) else ((f_OB_contains x66_7 x66_9).bind fun o77 => (if o77 = 0 then (k66 x66_2 x66_4 x66_6 x66_7 (x66_9 + 1)) else ((f_Image_neighbours v_p1_fieldCount v_values v_p1_kinds x66_9).bind fun o88 => (k66 (x66_2 ||| o88) x66_4 x66_6 x66_7 (x66_9 + 1)))))
def f_Image_reachedIds_L66 (k36 : Int64 → Int64 → Int32 → Option (Int64)) (v_p1_fieldCount : Int32) (v_values : Nat → Int64) (v_p1_kinds : Nat → Int32) : Nat → Int64 → Int64 → Int32 → Int64 → Int32 → Option (Int64) := ob_lp5 (f_Image_reachedIds_B66 k36 v_p1_fieldCount v_values v_p1_kinds)
def f_Image_reachedIds_B36 (v_p1_fieldCount : Int32) (v_values : Nat → Int64) (v_p1_kinds : Nat → Int32) (k36 : Int64 → Int64 → Int32 → Option (Int64)) (x36_2 : Int64) (x36_4 : Int64) (x36_6 : Int32) : Option (Int64) := if 62 ≤ x36_6 then (some x36_2) else (if (lg_cmp x36_2 x36_4) = 0 then (some x36_2) else (f_Image_reachedIds_L66 k36 v_p1_fieldCount v_values v_p1_kinds 1000 x36_2 x36_2 x36_6 (x36_2 &&& (x36_4 ^^^ (-1))) 1))
def f_Image_reachedIds_L36 (v_p1_fieldCount : Int32) (v_values : Nat → Int64) (v_p1_kinds : Nat → Int32) : Nat → Int64 → Int64 → Int32 → Option (Int64) := ob_lp3 (f_Image_reachedIds_B36 v_p1_fieldCount v_values v_p1_kinds)
def f_Image_reachedIds_B5 (v_p1_fieldCount : Int32) (v_values : Nat → Int64) (v_p1_kinds : Nat → Int32) (v_names : Nat → Int32) (k5 : Int64 → Int32 → Option (Int64)) (x5_2 : Int64) (x5_4 : Int32) : Option (Int64) := if 4 ≤ x5_4 then (f_Image_reachedIds_L36 v_p1_fieldCount v_values v_p1_kinds 1000 x5_2 0 0) else (ob_iv x5_4 4 ((f_OB_setOf (v_names x5_4.toNatClampNeg)).bind fun o19 => (k5 (x5_2 ||| o19) (x5_4 + 1))))
def f_Image_reachedIds_L5 (v_p1_fieldCount : Int32) (v_values : Nat → Int64) (v_p1_kinds : Nat → Int32) (v_names : Nat → Int32) : Nat → Int64 → Int32 → Option (Int64) := ob_lp2 (f_Image_reachedIds_B5 v_p1_fieldCount v_values v_p1_kinds v_names)
def f_Image_reachedIds (v_p1_fieldCount : Int32) (v_values : Nat → Int64) (v_p1_kinds : Nat → Int32) (v_names : Nat → Int32) : Option (Int64) := f_Image_reachedIds_L5 v_p1_fieldCount v_values v_p1_kinds v_names 1000 0 0
set_option maxHeartbeats 4000000 in
set_option maxRecDepth 100000 in
theorem c_Image_reachedIds (l : Launch) (D : va_G) (G : Nat → ClassId) (a_t a_p1 a_values a_p1_kinds a_names a_classes a_p1_above a_p1_owners a_p1_targets : Nat) (v_p1_classCount : Int32) (v_p1_fieldCount : Int32) (v_values : Nat → Int64) (v_p1_kinds : Nat → Int32) (v_names : Nat → Int32) (o : Int64) (hf : f_Image_reachedIds v_p1_fieldCount v_values v_p1_kinds v_names = some o) (sz : Nat) : MetL l y_Image_reachedIds ws_Image_reachedIds ({ frames := 2, cells := 0, slots := 0, locals := 49 }) D (obT G) (cw_Image_reachedIds G a_t a_p1 a_values a_p1_kinds a_names a_classes a_p1_above a_p1_owners a_p1_targets v_p1_classCount v_p1_fieldCount v_values v_p1_kinds v_names) (cw_Image_reachedIds G a_t a_p1 a_values a_p1_kinds a_names a_classes a_p1_above a_p1_owners a_p1_targets v_p1_classCount v_p1_fieldCount v_values v_p1_kinds v_names) [.ref a_t, .ref a_p1] o sz := by
  refine ob_of (cc := bc_Image_reachedIds) (maxL := 10) (ret := (some .long)) (Qc := ObQl D (obT G) (cw_Image_reachedIds G a_t a_p1 a_values a_p1_kinds a_names a_classes a_p1_above a_p1_owners a_p1_targets v_p1_classCount v_p1_fieldCount v_values v_p1_kinds v_names) o) (by decide) rfl (Nat.le_of_ble_eq_true rfl) ?_
  intro p e s m below meth c A ls H locs hx hb hr hml hts hown hlk hnm hZ hP hK hD hA hS hl
  have hret : ∀ (o' : Int64) (H : Heap) (locs : List Loc) (pc : Nat) (ls : Array Slot), some o' = some o → va_P D vwCl (cw_Image_reachedIds G a_t a_p1 a_values a_p1_kinds a_names a_classes a_p1_above a_p1_owners a_p1_targets v_p1_classCount v_p1_fieldCount v_values v_p1_kinds v_names) H → va_D A (cw_Image_reachedIds G a_t a_p1 a_values a_p1_kinds a_names a_classes a_p1_above a_p1_owners a_p1_targets v_p1_classCount v_p1_fieldCount v_values v_p1_kinds v_names) → va_S A s.heap H locs → decode bc_Image_reachedIds pc = .ok (.lreturn, 1) → W p l e { frames := 2, cells := 0, slots := 0, locals := 49 } s m ([.ref a_t, .ref a_p1] : List Value).toArray below meth c H locs 0 0 (MQ below (ObQl D (obT G) (cw_Image_reachedIds G a_t a_p1 a_values a_p1_kinds a_names a_classes a_p1_above a_p1_owners a_p1_targets v_p1_classCount v_p1_fieldCount v_values v_p1_kinds v_names) o A) ([.ref a_t, .ref a_p1] : List Value).toArray s 0 0 A) (F0 m pc ls [.long o']) := by
    intro o' H locs pc ls he hP hD hS hd
    obtain rfl := Option.some.inj he
    exact ob_lret hx hb hr hlk hK hP hD hS hd
  generalize MQ below (ObQl D (obT G) (cw_Image_reachedIds G a_t a_p1 a_values a_p1_kinds a_names a_classes a_p1_above a_p1_owners a_p1_targets v_p1_classCount v_p1_fieldCount v_values v_p1_kinds v_names) o A) ([.ref a_t, .ref a_p1] : List Value).toArray s 0 0 A = Q at hret ⊢
  have hl : lv_has ls 10 [(0, .ref a_t), (1, .ref a_p1)] := hl
  unfold f_Image_reachedIds at hf
  have loop36 : ∀ (n36 : Nat) (x36_2 : Int64) (x36_4 : Int64) (x36_6 : Int32) (ls : Array Slot) (H : Heap) (locs : List Loc), lv_has ls 10 [(0, .ref a_t), (1, .ref a_p1), (2, .long x36_2), (4, .long x36_4), (6, .int x36_6)] → va_P D vwCl (cw_Image_reachedIds G a_t a_p1 a_values a_p1_kinds a_names a_classes a_p1_above a_p1_owners a_p1_targets v_p1_classCount v_p1_fieldCount v_values v_p1_kinds v_names) H → va_D A (cw_Image_reachedIds G a_t a_p1 a_values a_p1_kinds a_names a_classes a_p1_above a_p1_owners a_p1_targets v_p1_classCount v_p1_fieldCount v_values v_p1_kinds v_names) → va_S A s.heap H locs → f_Image_reachedIds_L36 v_p1_fieldCount v_values v_p1_kinds n36 x36_2 x36_4 x36_6 = some o → W p l e ({ frames := 2, cells := 0, slots := 0, locals := 49 }) s m ([.ref a_t, .ref a_p1] : List Value).toArray below meth c H locs 0 0 Q (F0 m 36 ls []) := by
    intro n36
    induction n36 with
    | zero => intro x36_2 x36_4 x36_6 ls H locs hl hP hD hS hf; exact ob_no hf
    | succ n36 ih36 =>
      intro x36_2 x36_4 x36_6 ls H locs hl hP hD hS hf
      have hf : f_Image_reachedIds_B36 v_p1_fieldCount v_values v_p1_kinds (f_Image_reachedIds_L36 v_p1_fieldCount v_values v_p1_kinds n36) x36_2 x36_4 x36_6 = some o := hf
      unfold f_Image_reachedIds_B36 at hf
      have loop66 : ∀ (n66 : Nat) (x66_2 : Int64) (x66_4 : Int64) (x66_6 : Int32) (x66_7 : Int64) (x66_9 : Int32) (ls : Array Slot) (H : Heap) (locs : List Loc), lv_has ls 10 [(0, .ref a_t), (1, .ref a_p1), (2, .long x66_2), (4, .long x66_4), (6, .int x66_6), (7, .long x66_7), (9, .int x66_9)] → va_P D vwCl (cw_Image_reachedIds G a_t a_p1 a_values a_p1_kinds a_names a_classes a_p1_above a_p1_owners a_p1_targets v_p1_classCount v_p1_fieldCount v_values v_p1_kinds v_names) H → va_D A (cw_Image_reachedIds G a_t a_p1 a_values a_p1_kinds a_names a_classes a_p1_above a_p1_owners a_p1_targets v_p1_classCount v_p1_fieldCount v_values v_p1_kinds v_names) → va_S A s.heap H locs → f_Image_reachedIds_L66 (f_Image_reachedIds_L36 v_p1_fieldCount v_values v_p1_kinds n36) v_p1_fieldCount v_values v_p1_kinds n66 x66_2 x66_4 x66_6 x66_7 x66_9 = some o → W p l e ({ frames := 2, cells := 0, slots := 0, locals := 49 }) s m ([.ref a_t, .ref a_p1] : List Value).toArray below meth c H locs 0 0 Q (F0 m 66 ls []) := by
        intro n66
        induction n66 with
        | zero => intro x66_2 x66_4 x66_6 x66_7 x66_9 ls H locs hl hP hD hS hf; exact ob_no hf
        | succ n66 ih66 =>
          intro x66_2 x66_4 x66_6 x66_7 x66_9 ls H locs hl hP hD hS hf
          have hf : f_Image_reachedIds_B66 (f_Image_reachedIds_L36 v_p1_fieldCount v_values v_p1_kinds n36) v_p1_fieldCount v_values v_p1_kinds (f_Image_reachedIds_L66 (f_Image_reachedIds_L36 v_p1_fieldCount v_values v_p1_kinds n36) v_p1_fieldCount v_values v_p1_kinds n66) x66_2 x66_4 x66_6 x66_7 x66_9 = some o := hf
          unfold f_Image_reachedIds_B66 at hf
          refine lv_iload hx hb d_Image_reachedIds_66 (lv_at hl 6 rfl) ?_
          refine lv_bipush (v := 62) hx hb d_Image_reachedIds_68 (by decide) ?_
          refine lv_icmp_gt (tgt := 99) hx hb d_Image_reachedIds_70 (by decide) (fun hc70 => ?_) (fun hc70 => ?_)
          · have hf := ob_t hc70 hf
            refine lv_iinc (k := 4) (v := x66_6 + 1) (lv' := [(6, .int (x66_6 + 1)), (0, .ref a_t), (1, .ref a_p1), (2, .long x66_2), (4, .long x66_4), (7, .long x66_7), (9, .int x66_9)]) hx hb d_Image_reachedIds_99 hl rfl (by rw [show Int32.ofInt 1 = (1 : Int32) from by decide]) (by decide) rfl (fun ls hl => ?_)
            refine lv_goto (tgt := 36) hx hb d_Image_reachedIds_102 (by decide) ?_
            exact ih36 x66_2 x66_4 (x66_6 + 1) ls H locs (lv_sub hl [1, 2, 3, 4, 0] rfl) hP hD hS hf
          · have hf := ob_f hc70 hf
            refine lv_lload hx hb d_Image_reachedIds_73 (lv_at hl 5 rfl) ?_
            refine lv_iload hx hb d_Image_reachedIds_75 (lv_at hl 6 rfl) ?_
            obtain ⟨o77, ho77, hf⟩ := ob_b hf
            refine ob_calli (w2 := (cw_Image_reachedIds G a_t a_p1 a_values a_p1_kinds a_names a_classes a_p1_above a_p1_owners a_p1_targets v_p1_classCount v_p1_fieldCount v_values v_p1_kinds v_names)) (va_runSN (As := [.long x66_7, .int x66_9]) (rest := []) ⟨hx, hb, hml, hown, hts⟩ (c_OB_contains l D G  x66_7 x66_9 o77 ho77 H.size) ⟨va_cnB 2 hts (gN tw326) rfl rfl rfl (hZ.2 _ _ _ _ tw324) (hts _ tw1) (by decide +kernel) ⟨Nat.le_of_ble_eq_true rfl, Nat.le_of_ble_eq_true rfl⟩, hts _ tw325, trivial⟩ (ob_preS hZ hK hP hD [] rfl rfl) rfl rfl hl.1 rfl (lv_room (Nat.le_of_ble_eq_true rfl)) d_Image_reachedIds_77 ⟨Nat.le_refl _, Nat.le_refl _⟩) hP hD hA hS [] rfl rfl rfl rfl (fun H locs hP hD hS => ?_)
            refine lv_if_eq (tgt := 93) hx hb d_Image_reachedIds_80 (by decide) (fun hc80 => ?_) (fun hc80 => ?_)
            · have hf := ob_t hc80 hf
              refine lv_iinc (k := 6) (v := x66_9 + 1) (lv' := [(9, .int (x66_9 + 1)), (0, .ref a_t), (1, .ref a_p1), (2, .long x66_2), (4, .long x66_4), (6, .int x66_6), (7, .long x66_7)]) hx hb d_Image_reachedIds_93 hl rfl (by rw [show Int32.ofInt 1 = (1 : Int32) from by decide]) (by decide) rfl (fun ls hl => ?_)
              refine lv_goto (tgt := 66) hx hb d_Image_reachedIds_96 (by decide) ?_
              exact ih66 x66_2 x66_4 x66_6 x66_7 (x66_9 + 1) ls H locs (lv_sub hl [1, 2, 3, 4, 5, 6, 0] rfl) hP hD hS hf
            · have hf := ob_f hc80 hf
              refine lv_lload_n hx hb d_Image_reachedIds_83 rfl (lv_at hl 2 rfl) ?_
              refine lv_aload_n hx hb d_Image_reachedIds_84 rfl (lv_at hl 0 rfl) ?_
              refine lv_iload hx hb d_Image_reachedIds_85 (lv_at hl 6 rfl) ?_
              refine lv_aload_n hx hb d_Image_reachedIds_87 rfl (lv_at hl 1 rfl) ?_
              obtain ⟨o88, ho88, hf⟩ := ob_b hf
              refine ob_calll (w2 := (cw_Image_reachedIds G a_t a_p1 a_values a_p1_kinds a_names a_classes a_p1_above a_p1_owners a_p1_targets v_p1_classCount v_p1_fieldCount v_values v_p1_kinds v_names)) (va_runV (As := [.int x66_9, .ref a_p1]) (rest := [.long x66_2]) ⟨hx, hb, hml, hown, hts⟩ (c_Image_neighbours l D G a_p1 a_t a_values a_p1_kinds a_p1_above a_p1_owners a_p1_targets a_classes a_names v_p1_classCount v_p1_fieldCount v_values v_p1_kinds x66_9 o88 ho88 H.size) (cwV 2 hts (gV tw327 tw329 tp0 tw5 tw330) rfl rfl rfl (by decide +kernel) ⟨Nat.le_of_ble_eq_true rfl, Nat.le_of_ble_eq_true rfl⟩) (ob_preV (q0 := 0) (ci := 4) hZ hK hP hD [1, 0, 2, 3] rfl rfl rfl rfl rfl) rfl rfl hl.1 rfl (lv_room (Nat.le_of_ble_eq_true rfl)) d_Image_reachedIds_88 ⟨Nat.le_refl _, Nat.le_refl _⟩) hP hD hA hS [1, 0, 2, 3] rfl rfl rfl rfl (fun H locs hP hD hS => ?_)
              refine lv_lor hx hb d_Image_reachedIds_91 ?_
              refine lv_lstore_n (lv' := [(2, .long (x66_2 ||| o88)), (0, .ref a_t), (1, .ref a_p1), (4, .long x66_4), (6, .int x66_6), (7, .long x66_7), (9, .int x66_9)]) hx hb d_Image_reachedIds_92 rfl hl (by decide) rfl (fun ls hl => ?_)
              refine lv_iinc (k := 6) (v := x66_9 + 1) (lv' := [(9, .int (x66_9 + 1)), (2, .long (x66_2 ||| o88)), (0, .ref a_t), (1, .ref a_p1), (4, .long x66_4), (6, .int x66_6), (7, .long x66_7)]) hx hb d_Image_reachedIds_93 hl rfl (by rw [show Int32.ofInt 1 = (1 : Int32) from by decide]) (by decide) rfl (fun ls hl => ?_)
              refine lv_goto (tgt := 66) hx hb d_Image_reachedIds_96 (by decide) ?_
              exact ih66 (x66_2 ||| o88) x66_4 x66_6 x66_7 (x66_9 + 1) ls H locs (lv_sub hl [2, 3, 1, 4, 5, 6, 0] rfl) hP hD hS hf
      refine lv_iload hx hb d_Image_reachedIds_36 (lv_at hl 4 rfl) ?_
      refine lv_bipush (v := 62) hx hb d_Image_reachedIds_38 (by decide) ?_
      refine lv_icmp_ge (tgt := 105) hx hb d_Image_reachedIds_40 (by decide) (fun hc40 => ?_) (fun hc40 => ?_)
      · have hf := ob_t hc40 hf
        refine lv_lload_n hx hb d_Image_reachedIds_105 rfl (lv_at hl 2 rfl) ?_
        exact hret x36_2 H locs _ ls hf hP hD hS d_Image_reachedIds_106
      · have hf := ob_f hc40 hf
        refine lv_lload_n hx hb d_Image_reachedIds_43 rfl (lv_at hl 2 rfl) ?_
        refine lv_lload hx hb d_Image_reachedIds_44 (lv_at hl 3 rfl) ?_
        refine W.lcmp hx hb d_Image_reachedIds_46 ?_
        refine lv_if_eq (tgt := 105) hx hb d_Image_reachedIds_47 (by decide) (fun hc47 => ?_) (fun hc47 => ?_)
        · have hf := ob_t hc47 hf
          refine lv_lload_n hx hb d_Image_reachedIds_105 rfl (lv_at hl 2 rfl) ?_
          exact hret x36_2 H locs _ ls hf hP hD hS d_Image_reachedIds_106
        · have hf := ob_f hc47 hf
          refine lv_lload_n hx hb d_Image_reachedIds_50 rfl (lv_at hl 2 rfl) ?_
          refine lv_lload hx hb d_Image_reachedIds_51 (lv_at hl 3 rfl) ?_
          refine lv_ldc2 (v := (-1)) hx hb hown (hts _ tw323) d_Image_reachedIds_53 ?_
          refine lv_lxor hx hb d_Image_reachedIds_56 ?_
          refine lv_land hx hb d_Image_reachedIds_57 ?_
          refine lv_lstore (lv' := [(7, .long (x36_2 &&& (x36_4 ^^^ (-1)))), (0, .ref a_t), (1, .ref a_p1), (2, .long x36_2), (4, .long x36_4), (6, .int x36_6)]) hx hb d_Image_reachedIds_58 hl (by decide) rfl (fun ls hl => ?_)
          refine lv_lload_n hx hb d_Image_reachedIds_60 rfl (lv_at hl 3 rfl) ?_
          refine lv_lstore (lv' := [(4, .long x36_2), (7, .long (x36_2 &&& (x36_4 ^^^ (-1)))), (0, .ref a_t), (1, .ref a_p1), (2, .long x36_2), (6, .int x36_6)]) hx hb d_Image_reachedIds_61 hl (by decide) rfl (fun ls hl => ?_)
          refine lv_iconst (v := 1) hx hb d_Image_reachedIds_63 (by decide) ?_
          refine lv_istore (lv' := [(9, .int 1), (4, .long x36_2), (7, .long (x36_2 &&& (x36_4 ^^^ (-1)))), (0, .ref a_t), (1, .ref a_p1), (2, .long x36_2), (6, .int x36_6)]) hx hb d_Image_reachedIds_64 hl (by decide) rfl (fun ls hl => ?_)
          exact loop66 1000 x36_2 x36_2 x36_6 (x36_2 &&& (x36_4 ^^^ (-1))) 1 ls H locs (lv_sub hl [3, 4, 5, 1, 6, 2, 0] rfl) hP hD hS hf
  have loop5 : ∀ (n5 : Nat) (x5_2 : Int64) (x5_4 : Int32) (ls : Array Slot) (H : Heap) (locs : List Loc), lv_has ls 10 [(0, .ref a_t), (1, .ref a_p1), (2, .long x5_2), (4, .int x5_4)] → va_P D vwCl (cw_Image_reachedIds G a_t a_p1 a_values a_p1_kinds a_names a_classes a_p1_above a_p1_owners a_p1_targets v_p1_classCount v_p1_fieldCount v_values v_p1_kinds v_names) H → va_D A (cw_Image_reachedIds G a_t a_p1 a_values a_p1_kinds a_names a_classes a_p1_above a_p1_owners a_p1_targets v_p1_classCount v_p1_fieldCount v_values v_p1_kinds v_names) → va_S A s.heap H locs → f_Image_reachedIds_L5 v_p1_fieldCount v_values v_p1_kinds v_names n5 x5_2 x5_4 = some o → W p l e ({ frames := 2, cells := 0, slots := 0, locals := 49 }) s m ([.ref a_t, .ref a_p1] : List Value).toArray below meth c H locs 0 0 Q (F0 m 5 ls []) := by
    intro n5
    induction n5 with
    | zero => intro x5_2 x5_4 ls H locs hl hP hD hS hf; exact ob_no hf
    | succ n5 ih5 =>
      intro x5_2 x5_4 ls H locs hl hP hD hS hf
      have hf : f_Image_reachedIds_B5 v_p1_fieldCount v_values v_p1_kinds v_names (f_Image_reachedIds_L5 v_p1_fieldCount v_values v_p1_kinds v_names n5) x5_2 x5_4 = some o := hf
      unfold f_Image_reachedIds_B5 at hf
      refine lv_iload hx hb d_Image_reachedIds_5 (lv_at hl 3 rfl) ?_
      refine lv_iconst (v := 4) hx hb d_Image_reachedIds_7 (by decide) ?_
      refine lv_icmp_ge (tgt := 30) hx hb d_Image_reachedIds_8 (by decide) (fun hc8 => ?_) (fun hc8 => ?_)
      · have hf := ob_t hc8 hf
        refine lv_lconst (v := 0) hx hb d_Image_reachedIds_30 (by decide) ?_
        refine lv_lstore (lv' := [(4, .long 0), (0, .ref a_t), (1, .ref a_p1), (2, .long x5_2)]) hx hb d_Image_reachedIds_31 hl (by decide) rfl (fun ls hl => ?_)
        refine lv_iconst (v := 0) hx hb d_Image_reachedIds_33 (by decide) ?_
        refine lv_istore (lv' := [(6, .int 0), (4, .long 0), (0, .ref a_t), (1, .ref a_p1), (2, .long x5_2)]) hx hb d_Image_reachedIds_34 hl (by decide) rfl (fun ls hl => ?_)
        exact loop36 1000 x5_2 0 0 ls H locs (lv_sub hl [2, 3, 4, 1, 0] rfl) hP hD hS hf
      · have hf := ob_f hc8 hf
        refine lv_lload_n hx hb d_Image_reachedIds_11 rfl (lv_at hl 2 rfl) ?_
        refine lv_aload_n hx hb d_Image_reachedIds_12 rfl (lv_at hl 0 rfl) ?_
        refine va_get (D := D) (ci := 4) (v := .ref a_names) (C := "ObjectBase$Image") (T := TC_Image) (N := 3) hx hb hts inC_Image hown hK hP 0 rfl rfl 2 (by decide) (hts _ tw112) (fun _ h9 => h9) rfl d_Image_reachedIds_13 ?_
        refine lv_iload hx hb d_Image_reachedIds_16 (lv_at hl 3 rfl) ?_
        obtain ⟨hg18, hf⟩ := ob_iv_g hf
        refine va_iald hx hb hK hP 4 0 rfl rfl hg18 d_Image_reachedIds_18 ?_
        obtain ⟨o19, ho19, hf⟩ := ob_b hf
        refine ob_calll (w2 := (cw_Image_reachedIds G a_t a_p1 a_values a_p1_kinds a_names a_classes a_p1_above a_p1_owners a_p1_targets v_p1_classCount v_p1_fieldCount v_values v_p1_kinds v_names)) (va_runSN (As := [.int (v_names x5_4.toNatClampNeg)]) (rest := [.long x5_2]) ⟨hx, hb, hml, hown, hts⟩ (c_OB_setOf l D G  (v_names x5_4.toNatClampNeg) o19 ho19 H.size) ⟨va_cnB 1 hts (gN tw322) rfl rfl rfl (hZ.2 _ _ _ _ tw320) (hts _ tw1) (by decide +kernel) ⟨Nat.le_of_ble_eq_true rfl, Nat.le_of_ble_eq_true rfl⟩, hts _ tw321, trivial⟩ (ob_preS hZ hK hP hD [] rfl rfl) rfl rfl hl.1 rfl (lv_room (Nat.le_of_ble_eq_true rfl)) d_Image_reachedIds_19 ⟨Nat.le_refl _, Nat.le_refl _⟩) hP hD hA hS [] rfl rfl rfl rfl (fun H locs hP hD hS => ?_)
        refine lv_lor hx hb d_Image_reachedIds_22 ?_
        refine lv_lstore_n (lv' := [(2, .long (x5_2 ||| o19)), (0, .ref a_t), (1, .ref a_p1), (4, .int x5_4)]) hx hb d_Image_reachedIds_23 rfl hl (by decide) rfl (fun ls hl => ?_)
        refine lv_iinc (k := 3) (v := x5_4 + 1) (lv' := [(4, .int (x5_4 + 1)), (2, .long (x5_2 ||| o19)), (0, .ref a_t), (1, .ref a_p1)]) hx hb d_Image_reachedIds_24 hl rfl (by rw [show Int32.ofInt 1 = (1 : Int32) from by decide]) (by decide) rfl (fun ls hl => ?_)
        refine lv_goto (tgt := 5) hx hb d_Image_reachedIds_27 (by decide) ?_
        exact ih5 (x5_2 ||| o19) (x5_4 + 1) ls H locs (lv_sub hl [2, 3, 1, 0] rfl) hP hD hS hf
  refine lv_lconst (v := 0) hx hb d_Image_reachedIds_0 (by decide) ?_
  refine lv_lstore_n (lv' := [(2, .long 0), (0, .ref a_t), (1, .ref a_p1)]) hx hb d_Image_reachedIds_1 rfl hl (by decide) rfl (fun ls hl => ?_)
  refine lv_iconst (v := 0) hx hb d_Image_reachedIds_2 (by decide) ?_
  refine lv_istore (lv' := [(4, .int 0), (2, .long 0), (0, .ref a_t), (1, .ref a_p1)]) hx hb d_Image_reachedIds_3 hl (by decide) rfl (fun ls hl => ?_)
  exact loop5 1000 0 0 ls H locs (lv_sub hl [2, 3, 1, 0] rfl) hP hD hS hf
abbrev bc_Text_append : ByteArray := prog_11_method_4_code
abbrev y_Text_append : MethodName := ⟨"ObjectBase$Text", "append", "(J)Z"⟩
def ws_Text_append : List Cond := .code y_Text_append bc_Text_append 6 (some .boolean) :: obW
theorem d_Text_append_0 : decode bc_Text_append 0 = .ok (.iconst 0, 1) := by decide +kernel
theorem d_Text_append_1 : decode bc_Text_append 1 = .ok (.istore_n 3, 1) := by decide +kernel
theorem d_Text_append_2 : decode bc_Text_append 2 = .ok (.iconst 0, 1) := by decide +kernel
theorem d_Text_append_3 : decode bc_Text_append 3 = .ok (.istore 4, 2) := by decide +kernel
theorem d_Text_append_5 : decode bc_Text_append 5 = .ok (.iload 4, 2) := by decide +kernel
theorem d_Text_append_7 : decode bc_Text_append 7 = .ok (.bipush 8, 2) := by decide +kernel
theorem d_Text_append_9 : decode bc_Text_append 9 = .ok (.if_icmp .ge 45, 3) := by decide +kernel
theorem d_Text_append_12 : decode bc_Text_append 12 = .ok (.lload_n 1, 1) := by decide +kernel
theorem d_Text_append_13 : decode bc_Text_append 13 = .ok (.iload 4, 2) := by decide +kernel
theorem d_Text_append_15 : decode bc_Text_append 15 = .ok (.invokestatic 25, 3) := by decide +kernel
theorem d_Text_append_18 : decode bc_Text_append 18 = .ok (.ifCond .eq 36, 3) := by decide +kernel
theorem d_Text_append_21 : decode bc_Text_append 21 = .ok (.lload_n 1, 1) := by decide +kernel
theorem d_Text_append_22 : decode bc_Text_append 22 = .ok (.iload 4, 2) := by decide +kernel
theorem d_Text_append_24 : decode bc_Text_append 24 = .ok (.invokestatic 25, 3) := by decide +kernel
theorem d_Text_append_27 : decode bc_Text_append 27 = .ok (.istore 5, 2) := by decide +kernel
theorem d_Text_append_29 : decode bc_Text_append 29 = .ok (.iload 5, 2) := by decide +kernel
theorem d_Text_append_31 : decode bc_Text_append 31 = .ok (.bipush 33, 2) := by decide +kernel
theorem d_Text_append_33 : decode bc_Text_append 33 = .ok (.if_icmp .lt 10, 3) := by decide +kernel
theorem d_Text_append_36 : decode bc_Text_append 36 = .ok (.iload 5, 2) := by decide +kernel
theorem d_Text_append_38 : decode bc_Text_append 38 = .ok (.bipush 126, 2) := by decide +kernel
theorem d_Text_append_40 : decode bc_Text_append 40 = .ok (.if_icmp .le 5, 3) := by decide +kernel
theorem d_Text_append_43 : decode bc_Text_append 43 = .ok (.iconst 0, 1) := by decide +kernel
theorem d_Text_append_44 : decode bc_Text_append 44 = .ok (.ireturn, 1) := by decide +kernel
theorem d_Text_append_45 : decode bc_Text_append 45 = .ok (.iinc 3 1, 3) := by decide +kernel
theorem d_Text_append_48 : decode bc_Text_append 48 = .ok (.iinc 4 1, 3) := by decide +kernel
theorem d_Text_append_51 : decode bc_Text_append 51 = .ok (.goto (-46), 3) := by decide +kernel
theorem d_Text_append_54 : decode bc_Text_append 54 = .ok (.iload_n 3, 1) := by decide +kernel
theorem d_Text_append_55 : decode bc_Text_append 55 = .ok (.ifCond .eq 14, 3) := by decide +kernel
theorem d_Text_append_58 : decode bc_Text_append 58 = .ok (.aload_n 0, 1) := by decide +kernel
theorem d_Text_append_59 : decode bc_Text_append 59 = .ok (.getfield 15, 3) := by decide +kernel
theorem d_Text_append_62 : decode bc_Text_append 62 = .ok (.iload_n 3, 1) := by decide +kernel
theorem d_Text_append_63 : decode bc_Text_append 63 = .ok (.iadd, 1) := by decide +kernel
theorem d_Text_append_64 : decode bc_Text_append 64 = .ok (.bipush 60, 2) := by decide +kernel
theorem d_Text_append_66 : decode bc_Text_append 66 = .ok (.if_icmp .le 5, 3) := by decide +kernel
theorem d_Text_append_69 : decode bc_Text_append 69 = .ok (.iconst 0, 1) := by decide +kernel
theorem d_Text_append_70 : decode bc_Text_append 70 = .ok (.ireturn, 1) := by decide +kernel
theorem d_Text_append_71 : decode bc_Text_append 71 = .ok (.iconst 0, 1) := by decide +kernel
theorem d_Text_append_72 : decode bc_Text_append 72 = .ok (.istore 4, 2) := by decide +kernel
theorem d_Text_append_74 : decode bc_Text_append 74 = .ok (.iload 4, 2) := by decide +kernel
theorem d_Text_append_76 : decode bc_Text_append 76 = .ok (.iload_n 3, 1) := by decide +kernel
theorem d_Text_append_77 : decode bc_Text_append 77 = .ok (.if_icmp .ge 28, 3) := by decide +kernel
theorem d_Text_append_80 : decode bc_Text_append 80 = .ok (.aload_n 0, 1) := by decide +kernel
theorem d_Text_append_81 : decode bc_Text_append 81 = .ok (.getfield 9, 3) := by decide +kernel
theorem d_Text_append_84 : decode bc_Text_append 84 = .ok (.aload_n 0, 1) := by decide +kernel
theorem d_Text_append_85 : decode bc_Text_append 85 = .ok (.getfield 15, 3) := by decide +kernel
theorem d_Text_append_88 : decode bc_Text_append 88 = .ok (.iload 4, 2) := by decide +kernel
theorem d_Text_append_90 : decode bc_Text_append 90 = .ok (.iadd, 1) := by decide +kernel
theorem d_Text_append_91 : decode bc_Text_append 91 = .ok (.lload_n 1, 1) := by decide +kernel
theorem d_Text_append_92 : decode bc_Text_append 92 = .ok (.iload 4, 2) := by decide +kernel
theorem d_Text_append_94 : decode bc_Text_append 94 = .ok (.invokestatic 25, 3) := by decide +kernel
theorem d_Text_append_97 : decode bc_Text_append 97 = .ok (.i2c, 1) := by decide +kernel
theorem d_Text_append_98 : decode bc_Text_append 98 = .ok (.castore, 1) := by decide +kernel
theorem d_Text_append_99 : decode bc_Text_append 99 = .ok (.iinc 4 1, 3) := by decide +kernel
theorem d_Text_append_102 : decode bc_Text_append 102 = .ok (.goto (-28), 3) := by decide +kernel
theorem d_Text_append_105 : decode bc_Text_append 105 = .ok (.aload_n 0, 1) := by decide +kernel
theorem d_Text_append_106 : decode bc_Text_append 106 = .ok (.dup, 1) := by decide +kernel
theorem d_Text_append_107 : decode bc_Text_append 107 = .ok (.getfield 15, 3) := by decide +kernel
theorem d_Text_append_110 : decode bc_Text_append 110 = .ok (.iload_n 3, 1) := by decide +kernel
theorem d_Text_append_111 : decode bc_Text_append 111 = .ok (.iadd, 1) := by decide +kernel
theorem d_Text_append_112 : decode bc_Text_append 112 = .ok (.putfield 15, 3) := by decide +kernel
theorem d_Text_append_115 : decode bc_Text_append 115 = .ok (.iconst 1, 1) := by decide +kernel
theorem d_Text_append_116 : decode bc_Text_append 116 = .ok (.ireturn, 1) := by decide +kernel
def cw_Text_append (G : Nat → ClassId) (a_t a_chars : Nat) (v_length : Int32) (v_chars : Nat → Int32) : va_W := [(a_t, .inr (6, [.ref a_chars, .int v_length])), (a_chars, .inl (G 2, 60, .inl v_chars))]
def f_Text_append_B74 (p1 : Int64) (k74 : Int32 → Int32 → Int32 → (Nat → Int32) → Option (Int32 × Int32 × (Nat → Int32))) (x74_3 : Int32) (x74_4 : Int32) (v_length_74 : Int32) (v_chars_74 : Nat → Int32) : Option (Int32 × Int32 × (Nat → Int32)) := if x74_3 ≤ x74_4 then (some (1, v_length_74 + x74_3, v_chars_74)) else ((f_Text_byteOf p1 x74_4).bind fun o94 => (ob_iv (v_length_74 + x74_4) 60 (k74 x74_3 (x74_4 + 1) v_length_74 (upd v_chars_74 (v_length_74 + x74_4).toNatClampNeg (vp_nar .char ((o94.toUInt32 % 65536).toInt32))))))
def f_Text_append_L74 (p1 : Int64) : Nat → Int32 → Int32 → Int32 → (Nat → Int32) → Option (Int32 × Int32 × (Nat → Int32)) := ob_lp4 (f_Text_append_B74 p1)
def f_Text_append_J54 (p1 : Int64) (x54_3 : Int32) (v_length_54 : Int32) (v_chars_54 : Nat → Int32) : Option (Int32 × Int32 × (Nat → Int32)) := if x54_3 = 0 then (some (0, v_length_54, v_chars_54)) else (if (v_length_54 + x54_3) ≤ 60 then (f_Text_append_L74 p1 1000 x54_3 0 v_length_54 v_chars_54) else (some (0, v_length_54, v_chars_54)))
def f_Text_append_B5 (p1 : Int64) (k5 : Int32 → Int32 → Int32 → (Nat → Int32) → Option (Int32 × Int32 × (Nat → Int32))) (x5_3 : Int32) (x5_4 : Int32) (v_length_5 : Int32) (v_chars_5 : Nat → Int32) : Option (Int32 × Int32 × (Nat → Int32)) := if 8 ≤ x5_4 then (f_Text_append_J54 p1 x5_3 v_length_5 v_chars_5) else ((f_Text_byteOf p1 x5_4).bind fun o15 => (if o15 = 0 then (f_Text_append_J54 p1 x5_3 v_length_5 v_chars_5) else ((f_Text_byteOf p1 x5_4).bind fun o24 => (if o24 < 33 then (some (0, v_length_5, v_chars_5)) else (if o24 ≤ 126 then (k5 (x5_3 + 1) (x5_4 + 1) v_length_5 v_chars_5) else (some (0, v_length_5, v_chars_5)))))))
def f_Text_append_L5 (p1 : Int64) : Nat → Int32 → Int32 → Int32 → (Nat → Int32) → Option (Int32 × Int32 × (Nat → Int32)) := ob_lp4 (f_Text_append_B5 p1)
def f_Text_append (v_length : Int32) (v_chars : Nat → Int32) (p1 : Int64) : Option (Int32 × Int32 × (Nat → Int32)) := f_Text_append_L5 p1 1000 0 0 v_length v_chars
set_option maxHeartbeats 4000000 in
set_option maxRecDepth 100000 in
theorem c_Text_append (l : Launch) (D : va_G) (G : Nat → ClassId) (a_t a_chars : Nat) (v_length : Int32) (v_chars : Nat → Int32) (p1 : Int64) (o : Int32 × Int32 × (Nat → Int32)) (hf : f_Text_append v_length v_chars p1 = some o) (sz : Nat) : MetI l y_Text_append ws_Text_append ({ frames := 1, cells := 0, slots := 0, locals := 22 }) D (obT G) (cw_Text_append G a_t a_chars v_length v_chars) (cw_Text_append G a_t a_chars o.2.1 o.2.2) [.ref a_t, .long p1] o.1 sz := by
  refine ob_of (cc := bc_Text_append) (maxL := 6) (ret := (some .boolean)) (Qc := ObQi D (obT G) (cw_Text_append G a_t a_chars o.2.1 o.2.2) o.1) (by decide) rfl (Nat.le_of_ble_eq_true rfl) ?_
  intro p e s m below meth c A ls H locs hx hb hr hml hts hown hlk hnm hZ hP hK hD hA hS hl
  have hret : ∀ (o' : Int32 × Int32 × (Nat → Int32)) (H : Heap) (locs : List Loc) (pc : Nat) (ls : Array Slot), some o' = some o → va_P D vwCl (cw_Text_append G a_t a_chars o'.2.1 o'.2.2) H → va_D A (cw_Text_append G a_t a_chars o'.2.1 o'.2.2) → va_S A s.heap H locs → narrow .boolean (.int o'.1) = .int o'.1 → decode bc_Text_append pc = .ok (.ireturn, 1) → W p l e { frames := 1, cells := 0, slots := 0, locals := 22 } s m ([.ref a_t, .long p1] : List Value).toArray below meth c H locs 0 0 (MQ below (ObQi D (obT G) (cw_Text_append G a_t a_chars o.2.1 o.2.2) o.1 A) ([.ref a_t, .long p1] : List Value).toArray s 0 0 A) (F0 m pc ls [.int o'.1]) := by
    intro o' H locs pc ls he hP hD hS hn hd
    obtain rfl := Option.some.inj he
    exact ob_iret hx hb hr hlk hK hP hD hS hn hd
  generalize MQ below (ObQi D (obT G) (cw_Text_append G a_t a_chars o.2.1 o.2.2) o.1 A) ([.ref a_t, .long p1] : List Value).toArray s 0 0 A = Q at hret ⊢
  have hl : lv_has ls 6 [(0, .ref a_t), (1, .long p1)] := hl
  unfold f_Text_append at hf
  have loop74 : ∀ (n74 : Nat) (x74_3 : Int32) (x74_4 : Int32) (v_length_74 : Int32) (v_chars_74 : Nat → Int32) (ls : Array Slot) (H : Heap) (locs : List Loc), lv_has ls 6 [(0, .ref a_t), (1, .long p1), (3, .int x74_3), (4, .int x74_4)] → va_P D vwCl (cw_Text_append G a_t a_chars v_length_74 v_chars_74) H → va_D A (cw_Text_append G a_t a_chars v_length_74 v_chars_74) → va_S A s.heap H locs → f_Text_append_L74 p1 n74 x74_3 x74_4 v_length_74 v_chars_74 = some o → W p l e ({ frames := 1, cells := 0, slots := 0, locals := 22 }) s m ([.ref a_t, .long p1] : List Value).toArray below meth c H locs 0 0 Q (F0 m 74 ls []) := by
    intro n74
    induction n74 with
    | zero => intro x74_3 x74_4 v_length_74 v_chars_74 ls H locs hl hP hD hS hf; exact ob_no hf
    | succ n74 ih74 =>
      intro x74_3 x74_4 v_length_74 v_chars_74 ls H locs hl hP hD hS hf
      have hf : f_Text_append_B74 p1 (f_Text_append_L74 p1 n74) x74_3 x74_4 v_length_74 v_chars_74 = some o := hf
      unfold f_Text_append_B74 at hf
      refine lv_iload hx hb d_Text_append_74 (lv_at hl 3 rfl) ?_
      refine lv_iload_n hx hb d_Text_append_76 rfl (lv_at hl 2 rfl) ?_
      refine lv_icmp_ge (tgt := 105) hx hb d_Text_append_77 (by decide) (fun hc77 => ?_) (fun hc77 => ?_)
      · have hf := ob_t hc77 hf
        refine lv_aload_n hx hb d_Text_append_105 rfl (lv_at hl 0 rfl) ?_
        refine lv_dup hx hb d_Text_append_106 rfl ?_
        refine va_get (D := D) (ci := 6) (v := .int v_length_74) (C := "ObjectBase$Text") (T := TC_Text) (N := 2) hx hb hts inC_Text hown hK hP 0 rfl rfl 1 (by decide) (hts _ tw158) (fun _ h9 => h9) rfl d_Text_append_107 ?_
        refine lv_iload_n hx hb d_Text_append_110 rfl (lv_at hl 2 rfl) ?_
        refine lv_iadd hx hb d_Text_append_111 ?_
        refine va_put (D := D) (ci := 6) (v := .int (v_length_74 + x74_3)) (ty := .int) (C := "ObjectBase$Text") (T := TC_Text) (N := 2) hx hb hts inC_Text tyC_Text tyC_Text_ok nmC_Text hown hK hP hD hS 0 rfl rfl 1 (by decide) (hts _ tw158) (fun _ h9 => h9) rfl (by decide +kernel) rfl rfl (Nat.le_of_ble_eq_true rfl) d_Text_append_112 (fun H locs hP hD hS => ?_)
        have hP : va_P D vwCl (cw_Text_append G a_t a_chars (v_length_74 + x74_3) v_chars_74) H := hP
        have hD : va_D A (cw_Text_append G a_t a_chars (v_length_74 + x74_3) v_chars_74) := hD
        refine lv_iconst (v := 1) hx hb d_Text_append_115 (by decide) ?_
        exact hret (1, v_length_74 + x74_3, v_chars_74) H locs _ ls hf hP hD hS narrow_b1 d_Text_append_116
      · have hf := ob_f hc77 hf
        refine lv_aload_n hx hb d_Text_append_80 rfl (lv_at hl 0 rfl) ?_
        refine va_get (D := D) (ci := 6) (v := .ref a_chars) (C := "ObjectBase$Text") (T := TC_Text) (N := 2) hx hb hts inC_Text hown hK hP 0 rfl rfl 0 (by decide) (hts _ tw156) (fun _ h9 => h9) rfl d_Text_append_81 ?_
        refine lv_aload_n hx hb d_Text_append_84 rfl (lv_at hl 0 rfl) ?_
        refine va_get (D := D) (ci := 6) (v := .int v_length_74) (C := "ObjectBase$Text") (T := TC_Text) (N := 2) hx hb hts inC_Text hown hK hP 0 rfl rfl 1 (by decide) (hts _ tw158) (fun _ h9 => h9) rfl d_Text_append_85 ?_
        refine lv_iload hx hb d_Text_append_88 (lv_at hl 3 rfl) ?_
        refine lv_iadd hx hb d_Text_append_90 ?_
        refine lv_lload_n hx hb d_Text_append_91 rfl (lv_at hl 1 rfl) ?_
        refine lv_iload hx hb d_Text_append_92 (lv_at hl 3 rfl) ?_
        obtain ⟨o94, ho94, hf⟩ := ob_b hf
        refine ob_calli (w2 := (cw_Text_append G a_t a_chars v_length_74 v_chars_74)) (va_runS (As := [.long p1, .int x74_4]) (rest := [.int (v_length_74 + x74_4), .ref a_chars]) ⟨hx, hb, hml, hown, hts⟩ (c_Text_byteOf l D G  p1 x74_4 o94 ho94 H.size) (va_cwS 2 hts (gS tw514 tw515 tw7 tw516) rfl rfl rfl (by decide +kernel) ⟨Nat.le_of_ble_eq_true rfl, Nat.le_of_ble_eq_true rfl⟩) (ob_preS hZ hK hP hD [] rfl rfl) rfl rfl hl.1 rfl (lv_room (Nat.le_of_ble_eq_true rfl)) d_Text_append_94 ⟨Nat.le_refl _, Nat.le_refl _⟩) hP hD hA hS [] rfl rfl rfl rfl (fun H locs hP hD hS => ?_)
        refine lv_i2c hx hb d_Text_append_97 rfl ?_
        obtain ⟨hg98, hf⟩ := ob_iv_g hf
        refine va_cast hx hb hK hP hD hS 1 2 rfl rfl hg98 d_Text_append_98 (fun H locs hP hD hS => ?_)
        have hP : va_P D vwCl (cw_Text_append G a_t a_chars v_length_74 (upd v_chars_74 (v_length_74 + x74_4).toNatClampNeg (vp_nar .char ((o94.toUInt32 % 65536).toInt32)))) H := hP
        have hD : va_D A (cw_Text_append G a_t a_chars v_length_74 (upd v_chars_74 (v_length_74 + x74_4).toNatClampNeg (vp_nar .char ((o94.toUInt32 % 65536).toInt32)))) := hD
        refine lv_iinc (k := 3) (v := x74_4 + 1) (lv' := [(4, .int (x74_4 + 1)), (0, .ref a_t), (1, .long p1), (3, .int x74_3)]) hx hb d_Text_append_99 hl rfl (by rw [show Int32.ofInt 1 = (1 : Int32) from by decide]) (by decide) rfl (fun ls hl => ?_)
        refine lv_goto (tgt := 74) hx hb d_Text_append_102 (by decide) ?_
        exact ih74 x74_3 (x74_4 + 1) v_length_74 (upd v_chars_74 (v_length_74 + x74_4).toNatClampNeg (vp_nar .char ((o94.toUInt32 % 65536).toInt32))) ls H locs (lv_sub hl [1, 2, 3, 0] rfl) hP hD hS hf
  have blk54 : ∀ (x54_3 : Int32) (v_length_54 : Int32) (v_chars_54 : Nat → Int32) (ls : Array Slot) (H : Heap) (locs : List Loc), lv_has ls 6 [(0, .ref a_t), (1, .long p1), (3, .int x54_3)] → va_P D vwCl (cw_Text_append G a_t a_chars v_length_54 v_chars_54) H → va_D A (cw_Text_append G a_t a_chars v_length_54 v_chars_54) → va_S A s.heap H locs → f_Text_append_J54 p1 x54_3 v_length_54 v_chars_54 = some o → W p l e ({ frames := 1, cells := 0, slots := 0, locals := 22 }) s m ([.ref a_t, .long p1] : List Value).toArray below meth c H locs 0 0 Q (F0 m 54 ls []) := by
    intro x54_3 v_length_54 v_chars_54 ls H locs hl hP hD hS hf
    unfold f_Text_append_J54 at hf
    refine lv_iload_n hx hb d_Text_append_54 rfl (lv_at hl 2 rfl) ?_
    refine lv_if_eq (tgt := 69) hx hb d_Text_append_55 (by decide) (fun hc55 => ?_) (fun hc55 => ?_)
    · have hf := ob_t hc55 hf
      refine lv_iconst (v := 0) hx hb d_Text_append_69 (by decide) ?_
      exact hret (0, v_length_54, v_chars_54) H locs _ ls hf hP hD hS narrow_b0 d_Text_append_70
    · have hf := ob_f hc55 hf
      refine lv_aload_n hx hb d_Text_append_58 rfl (lv_at hl 0 rfl) ?_
      refine va_get (D := D) (ci := 6) (v := .int v_length_54) (C := "ObjectBase$Text") (T := TC_Text) (N := 2) hx hb hts inC_Text hown hK hP 0 rfl rfl 1 (by decide) (hts _ tw158) (fun _ h9 => h9) rfl d_Text_append_59 ?_
      refine lv_iload_n hx hb d_Text_append_62 rfl (lv_at hl 2 rfl) ?_
      refine lv_iadd hx hb d_Text_append_63 ?_
      refine lv_bipush (v := 60) hx hb d_Text_append_64 (by decide) ?_
      refine lv_icmp_le (tgt := 71) hx hb d_Text_append_66 (by decide) (fun hc66 => ?_) (fun hc66 => ?_)
      · have hf := ob_t hc66 hf
        refine lv_iconst (v := 0) hx hb d_Text_append_71 (by decide) ?_
        refine lv_istore (lv' := [(4, .int 0), (0, .ref a_t), (1, .long p1), (3, .int x54_3)]) hx hb d_Text_append_72 hl (by decide) rfl (fun ls hl => ?_)
        exact loop74 1000 x54_3 0 v_length_54 v_chars_54 ls H locs (lv_sub hl [1, 2, 3, 0] rfl) hP hD hS hf
      · have hf := ob_f hc66 hf
        refine lv_iconst (v := 0) hx hb d_Text_append_69 (by decide) ?_
        exact hret (0, v_length_54, v_chars_54) H locs _ ls hf hP hD hS narrow_b0 d_Text_append_70
  have loop5 : ∀ (n5 : Nat) (x5_3 : Int32) (x5_4 : Int32) (v_length_5 : Int32) (v_chars_5 : Nat → Int32) (ls : Array Slot) (H : Heap) (locs : List Loc), lv_has ls 6 [(0, .ref a_t), (1, .long p1), (3, .int x5_3), (4, .int x5_4)] → va_P D vwCl (cw_Text_append G a_t a_chars v_length_5 v_chars_5) H → va_D A (cw_Text_append G a_t a_chars v_length_5 v_chars_5) → va_S A s.heap H locs → f_Text_append_L5 p1 n5 x5_3 x5_4 v_length_5 v_chars_5 = some o → W p l e ({ frames := 1, cells := 0, slots := 0, locals := 22 }) s m ([.ref a_t, .long p1] : List Value).toArray below meth c H locs 0 0 Q (F0 m 5 ls []) := by
    intro n5
    induction n5 with
    | zero => intro x5_3 x5_4 v_length_5 v_chars_5 ls H locs hl hP hD hS hf; exact ob_no hf
    | succ n5 ih5 =>
      intro x5_3 x5_4 v_length_5 v_chars_5 ls H locs hl hP hD hS hf
      have hf : f_Text_append_B5 p1 (f_Text_append_L5 p1 n5) x5_3 x5_4 v_length_5 v_chars_5 = some o := hf
      unfold f_Text_append_B5 at hf
      refine lv_iload hx hb d_Text_append_5 (lv_at hl 3 rfl) ?_
      refine lv_bipush (v := 8) hx hb d_Text_append_7 (by decide) ?_
      refine lv_icmp_ge (tgt := 54) hx hb d_Text_append_9 (by decide) (fun hc9 => ?_) (fun hc9 => ?_)
      · have hf := ob_t hc9 hf
        exact blk54 x5_3 v_length_5 v_chars_5 ls H locs (lv_sub hl [0, 1, 2] rfl) hP hD hS hf
      · have hf := ob_f hc9 hf
        refine lv_lload_n hx hb d_Text_append_12 rfl (lv_at hl 1 rfl) ?_
        refine lv_iload hx hb d_Text_append_13 (lv_at hl 3 rfl) ?_
        obtain ⟨o15, ho15, hf⟩ := ob_b hf
        refine ob_calli (w2 := (cw_Text_append G a_t a_chars v_length_5 v_chars_5)) (va_runS (As := [.long p1, .int x5_4]) (rest := []) ⟨hx, hb, hml, hown, hts⟩ (c_Text_byteOf l D G  p1 x5_4 o15 ho15 H.size) (va_cwS 2 hts (gS tw514 tw515 tw7 tw516) rfl rfl rfl (by decide +kernel) ⟨Nat.le_of_ble_eq_true rfl, Nat.le_of_ble_eq_true rfl⟩) (ob_preS hZ hK hP hD [] rfl rfl) rfl rfl hl.1 rfl (lv_room (Nat.le_of_ble_eq_true rfl)) d_Text_append_15 ⟨Nat.le_refl _, Nat.le_refl _⟩) hP hD hA hS [] rfl rfl rfl rfl (fun H locs hP hD hS => ?_)
        refine lv_if_eq (tgt := 54) hx hb d_Text_append_18 (by decide) (fun hc18 => ?_) (fun hc18 => ?_)
        · have hf := ob_t hc18 hf
          exact blk54 x5_3 v_length_5 v_chars_5 ls H locs (lv_sub hl [0, 1, 2] rfl) hP hD hS hf
        · have hf := ob_f hc18 hf
          refine lv_lload_n hx hb d_Text_append_21 rfl (lv_at hl 1 rfl) ?_
          refine lv_iload hx hb d_Text_append_22 (lv_at hl 3 rfl) ?_
          obtain ⟨o24, ho24, hf⟩ := ob_b hf
          refine ob_calli (w2 := (cw_Text_append G a_t a_chars v_length_5 v_chars_5)) (va_runS (As := [.long p1, .int x5_4]) (rest := []) ⟨hx, hb, hml, hown, hts⟩ (c_Text_byteOf l D G  p1 x5_4 o24 ho24 H.size) (va_cwS 2 hts (gS tw514 tw515 tw7 tw516) rfl rfl rfl (by decide +kernel) ⟨Nat.le_of_ble_eq_true rfl, Nat.le_of_ble_eq_true rfl⟩) (ob_preS hZ hK hP hD [] rfl rfl) rfl rfl hl.1 rfl (lv_room (Nat.le_of_ble_eq_true rfl)) d_Text_append_24 ⟨Nat.le_refl _, Nat.le_refl _⟩) hP hD hA hS [] rfl rfl rfl rfl (fun H locs hP hD hS => ?_)
          refine lv_istore (lv' := [(5, .int o24), (0, .ref a_t), (1, .long p1), (3, .int x5_3), (4, .int x5_4)]) hx hb d_Text_append_27 hl (by decide) rfl (fun ls hl => ?_)
          refine lv_iload hx hb d_Text_append_29 (lv_at hl 0 rfl) ?_
          refine lv_bipush (v := 33) hx hb d_Text_append_31 (by decide) ?_
          refine lv_icmp_lt (tgt := 43) hx hb d_Text_append_33 (by decide) (fun hc33 => ?_) (fun hc33 => ?_)
          · have hf := ob_t hc33 hf
            refine lv_iconst (v := 0) hx hb d_Text_append_43 (by decide) ?_
            exact hret (0, v_length_5, v_chars_5) H locs _ ls hf hP hD hS narrow_b0 d_Text_append_44
          · have hf := ob_f hc33 hf
            refine lv_iload hx hb d_Text_append_36 (lv_at hl 0 rfl) ?_
            refine lv_bipush (v := 126) hx hb d_Text_append_38 (by decide) ?_
            refine lv_icmp_le (tgt := 45) hx hb d_Text_append_40 (by decide) (fun hc40 => ?_) (fun hc40 => ?_)
            · have hf := ob_t hc40 hf
              refine lv_iinc (k := 3) (v := x5_3 + 1) (lv' := [(3, .int (x5_3 + 1)), (5, .int o24), (0, .ref a_t), (1, .long p1), (4, .int x5_4)]) hx hb d_Text_append_45 hl rfl (by rw [show Int32.ofInt 1 = (1 : Int32) from by decide]) (by decide) rfl (fun ls hl => ?_)
              refine lv_iinc (k := 4) (v := x5_4 + 1) (lv' := [(4, .int (x5_4 + 1)), (3, .int (x5_3 + 1)), (5, .int o24), (0, .ref a_t), (1, .long p1)]) hx hb d_Text_append_48 hl rfl (by rw [show Int32.ofInt 1 = (1 : Int32) from by decide]) (by decide) rfl (fun ls hl => ?_)
              refine lv_goto (tgt := 5) hx hb d_Text_append_51 (by decide) ?_
              exact ih5 (x5_3 + 1) (x5_4 + 1) v_length_5 v_chars_5 ls H locs (lv_sub hl [3, 4, 1, 0] rfl) hP hD hS hf
            · have hf := ob_f hc40 hf
              refine lv_iconst (v := 0) hx hb d_Text_append_43 (by decide) ?_
              exact hret (0, v_length_5, v_chars_5) H locs _ ls hf hP hD hS narrow_b0 d_Text_append_44
  refine lv_iconst (v := 0) hx hb d_Text_append_0 (by decide) ?_
  refine lv_istore_n (lv' := [(3, .int 0), (0, .ref a_t), (1, .long p1)]) hx hb d_Text_append_1 rfl hl (by decide) rfl (fun ls hl => ?_)
  refine lv_iconst (v := 0) hx hb d_Text_append_2 (by decide) ?_
  refine lv_istore (lv' := [(4, .int 0), (3, .int 0), (0, .ref a_t), (1, .long p1)]) hx hb d_Text_append_3 hl (by decide) rfl (fun ls hl => ?_)
  exact loop5 1000 0 0 v_length v_chars ls H locs (lv_sub hl [2, 3, 1, 0] rfl) hP hD hS hf
