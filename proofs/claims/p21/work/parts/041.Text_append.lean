abbrev bc_Text_append : ByteArray := prog_11_method_4_code
abbrev y_Text_append : MethodName := ⟨"ObjectBase$Text", "append", "(J)Z"⟩
def ws_Text_append : List Cond := .code y_Text_append bc_Text_append 6 (some .boolean) :: obW
theorem d_Text_append_0 : decode bc_Text_append 0 = .ok (.iconst 0, 1) := by decide +kernel
theorem d_Text_append_1 : decode bc_Text_append 1 = .ok (.istore_n 3, 1) := by decide +kernel
theorem d_Text_append_2 : decode bc_Text_append 2 = .ok (.iconst 0, 1) := by decide +kernel
theorem d_Text_append_3 : decode bc_Text_append 3 = .ok (.istore 4, 2) := by decide +kernel
theorem d_Text_append_5 : decode bc_Text_append 5 = .ok (.iload 4, 2) := by decide +kernel
theorem d_Text_append_7 : decode bc_Text_append 7 = .ok (.bipush 8, 2) := by decide +kernel
theorem d_Text_append_9 : decode bc_Text_append 9 = .ok (.if_icmp .ge 45, 3) := by decide +kernel
theorem d_Text_append_12 : decode bc_Text_append 12 = .ok (.lload_n 1, 1) := by decide +kernel
theorem d_Text_append_13 : decode bc_Text_append 13 = .ok (.iload 4, 2) := by decide +kernel
theorem d_Text_append_15 : decode bc_Text_append 15 = .ok (.invokestatic 25, 3) := by decide +kernel
theorem d_Text_append_18 : decode bc_Text_append 18 = .ok (.ifCond .eq 36, 3) := by decide +kernel
theorem d_Text_append_21 : decode bc_Text_append 21 = .ok (.lload_n 1, 1) := by decide +kernel
theorem d_Text_append_22 : decode bc_Text_append 22 = .ok (.iload 4, 2) := by decide +kernel
theorem d_Text_append_24 : decode bc_Text_append 24 = .ok (.invokestatic 25, 3) := by decide +kernel
theorem d_Text_append_27 : decode bc_Text_append 27 = .ok (.istore 5, 2) := by decide +kernel
theorem d_Text_append_29 : decode bc_Text_append 29 = .ok (.iload 5, 2) := by decide +kernel
theorem d_Text_append_31 : decode bc_Text_append 31 = .ok (.bipush 33, 2) := by decide +kernel
theorem d_Text_append_33 : decode bc_Text_append 33 = .ok (.if_icmp .lt 10, 3) := by decide +kernel
theorem d_Text_append_36 : decode bc_Text_append 36 = .ok (.iload 5, 2) := by decide +kernel
theorem d_Text_append_38 : decode bc_Text_append 38 = .ok (.bipush 126, 2) := by decide +kernel
theorem d_Text_append_40 : decode bc_Text_append 40 = .ok (.if_icmp .le 5, 3) := by decide +kernel
theorem d_Text_append_43 : decode bc_Text_append 43 = .ok (.iconst 0, 1) := by decide +kernel
theorem d_Text_append_44 : decode bc_Text_append 44 = .ok (.ireturn, 1) := by decide +kernel
theorem d_Text_append_45 : decode bc_Text_append 45 = .ok (.iinc 3 1, 3) := by decide +kernel
theorem d_Text_append_48 : decode bc_Text_append 48 = .ok (.iinc 4 1, 3) := by decide +kernel
theorem d_Text_append_51 : decode bc_Text_append 51 = .ok (.goto (-46), 3) := by decide +kernel
theorem d_Text_append_54 : decode bc_Text_append 54 = .ok (.iload_n 3, 1) := by decide +kernel
theorem d_Text_append_55 : decode bc_Text_append 55 = .ok (.ifCond .eq 14, 3) := by decide +kernel
theorem d_Text_append_58 : decode bc_Text_append 58 = .ok (.aload_n 0, 1) := by decide +kernel
theorem d_Text_append_59 : decode bc_Text_append 59 = .ok (.getfield 15, 3) := by decide +kernel
theorem d_Text_append_62 : decode bc_Text_append 62 = .ok (.iload_n 3, 1) := by decide +kernel
theorem d_Text_append_63 : decode bc_Text_append 63 = .ok (.iadd, 1) := by decide +kernel
theorem d_Text_append_64 : decode bc_Text_append 64 = .ok (.bipush 60, 2) := by decide +kernel
theorem d_Text_append_66 : decode bc_Text_append 66 = .ok (.if_icmp .le 5, 3) := by decide +kernel
theorem d_Text_append_69 : decode bc_Text_append 69 = .ok (.iconst 0, 1) := by decide +kernel
theorem d_Text_append_70 : decode bc_Text_append 70 = .ok (.ireturn, 1) := by decide +kernel
theorem d_Text_append_71 : decode bc_Text_append 71 = .ok (.iconst 0, 1) := by decide +kernel
theorem d_Text_append_72 : decode bc_Text_append 72 = .ok (.istore 4, 2) := by decide +kernel
theorem d_Text_append_74 : decode bc_Text_append 74 = .ok (.iload 4, 2) := by decide +kernel
theorem d_Text_append_76 : decode bc_Text_append 76 = .ok (.iload_n 3, 1) := by decide +kernel
theorem d_Text_append_77 : decode bc_Text_append 77 = .ok (.if_icmp .ge 28, 3) := by decide +kernel
theorem d_Text_append_80 : decode bc_Text_append 80 = .ok (.aload_n 0, 1) := by decide +kernel
theorem d_Text_append_81 : decode bc_Text_append 81 = .ok (.getfield 9, 3) := by decide +kernel
theorem d_Text_append_84 : decode bc_Text_append 84 = .ok (.aload_n 0, 1) := by decide +kernel
theorem d_Text_append_85 : decode bc_Text_append 85 = .ok (.getfield 15, 3) := by decide +kernel
theorem d_Text_append_88 : decode bc_Text_append 88 = .ok (.iload 4, 2) := by decide +kernel
theorem d_Text_append_90 : decode bc_Text_append 90 = .ok (.iadd, 1) := by decide +kernel
theorem d_Text_append_91 : decode bc_Text_append 91 = .ok (.lload_n 1, 1) := by decide +kernel
theorem d_Text_append_92 : decode bc_Text_append 92 = .ok (.iload 4, 2) := by decide +kernel
theorem d_Text_append_94 : decode bc_Text_append 94 = .ok (.invokestatic 25, 3) := by decide +kernel
theorem d_Text_append_97 : decode bc_Text_append 97 = .ok (.i2c, 1) := by decide +kernel
theorem d_Text_append_98 : decode bc_Text_append 98 = .ok (.castore, 1) := by decide +kernel
theorem d_Text_append_99 : decode bc_Text_append 99 = .ok (.iinc 4 1, 3) := by decide +kernel
theorem d_Text_append_102 : decode bc_Text_append 102 = .ok (.goto (-28), 3) := by decide +kernel
theorem d_Text_append_105 : decode bc_Text_append 105 = .ok (.aload_n 0, 1) := by decide +kernel
theorem d_Text_append_106 : decode bc_Text_append 106 = .ok (.dup, 1) := by decide +kernel
theorem d_Text_append_107 : decode bc_Text_append 107 = .ok (.getfield 15, 3) := by decide +kernel
theorem d_Text_append_110 : decode bc_Text_append 110 = .ok (.iload_n 3, 1) := by decide +kernel
theorem d_Text_append_111 : decode bc_Text_append 111 = .ok (.iadd, 1) := by decide +kernel
theorem d_Text_append_112 : decode bc_Text_append 112 = .ok (.putfield 15, 3) := by decide +kernel
theorem d_Text_append_115 : decode bc_Text_append 115 = .ok (.iconst 1, 1) := by decide +kernel
theorem d_Text_append_116 : decode bc_Text_append 116 = .ok (.ireturn, 1) := by decide +kernel
def cw_Text_append (G : Nat → ClassId) (a_t a_chars : Nat) (v_length : Int32) (v_chars : Nat → Int32) : va_W := [(a_t, .inr (6, [.ref a_chars, .int v_length])), (a_chars, .inl (G 2, 60, .inl v_chars))]
def f_Text_append_B74 (p1 : Int64) (k74 : Int32 → Int32 → Int32 → (Nat → Int32) → Option (Int32 × Int32 × (Nat → Int32))) (x74_3 : Int32) (x74_4 : Int32) (v_length_74 : Int32) (v_chars_74 : Nat → Int32) : Option (Int32 × Int32 × (Nat → Int32)) := if x74_3 ≤ x74_4 then (some (1, v_length_74 + x74_3, v_chars_74)) else ((f_Text_byteOf p1 x74_4).bind fun o94 => (ob_iv (v_length_74 + x74_4) 60 (k74 x74_3 (x74_4 + 1) v_length_74 (upd v_chars_74 (v_length_74 + x74_4).toNatClampNeg (vp_nar .char ((o94.toUInt32 % 65536).toInt32))))))
def f_Text_append_L74 (p1 : Int64) : Nat → Int32 → Int32 → Int32 → (Nat → Int32) → Option (Int32 × Int32 × (Nat → Int32)) := ob_lp4 (f_Text_append_B74 p1)
def f_Text_append_J54 (p1 : Int64) (x54_3 : Int32) (v_length_54 : Int32) (v_chars_54 : Nat → Int32) : Option (Int32 × Int32 × (Nat → Int32)) := if x54_3 = 0 then (some (0, v_length_54, v_chars_54)) else (if (v_length_54 + x54_3) ≤ 60 then (f_Text_append_L74 p1 1000 x54_3 0 v_length_54 v_chars_54) else (some (0, v_length_54, v_chars_54)))
def f_Text_append_B5 (p1 : Int64) (k5 : Int32 → Int32 → Int32 → (Nat → Int32) → Option (Int32 × Int32 × (Nat → Int32))) (x5_3 : Int32) (x5_4 : Int32) (v_length_5 : Int32) (v_chars_5 : Nat → Int32) : Option (Int32 × Int32 × (Nat → Int32)) := if 8 ≤ x5_4 then (f_Text_append_J54 p1 x5_3 v_length_5 v_chars_5) else ((f_Text_byteOf p1 x5_4).bind fun o15 => (if o15 = 0 then (f_Text_append_J54 p1 x5_3 v_length_5 v_chars_5) else ((f_Text_byteOf p1 x5_4).bind fun o24 => (if o24 < 33 then (some (0, v_length_5, v_chars_5)) else (if o24 ≤ 126 then (k5 (x5_3 + 1) (x5_4 + 1) v_length_5 v_chars_5) else (some (0, v_length_5, v_chars_5)))))))
def f_Text_append_L5 (p1 : Int64) : Nat → Int32 → Int32 → Int32 → (Nat → Int32) → Option (Int32 × Int32 × (Nat → Int32)) := ob_lp4 (f_Text_append_B5 p1)
def f_Text_append (v_length : Int32) (v_chars : Nat → Int32) (p1 : Int64) : Option (Int32 × Int32 × (Nat → Int32)) := f_Text_append_L5 p1 1000 0 0 v_length v_chars
set_option maxHeartbeats 4000000 in
set_option maxRecDepth 100000 in
theorem c_Text_append (l : Launch) (D : va_G) (G : Nat → ClassId) (a_t a_chars : Nat) (v_length : Int32) (v_chars : Nat → Int32) (p1 : Int64) (o : Int32 × Int32 × (Nat → Int32)) (hf : f_Text_append v_length v_chars p1 = some o) (sz : Nat) : MetI l y_Text_append ws_Text_append ({ frames := 1, cells := 0, slots := 0, locals := 22 }) D (obT G) (cw_Text_append G a_t a_chars v_length v_chars) (cw_Text_append G a_t a_chars o.2.1 o.2.2) [.ref a_t, .long p1] o.1 sz := by
  refine ob_of (cc := bc_Text_append) (maxL := 6) (ret := (some .boolean)) (Qc := ObQi D (obT G) (cw_Text_append G a_t a_chars o.2.1 o.2.2) o.1) (by decide) rfl (Nat.le_of_ble_eq_true rfl) ?_
  intro p e s m below meth c A ls H locs hx hb hr hml hts hown hlk hnm hZ hP hK hD hA hS hl
  have hret : ∀ (o' : Int32 × Int32 × (Nat → Int32)) (H : Heap) (locs : List Loc) (pc : Nat) (ls : Array Slot), some o' = some o → va_P D vwCl (cw_Text_append G a_t a_chars o'.2.1 o'.2.2) H → va_D A (cw_Text_append G a_t a_chars o'.2.1 o'.2.2) → va_S A s.heap H locs → narrow .boolean (.int o'.1) = .int o'.1 → decode bc_Text_append pc = .ok (.ireturn, 1) → W p l e { frames := 1, cells := 0, slots := 0, locals := 22 } s m ([.ref a_t, .long p1] : List Value).toArray below meth c H locs 0 0 (MQ below (ObQi D (obT G) (cw_Text_append G a_t a_chars o.2.1 o.2.2) o.1 A) ([.ref a_t, .long p1] : List Value).toArray s 0 0 A) (F0 m pc ls [.int o'.1]) := by
    intro o' H locs pc ls he hP hD hS hn hd
    obtain rfl := Option.some.inj he
    exact ob_iret hx hb hr hlk hK hP hD hS hn hd
  generalize MQ below (ObQi D (obT G) (cw_Text_append G a_t a_chars o.2.1 o.2.2) o.1 A) ([.ref a_t, .long p1] : List Value).toArray s 0 0 A = Q at hret ⊢
  have hl : lv_has ls 6 [(0, .ref a_t), (1, .long p1)] := hl
  unfold f_Text_append at hf
  have loop74 : ∀ (n74 : Nat) (x74_3 : Int32) (x74_4 : Int32) (v_length_74 : Int32) (v_chars_74 : Nat → Int32) (ls : Array Slot) (H : Heap) (locs : List Loc), lv_has ls 6 [(0, .ref a_t), (1, .long p1), (3, .int x74_3), (4, .int x74_4)] → va_P D vwCl (cw_Text_append G a_t a_chars v_length_74 v_chars_74) H → va_D A (cw_Text_append G a_t a_chars v_length_74 v_chars_74) → va_S A s.heap H locs → f_Text_append_L74 p1 n74 x74_3 x74_4 v_length_74 v_chars_74 = some o → W p l e ({ frames := 1, cells := 0, slots := 0, locals := 22 }) s m ([.ref a_t, .long p1] : List Value).toArray below meth c H locs 0 0 Q (F0 m 74 ls []) := by
    intro n74
    induction n74 with
    | zero => intro x74_3 x74_4 v_length_74 v_chars_74 ls H locs hl hP hD hS hf; exact ob_no hf
    | succ n74 ih74 =>
      intro x74_3 x74_4 v_length_74 v_chars_74 ls H locs hl hP hD hS hf
      have hf : f_Text_append_B74 p1 (f_Text_append_L74 p1 n74) x74_3 x74_4 v_length_74 v_chars_74 = some o := hf
      unfold f_Text_append_B74 at hf
      refine lv_iload hx hb d_Text_append_74 (lv_at hl 3 rfl) ?_
      refine lv_iload_n hx hb d_Text_append_76 rfl (lv_at hl 2 rfl) ?_
      refine lv_icmp_ge (tgt := 105) hx hb d_Text_append_77 (by decide) (fun hc77 => ?_) (fun hc77 => ?_)
      · have hf := ob_t hc77 hf
        refine lv_aload_n hx hb d_Text_append_105 rfl (lv_at hl 0 rfl) ?_
        refine lv_dup hx hb d_Text_append_106 rfl ?_
        refine va_get (D := D) (ci := 6) (v := .int v_length_74) (C := "ObjectBase$Text") (T := TC_Text) (N := 2) hx hb hts inC_Text hown hK hP 0 rfl rfl 1 (by decide) (hts _ tw158) (fun _ h9 => h9) rfl d_Text_append_107 ?_
        refine lv_iload_n hx hb d_Text_append_110 rfl (lv_at hl 2 rfl) ?_
        refine lv_iadd hx hb d_Text_append_111 ?_
        refine va_put (D := D) (ci := 6) (v := .int (v_length_74 + x74_3)) (ty := .int) (C := "ObjectBase$Text") (T := TC_Text) (N := 2) hx hb hts inC_Text tyC_Text tyC_Text_ok nmC_Text hown hK hP hD hS 0 rfl rfl 1 (by decide) (hts _ tw158) (fun _ h9 => h9) rfl (by decide +kernel) rfl rfl (Nat.le_of_ble_eq_true rfl) d_Text_append_112 (fun H locs hP hD hS => ?_)
        have hP : va_P D vwCl (cw_Text_append G a_t a_chars (v_length_74 + x74_3) v_chars_74) H := hP
        have hD : va_D A (cw_Text_append G a_t a_chars (v_length_74 + x74_3) v_chars_74) := hD
        refine lv_iconst (v := 1) hx hb d_Text_append_115 (by decide) ?_
        exact hret (1, v_length_74 + x74_3, v_chars_74) H locs _ ls hf hP hD hS narrow_b1 d_Text_append_116
      · have hf := ob_f hc77 hf
        refine lv_aload_n hx hb d_Text_append_80 rfl (lv_at hl 0 rfl) ?_
        refine va_get (D := D) (ci := 6) (v := .ref a_chars) (C := "ObjectBase$Text") (T := TC_Text) (N := 2) hx hb hts inC_Text hown hK hP 0 rfl rfl 0 (by decide) (hts _ tw156) (fun _ h9 => h9) rfl d_Text_append_81 ?_
        refine lv_aload_n hx hb d_Text_append_84 rfl (lv_at hl 0 rfl) ?_
        refine va_get (D := D) (ci := 6) (v := .int v_length_74) (C := "ObjectBase$Text") (T := TC_Text) (N := 2) hx hb hts inC_Text hown hK hP 0 rfl rfl 1 (by decide) (hts _ tw158) (fun _ h9 => h9) rfl d_Text_append_85 ?_
        refine lv_iload hx hb d_Text_append_88 (lv_at hl 3 rfl) ?_
        refine lv_iadd hx hb d_Text_append_90 ?_
        refine lv_lload_n hx hb d_Text_append_91 rfl (lv_at hl 1 rfl) ?_
        refine lv_iload hx hb d_Text_append_92 (lv_at hl 3 rfl) ?_
        obtain ⟨o94, ho94, hf⟩ := ob_b hf
        have hRun := va_runS (R := ({ frames := 1, cells := 0, slots := 0, locals := 22 })) (locs := locs) (H := H) (l := l) (e := e) (below := below) (meth := meth) (cells := 0) (slots := 0) (g := F0 m 94 ls [.int x74_4, .long p1, .int (v_length_74 + x74_4), .ref a_chars]) (As := [.long p1, .int x74_4]) (rest := [.int (v_length_74 + x74_4), .ref a_chars]) ⟨hx, hb, hml, hown, hts⟩ (c_Text_byteOf l D G  p1 x74_4 o94 ho94 H.size) (va_cwS 2 hts (gS tw514 tw515 tw7 tw516) rfl rfl rfl (by decide +kernel) ⟨Nat.le_of_ble_eq_true rfl, Nat.le_of_ble_eq_true rfl⟩) (ob_preS hZ hK hP hD [] rfl rfl) rfl rfl hl.1 rfl (lv_room (Nat.le_of_ble_eq_true rfl)) d_Text_append_94 ⟨Nat.le_refl _, Nat.le_refl _⟩
        refine ob_calli (wc := (cw_Text_byteOf G )) (wc1 := (cw_Text_byteOf G )) (r := o94) (w2 := (cw_Text_append G a_t a_chars v_length_74 v_chars_74)) hRun hP hD hA hS [] rfl rfl rfl rfl (fun H locs hP hD hS => ?_)
        clear hRun
        refine lv_i2c hx hb d_Text_append_97 rfl ?_
        obtain ⟨hg98, hf⟩ := ob_iv_g hf
        refine va_cast hx hb hK hP hD hS 1 2 rfl rfl hg98 d_Text_append_98 (fun H locs hP hD hS => ?_)
        have hP : va_P D vwCl (cw_Text_append G a_t a_chars v_length_74 (upd v_chars_74 (v_length_74 + x74_4).toNatClampNeg (vp_nar .char ((o94.toUInt32 % 65536).toInt32)))) H := hP
        have hD : va_D A (cw_Text_append G a_t a_chars v_length_74 (upd v_chars_74 (v_length_74 + x74_4).toNatClampNeg (vp_nar .char ((o94.toUInt32 % 65536).toInt32)))) := hD
        refine lv_iinc (k := 3) (v := x74_4 + 1) (lv' := [(4, .int (x74_4 + 1)), (0, .ref a_t), (1, .long p1), (3, .int x74_3)]) hx hb d_Text_append_99 hl rfl (by rw [show Int32.ofInt 1 = (1 : Int32) from by decide]) (by decide) rfl (fun ls hl => ?_)
        refine lv_goto (tgt := 74) hx hb d_Text_append_102 (by decide) ?_
        exact ih74 x74_3 (x74_4 + 1) v_length_74 (upd v_chars_74 (v_length_74 + x74_4).toNatClampNeg (vp_nar .char ((o94.toUInt32 % 65536).toInt32))) ls H locs (lv_sub hl [1, 2, 3, 0] rfl) hP hD hS hf
  have blk54 : ∀ (x54_3 : Int32) (v_length_54 : Int32) (v_chars_54 : Nat → Int32) (ls : Array Slot) (H : Heap) (locs : List Loc), lv_has ls 6 [(0, .ref a_t), (1, .long p1), (3, .int x54_3)] → va_P D vwCl (cw_Text_append G a_t a_chars v_length_54 v_chars_54) H → va_D A (cw_Text_append G a_t a_chars v_length_54 v_chars_54) → va_S A s.heap H locs → f_Text_append_J54 p1 x54_3 v_length_54 v_chars_54 = some o → W p l e ({ frames := 1, cells := 0, slots := 0, locals := 22 }) s m ([.ref a_t, .long p1] : List Value).toArray below meth c H locs 0 0 Q (F0 m 54 ls []) := by
    intro x54_3 v_length_54 v_chars_54 ls H locs hl hP hD hS hf
    unfold f_Text_append_J54 at hf
    refine lv_iload_n hx hb d_Text_append_54 rfl (lv_at hl 2 rfl) ?_
    refine lv_if_eq (tgt := 69) hx hb d_Text_append_55 (by decide) (fun hc55 => ?_) (fun hc55 => ?_)
    · have hf := ob_t hc55 hf
      refine lv_iconst (v := 0) hx hb d_Text_append_69 (by decide) ?_
      exact hret (0, v_length_54, v_chars_54) H locs _ ls hf hP hD hS narrow_b0 d_Text_append_70
    · have hf := ob_f hc55 hf
      refine lv_aload_n hx hb d_Text_append_58 rfl (lv_at hl 0 rfl) ?_
      refine va_get (D := D) (ci := 6) (v := .int v_length_54) (C := "ObjectBase$Text") (T := TC_Text) (N := 2) hx hb hts inC_Text hown hK hP 0 rfl rfl 1 (by decide) (hts _ tw158) (fun _ h9 => h9) rfl d_Text_append_59 ?_
      refine lv_iload_n hx hb d_Text_append_62 rfl (lv_at hl 2 rfl) ?_
      refine lv_iadd hx hb d_Text_append_63 ?_
      refine lv_bipush (v := 60) hx hb d_Text_append_64 (by decide) ?_
      refine lv_icmp_le (tgt := 71) hx hb d_Text_append_66 (by decide) (fun hc66 => ?_) (fun hc66 => ?_)
      · have hf := ob_t hc66 hf
        refine lv_iconst (v := 0) hx hb d_Text_append_71 (by decide) ?_
        refine lv_istore (lv' := [(4, .int 0), (0, .ref a_t), (1, .long p1), (3, .int x54_3)]) hx hb d_Text_append_72 hl (by decide) rfl (fun ls hl => ?_)
        exact loop74 1000 x54_3 0 v_length_54 v_chars_54 ls H locs (lv_sub hl [1, 2, 3, 0] rfl) hP hD hS hf
      · have hf := ob_f hc66 hf
        refine lv_iconst (v := 0) hx hb d_Text_append_69 (by decide) ?_
        exact hret (0, v_length_54, v_chars_54) H locs _ ls hf hP hD hS narrow_b0 d_Text_append_70
  have loop5 : ∀ (n5 : Nat) (x5_3 : Int32) (x5_4 : Int32) (v_length_5 : Int32) (v_chars_5 : Nat → Int32) (ls : Array Slot) (H : Heap) (locs : List Loc), lv_has ls 6 [(0, .ref a_t), (1, .long p1), (3, .int x5_3), (4, .int x5_4)] → va_P D vwCl (cw_Text_append G a_t a_chars v_length_5 v_chars_5) H → va_D A (cw_Text_append G a_t a_chars v_length_5 v_chars_5) → va_S A s.heap H locs → f_Text_append_L5 p1 n5 x5_3 x5_4 v_length_5 v_chars_5 = some o → W p l e ({ frames := 1, cells := 0, slots := 0, locals := 22 }) s m ([.ref a_t, .long p1] : List Value).toArray below meth c H locs 0 0 Q (F0 m 5 ls []) := by
    intro n5
    induction n5 with
    | zero => intro x5_3 x5_4 v_length_5 v_chars_5 ls H locs hl hP hD hS hf; exact ob_no hf
    | succ n5 ih5 =>
      intro x5_3 x5_4 v_length_5 v_chars_5 ls H locs hl hP hD hS hf
      have hf : f_Text_append_B5 p1 (f_Text_append_L5 p1 n5) x5_3 x5_4 v_length_5 v_chars_5 = some o := hf
      unfold f_Text_append_B5 at hf
      refine lv_iload hx hb d_Text_append_5 (lv_at hl 3 rfl) ?_
      refine lv_bipush (v := 8) hx hb d_Text_append_7 (by decide) ?_
      refine lv_icmp_ge (tgt := 54) hx hb d_Text_append_9 (by decide) (fun hc9 => ?_) (fun hc9 => ?_)
      · have hf := ob_t hc9 hf
        exact blk54 x5_3 v_length_5 v_chars_5 ls H locs (lv_sub hl [0, 1, 2] rfl) hP hD hS hf
      · have hf := ob_f hc9 hf
        refine lv_lload_n hx hb d_Text_append_12 rfl (lv_at hl 1 rfl) ?_
        refine lv_iload hx hb d_Text_append_13 (lv_at hl 3 rfl) ?_
        obtain ⟨o15, ho15, hf⟩ := ob_b hf
        have hRun := va_runS (R := ({ frames := 1, cells := 0, slots := 0, locals := 22 })) (locs := locs) (H := H) (l := l) (e := e) (below := below) (meth := meth) (cells := 0) (slots := 0) (g := F0 m 15 ls [.int x5_4, .long p1]) (As := [.long p1, .int x5_4]) (rest := []) ⟨hx, hb, hml, hown, hts⟩ (c_Text_byteOf l D G  p1 x5_4 o15 ho15 H.size) (va_cwS 2 hts (gS tw514 tw515 tw7 tw516) rfl rfl rfl (by decide +kernel) ⟨Nat.le_of_ble_eq_true rfl, Nat.le_of_ble_eq_true rfl⟩) (ob_preS hZ hK hP hD [] rfl rfl) rfl rfl hl.1 rfl (lv_room (Nat.le_of_ble_eq_true rfl)) d_Text_append_15 ⟨Nat.le_refl _, Nat.le_refl _⟩
        refine ob_calli (wc := (cw_Text_byteOf G )) (wc1 := (cw_Text_byteOf G )) (r := o15) (w2 := (cw_Text_append G a_t a_chars v_length_5 v_chars_5)) hRun hP hD hA hS [] rfl rfl rfl rfl (fun H locs hP hD hS => ?_)
        clear hRun
        refine lv_if_eq (tgt := 54) hx hb d_Text_append_18 (by decide) (fun hc18 => ?_) (fun hc18 => ?_)
        · have hf := ob_t hc18 hf
          exact blk54 x5_3 v_length_5 v_chars_5 ls H locs (lv_sub hl [0, 1, 2] rfl) hP hD hS hf
        · have hf := ob_f hc18 hf
          refine lv_lload_n hx hb d_Text_append_21 rfl (lv_at hl 1 rfl) ?_
          refine lv_iload hx hb d_Text_append_22 (lv_at hl 3 rfl) ?_
          obtain ⟨o24, ho24, hf⟩ := ob_b hf
          have hRun := va_runS (R := ({ frames := 1, cells := 0, slots := 0, locals := 22 })) (locs := locs) (H := H) (l := l) (e := e) (below := below) (meth := meth) (cells := 0) (slots := 0) (g := F0 m 24 ls [.int x5_4, .long p1]) (As := [.long p1, .int x5_4]) (rest := []) ⟨hx, hb, hml, hown, hts⟩ (c_Text_byteOf l D G  p1 x5_4 o24 ho24 H.size) (va_cwS 2 hts (gS tw514 tw515 tw7 tw516) rfl rfl rfl (by decide +kernel) ⟨Nat.le_of_ble_eq_true rfl, Nat.le_of_ble_eq_true rfl⟩) (ob_preS hZ hK hP hD [] rfl rfl) rfl rfl hl.1 rfl (lv_room (Nat.le_of_ble_eq_true rfl)) d_Text_append_24 ⟨Nat.le_refl _, Nat.le_refl _⟩
          refine ob_calli (wc := (cw_Text_byteOf G )) (wc1 := (cw_Text_byteOf G )) (r := o24) (w2 := (cw_Text_append G a_t a_chars v_length_5 v_chars_5)) hRun hP hD hA hS [] rfl rfl rfl rfl (fun H locs hP hD hS => ?_)
          clear hRun
          refine lv_istore (lv' := [(5, .int o24), (0, .ref a_t), (1, .long p1), (3, .int x5_3), (4, .int x5_4)]) hx hb d_Text_append_27 hl (by decide) rfl (fun ls hl => ?_)
          refine lv_iload hx hb d_Text_append_29 (lv_at hl 0 rfl) ?_
          refine lv_bipush (v := 33) hx hb d_Text_append_31 (by decide) ?_
          refine lv_icmp_lt (tgt := 43) hx hb d_Text_append_33 (by decide) (fun hc33 => ?_) (fun hc33 => ?_)
          · have hf := ob_t hc33 hf
            refine lv_iconst (v := 0) hx hb d_Text_append_43 (by decide) ?_
            exact hret (0, v_length_5, v_chars_5) H locs _ ls hf hP hD hS narrow_b0 d_Text_append_44
          · have hf := ob_f hc33 hf
            refine lv_iload hx hb d_Text_append_36 (lv_at hl 0 rfl) ?_
            refine lv_bipush (v := 126) hx hb d_Text_append_38 (by decide) ?_
            refine lv_icmp_le (tgt := 45) hx hb d_Text_append_40 (by decide) (fun hc40 => ?_) (fun hc40 => ?_)
            · have hf := ob_t hc40 hf
              refine lv_iinc (k := 3) (v := x5_3 + 1) (lv' := [(3, .int (x5_3 + 1)), (5, .int o24), (0, .ref a_t), (1, .long p1), (4, .int x5_4)]) hx hb d_Text_append_45 hl rfl (by rw [show Int32.ofInt 1 = (1 : Int32) from by decide]) (by decide) rfl (fun ls hl => ?_)
              refine lv_iinc (k := 4) (v := x5_4 + 1) (lv' := [(4, .int (x5_4 + 1)), (3, .int (x5_3 + 1)), (5, .int o24), (0, .ref a_t), (1, .long p1)]) hx hb d_Text_append_48 hl rfl (by rw [show Int32.ofInt 1 = (1 : Int32) from by decide]) (by decide) rfl (fun ls hl => ?_)
              refine lv_goto (tgt := 5) hx hb d_Text_append_51 (by decide) ?_
              exact ih5 (x5_3 + 1) (x5_4 + 1) v_length_5 v_chars_5 ls H locs (lv_sub hl [3, 4, 1, 0] rfl) hP hD hS hf
            · have hf := ob_f hc40 hf
              refine lv_iconst (v := 0) hx hb d_Text_append_43 (by decide) ?_
              exact hret (0, v_length_5, v_chars_5) H locs _ ls hf hP hD hS narrow_b0 d_Text_append_44
  refine lv_iconst (v := 0) hx hb d_Text_append_0 (by decide) ?_
  refine lv_istore_n (lv' := [(3, .int 0), (0, .ref a_t), (1, .long p1)]) hx hb d_Text_append_1 rfl hl (by decide) rfl (fun ls hl => ?_)
  refine lv_iconst (v := 0) hx hb d_Text_append_2 (by decide) ?_
  refine lv_istore (lv' := [(4, .int 0), (3, .int 0), (0, .ref a_t), (1, .long p1)]) hx hb d_Text_append_3 hl (by decide) rfl (fun ls hl => ?_)
  exact loop5 1000 0 0 v_length v_chars ls H locs (lv_sub hl [2, 3, 1, 0] rfl) hP hD hS hf
abbrev bc_Reader_readHead : ByteArray := prog_9_method_3_code
abbrev y_Reader_readHead : MethodName := ⟨"ObjectBase$Reader", "readHead", "()Z"⟩
def ws_Reader_readHead : List Cond := .code y_Reader_readHead bc_Reader_readHead 2 (some .boolean) :: obW
theorem d_Reader_readHead_0 : decode bc_Reader_readHead 0 = .ok (.aload_n 0, 1) := by decide +kernel
theorem d_Reader_readHead_1 : decode bc_Reader_readHead 1 = .ok (.getfield 19, 3) := by decide +kernel
theorem d_Reader_readHead_4 : decode bc_Reader_readHead 4 = .ok (.aload_n 0, 1) := by decide +kernel
theorem d_Reader_readHead_5 : decode bc_Reader_readHead 5 = .ok (.getfield 29, 3) := by decide +kernel
theorem d_Reader_readHead_8 : decode bc_Reader_readHead 8 = .ok (.iconst 0, 1) := by decide +kernel
theorem d_Reader_readHead_9 : decode bc_Reader_readHead 9 = .ok (.invokevirtual 57, 3) := by decide +kernel
theorem d_Reader_readHead_12 : decode bc_Reader_readHead 12 = .ok (.putfield 61, 3) := by decide +kernel
theorem d_Reader_readHead_15 : decode bc_Reader_readHead 15 = .ok (.aload_n 0, 1) := by decide +kernel
theorem d_Reader_readHead_16 : decode bc_Reader_readHead 16 = .ok (.getfield 19, 3) := by decide +kernel
theorem d_Reader_readHead_19 : decode bc_Reader_readHead 19 = .ok (.getfield 61, 3) := by decide +kernel
theorem d_Reader_readHead_22 : decode bc_Reader_readHead 22 = .ok (.bipush 42, 2) := by decide +kernel
theorem d_Reader_readHead_24 : decode bc_Reader_readHead 24 = .ok (.if_icmp .eq 29, 3) := by decide +kernel
theorem d_Reader_readHead_27 : decode bc_Reader_readHead 27 = .ok (.aload_n 0, 1) := by decide +kernel
theorem d_Reader_readHead_28 : decode bc_Reader_readHead 28 = .ok (.getfield 19, 3) := by decide +kernel
theorem d_Reader_readHead_31 : decode bc_Reader_readHead 31 = .ok (.getfield 61, 3) := by decide +kernel
theorem d_Reader_readHead_34 : decode bc_Reader_readHead 34 = .ok (.bipush 35, 2) := by decide +kernel
theorem d_Reader_readHead_36 : decode bc_Reader_readHead 36 = .ok (.if_icmp .eq 17, 3) := by decide +kernel
theorem d_Reader_readHead_39 : decode bc_Reader_readHead 39 = .ok (.aload_n 0, 1) := by decide +kernel
theorem d_Reader_readHead_40 : decode bc_Reader_readHead 40 = .ok (.getfield 19, 3) := by decide +kernel
theorem d_Reader_readHead_43 : decode bc_Reader_readHead 43 = .ok (.getfield 61, 3) := by decide +kernel
theorem d_Reader_readHead_46 : decode bc_Reader_readHead 46 = .ok (.bipush 43, 2) := by decide +kernel
theorem d_Reader_readHead_48 : decode bc_Reader_readHead 48 = .ok (.if_icmp .eq 5, 3) := by decide +kernel
theorem d_Reader_readHead_51 : decode bc_Reader_readHead 51 = .ok (.iconst 0, 1) := by decide +kernel
theorem d_Reader_readHead_52 : decode bc_Reader_readHead 52 = .ok (.ireturn, 1) := by decide +kernel
theorem d_Reader_readHead_53 : decode bc_Reader_readHead 53 = .ok (.aload_n 0, 1) := by decide +kernel
theorem d_Reader_readHead_54 : decode bc_Reader_readHead 54 = .ok (.getfield 19, 3) := by decide +kernel
theorem d_Reader_readHead_57 : decode bc_Reader_readHead 57 = .ok (.getfield 61, 3) := by decide +kernel
theorem d_Reader_readHead_60 : decode bc_Reader_readHead 60 = .ok (.bipush 43, 2) := by decide +kernel
theorem d_Reader_readHead_62 : decode bc_Reader_readHead 62 = .ok (.if_icmp .ne 11, 3) := by decide +kernel
theorem d_Reader_readHead_65 : decode bc_Reader_readHead 65 = .ok (.aload_n 0, 1) := by decide +kernel
theorem d_Reader_readHead_66 : decode bc_Reader_readHead 66 = .ok (.iconst 1, 1) := by decide +kernel
theorem d_Reader_readHead_67 : decode bc_Reader_readHead 67 = .ok (.invokevirtual 65, 3) := by decide +kernel
theorem d_Reader_readHead_70 : decode bc_Reader_readHead 70 = .ok (.goto 4, 3) := by decide +kernel
theorem d_Reader_readHead_73 : decode bc_Reader_readHead 73 = .ok (.iconst 1, 1) := by decide +kernel
theorem d_Reader_readHead_74 : decode bc_Reader_readHead 74 = .ok (.istore_n 1, 1) := by decide +kernel
theorem d_Reader_readHead_75 : decode bc_Reader_readHead 75 = .ok (.aload_n 0, 1) := by decide +kernel
theorem d_Reader_readHead_76 : decode bc_Reader_readHead 76 = .ok (.getfield 19, 3) := by decide +kernel
theorem d_Reader_readHead_79 : decode bc_Reader_readHead 79 = .ok (.aload_n 0, 1) := by decide +kernel
theorem d_Reader_readHead_80 : decode bc_Reader_readHead 80 = .ok (.getfield 29, 3) := by decide +kernel
theorem d_Reader_readHead_83 : decode bc_Reader_readHead 83 = .ok (.iload_n 1, 1) := by decide +kernel
theorem d_Reader_readHead_84 : decode bc_Reader_readHead 84 = .ok (.invokevirtual 57, 3) := by decide +kernel
theorem d_Reader_readHead_87 : decode bc_Reader_readHead 87 = .ok (.bipush 65, 2) := by decide +kernel
theorem d_Reader_readHead_89 : decode bc_Reader_readHead 89 = .ok (.isub, 1) := by decide +kernel
theorem d_Reader_readHead_90 : decode bc_Reader_readHead 90 = .ok (.iconst 1, 1) := by decide +kernel
theorem d_Reader_readHead_91 : decode bc_Reader_readHead 91 = .ok (.iadd, 1) := by decide +kernel
theorem d_Reader_readHead_92 : decode bc_Reader_readHead 92 = .ok (.putfield 69, 3) := by decide +kernel
theorem d_Reader_readHead_95 : decode bc_Reader_readHead 95 = .ok (.aload_n 0, 1) := by decide +kernel
theorem d_Reader_readHead_96 : decode bc_Reader_readHead 96 = .ok (.getfield 15, 3) := by decide +kernel
theorem d_Reader_readHead_99 : decode bc_Reader_readHead 99 = .ok (.aload_n 0, 1) := by decide +kernel
theorem d_Reader_readHead_100 : decode bc_Reader_readHead 100 = .ok (.getfield 19, 3) := by decide +kernel
theorem d_Reader_readHead_103 : decode bc_Reader_readHead 103 = .ok (.getfield 69, 3) := by decide +kernel
theorem d_Reader_readHead_106 : decode bc_Reader_readHead 106 = .ok (.invokevirtual 72, 3) := by decide +kernel
theorem d_Reader_readHead_109 : decode bc_Reader_readHead 109 = .ok (.ifCond .ne 5, 3) := by decide +kernel
theorem d_Reader_readHead_112 : decode bc_Reader_readHead 112 = .ok (.iconst 0, 1) := by decide +kernel
theorem d_Reader_readHead_113 : decode bc_Reader_readHead 113 = .ok (.ireturn, 1) := by decide +kernel
theorem d_Reader_readHead_114 : decode bc_Reader_readHead 114 = .ok (.aload_n 0, 1) := by decide +kernel
theorem d_Reader_readHead_115 : decode bc_Reader_readHead 115 = .ok (.getfield 9, 3) := by decide +kernel
theorem d_Reader_readHead_118 : decode bc_Reader_readHead 118 = .ok (.iconst 0, 1) := by decide +kernel
theorem d_Reader_readHead_119 : decode bc_Reader_readHead 119 = .ok (.aload_n 0, 1) := by decide +kernel
theorem d_Reader_readHead_120 : decode bc_Reader_readHead 120 = .ok (.getfield 19, 3) := by decide +kernel
theorem d_Reader_readHead_123 : decode bc_Reader_readHead 123 = .ok (.getfield 69, 3) := by decide +kernel
theorem d_Reader_readHead_126 : decode bc_Reader_readHead 126 = .ok (.iastore, 1) := by decide +kernel
theorem d_Reader_readHead_127 : decode bc_Reader_readHead 127 = .ok (.aload_n 0, 1) := by decide +kernel
theorem d_Reader_readHead_128 : decode bc_Reader_readHead 128 = .ok (.getfield 9, 3) := by decide +kernel
theorem d_Reader_readHead_131 : decode bc_Reader_readHead 131 = .ok (.iconst 1, 1) := by decide +kernel
theorem d_Reader_readHead_132 : decode bc_Reader_readHead 132 = .ok (.iconst 0, 1) := by decide +kernel
theorem d_Reader_readHead_133 : decode bc_Reader_readHead 133 = .ok (.iastore, 1) := by decide +kernel
theorem d_Reader_readHead_134 : decode bc_Reader_readHead 134 = .ok (.aload_n 0, 1) := by decide +kernel
theorem d_Reader_readHead_135 : decode bc_Reader_readHead 135 = .ok (.getfield 9, 3) := by decide +kernel
theorem d_Reader_readHead_138 : decode bc_Reader_readHead 138 = .ok (.iconst 2, 1) := by decide +kernel
theorem d_Reader_readHead_139 : decode bc_Reader_readHead 139 = .ok (.iconst 0, 1) := by decide +kernel
theorem d_Reader_readHead_140 : decode bc_Reader_readHead 140 = .ok (.iastore, 1) := by decide +kernel
theorem d_Reader_readHead_141 : decode bc_Reader_readHead 141 = .ok (.aload_n 0, 1) := by decide +kernel
theorem d_Reader_readHead_142 : decode bc_Reader_readHead 142 = .ok (.iconst 1, 1) := by decide +kernel
theorem d_Reader_readHead_143 : decode bc_Reader_readHead 143 = .ok (.putfield 37, 3) := by decide +kernel
theorem d_Reader_readHead_146 : decode bc_Reader_readHead 146 = .ok (.aload_n 0, 1) := by decide +kernel
theorem d_Reader_readHead_147 : decode bc_Reader_readHead 147 = .ok (.getfield 19, 3) := by decide +kernel
theorem d_Reader_readHead_150 : decode bc_Reader_readHead 150 = .ok (.getfield 61, 3) := by decide +kernel
theorem d_Reader_readHead_153 : decode bc_Reader_readHead 153 = .ok (.bipush 43, 2) := by decide +kernel
theorem d_Reader_readHead_155 : decode bc_Reader_readHead 155 = .ok (.if_icmp .ne 12, 3) := by decide +kernel
theorem d_Reader_readHead_158 : decode bc_Reader_readHead 158 = .ok (.aload_n 0, 1) := by decide +kernel
theorem d_Reader_readHead_159 : decode bc_Reader_readHead 159 = .ok (.invokevirtual 78, 3) := by decide +kernel
theorem d_Reader_readHead_162 : decode bc_Reader_readHead 162 = .ok (.ifCond .eq 5, 3) := by decide +kernel
theorem d_Reader_readHead_165 : decode bc_Reader_readHead 165 = .ok (.iconst 0, 1) := by decide +kernel
theorem d_Reader_readHead_166 : decode bc_Reader_readHead 166 = .ok (.ireturn, 1) := by decide +kernel
theorem d_Reader_readHead_167 : decode bc_Reader_readHead 167 = .ok (.aload_n 0, 1) := by decide +kernel
theorem d_Reader_readHead_168 : decode bc_Reader_readHead 168 = .ok (.iload_n 1, 1) := by decide +kernel
theorem d_Reader_readHead_169 : decode bc_Reader_readHead 169 = .ok (.iconst 1, 1) := by decide +kernel
theorem d_Reader_readHead_170 : decode bc_Reader_readHead 170 = .ok (.iadd, 1) := by decide +kernel
theorem d_Reader_readHead_171 : decode bc_Reader_readHead 171 = .ok (.putfield 37, 3) := by decide +kernel
theorem d_Reader_readHead_174 : decode bc_Reader_readHead 174 = .ok (.iconst 1, 1) := by decide +kernel
theorem d_Reader_readHead_175 : decode bc_Reader_readHead 175 = .ok (.ireturn, 1) := by decide +kernel
def cw_Reader_readHead (G : Nat → ClassId) (a_t a_question_text a_question_text_chars a_question a_schema a_standing a_schema_above a_schema_owners a_schema_kinds a_schema_targets a_question_numbers a_question_kinds a_question_inner a_question_next a_question_left a_question_right : Nat) (v_place : Int32) (v_ledTo : Int32) (v_question_text_length : Int32) (v_question_text_chars : Nat → Int32) (v_question_nodeCount : Int32) (v_question_root : Int32) (v_question_asked : Int32) (v_question_mode : Int32) (v_schema_classCount : Int32) (v_schema_fieldCount : Int32) (v_standing : Nat → Int32) (v_schema_above : Nat → Int32) (v_schema_owners : Nat → Int32) (v_schema_kinds : Nat → Int32) (v_schema_targets : Nat → Int32) : va_W := [(a_t, .inr (8, [.ref a_schema, .ref a_standing, .ref a_question, .ref a_question_text, .int v_place, .int v_ledTo])), (a_question_text, .inr (6, [.ref a_question_text_chars, .int v_question_text_length])), (a_question_text_chars, .inl (G 2, 60, .inl v_question_text_chars)), (a_question, .inr (7, [.ref a_question_text, .ref a_question_numbers, .ref a_question_kinds, .ref a_question_inner, .ref a_question_next, .ref a_question_left, .ref a_question_right, .int v_question_nodeCount, .int v_question_root, .int v_question_asked, .int v_question_mode])), (a_schema, .inr (1, [.ref a_schema_above, .ref a_schema_owners, .ref a_schema_kinds, .ref a_schema_targets, .int v_schema_classCount, .int v_schema_fieldCount])), (a_standing, .inl (G 0, 3, .inl v_standing)), (a_schema_above, .inl (G 0, 6, .inl v_schema_above)), (a_schema_owners, .inl (G 0, 8, .inl v_schema_owners)), (a_schema_kinds, .inl (G 0, 8, .inl v_schema_kinds)), (a_schema_targets, .inl (G 0, 8, .inl v_schema_targets))]
def f_Reader_readHead_J167 (x167_1 : Int32) (v_place_167 : Int32) (v_ledTo_167 : Int32) (v_question_asked_167 : Int32) (v_question_mode_167 : Int32) (v_standing_167 : Nat → Int32) : Option (Int32 × Int32 × Int32 × Int32 × Int32 × (Nat → Int32)) := some (1, x167_1 + 1, v_ledTo_167, v_question_asked_167, v_question_mode_167, v_standing_167)
def f_Reader_readHead_J74 (v_question_text_length : Int32) (v_question_text_chars : Nat → Int32) (v_schema_classCount : Int32) (v_schema_fieldCount : Int32) (v_schema_above : Nat → Int32) (v_schema_owners : Nat → Int32) (v_schema_kinds : Nat → Int32) (v_schema_targets : Nat → Int32) (y74_0 : Int32) (v_place_74 : Int32) (v_ledTo_74 : Int32) (v_question_asked_74 : Int32) (v_question_mode_74 : Int32) (v_standing_74 : Nat → Int32) : Option (Int32 × Int32 × Int32 × Int32 × Int32 × (Nat → Int32)) := (f_Text_at v_question_text_length v_question_text_chars y74_0).bind fun o84 => ((f_Schema_hasClass v_schema_classCount ((o84 - 65) + 1)).bind fun o106 => (if o106 = 0 then (some (0, v_place_74, v_ledTo_74, (o84 - 65) + 1, v_question_mode_74, v_standing_74)) else (ob_iv 0 3 (ob_iv 1 3 (ob_iv 2 3 (if v_question_mode_74 = 43 then ((f_Reader_readPath 1 v_ledTo_74 v_question_text_length v_question_text_chars (upd (upd (upd v_standing_74 (0 : Int32).toNatClampNeg ((o84 - 65) + 1)) (1 : Int32).toNatClampNeg 0) (2 : Int32).toNatClampNeg 0) v_schema_fieldCount v_schema_above v_schema_owners v_schema_kinds v_schema_targets).bind fun o159 => (if o159.1 = 0 then (f_Reader_readHead_J167 y74_0 o159.2.1 o159.2.2 ((o84 - 65) + 1) v_question_mode_74 (upd (upd (upd v_standing_74 (0 : Int32).toNatClampNeg ((o84 - 65) + 1)) (1 : Int32).toNatClampNeg 0) (2 : Int32).toNatClampNeg 0)) else (some (0, o159.2.1, o159.2.2, (o84 - 65) + 1, v_question_mode_74, upd (upd (upd v_standing_74 (0 : Int32).toNatClampNeg ((o84 - 65) + 1)) (1 : Int32).toNatClampNeg 0) (2 : Int32).toNatClampNeg 0)))) else (f_Reader_readHead_J167 y74_0 1 v_ledTo_74 ((o84 - 65) + 1) v_question_mode_74 (upd (upd (upd v_standing_74 (0 : Int32).toNatClampNeg ((o84 - 65) + 1)) (1 : Int32).toNatClampNeg 0) (2 : Int32).toNatClampNeg 0))))))))
def f_Reader_readHead_J53 (v_question_text_length : Int32) (v_question_text_chars : Nat → Int32) (v_schema_classCount : Int32) (v_schema_fieldCount : Int32) (v_schema_above : Nat → Int32) (v_schema_owners : Nat → Int32) (v_schema_kinds : Nat → Int32) (v_schema_targets : Nat → Int32) (v_place_53 : Int32) (v_ledTo_53 : Int32) (v_question_asked_53 : Int32) (v_question_mode_53 : Int32) (v_standing_53 : Nat → Int32) : Option (Int32 × Int32 × Int32 × Int32 × Int32 × (Nat → Int32)) := if v_question_mode_53 = 43 then ((f_Reader_endOfPath v_question_text_length v_question_text_chars 1).bind fun o67 => (f_Reader_readHead_J74 v_question_text_length v_question_text_chars v_schema_classCount v_schema_fieldCount v_schema_above v_schema_owners v_schema_kinds v_schema_targets o67 v_place_53 v_ledTo_53 v_question_asked_53 v_question_mode_53 v_standing_53)) else (f_Reader_readHead_J74 v_question_text_length v_question_text_chars v_schema_classCount v_schema_fieldCount v_schema_above v_schema_owners v_schema_kinds v_schema_targets 1 v_place_53 v_ledTo_53 v_question_asked_53 v_question_mode_53 v_standing_53)
def f_Reader_readHead (v_place : Int32) (v_ledTo : Int32) (v_question_text_length : Int32) (v_question_text_chars : Nat → Int32) (v_question_asked : Int32) (v_schema_classCount : Int32) (v_schema_fieldCount : Int32) (v_standing : Nat → Int32) (v_schema_above : Nat → Int32) (v_schema_owners : Nat → Int32) (v_schema_kinds : Nat → Int32) (v_schema_targets : Nat → Int32) : Option (Int32 × Int32 × Int32 × Int32 × Int32 × (Nat → Int32)) := (f_Text_at v_question_text_length v_question_text_chars 0).bind fun o9 => (ob_nc o9 (if o9 = 42 then (f_Reader_readHead_J53 v_question_text_length v_question_text_chars v_schema_classCount v_schema_fieldCount v_schema_above v_schema_owners v_schema_kinds v_schema_targets v_place v_ledTo v_question_asked o9 v_standing) else (if o9 = 35 then (f_Reader_readHead_J53 v_question_text_length v_question_text_chars v_schema_classCount v_schema_fieldCount v_schema_above v_schema_owners v_schema_kinds v_schema_targets v_place v_ledTo v_question_asked o9 v_standing) else (if o9 = 43 then (f_Reader_readHead_J53 v_question_text_length v_question_text_chars v_schema_classCount v_schema_fieldCount v_schema_above v_schema_owners v_schema_kinds v_schema_targets v_place v_ledTo v_question_asked o9 v_standing) else (some (0, v_place, v_ledTo, v_question_asked, o9, v_standing))))))
set_option maxHeartbeats 4000000 in
set_option maxRecDepth 100000 in
theorem c_Reader_readHead (l : Launch) (D : va_G) (G : Nat → ClassId) (a_t a_question_text a_question_text_chars a_question a_schema a_standing a_schema_above a_schema_owners a_schema_kinds a_schema_targets a_question_numbers a_question_kinds a_question_inner a_question_next a_question_left a_question_right : Nat) (v_place : Int32) (v_ledTo : Int32) (v_question_text_length : Int32) (v_question_text_chars : Nat → Int32) (v_question_nodeCount : Int32) (v_question_root : Int32) (v_question_asked : Int32) (v_question_mode : Int32) (v_schema_classCount : Int32) (v_schema_fieldCount : Int32) (v_standing : Nat → Int32) (v_schema_above : Nat → Int32) (v_schema_owners : Nat → Int32) (v_schema_kinds : Nat → Int32) (v_schema_targets : Nat → Int32) (o : Int32 × Int32 × Int32 × Int32 × Int32 × (Nat → Int32)) (hf : f_Reader_readHead v_place v_ledTo v_question_text_length v_question_text_chars v_question_asked v_schema_classCount v_schema_fieldCount v_standing v_schema_above v_schema_owners v_schema_kinds v_schema_targets = some o) (sz : Nat) : MetI l y_Reader_readHead ws_Reader_readHead ({ frames := 2, cells := 0, slots := 0, locals := 46 }) D (obT G) (cw_Reader_readHead G a_t a_question_text a_question_text_chars a_question a_schema a_standing a_schema_above a_schema_owners a_schema_kinds a_schema_targets a_question_numbers a_question_kinds a_question_inner a_question_next a_question_left a_question_right v_place v_ledTo v_question_text_length v_question_text_chars v_question_nodeCount v_question_root v_question_asked v_question_mode v_schema_classCount v_schema_fieldCount v_standing v_schema_above v_schema_owners v_schema_kinds v_schema_targets) (cw_Reader_readHead G a_t a_question_text a_question_text_chars a_question a_schema a_standing a_schema_above a_schema_owners a_schema_kinds a_schema_targets a_question_numbers a_question_kinds a_question_inner a_question_next a_question_left a_question_right o.2.1 o.2.2.1 v_question_text_length v_question_text_chars v_question_nodeCount v_question_root o.2.2.2.1 o.2.2.2.2.1 v_schema_classCount v_schema_fieldCount o.2.2.2.2.2 v_schema_above v_schema_owners v_schema_kinds v_schema_targets) [.ref a_t] o.1 sz := by
  refine ob_of (cc := bc_Reader_readHead) (maxL := 2) (ret := (some .boolean)) (Qc := ObQi D (obT G) (cw_Reader_readHead G a_t a_question_text a_question_text_chars a_question a_schema a_standing a_schema_above a_schema_owners a_schema_kinds a_schema_targets a_question_numbers a_question_kinds a_question_inner a_question_next a_question_left a_question_right o.2.1 o.2.2.1 v_question_text_length v_question_text_chars v_question_nodeCount v_question_root o.2.2.2.1 o.2.2.2.2.1 v_schema_classCount v_schema_fieldCount o.2.2.2.2.2 v_schema_above v_schema_owners v_schema_kinds v_schema_targets) o.1) (by decide) rfl (Nat.le_of_ble_eq_true rfl) ?_
  intro p e s m below meth c A ls H locs hx hb hr hml hts hown hlk hnm hZ hP hK hD hA hS hl
  have hret : ∀ (o' : Int32 × Int32 × Int32 × Int32 × Int32 × (Nat → Int32)) (H : Heap) (locs : List Loc) (pc : Nat) (ls : Array Slot), some o' = some o → va_P D vwCl (cw_Reader_readHead G a_t a_question_text a_question_text_chars a_question a_schema a_standing a_schema_above a_schema_owners a_schema_kinds a_schema_targets a_question_numbers a_question_kinds a_question_inner a_question_next a_question_left a_question_right o'.2.1 o'.2.2.1 v_question_text_length v_question_text_chars v_question_nodeCount v_question_root o'.2.2.2.1 o'.2.2.2.2.1 v_schema_classCount v_schema_fieldCount o'.2.2.2.2.2 v_schema_above v_schema_owners v_schema_kinds v_schema_targets) H → va_D A (cw_Reader_readHead G a_t a_question_text a_question_text_chars a_question a_schema a_standing a_schema_above a_schema_owners a_schema_kinds a_schema_targets a_question_numbers a_question_kinds a_question_inner a_question_next a_question_left a_question_right o'.2.1 o'.2.2.1 v_question_text_length v_question_text_chars v_question_nodeCount v_question_root o'.2.2.2.1 o'.2.2.2.2.1 v_schema_classCount v_schema_fieldCount o'.2.2.2.2.2 v_schema_above v_schema_owners v_schema_kinds v_schema_targets) → va_S A s.heap H locs → narrow .boolean (.int o'.1) = .int o'.1 → decode bc_Reader_readHead pc = .ok (.ireturn, 1) → W p l e { frames := 2, cells := 0, slots := 0, locals := 46 } s m ([.ref a_t] : List Value).toArray below meth c H locs 0 0 (MQ below (ObQi D (obT G) (cw_Reader_readHead G a_t a_question_text a_question_text_chars a_question a_schema a_standing a_schema_above a_schema_owners a_schema_kinds a_schema_targets a_question_numbers a_question_kinds a_question_inner a_question_next a_question_left a_question_right o.2.1 o.2.2.1 v_question_text_length v_question_text_chars v_question_nodeCount v_question_root o.2.2.2.1 o.2.2.2.2.1 v_schema_classCount v_schema_fieldCount o.2.2.2.2.2 v_schema_above v_schema_owners v_schema_kinds v_schema_targets) o.1 A) ([.ref a_t] : List Value).toArray s 0 0 A) (F0 m pc ls [.int o'.1]) := by
    intro o' H locs pc ls he hP hD hS hn hd
    obtain rfl := Option.some.inj he
    exact ob_iret hx hb hr hlk hK hP hD hS hn hd
  generalize MQ below (ObQi D (obT G) (cw_Reader_readHead G a_t a_question_text a_question_text_chars a_question a_schema a_standing a_schema_above a_schema_owners a_schema_kinds a_schema_targets a_question_numbers a_question_kinds a_question_inner a_question_next a_question_left a_question_right o.2.1 o.2.2.1 v_question_text_length v_question_text_chars v_question_nodeCount v_question_root o.2.2.2.1 o.2.2.2.2.1 v_schema_classCount v_schema_fieldCount o.2.2.2.2.2 v_schema_above v_schema_owners v_schema_kinds v_schema_targets) o.1 A) ([.ref a_t] : List Value).toArray s 0 0 A = Q at hret ⊢
  have hl : lv_has ls 2 [(0, .ref a_t)] := hl
  unfold f_Reader_readHead at hf
  have blk167 : ∀ (x167_1 : Int32) (v_place_167 : Int32) (v_ledTo_167 : Int32) (v_question_asked_167 : Int32) (v_question_mode_167 : Int32) (v_standing_167 : Nat → Int32) (ls : Array Slot) (H : Heap) (locs : List Loc), lv_has ls 2 [(0, .ref a_t), (1, .int x167_1)] → va_P D vwCl (cw_Reader_readHead G a_t a_question_text a_question_text_chars a_question a_schema a_standing a_schema_above a_schema_owners a_schema_kinds a_schema_targets a_question_numbers a_question_kinds a_question_inner a_question_next a_question_left a_question_right v_place_167 v_ledTo_167 v_question_text_length v_question_text_chars v_question_nodeCount v_question_root v_question_asked_167 v_question_mode_167 v_schema_classCount v_schema_fieldCount v_standing_167 v_schema_above v_schema_owners v_schema_kinds v_schema_targets) H → va_D A (cw_Reader_readHead G a_t a_question_text a_question_text_chars a_question a_schema a_standing a_schema_above a_schema_owners a_schema_kinds a_schema_targets a_question_numbers a_question_kinds a_question_inner a_question_next a_question_left a_question_right v_place_167 v_ledTo_167 v_question_text_length v_question_text_chars v_question_nodeCount v_question_root v_question_asked_167 v_question_mode_167 v_schema_classCount v_schema_fieldCount v_standing_167 v_schema_above v_schema_owners v_schema_kinds v_schema_targets) → va_S A s.heap H locs → f_Reader_readHead_J167 x167_1 v_place_167 v_ledTo_167 v_question_asked_167 v_question_mode_167 v_standing_167 = some o → W p l e ({ frames := 2, cells := 0, slots := 0, locals := 46 }) s m ([.ref a_t] : List Value).toArray below meth c H locs 0 0 Q (F0 m 167 ls []) := by
    intro x167_1 v_place_167 v_ledTo_167 v_question_asked_167 v_question_mode_167 v_standing_167 ls H locs hl hP hD hS hf
    unfold f_Reader_readHead_J167 at hf
    refine lv_aload_n hx hb d_Reader_readHead_167 rfl (lv_at hl 0 rfl) ?_
    refine lv_iload_n hx hb d_Reader_readHead_168 rfl (lv_at hl 1 rfl) ?_
    refine lv_iconst (v := 1) hx hb d_Reader_readHead_169 (by decide) ?_
    refine lv_iadd hx hb d_Reader_readHead_170 ?_
    refine va_put (D := D) (ci := 8) (v := .int (x167_1 + 1)) (ty := .int) (C := "ObjectBase$Reader") (T := TC_Reader) (N := 6) hx hb hts inC_Reader tyC_Reader tyC_Reader_ok nmC_Reader hown hK hP hD hS 0 rfl rfl 4 (by decide) (hts _ tw179) (fun _ h9 => h9) rfl (by decide +kernel) rfl rfl (Nat.le_of_ble_eq_true rfl) d_Reader_readHead_171 (fun H locs hP hD hS => ?_)
    have hP : va_P D vwCl (cw_Reader_readHead G a_t a_question_text a_question_text_chars a_question a_schema a_standing a_schema_above a_schema_owners a_schema_kinds a_schema_targets a_question_numbers a_question_kinds a_question_inner a_question_next a_question_left a_question_right (x167_1 + 1) v_ledTo_167 v_question_text_length v_question_text_chars v_question_nodeCount v_question_root v_question_asked_167 v_question_mode_167 v_schema_classCount v_schema_fieldCount v_standing_167 v_schema_above v_schema_owners v_schema_kinds v_schema_targets) H := hP
    have hD : va_D A (cw_Reader_readHead G a_t a_question_text a_question_text_chars a_question a_schema a_standing a_schema_above a_schema_owners a_schema_kinds a_schema_targets a_question_numbers a_question_kinds a_question_inner a_question_next a_question_left a_question_right (x167_1 + 1) v_ledTo_167 v_question_text_length v_question_text_chars v_question_nodeCount v_question_root v_question_asked_167 v_question_mode_167 v_schema_classCount v_schema_fieldCount v_standing_167 v_schema_above v_schema_owners v_schema_kinds v_schema_targets) := hD
    refine lv_iconst (v := 1) hx hb d_Reader_readHead_174 (by decide) ?_
    exact hret (1, x167_1 + 1, v_ledTo_167, v_question_asked_167, v_question_mode_167, v_standing_167) H locs _ ls hf hP hD hS narrow_b1 d_Reader_readHead_175
  have blk74 : ∀ (y74_0 : Int32) (v_place_74 : Int32) (v_ledTo_74 : Int32) (v_question_asked_74 : Int32) (v_question_mode_74 : Int32) (v_standing_74 : Nat → Int32) (ls : Array Slot) (H : Heap) (locs : List Loc), lv_has ls 2 [(0, .ref a_t)] → va_P D vwCl (cw_Reader_readHead G a_t a_question_text a_question_text_chars a_question a_schema a_standing a_schema_above a_schema_owners a_schema_kinds a_schema_targets a_question_numbers a_question_kinds a_question_inner a_question_next a_question_left a_question_right v_place_74 v_ledTo_74 v_question_text_length v_question_text_chars v_question_nodeCount v_question_root v_question_asked_74 v_question_mode_74 v_schema_classCount v_schema_fieldCount v_standing_74 v_schema_above v_schema_owners v_schema_kinds v_schema_targets) H → va_D A (cw_Reader_readHead G a_t a_question_text a_question_text_chars a_question a_schema a_standing a_schema_above a_schema_owners a_schema_kinds a_schema_targets a_question_numbers a_question_kinds a_question_inner a_question_next a_question_left a_question_right v_place_74 v_ledTo_74 v_question_text_length v_question_text_chars v_question_nodeCount v_question_root v_question_asked_74 v_question_mode_74 v_schema_classCount v_schema_fieldCount v_standing_74 v_schema_above v_schema_owners v_schema_kinds v_schema_targets) → va_S A s.heap H locs → f_Reader_readHead_J74 v_question_text_length v_question_text_chars v_schema_classCount v_schema_fieldCount v_schema_above v_schema_owners v_schema_kinds v_schema_targets y74_0 v_place_74 v_ledTo_74 v_question_asked_74 v_question_mode_74 v_standing_74 = some o → W p l e ({ frames := 2, cells := 0, slots := 0, locals := 46 }) s m ([.ref a_t] : List Value).toArray below meth c H locs 0 0 Q (F0 m 74 ls [.int y74_0]) := by
    intro y74_0 v_place_74 v_ledTo_74 v_question_asked_74 v_question_mode_74 v_standing_74 ls H locs hl hP hD hS hf
    unfold f_Reader_readHead_J74 at hf
    refine lv_istore_n (lv' := [(1, .int y74_0), (0, .ref a_t)]) hx hb d_Reader_readHead_74 rfl hl (by decide) rfl (fun ls hl => ?_)
    refine lv_aload_n hx hb d_Reader_readHead_75 rfl (lv_at hl 1 rfl) ?_
    refine va_get (D := D) (ci := 8) (v := .ref a_question) (C := "ObjectBase$Reader") (T := TC_Reader) (N := 6) hx hb hts inC_Reader hown hK hP 0 rfl rfl 2 (by decide) (hts _ tw177) (fun _ h9 => h9) rfl d_Reader_readHead_76 ?_
    refine lv_aload_n hx hb d_Reader_readHead_79 rfl (lv_at hl 1 rfl) ?_
    refine va_get (D := D) (ci := 8) (v := .ref a_question_text) (C := "ObjectBase$Reader") (T := TC_Reader) (N := 6) hx hb hts inC_Reader hown hK hP 0 rfl rfl 3 (by decide) (hts _ tw178) (fun _ h9 => h9) rfl d_Reader_readHead_80 ?_
    refine lv_iload_n hx hb d_Reader_readHead_83 rfl (lv_at hl 0 rfl) ?_
    obtain ⟨o84, ho84, hf⟩ := ob_b hf
    have hRun := va_runV (R := ({ frames := 2, cells := 0, slots := 0, locals := 46 })) (locs := locs) (H := H) (l := l) (e := e) (below := below) (meth := meth) (cells := 0) (slots := 0) (g := F0 m 84 ls [.int y74_0, .ref a_question_text, .ref a_question]) (As := [.int y74_0]) (rest := [.ref a_question]) ⟨hx, hb, hml, hown, hts⟩ (c_Text_at l D G a_question_text a_question_text_chars v_question_text_length v_question_text_chars y74_0 o84 ho84 H.size) (cwV 1 hts (gV tw604 tw605 tw606 tw7 tw607) rfl rfl rfl (by decide +kernel) ⟨Nat.le_of_ble_eq_true rfl, Nat.le_of_ble_eq_true rfl⟩) (ob_preV (q0 := 1) (ci := 6) hZ hK hP hD [1, 2] rfl rfl rfl rfl rfl) rfl rfl hl.1 rfl (lv_room (Nat.le_of_ble_eq_true rfl)) d_Reader_readHead_84 ⟨Nat.le_refl _, Nat.le_refl _⟩
    refine ob_calli (wc := (cw_Text_at G a_question_text a_question_text_chars v_question_text_length v_question_text_chars)) (wc1 := (cw_Text_at G a_question_text a_question_text_chars v_question_text_length v_question_text_chars)) (r := o84) (w2 := (cw_Reader_readHead G a_t a_question_text a_question_text_chars a_question a_schema a_standing a_schema_above a_schema_owners a_schema_kinds a_schema_targets a_question_numbers a_question_kinds a_question_inner a_question_next a_question_left a_question_right v_place_74 v_ledTo_74 v_question_text_length v_question_text_chars v_question_nodeCount v_question_root v_question_asked_74 v_question_mode_74 v_schema_classCount v_schema_fieldCount v_standing_74 v_schema_above v_schema_owners v_schema_kinds v_schema_targets)) hRun hP hD hA hS [1, 2] rfl rfl rfl rfl (fun H locs hP hD hS => ?_)
    clear hRun
    refine lv_bipush (v := 65) hx hb d_Reader_readHead_87 (by decide) ?_
    refine lv_isub hx hb d_Reader_readHead_89 ?_
    refine lv_iconst (v := 1) hx hb d_Reader_readHead_90 (by decide) ?_
    refine lv_iadd hx hb d_Reader_readHead_91 ?_
    refine va_put (D := D) (ci := 7) (v := .int ((o84 - 65) + 1)) (ty := .int) (C := "ObjectBase$Question") (T := TC_Question) (N := 11) hx hb hts inC_Question tyC_Question tyC_Question_ok nmC_Question hown hK hP hD hS 3 rfl rfl 9 (by decide) (hts _ tw558) (fun _ h9 => h9) rfl (by decide +kernel) rfl rfl (Nat.le_of_ble_eq_true rfl) d_Reader_readHead_92 (fun H locs hP hD hS => ?_)
    have hP : va_P D vwCl (cw_Reader_readHead G a_t a_question_text a_question_text_chars a_question a_schema a_standing a_schema_above a_schema_owners a_schema_kinds a_schema_targets a_question_numbers a_question_kinds a_question_inner a_question_next a_question_left a_question_right v_place_74 v_ledTo_74 v_question_text_length v_question_text_chars v_question_nodeCount v_question_root ((o84 - 65) + 1) v_question_mode_74 v_schema_classCount v_schema_fieldCount v_standing_74 v_schema_above v_schema_owners v_schema_kinds v_schema_targets) H := hP
    have hD : va_D A (cw_Reader_readHead G a_t a_question_text a_question_text_chars a_question a_schema a_standing a_schema_above a_schema_owners a_schema_kinds a_schema_targets a_question_numbers a_question_kinds a_question_inner a_question_next a_question_left a_question_right v_place_74 v_ledTo_74 v_question_text_length v_question_text_chars v_question_nodeCount v_question_root ((o84 - 65) + 1) v_question_mode_74 v_schema_classCount v_schema_fieldCount v_standing_74 v_schema_above v_schema_owners v_schema_kinds v_schema_targets) := hD
    refine lv_aload_n hx hb d_Reader_readHead_95 rfl (lv_at hl 1 rfl) ?_
    refine va_get (D := D) (ci := 8) (v := .ref a_schema) (C := "ObjectBase$Reader") (T := TC_Reader) (N := 6) hx hb hts inC_Reader hown hK hP 0 rfl rfl 0 (by decide) (hts _ tw175) (fun _ h9 => h9) rfl d_Reader_readHead_96 ?_
    refine lv_aload_n hx hb d_Reader_readHead_99 rfl (lv_at hl 1 rfl) ?_
    refine va_get (D := D) (ci := 8) (v := .ref a_question) (C := "ObjectBase$Reader") (T := TC_Reader) (N := 6) hx hb hts inC_Reader hown hK hP 0 rfl rfl 2 (by decide) (hts _ tw177) (fun _ h9 => h9) rfl d_Reader_readHead_100 ?_
    refine va_get (D := D) (ci := 7) (v := .int ((o84 - 65) + 1)) (C := "ObjectBase$Question") (T := TC_Question) (N := 11) hx hb hts inC_Question hown hK hP 3 rfl rfl 9 (by decide) (hts _ tw558) (fun _ h9 => h9) rfl d_Reader_readHead_103 ?_
    obtain ⟨o106, ho106, hf⟩ := ob_b hf
    have hRun := va_runV (R := ({ frames := 2, cells := 0, slots := 0, locals := 46 })) (locs := locs) (H := H) (l := l) (e := e) (below := below) (meth := meth) (cells := 0) (slots := 0) (g := F0 m 106 ls [.int ((o84 - 65) + 1), .ref a_schema]) (As := [.int ((o84 - 65) + 1)]) (rest := []) ⟨hx, hb, hml, hown, hts⟩ (c_Schema_hasClass l D G a_schema a_schema_above a_schema_owners a_schema_kinds a_schema_targets v_schema_classCount v_schema_fieldCount ((o84 - 65) + 1) o106 ho106 H.size) (cwV 1 hts (gV tw612 tw277 tw278 tw2 tw279) rfl rfl rfl (by decide +kernel) ⟨Nat.le_of_ble_eq_true rfl, Nat.le_of_ble_eq_true rfl⟩) (ob_preV (q0 := 4) (ci := 1) hZ hK hP hD [4] rfl rfl rfl rfl rfl) rfl rfl hl.1 rfl (lv_room (Nat.le_of_ble_eq_true rfl)) d_Reader_readHead_106 ⟨Nat.le_refl _, Nat.le_refl _⟩
    refine ob_calli (wc := (cw_Schema_hasClass G a_schema a_schema_above a_schema_owners a_schema_kinds a_schema_targets v_schema_classCount v_schema_fieldCount)) (wc1 := (cw_Schema_hasClass G a_schema a_schema_above a_schema_owners a_schema_kinds a_schema_targets v_schema_classCount v_schema_fieldCount)) (r := o106) (w2 := (cw_Reader_readHead G a_t a_question_text a_question_text_chars a_question a_schema a_standing a_schema_above a_schema_owners a_schema_kinds a_schema_targets a_question_numbers a_question_kinds a_question_inner a_question_next a_question_left a_question_right v_place_74 v_ledTo_74 v_question_text_length v_question_text_chars v_question_nodeCount v_question_root ((o84 - 65) + 1) v_question_mode_74 v_schema_classCount v_schema_fieldCount v_standing_74 v_schema_above v_schema_owners v_schema_kinds v_schema_targets)) hRun hP hD hA hS [4] rfl rfl rfl rfl (fun H locs hP hD hS => ?_)
    clear hRun
    refine lv_if_ne (tgt := 114) hx hb d_Reader_readHead_109 (by decide) (fun hc109 => ?_) (fun hc109 => ?_)
    · have hf := ob_f hc109 hf
      refine lv_aload_n hx hb d_Reader_readHead_114 rfl (lv_at hl 1 rfl) ?_
      refine va_get (D := D) (ci := 8) (v := .ref a_standing) (C := "ObjectBase$Reader") (T := TC_Reader) (N := 6) hx hb hts inC_Reader hown hK hP 0 rfl rfl 1 (by decide) (hts _ tw176) (fun _ h9 => h9) rfl d_Reader_readHead_115 ?_
      refine lv_iconst (v := 0) hx hb d_Reader_readHead_118 (by decide) ?_
      refine lv_aload_n hx hb d_Reader_readHead_119 rfl (lv_at hl 1 rfl) ?_
      refine va_get (D := D) (ci := 8) (v := .ref a_question) (C := "ObjectBase$Reader") (T := TC_Reader) (N := 6) hx hb hts inC_Reader hown hK hP 0 rfl rfl 2 (by decide) (hts _ tw177) (fun _ h9 => h9) rfl d_Reader_readHead_120 ?_
      refine va_get (D := D) (ci := 7) (v := .int ((o84 - 65) + 1)) (C := "ObjectBase$Question") (T := TC_Question) (N := 11) hx hb hts inC_Question hown hK hP 3 rfl rfl 9 (by decide) (hts _ tw558) (fun _ h9 => h9) rfl d_Reader_readHead_123 ?_
      obtain ⟨hg126, hf⟩ := ob_iv_g hf
      refine va_iast hx hb hK hP hD hS 5 0 rfl rfl hg126 d_Reader_readHead_126 (fun H locs hP hD hS => ?_)
      have hP : va_P D vwCl (cw_Reader_readHead G a_t a_question_text a_question_text_chars a_question a_schema a_standing a_schema_above a_schema_owners a_schema_kinds a_schema_targets a_question_numbers a_question_kinds a_question_inner a_question_next a_question_left a_question_right v_place_74 v_ledTo_74 v_question_text_length v_question_text_chars v_question_nodeCount v_question_root ((o84 - 65) + 1) v_question_mode_74 v_schema_classCount v_schema_fieldCount (upd v_standing_74 (0 : Int32).toNatClampNeg ((o84 - 65) + 1)) v_schema_above v_schema_owners v_schema_kinds v_schema_targets) H := hP
      have hD : va_D A (cw_Reader_readHead G a_t a_question_text a_question_text_chars a_question a_schema a_standing a_schema_above a_schema_owners a_schema_kinds a_schema_targets a_question_numbers a_question_kinds a_question_inner a_question_next a_question_left a_question_right v_place_74 v_ledTo_74 v_question_text_length v_question_text_chars v_question_nodeCount v_question_root ((o84 - 65) + 1) v_question_mode_74 v_schema_classCount v_schema_fieldCount (upd v_standing_74 (0 : Int32).toNatClampNeg ((o84 - 65) + 1)) v_schema_above v_schema_owners v_schema_kinds v_schema_targets) := hD
      refine lv_aload_n hx hb d_Reader_readHead_127 rfl (lv_at hl 1 rfl) ?_
      refine va_get (D := D) (ci := 8) (v := .ref a_standing) (C := "ObjectBase$Reader") (T := TC_Reader) (N := 6) hx hb hts inC_Reader hown hK hP 0 rfl rfl 1 (by decide) (hts _ tw176) (fun _ h9 => h9) rfl d_Reader_readHead_128 ?_
      refine lv_iconst (v := 1) hx hb d_Reader_readHead_131 (by decide) ?_
      refine lv_iconst (v := 0) hx hb d_Reader_readHead_132 (by decide) ?_
      obtain ⟨hg133, hf⟩ := ob_iv_g hf
      refine va_iast hx hb hK hP hD hS 5 0 rfl rfl hg133 d_Reader_readHead_133 (fun H locs hP hD hS => ?_)
      have hP : va_P D vwCl (cw_Reader_readHead G a_t a_question_text a_question_text_chars a_question a_schema a_standing a_schema_above a_schema_owners a_schema_kinds a_schema_targets a_question_numbers a_question_kinds a_question_inner a_question_next a_question_left a_question_right v_place_74 v_ledTo_74 v_question_text_length v_question_text_chars v_question_nodeCount v_question_root ((o84 - 65) + 1) v_question_mode_74 v_schema_classCount v_schema_fieldCount (upd (upd v_standing_74 (0 : Int32).toNatClampNeg ((o84 - 65) + 1)) (1 : Int32).toNatClampNeg 0) v_schema_above v_schema_owners v_schema_kinds v_schema_targets) H := hP
      have hD : va_D A (cw_Reader_readHead G a_t a_question_text a_question_text_chars a_question a_schema a_standing a_schema_above a_schema_owners a_schema_kinds a_schema_targets a_question_numbers a_question_kinds a_question_inner a_question_next a_question_left a_question_right v_place_74 v_ledTo_74 v_question_text_length v_question_text_chars v_question_nodeCount v_question_root ((o84 - 65) + 1) v_question_mode_74 v_schema_classCount v_schema_fieldCount (upd (upd v_standing_74 (0 : Int32).toNatClampNeg ((o84 - 65) + 1)) (1 : Int32).toNatClampNeg 0) v_schema_above v_schema_owners v_schema_kinds v_schema_targets) := hD
      refine lv_aload_n hx hb d_Reader_readHead_134 rfl (lv_at hl 1 rfl) ?_
      refine va_get (D := D) (ci := 8) (v := .ref a_standing) (C := "ObjectBase$Reader") (T := TC_Reader) (N := 6) hx hb hts inC_Reader hown hK hP 0 rfl rfl 1 (by decide) (hts _ tw176) (fun _ h9 => h9) rfl d_Reader_readHead_135 ?_
      refine lv_iconst (v := 2) hx hb d_Reader_readHead_138 (by decide) ?_
      refine lv_iconst (v := 0) hx hb d_Reader_readHead_139 (by decide) ?_
      obtain ⟨hg140, hf⟩ := ob_iv_g hf
      refine va_iast hx hb hK hP hD hS 5 0 rfl rfl hg140 d_Reader_readHead_140 (fun H locs hP hD hS => ?_)
      have hP : va_P D vwCl (cw_Reader_readHead G a_t a_question_text a_question_text_chars a_question a_schema a_standing a_schema_above a_schema_owners a_schema_kinds a_schema_targets a_question_numbers a_question_kinds a_question_inner a_question_next a_question_left a_question_right v_place_74 v_ledTo_74 v_question_text_length v_question_text_chars v_question_nodeCount v_question_root ((o84 - 65) + 1) v_question_mode_74 v_schema_classCount v_schema_fieldCount (upd (upd (upd v_standing_74 (0 : Int32).toNatClampNeg ((o84 - 65) + 1)) (1 : Int32).toNatClampNeg 0) (2 : Int32).toNatClampNeg 0) v_schema_above v_schema_owners v_schema_kinds v_schema_targets) H := hP
      have hD : va_D A (cw_Reader_readHead G a_t a_question_text a_question_text_chars a_question a_schema a_standing a_schema_above a_schema_owners a_schema_kinds a_schema_targets a_question_numbers a_question_kinds a_question_inner a_question_next a_question_left a_question_right v_place_74 v_ledTo_74 v_question_text_length v_question_text_chars v_question_nodeCount v_question_root ((o84 - 65) + 1) v_question_mode_74 v_schema_classCount v_schema_fieldCount (upd (upd (upd v_standing_74 (0 : Int32).toNatClampNeg ((o84 - 65) + 1)) (1 : Int32).toNatClampNeg 0) (2 : Int32).toNatClampNeg 0) v_schema_above v_schema_owners v_schema_kinds v_schema_targets) := hD
      refine lv_aload_n hx hb d_Reader_readHead_141 rfl (lv_at hl 1 rfl) ?_
      refine lv_iconst (v := 1) hx hb d_Reader_readHead_142 (by decide) ?_
      refine va_put (D := D) (ci := 8) (v := .int 1) (ty := .int) (C := "ObjectBase$Reader") (T := TC_Reader) (N := 6) hx hb hts inC_Reader tyC_Reader tyC_Reader_ok nmC_Reader hown hK hP hD hS 0 rfl rfl 4 (by decide) (hts _ tw179) (fun _ h9 => h9) rfl (by decide +kernel) rfl rfl (Nat.le_of_ble_eq_true rfl) d_Reader_readHead_143 (fun H locs hP hD hS => ?_)
      have hP : va_P D vwCl (cw_Reader_readHead G a_t a_question_text a_question_text_chars a_question a_schema a_standing a_schema_above a_schema_owners a_schema_kinds a_schema_targets a_question_numbers a_question_kinds a_question_inner a_question_next a_question_left a_question_right 1 v_ledTo_74 v_question_text_length v_question_text_chars v_question_nodeCount v_question_root ((o84 - 65) + 1) v_question_mode_74 v_schema_classCount v_schema_fieldCount (upd (upd (upd v_standing_74 (0 : Int32).toNatClampNeg ((o84 - 65) + 1)) (1 : Int32).toNatClampNeg 0) (2 : Int32).toNatClampNeg 0) v_schema_above v_schema_owners v_schema_kinds v_schema_targets) H := hP
      have hD : va_D A (cw_Reader_readHead G a_t a_question_text a_question_text_chars a_question a_schema a_standing a_schema_above a_schema_owners a_schema_kinds a_schema_targets a_question_numbers a_question_kinds a_question_inner a_question_next a_question_left a_question_right 1 v_ledTo_74 v_question_text_length v_question_text_chars v_question_nodeCount v_question_root ((o84 - 65) + 1) v_question_mode_74 v_schema_classCount v_schema_fieldCount (upd (upd (upd v_standing_74 (0 : Int32).toNatClampNeg ((o84 - 65) + 1)) (1 : Int32).toNatClampNeg 0) (2 : Int32).toNatClampNeg 0) v_schema_above v_schema_owners v_schema_kinds v_schema_targets) := hD
      refine lv_aload_n hx hb d_Reader_readHead_146 rfl (lv_at hl 1 rfl) ?_
      refine va_get (D := D) (ci := 8) (v := .ref a_question) (C := "ObjectBase$Reader") (T := TC_Reader) (N := 6) hx hb hts inC_Reader hown hK hP 0 rfl rfl 2 (by decide) (hts _ tw177) (fun _ h9 => h9) rfl d_Reader_readHead_147 ?_
      refine va_get (D := D) (ci := 7) (v := .int v_question_mode_74) (C := "ObjectBase$Question") (T := TC_Question) (N := 11) hx hb hts inC_Question hown hK hP 3 rfl rfl 10 (by decide) (hts _ tw561) (fun _ h9 => h9) rfl d_Reader_readHead_150 ?_
      refine lv_bipush (v := 43) hx hb d_Reader_readHead_153 (by decide) ?_
      refine lv_icmp_ne (tgt := 167) hx hb d_Reader_readHead_155 (by decide) (fun hc155 => ?_) (fun hc155 => ?_)
      · have hf := ob_f hc155 hf
        exact blk167 y74_0 1 v_ledTo_74 ((o84 - 65) + 1) v_question_mode_74 (upd (upd (upd v_standing_74 (0 : Int32).toNatClampNeg ((o84 - 65) + 1)) (1 : Int32).toNatClampNeg 0) (2 : Int32).toNatClampNeg 0) ls H locs (lv_sub hl [1, 0] rfl) hP hD hS hf
      · have hf := ob_t hc155 hf
        refine lv_aload_n hx hb d_Reader_readHead_158 rfl (lv_at hl 1 rfl) ?_
        obtain ⟨o159, ho159, hf⟩ := ob_b hf
        have hRun := va_runV (R := ({ frames := 2, cells := 0, slots := 0, locals := 46 })) (locs := locs) (H := H) (l := l) (e := e) (below := below) (meth := meth) (cells := 0) (slots := 0) (g := F0 m 159 ls [.ref a_t]) (As := []) (rest := []) ⟨hx, hb, hml, hown, hts⟩ (c_Reader_readPath l D G a_t a_question a_question_text a_question_text_chars a_standing a_schema a_schema_above a_schema_owners a_schema_kinds a_schema_targets a_question_numbers a_question_kinds a_question_inner a_question_next a_question_left a_question_right 1 v_ledTo_74 v_question_nodeCount v_question_root ((o84 - 65) + 1) v_question_mode_74 v_question_text_length v_question_text_chars (upd (upd (upd v_standing_74 (0 : Int32).toNatClampNeg ((o84 - 65) + 1)) (1 : Int32).toNatClampNeg 0) (2 : Int32).toNatClampNeg 0) v_schema_classCount v_schema_fieldCount v_schema_above v_schema_owners v_schema_kinds v_schema_targets o159 ho159 H.size) (cwV 0 hts (gV tw613 tw615 tp8 tw8 tw616) rfl rfl rfl (by decide +kernel) ⟨Nat.le_of_ble_eq_true rfl, Nat.le_of_ble_eq_true rfl⟩) (ob_preV (q0 := 0) (ci := 8) hZ hK hP hD [0, 3, 1, 2, 5, 4, 6, 7, 8, 9] rfl rfl rfl rfl rfl) rfl rfl hl.1 rfl (lv_room (Nat.le_of_ble_eq_true rfl)) d_Reader_readHead_159 ⟨Nat.le_refl _, Nat.le_refl _⟩
        refine ob_calli (wc := (cw_Reader_readPath G a_t a_question a_question_text a_question_text_chars a_standing a_schema a_schema_above a_schema_owners a_schema_kinds a_schema_targets a_question_numbers a_question_kinds a_question_inner a_question_next a_question_left a_question_right 1 v_ledTo_74 v_question_nodeCount v_question_root ((o84 - 65) + 1) v_question_mode_74 v_question_text_length v_question_text_chars (upd (upd (upd v_standing_74 (0 : Int32).toNatClampNeg ((o84 - 65) + 1)) (1 : Int32).toNatClampNeg 0) (2 : Int32).toNatClampNeg 0) v_schema_classCount v_schema_fieldCount v_schema_above v_schema_owners v_schema_kinds v_schema_targets)) (wc1 := (cw_Reader_readPath G a_t a_question a_question_text a_question_text_chars a_standing a_schema a_schema_above a_schema_owners a_schema_kinds a_schema_targets a_question_numbers a_question_kinds a_question_inner a_question_next a_question_left a_question_right o159.2.1 o159.2.2 v_question_nodeCount v_question_root ((o84 - 65) + 1) v_question_mode_74 v_question_text_length v_question_text_chars (upd (upd (upd v_standing_74 (0 : Int32).toNatClampNeg ((o84 - 65) + 1)) (1 : Int32).toNatClampNeg 0) (2 : Int32).toNatClampNeg 0) v_schema_classCount v_schema_fieldCount v_schema_above v_schema_owners v_schema_kinds v_schema_targets)) (r := o159.1) (w2 := (cw_Reader_readHead G a_t a_question_text a_question_text_chars a_question a_schema a_standing a_schema_above a_schema_owners a_schema_kinds a_schema_targets a_question_numbers a_question_kinds a_question_inner a_question_next a_question_left a_question_right o159.2.1 o159.2.2 v_question_text_length v_question_text_chars v_question_nodeCount v_question_root ((o84 - 65) + 1) v_question_mode_74 v_schema_classCount v_schema_fieldCount (upd (upd (upd v_standing_74 (0 : Int32).toNatClampNeg ((o84 - 65) + 1)) (1 : Int32).toNatClampNeg 0) (2 : Int32).toNatClampNeg 0) v_schema_above v_schema_owners v_schema_kinds v_schema_targets)) hRun hP hD hA hS [0, 3, 1, 2, 5, 4, 6, 7, 8, 9] rfl rfl rfl rfl (fun H locs hP hD hS => ?_)
        clear hRun
        refine lv_if_eq (tgt := 167) hx hb d_Reader_readHead_162 (by decide) (fun hc162 => ?_) (fun hc162 => ?_)
        · have hf := ob_t hc162 hf
          exact blk167 y74_0 o159.2.1 o159.2.2 ((o84 - 65) + 1) v_question_mode_74 (upd (upd (upd v_standing_74 (0 : Int32).toNatClampNeg ((o84 - 65) + 1)) (1 : Int32).toNatClampNeg 0) (2 : Int32).toNatClampNeg 0) ls H locs (lv_sub hl [1, 0] rfl) hP hD hS hf
        · have hf := ob_f hc162 hf
          refine lv_iconst (v := 0) hx hb d_Reader_readHead_165 (by decide) ?_
          exact hret (0, o159.2.1, o159.2.2, (o84 - 65) + 1, v_question_mode_74, upd (upd (upd v_standing_74 (0 : Int32).toNatClampNeg ((o84 - 65) + 1)) (1 : Int32).toNatClampNeg 0) (2 : Int32).toNatClampNeg 0) H locs _ ls hf hP hD hS narrow_b0 d_Reader_readHead_166
    · have hf := ob_t hc109 hf
      refine lv_iconst (v := 0) hx hb d_Reader_readHead_112 (by decide) ?_
      exact hret (0, v_place_74, v_ledTo_74, (o84 - 65) + 1, v_question_mode_74, v_standing_74) H locs _ ls hf hP hD hS narrow_b0 d_Reader_readHead_113
  have blk53 : ∀ (v_place_53 : Int32) (v_ledTo_53 : Int32) (v_question_asked_53 : Int32) (v_question_mode_53 : Int32) (v_standing_53 : Nat → Int32) (ls : Array Slot) (H : Heap) (locs : List Loc), lv_has ls 2 [(0, .ref a_t)] → va_P D vwCl (cw_Reader_readHead G a_t a_question_text a_question_text_chars a_question a_schema a_standing a_schema_above a_schema_owners a_schema_kinds a_schema_targets a_question_numbers a_question_kinds a_question_inner a_question_next a_question_left a_question_right v_place_53 v_ledTo_53 v_question_text_length v_question_text_chars v_question_nodeCount v_question_root v_question_asked_53 v_question_mode_53 v_schema_classCount v_schema_fieldCount v_standing_53 v_schema_above v_schema_owners v_schema_kinds v_schema_targets) H → va_D A (cw_Reader_readHead G a_t a_question_text a_question_text_chars a_question a_schema a_standing a_schema_above a_schema_owners a_schema_kinds a_schema_targets a_question_numbers a_question_kinds a_question_inner a_question_next a_question_left a_question_right v_place_53 v_ledTo_53 v_question_text_length v_question_text_chars v_question_nodeCount v_question_root v_question_asked_53 v_question_mode_53 v_schema_classCount v_schema_fieldCount v_standing_53 v_schema_above v_schema_owners v_schema_kinds v_schema_targets) → va_S A s.heap H locs → f_Reader_readHead_J53 v_question_text_length v_question_text_chars v_schema_classCount v_schema_fieldCount v_schema_above v_schema_owners v_schema_kinds v_schema_targets v_place_53 v_ledTo_53 v_question_asked_53 v_question_mode_53 v_standing_53 = some o → W p l e ({ frames := 2, cells := 0, slots := 0, locals := 46 }) s m ([.ref a_t] : List Value).toArray below meth c H locs 0 0 Q (F0 m 53 ls []) := by
    intro v_place_53 v_ledTo_53 v_question_asked_53 v_question_mode_53 v_standing_53 ls H locs hl hP hD hS hf
    unfold f_Reader_readHead_J53 at hf
    refine lv_aload_n hx hb d_Reader_readHead_53 rfl (lv_at hl 0 rfl) ?_
    refine va_get (D := D) (ci := 8) (v := .ref a_question) (C := "ObjectBase$Reader") (T := TC_Reader) (N := 6) hx hb hts inC_Reader hown hK hP 0 rfl rfl 2 (by decide) (hts _ tw177) (fun _ h9 => h9) rfl d_Reader_readHead_54 ?_
    refine va_get (D := D) (ci := 7) (v := .int v_question_mode_53) (C := "ObjectBase$Question") (T := TC_Question) (N := 11) hx hb hts inC_Question hown hK hP 3 rfl rfl 10 (by decide) (hts _ tw561) (fun _ h9 => h9) rfl d_Reader_readHead_57 ?_
    refine lv_bipush (v := 43) hx hb d_Reader_readHead_60 (by decide) ?_
    refine lv_icmp_ne (tgt := 73) hx hb d_Reader_readHead_62 (by decide) (fun hc62 => ?_) (fun hc62 => ?_)
    · have hf := ob_f hc62 hf
      refine lv_iconst (v := 1) hx hb d_Reader_readHead_73 (by decide) ?_
      exact blk74 1 v_place_53 v_ledTo_53 v_question_asked_53 v_question_mode_53 v_standing_53 ls H locs (lv_sub hl [0] rfl) hP hD hS hf
    · have hf := ob_t hc62 hf
      refine lv_aload_n hx hb d_Reader_readHead_65 rfl (lv_at hl 0 rfl) ?_
      refine lv_iconst (v := 1) hx hb d_Reader_readHead_66 (by decide) ?_
      obtain ⟨o67, ho67, hf⟩ := ob_b hf
      have hRun := va_runV (R := ({ frames := 2, cells := 0, slots := 0, locals := 46 })) (locs := locs) (H := H) (l := l) (e := e) (below := below) (meth := meth) (cells := 0) (slots := 0) (g := F0 m 67 ls [.int 1, .ref a_t]) (As := [.int 1]) (rest := []) ⟨hx, hb, hml, hown, hts⟩ (c_Reader_endOfPath l D G a_t a_question_text a_question_text_chars a_schema a_standing a_question v_place_53 v_ledTo_53 v_question_text_length v_question_text_chars 1 o67 ho67 H.size) (cwV 1 hts (gV tw608 tw610 tp7 tw8 tw611) rfl rfl rfl (by decide +kernel) ⟨Nat.le_of_ble_eq_true rfl, Nat.le_of_ble_eq_true rfl⟩) (ob_preV (q0 := 0) (ci := 8) hZ hK hP hD [0, 1, 2] rfl rfl rfl rfl rfl) rfl rfl hl.1 rfl (lv_room (Nat.le_of_ble_eq_true rfl)) d_Reader_readHead_67 ⟨Nat.le_refl _, Nat.le_refl _⟩
      refine ob_calli (wc := (cw_Reader_endOfPath G a_t a_question_text a_question_text_chars a_schema a_standing a_question v_place_53 v_ledTo_53 v_question_text_length v_question_text_chars)) (wc1 := (cw_Reader_endOfPath G a_t a_question_text a_question_text_chars a_schema a_standing a_question v_place_53 v_ledTo_53 v_question_text_length v_question_text_chars)) (r := o67) (w2 := (cw_Reader_readHead G a_t a_question_text a_question_text_chars a_question a_schema a_standing a_schema_above a_schema_owners a_schema_kinds a_schema_targets a_question_numbers a_question_kinds a_question_inner a_question_next a_question_left a_question_right v_place_53 v_ledTo_53 v_question_text_length v_question_text_chars v_question_nodeCount v_question_root v_question_asked_53 v_question_mode_53 v_schema_classCount v_schema_fieldCount v_standing_53 v_schema_above v_schema_owners v_schema_kinds v_schema_targets)) hRun hP hD hA hS [0, 1, 2] rfl rfl rfl rfl (fun H locs hP hD hS => ?_)
      clear hRun
      refine lv_goto (tgt := 74) hx hb d_Reader_readHead_70 (by decide) ?_
      exact blk74 o67 v_place_53 v_ledTo_53 v_question_asked_53 v_question_mode_53 v_standing_53 ls H locs (lv_sub hl [0] rfl) hP hD hS hf
  refine lv_aload_n hx hb d_Reader_readHead_0 rfl (lv_at hl 0 rfl) ?_
  refine va_get (D := D) (ci := 8) (v := .ref a_question) (C := "ObjectBase$Reader") (T := TC_Reader) (N := 6) hx hb hts inC_Reader hown hK hP 0 rfl rfl 2 (by decide) (hts _ tw177) (fun _ h9 => h9) rfl d_Reader_readHead_1 ?_
  refine lv_aload_n hx hb d_Reader_readHead_4 rfl (lv_at hl 0 rfl) ?_
  refine va_get (D := D) (ci := 8) (v := .ref a_question_text) (C := "ObjectBase$Reader") (T := TC_Reader) (N := 6) hx hb hts inC_Reader hown hK hP 0 rfl rfl 3 (by decide) (hts _ tw178) (fun _ h9 => h9) rfl d_Reader_readHead_5 ?_
  refine lv_iconst (v := 0) hx hb d_Reader_readHead_8 (by decide) ?_
  obtain ⟨o9, ho9, hf⟩ := ob_b hf
  have hRun := va_runV (R := ({ frames := 2, cells := 0, slots := 0, locals := 46 })) (locs := locs) (H := H) (l := l) (e := e) (below := below) (meth := meth) (cells := 0) (slots := 0) (g := F0 m 9 ls [.int 0, .ref a_question_text, .ref a_question]) (As := [.int 0]) (rest := [.ref a_question]) ⟨hx, hb, hml, hown, hts⟩ (c_Text_at l D G a_question_text a_question_text_chars v_question_text_length v_question_text_chars 0 o9 ho9 H.size) (cwV 1 hts (gV tw604 tw605 tw606 tw7 tw607) rfl rfl rfl (by decide +kernel) ⟨Nat.le_of_ble_eq_true rfl, Nat.le_of_ble_eq_true rfl⟩) (ob_preV (q0 := 1) (ci := 6) hZ hK hP hD [1, 2] rfl rfl rfl rfl rfl) rfl rfl hl.1 rfl (lv_room (Nat.le_of_ble_eq_true rfl)) d_Reader_readHead_9 ⟨Nat.le_refl _, Nat.le_refl _⟩
  refine ob_calli (wc := (cw_Text_at G a_question_text a_question_text_chars v_question_text_length v_question_text_chars)) (wc1 := (cw_Text_at G a_question_text a_question_text_chars v_question_text_length v_question_text_chars)) (r := o9) (w2 := (cw_Reader_readHead G a_t a_question_text a_question_text_chars a_question a_schema a_standing a_schema_above a_schema_owners a_schema_kinds a_schema_targets a_question_numbers a_question_kinds a_question_inner a_question_next a_question_left a_question_right v_place v_ledTo v_question_text_length v_question_text_chars v_question_nodeCount v_question_root v_question_asked v_question_mode v_schema_classCount v_schema_fieldCount v_standing v_schema_above v_schema_owners v_schema_kinds v_schema_targets)) hRun hP hD hA hS [1, 2] rfl rfl rfl rfl (fun H locs hP hD hS => ?_)
  clear hRun
  obtain ⟨hg12, hf⟩ := ob_nc_g hf
  refine va_put (D := D) (ci := 7) (v := .int o9) (ty := .char) (C := "ObjectBase$Question") (T := TC_Question) (N := 11) hx hb hts inC_Question tyC_Question tyC_Question_ok nmC_Question hown hK hP hD hS 3 rfl rfl 10 (by decide) (hts _ tw561) (fun _ h9 => h9) rfl (by decide +kernel) hg12.1 hg12.2 (Nat.le_of_ble_eq_true rfl) d_Reader_readHead_12 (fun H locs hP hD hS => ?_)
  have hP : va_P D vwCl (cw_Reader_readHead G a_t a_question_text a_question_text_chars a_question a_schema a_standing a_schema_above a_schema_owners a_schema_kinds a_schema_targets a_question_numbers a_question_kinds a_question_inner a_question_next a_question_left a_question_right v_place v_ledTo v_question_text_length v_question_text_chars v_question_nodeCount v_question_root v_question_asked o9 v_schema_classCount v_schema_fieldCount v_standing v_schema_above v_schema_owners v_schema_kinds v_schema_targets) H := hP
  have hD : va_D A (cw_Reader_readHead G a_t a_question_text a_question_text_chars a_question a_schema a_standing a_schema_above a_schema_owners a_schema_kinds a_schema_targets a_question_numbers a_question_kinds a_question_inner a_question_next a_question_left a_question_right v_place v_ledTo v_question_text_length v_question_text_chars v_question_nodeCount v_question_root v_question_asked o9 v_schema_classCount v_schema_fieldCount v_standing v_schema_above v_schema_owners v_schema_kinds v_schema_targets) := hD
  refine lv_aload_n hx hb d_Reader_readHead_15 rfl (lv_at hl 0 rfl) ?_
  refine va_get (D := D) (ci := 8) (v := .ref a_question) (C := "ObjectBase$Reader") (T := TC_Reader) (N := 6) hx hb hts inC_Reader hown hK hP 0 rfl rfl 2 (by decide) (hts _ tw177) (fun _ h9 => h9) rfl d_Reader_readHead_16 ?_
  refine va_get (D := D) (ci := 7) (v := .int o9) (C := "ObjectBase$Question") (T := TC_Question) (N := 11) hx hb hts inC_Question hown hK hP 3 rfl rfl 10 (by decide) (hts _ tw561) (fun _ h9 => h9) rfl d_Reader_readHead_19 ?_
  refine lv_bipush (v := 42) hx hb d_Reader_readHead_22 (by decide) ?_
  refine lv_icmp_eq (tgt := 53) hx hb d_Reader_readHead_24 (by decide) (fun hc24 => ?_) (fun hc24 => ?_)
  · have hf := ob_t hc24 hf
    exact blk53 v_place v_ledTo v_question_asked o9 v_standing ls H locs (lv_sub hl [0] rfl) hP hD hS hf
  · have hf := ob_f hc24 hf
    refine lv_aload_n hx hb d_Reader_readHead_27 rfl (lv_at hl 0 rfl) ?_
    refine va_get (D := D) (ci := 8) (v := .ref a_question) (C := "ObjectBase$Reader") (T := TC_Reader) (N := 6) hx hb hts inC_Reader hown hK hP 0 rfl rfl 2 (by decide) (hts _ tw177) (fun _ h9 => h9) rfl d_Reader_readHead_28 ?_
    refine va_get (D := D) (ci := 7) (v := .int o9) (C := "ObjectBase$Question") (T := TC_Question) (N := 11) hx hb hts inC_Question hown hK hP 3 rfl rfl 10 (by decide) (hts _ tw561) (fun _ h9 => h9) rfl d_Reader_readHead_31 ?_
    refine lv_bipush (v := 35) hx hb d_Reader_readHead_34 (by decide) ?_
    refine lv_icmp_eq (tgt := 53) hx hb d_Reader_readHead_36 (by decide) (fun hc36 => ?_) (fun hc36 => ?_)
    · have hf := ob_t hc36 hf
      exact blk53 v_place v_ledTo v_question_asked o9 v_standing ls H locs (lv_sub hl [0] rfl) hP hD hS hf
    · have hf := ob_f hc36 hf
      refine lv_aload_n hx hb d_Reader_readHead_39 rfl (lv_at hl 0 rfl) ?_
      refine va_get (D := D) (ci := 8) (v := .ref a_question) (C := "ObjectBase$Reader") (T := TC_Reader) (N := 6) hx hb hts inC_Reader hown hK hP 0 rfl rfl 2 (by decide) (hts _ tw177) (fun _ h9 => h9) rfl d_Reader_readHead_40 ?_
      refine va_get (D := D) (ci := 7) (v := .int o9) (C := "ObjectBase$Question") (T := TC_Question) (N := 11) hx hb hts inC_Question hown hK hP 3 rfl rfl 10 (by decide) (hts _ tw561) (fun _ h9 => h9) rfl d_Reader_readHead_43 ?_
      refine lv_bipush (v := 43) hx hb d_Reader_readHead_46 (by decide) ?_
      refine lv_icmp_eq (tgt := 53) hx hb d_Reader_readHead_48 (by decide) (fun hc48 => ?_) (fun hc48 => ?_)
      · have hf := ob_t hc48 hf
        exact blk53 v_place v_ledTo v_question_asked o9 v_standing ls H locs (lv_sub hl [0] rfl) hP hD hS hf
      · have hf := ob_f hc48 hf
        refine lv_iconst (v := 0) hx hb d_Reader_readHead_51 (by decide) ?_
        exact hret (0, v_place, v_ledTo, v_question_asked, o9, v_standing) H locs _ ls hf hP hD hS narrow_b0 d_Reader_readHead_52
