abbrev bc_Reader_endOfPath : ByteArray := prog_9_method_4_code
abbrev y_Reader_endOfPath : MethodName := ⟨"ObjectBase$Reader", "endOfPath", "(I)I"⟩
def ws_Reader_endOfPath : List Cond := .code y_Reader_endOfPath bc_Reader_endOfPath 4 (some .int) :: obW
theorem d_Reader_endOfPath_0 : decode bc_Reader_endOfPath 0 = .ok (.iload_n 1, 1) := by decide +kernel
theorem d_Reader_endOfPath_1 : decode bc_Reader_endOfPath 1 = .ok (.iconst 1, 1) := by decide +kernel
theorem d_Reader_endOfPath_2 : decode bc_Reader_endOfPath 2 = .ok (.iadd, 1) := by decide +kernel
theorem d_Reader_endOfPath_3 : decode bc_Reader_endOfPath 3 = .ok (.istore_n 2, 1) := by decide +kernel
theorem d_Reader_endOfPath_4 : decode bc_Reader_endOfPath 4 = .ok (.iconst 0, 1) := by decide +kernel
theorem d_Reader_endOfPath_5 : decode bc_Reader_endOfPath 5 = .ok (.istore_n 3, 1) := by decide +kernel
theorem d_Reader_endOfPath_6 : decode bc_Reader_endOfPath 6 = .ok (.iload_n 3, 1) := by decide +kernel
theorem d_Reader_endOfPath_7 : decode bc_Reader_endOfPath 7 = .ok (.bipush 60, 2) := by decide +kernel
theorem d_Reader_endOfPath_9 : decode bc_Reader_endOfPath 9 = .ok (.if_icmp .ge 25, 3) := by decide +kernel
theorem d_Reader_endOfPath_12 : decode bc_Reader_endOfPath 12 = .ok (.aload_n 0, 1) := by decide +kernel
theorem d_Reader_endOfPath_13 : decode bc_Reader_endOfPath 13 = .ok (.getfield 29, 3) := by decide +kernel
theorem d_Reader_endOfPath_16 : decode bc_Reader_endOfPath 16 = .ok (.iload_n 2, 1) := by decide +kernel
theorem d_Reader_endOfPath_17 : decode bc_Reader_endOfPath 17 = .ok (.invokevirtual 57, 3) := by decide +kernel
theorem d_Reader_endOfPath_20 : decode bc_Reader_endOfPath 20 = .ok (.bipush 46, 2) := by decide +kernel
theorem d_Reader_endOfPath_22 : decode bc_Reader_endOfPath 22 = .ok (.if_icmp .ne 12, 3) := by decide +kernel
theorem d_Reader_endOfPath_25 : decode bc_Reader_endOfPath 25 = .ok (.iinc 2 2, 3) := by decide +kernel
theorem d_Reader_endOfPath_28 : decode bc_Reader_endOfPath 28 = .ok (.iinc 3 1, 3) := by decide +kernel
theorem d_Reader_endOfPath_31 : decode bc_Reader_endOfPath 31 = .ok (.goto (-25), 3) := by decide +kernel
theorem d_Reader_endOfPath_34 : decode bc_Reader_endOfPath 34 = .ok (.iload_n 2, 1) := by decide +kernel
theorem d_Reader_endOfPath_35 : decode bc_Reader_endOfPath 35 = .ok (.ireturn, 1) := by decide +kernel
def cw_Reader_endOfPath (G : Nat → ClassId) (a_t a_question_text a_question_text_chars a_schema a_standing a_question : Nat) (v_place : Int32) (v_ledTo : Int32) (v_question_text_length : Int32) (v_question_text_chars : Nat → Int32) : va_W := [(a_t, .inr (8, [.ref a_schema, .ref a_standing, .ref a_question, .ref a_question_text, .int v_place, .int v_ledTo])), (a_question_text, .inr (6, [.ref a_question_text_chars, .int v_question_text_length])), (a_question_text_chars, .inl (G 2, 60, .inl v_question_text_chars))]
def f_Reader_endOfPath_B6 (v_question_text_length : Int32) (v_question_text_chars : Nat → Int32) (k6 : Int32 → Int32 → Option (Int32)) (x6_2 : Int32) (x6_3 : Int32) : Option (Int32) := if 60 ≤ x6_3 then (some x6_2) else ((f_Text_at v_question_text_length v_question_text_chars x6_2).bind fun o17 => (if o17 = 46 then (k6 (x6_2 + 2) (x6_3 + 1)) else (some x6_2)))
def f_Reader_endOfPath_L6 (v_question_text_length : Int32) (v_question_text_chars : Nat → Int32) : Nat → Int32 → Int32 → Option (Int32) := ob_lp2 (f_Reader_endOfPath_B6 v_question_text_length v_question_text_chars)
def f_Reader_endOfPath (v_question_text_length : Int32) (v_question_text_chars : Nat → Int32) (p1 : Int32) : Option (Int32) := f_Reader_endOfPath_L6 v_question_text_length v_question_text_chars 1000 (p1 + 1) 0
set_option maxHeartbeats 4000000 in
set_option maxRecDepth 100000 in
theorem c_Reader_endOfPath (l : Launch) (D : va_G) (G : Nat → ClassId) (a_t a_question_text a_question_text_chars a_schema a_standing a_question : Nat) (v_place : Int32) (v_ledTo : Int32) (v_question_text_length : Int32) (v_question_text_chars : Nat → Int32) (p1 : Int32) (o : Int32) (hf : f_Reader_endOfPath v_question_text_length v_question_text_chars p1 = some o) (sz : Nat) : MetI l y_Reader_endOfPath ws_Reader_endOfPath ({ frames := 1, cells := 0, slots := 0, locals := 21 }) D (obT G) (cw_Reader_endOfPath G a_t a_question_text a_question_text_chars a_schema a_standing a_question v_place v_ledTo v_question_text_length v_question_text_chars) (cw_Reader_endOfPath G a_t a_question_text a_question_text_chars a_schema a_standing a_question v_place v_ledTo v_question_text_length v_question_text_chars) [.ref a_t, .int p1] o sz := by
  refine ob_of (cc := bc_Reader_endOfPath) (maxL := 4) (ret := (some .int)) (Qc := ObQi D (obT G) (cw_Reader_endOfPath G a_t a_question_text a_question_text_chars a_schema a_standing a_question v_place v_ledTo v_question_text_length v_question_text_chars) o) (by decide) rfl (Nat.le_of_ble_eq_true rfl) ?_
  intro p e s m below meth c A ls H locs hx hb hr hml hts hown hlk hnm hZ hP hK hD hA hS hl
  have hret : ∀ (o' : Int32) (H : Heap) (locs : List Loc) (pc : Nat) (ls : Array Slot), some o' = some o → va_P D vwCl (cw_Reader_endOfPath G a_t a_question_text a_question_text_chars a_schema a_standing a_question v_place v_ledTo v_question_text_length v_question_text_chars) H → va_D A (cw_Reader_endOfPath G a_t a_question_text a_question_text_chars a_schema a_standing a_question v_place v_ledTo v_question_text_length v_question_text_chars) → va_S A s.heap H locs → narrow .int (.int o') = .int o' → decode bc_Reader_endOfPath pc = .ok (.ireturn, 1) → W p l e { frames := 1, cells := 0, slots := 0, locals := 21 } s m ([.ref a_t, .int p1] : List Value).toArray below meth c H locs 0 0 (MQ below (ObQi D (obT G) (cw_Reader_endOfPath G a_t a_question_text a_question_text_chars a_schema a_standing a_question v_place v_ledTo v_question_text_length v_question_text_chars) o A) ([.ref a_t, .int p1] : List Value).toArray s 0 0 A) (F0 m pc ls [.int o']) := by
    intro o' H locs pc ls he hP hD hS hn hd
    obtain rfl := Option.some.inj he
    exact ob_iret hx hb hr hlk hK hP hD hS hn hd
  generalize MQ below (ObQi D (obT G) (cw_Reader_endOfPath G a_t a_question_text a_question_text_chars a_schema a_standing a_question v_place v_ledTo v_question_text_length v_question_text_chars) o A) ([.ref a_t, .int p1] : List Value).toArray s 0 0 A = Q at hret ⊢
  have hl : lv_has ls 4 [(0, .ref a_t), (1, .int p1)] := hl
  unfold f_Reader_endOfPath at hf
  have loop6 : ∀ (n6 : Nat) (x6_2 : Int32) (x6_3 : Int32) (ls : Array Slot) (H : Heap) (locs : List Loc), lv_has ls 4 [(0, .ref a_t), (2, .int x6_2), (3, .int x6_3)] → va_P D vwCl (cw_Reader_endOfPath G a_t a_question_text a_question_text_chars a_schema a_standing a_question v_place v_ledTo v_question_text_length v_question_text_chars) H → va_D A (cw_Reader_endOfPath G a_t a_question_text a_question_text_chars a_schema a_standing a_question v_place v_ledTo v_question_text_length v_question_text_chars) → va_S A s.heap H locs → f_Reader_endOfPath_L6 v_question_text_length v_question_text_chars n6 x6_2 x6_3 = some o → W p l e ({ frames := 1, cells := 0, slots := 0, locals := 21 }) s m ([.ref a_t, .int p1] : List Value).toArray below meth c H locs 0 0 Q (F0 m 6 ls []) := by
    intro n6
    induction n6 with
    | zero => intro x6_2 x6_3 ls H locs hl hP hD hS hf; exact ob_no hf
    | succ n6 ih6 =>
      intro x6_2 x6_3 ls H locs hl hP hD hS hf
      have hf : f_Reader_endOfPath_B6 v_question_text_length v_question_text_chars (f_Reader_endOfPath_L6 v_question_text_length v_question_text_chars n6) x6_2 x6_3 = some o := hf
      unfold f_Reader_endOfPath_B6 at hf
      refine lv_iload_n hx hb d_Reader_endOfPath_6 rfl (lv_at hl 2 rfl) ?_
      refine lv_bipush (v := 60) hx hb d_Reader_endOfPath_7 (by decide) ?_
      refine lv_icmp_ge (tgt := 34) hx hb d_Reader_endOfPath_9 (by decide) (fun hc9 => ?_) (fun hc9 => ?_)
      · have hf := ob_t hc9 hf
        refine lv_iload_n hx hb d_Reader_endOfPath_34 rfl (lv_at hl 1 rfl) ?_
        exact hret x6_2 H locs _ ls hf hP hD hS rfl d_Reader_endOfPath_35
      · have hf := ob_f hc9 hf
        refine lv_aload_n hx hb d_Reader_endOfPath_12 rfl (lv_at hl 0 rfl) ?_
        refine va_get (D := D) (ci := 8) (v := .ref a_question_text) (C := "ObjectBase$Reader") (T := TC_Reader) (N := 6) hx hb hts inC_Reader hown hK hP 0 rfl rfl 3 (by decide) (hts _ tw178) (fun _ h9 => h9) rfl d_Reader_endOfPath_13 ?_
        refine lv_iload_n hx hb d_Reader_endOfPath_16 rfl (lv_at hl 1 rfl) ?_
        obtain ⟨o17, ho17, hf⟩ := ob_b hf
        refine ob_calli (w2 := (cw_Reader_endOfPath G a_t a_question_text a_question_text_chars a_schema a_standing a_question v_place v_ledTo v_question_text_length v_question_text_chars)) (va_runV (As := [.int x6_2]) (rest := []) ⟨hx, hb, hml, hown, hts⟩ (c_Text_at l D G a_question_text a_question_text_chars v_question_text_length v_question_text_chars x6_2 o17 ho17 H.size) (cwV 1 hts (gV tw604 tw605 tw606 tw7 tw607) rfl rfl rfl (by decide +kernel) ⟨Nat.le_of_ble_eq_true rfl, Nat.le_of_ble_eq_true rfl⟩) (ob_preV (q0 := 1) (ci := 6) hZ hK hP hD [1, 2] rfl rfl rfl rfl rfl) rfl rfl hl.1 rfl (lv_room (Nat.le_of_ble_eq_true rfl)) d_Reader_endOfPath_17 ⟨Nat.le_refl _, Nat.le_refl _⟩) hP hD hA hS [1, 2] rfl rfl rfl rfl (fun H locs hP hD hS => ?_)
        refine lv_bipush (v := 46) hx hb d_Reader_endOfPath_20 (by decide) ?_
        refine lv_icmp_ne (tgt := 34) hx hb d_Reader_endOfPath_22 (by decide) (fun hc22 => ?_) (fun hc22 => ?_)
        · have hf := ob_f hc22 hf
          refine lv_iload_n hx hb d_Reader_endOfPath_34 rfl (lv_at hl 1 rfl) ?_
          exact hret x6_2 H locs _ ls hf hP hD hS rfl d_Reader_endOfPath_35
        · have hf := ob_t hc22 hf
          refine lv_iinc (k := 1) (v := x6_2 + 2) (lv' := [(2, .int (x6_2 + 2)), (0, .ref a_t), (3, .int x6_3)]) hx hb d_Reader_endOfPath_25 hl rfl (by rw [show Int32.ofInt 2 = (2 : Int32) from by decide]) (by decide) rfl (fun ls hl => ?_)
          refine lv_iinc (k := 2) (v := x6_3 + 1) (lv' := [(3, .int (x6_3 + 1)), (2, .int (x6_2 + 2)), (0, .ref a_t)]) hx hb d_Reader_endOfPath_28 hl rfl (by rw [show Int32.ofInt 1 = (1 : Int32) from by decide]) (by decide) rfl (fun ls hl => ?_)
          refine lv_goto (tgt := 6) hx hb d_Reader_endOfPath_31 (by decide) ?_
          exact ih6 (x6_2 + 2) (x6_3 + 1) ls H locs (lv_sub hl [2, 1, 0] rfl) hP hD hS hf
  refine lv_iload_n hx hb d_Reader_endOfPath_0 rfl (lv_at hl 1 rfl) ?_
  refine lv_iconst (v := 1) hx hb d_Reader_endOfPath_1 (by decide) ?_
  refine lv_iadd hx hb d_Reader_endOfPath_2 ?_
  refine lv_istore_n (lv' := [(2, .int (p1 + 1)), (0, .ref a_t), (1, .int p1)]) hx hb d_Reader_endOfPath_3 rfl hl (by decide) rfl (fun ls hl => ?_)
  refine lv_iconst (v := 0) hx hb d_Reader_endOfPath_4 (by decide) ?_
  refine lv_istore_n (lv' := [(3, .int 0), (2, .int (p1 + 1)), (0, .ref a_t), (1, .int p1)]) hx hb d_Reader_endOfPath_5 rfl hl (by decide) rfl (fun ls hl => ?_)
  exact loop6 1000 (p1 + 1) 0 ls H locs (lv_sub hl [2, 1, 0] rfl) hP hD hS hf
abbrev bc_Reader_peek : ByteArray := prog_9_method_5_code
abbrev y_Reader_peek : MethodName := ⟨"ObjectBase$Reader", "peek", "()C"⟩
def ws_Reader_peek : List Cond := .code y_Reader_peek bc_Reader_peek 1 (some .char) :: obW
theorem d_Reader_peek_0 : decode bc_Reader_peek 0 = .ok (.aload_n 0, 1) := by decide +kernel
theorem d_Reader_peek_1 : decode bc_Reader_peek 1 = .ok (.getfield 37, 3) := by decide +kernel
theorem d_Reader_peek_4 : decode bc_Reader_peek 4 = .ok (.aload_n 0, 1) := by decide +kernel
theorem d_Reader_peek_5 : decode bc_Reader_peek 5 = .ok (.getfield 29, 3) := by decide +kernel
theorem d_Reader_peek_8 : decode bc_Reader_peek 8 = .ok (.getfield 41, 3) := by decide +kernel
theorem d_Reader_peek_11 : decode bc_Reader_peek 11 = .ok (.if_icmp .ge 18, 3) := by decide +kernel
theorem d_Reader_peek_14 : decode bc_Reader_peek 14 = .ok (.aload_n 0, 1) := by decide +kernel
theorem d_Reader_peek_15 : decode bc_Reader_peek 15 = .ok (.getfield 29, 3) := by decide +kernel
theorem d_Reader_peek_18 : decode bc_Reader_peek 18 = .ok (.getfield 82, 3) := by decide +kernel
theorem d_Reader_peek_21 : decode bc_Reader_peek 21 = .ok (.aload_n 0, 1) := by decide +kernel
theorem d_Reader_peek_22 : decode bc_Reader_peek 22 = .ok (.getfield 37, 3) := by decide +kernel
theorem d_Reader_peek_25 : decode bc_Reader_peek 25 = .ok (.caload, 1) := by decide +kernel
theorem d_Reader_peek_26 : decode bc_Reader_peek 26 = .ok (.goto 4, 3) := by decide +kernel
theorem d_Reader_peek_29 : decode bc_Reader_peek 29 = .ok (.iconst 0, 1) := by decide +kernel
theorem d_Reader_peek_30 : decode bc_Reader_peek 30 = .ok (.ireturn, 1) := by decide +kernel
def cw_Reader_peek (G : Nat → ClassId) (a_t a_question_text a_question_text_chars a_schema a_standing a_question : Nat) (v_place : Int32) (v_ledTo : Int32) (v_question_text_length : Int32) (v_question_text_chars : Nat → Int32) : va_W := [(a_t, .inr (8, [.ref a_schema, .ref a_standing, .ref a_question, .ref a_question_text, .int v_place, .int v_ledTo])), (a_question_text, .inr (6, [.ref a_question_text_chars, .int v_question_text_length])), (a_question_text_chars, .inl (G 2, 60, .inl v_question_text_chars))]
def f_Reader_peek (v_place : Int32) (v_question_text_length : Int32) (v_question_text_chars : Nat → Int32) : Option (Int32) := if v_question_text_length ≤ v_place then (some 0) else (ob_iv v_place 60 (ob_nc (v_question_text_chars v_place.toNatClampNeg) (some (v_question_text_chars v_place.toNatClampNeg))))
set_option maxHeartbeats 4000000 in
set_option maxRecDepth 100000 in
theorem c_Reader_peek (l : Launch) (D : va_G) (G : Nat → ClassId) (a_t a_question_text a_question_text_chars a_schema a_standing a_question : Nat) (v_place : Int32) (v_ledTo : Int32) (v_question_text_length : Int32) (v_question_text_chars : Nat → Int32) (o : Int32) (hf : f_Reader_peek v_place v_question_text_length v_question_text_chars = some o) (sz : Nat) : MetI l y_Reader_peek ws_Reader_peek ({ frames := 0, cells := 0, slots := 0, locals := 0 }) D (obT G) (cw_Reader_peek G a_t a_question_text a_question_text_chars a_schema a_standing a_question v_place v_ledTo v_question_text_length v_question_text_chars) (cw_Reader_peek G a_t a_question_text a_question_text_chars a_schema a_standing a_question v_place v_ledTo v_question_text_length v_question_text_chars) [.ref a_t] o sz := by
  refine ob_of (cc := bc_Reader_peek) (maxL := 1) (ret := (some .char)) (Qc := ObQi D (obT G) (cw_Reader_peek G a_t a_question_text a_question_text_chars a_schema a_standing a_question v_place v_ledTo v_question_text_length v_question_text_chars) o) (by decide) rfl (Nat.le_of_ble_eq_true rfl) ?_
  intro p e s m below meth c A ls H locs hx hb hr hml hts hown hlk hnm hZ hP hK hD hA hS hl
  have hret : ∀ (o' : Int32) (H : Heap) (locs : List Loc) (pc : Nat) (ls : Array Slot), some o' = some o → va_P D vwCl (cw_Reader_peek G a_t a_question_text a_question_text_chars a_schema a_standing a_question v_place v_ledTo v_question_text_length v_question_text_chars) H → va_D A (cw_Reader_peek G a_t a_question_text a_question_text_chars a_schema a_standing a_question v_place v_ledTo v_question_text_length v_question_text_chars) → va_S A s.heap H locs → narrow .char (.int o') = .int o' → decode bc_Reader_peek pc = .ok (.ireturn, 1) → W p l e { frames := 0, cells := 0, slots := 0, locals := 0 } s m ([.ref a_t] : List Value).toArray below meth c H locs 0 0 (MQ below (ObQi D (obT G) (cw_Reader_peek G a_t a_question_text a_question_text_chars a_schema a_standing a_question v_place v_ledTo v_question_text_length v_question_text_chars) o A) ([.ref a_t] : List Value).toArray s 0 0 A) (F0 m pc ls [.int o']) := by
    intro o' H locs pc ls he hP hD hS hn hd
    obtain rfl := Option.some.inj he
    exact ob_iret hx hb hr hlk hK hP hD hS hn hd
  generalize MQ below (ObQi D (obT G) (cw_Reader_peek G a_t a_question_text a_question_text_chars a_schema a_standing a_question v_place v_ledTo v_question_text_length v_question_text_chars) o A) ([.ref a_t] : List Value).toArray s 0 0 A = Q at hret ⊢
  have hl : lv_has ls 1 [(0, .ref a_t)] := hl
  unfold f_Reader_peek at hf
  refine lv_aload_n hx hb d_Reader_peek_0 rfl (lv_at hl 0 rfl) ?_
  refine va_get (D := D) (ci := 8) (v := .int v_place) (C := "ObjectBase$Reader") (T := TC_Reader) (N := 6) hx hb hts inC_Reader hown hK hP 0 rfl rfl 4 (by decide) (hts _ tw179) (fun _ h9 => h9) rfl d_Reader_peek_1 ?_
  refine lv_aload_n hx hb d_Reader_peek_4 rfl (lv_at hl 0 rfl) ?_
  refine va_get (D := D) (ci := 8) (v := .ref a_question_text) (C := "ObjectBase$Reader") (T := TC_Reader) (N := 6) hx hb hts inC_Reader hown hK hP 0 rfl rfl 3 (by decide) (hts _ tw178) (fun _ h9 => h9) rfl d_Reader_peek_5 ?_
  refine va_get (D := D) (ci := 6) (v := .int v_question_text_length) (C := "ObjectBase$Text") (T := TC_Text) (N := 2) hx hb hts inC_Text hown hK hP 1 rfl rfl 1 (by decide) (hts _ tw159) (fun _ h9 => h9) rfl d_Reader_peek_8 ?_
  refine lv_icmp_ge (tgt := 29) hx hb d_Reader_peek_11 (by decide) (fun hc11 => ?_) (fun hc11 => ?_)
  · have hf := ob_t hc11 hf
    refine lv_iconst (v := 0) hx hb d_Reader_peek_29 (by decide) ?_
    exact hret 0 H locs _ ls hf hP hD hS ob_nc0 d_Reader_peek_30
  · have hf := ob_f hc11 hf
    refine lv_aload_n hx hb d_Reader_peek_14 rfl (lv_at hl 0 rfl) ?_
    refine va_get (D := D) (ci := 8) (v := .ref a_question_text) (C := "ObjectBase$Reader") (T := TC_Reader) (N := 6) hx hb hts inC_Reader hown hK hP 0 rfl rfl 3 (by decide) (hts _ tw178) (fun _ h9 => h9) rfl d_Reader_peek_15 ?_
    refine va_get (D := D) (ci := 6) (v := .ref a_question_text_chars) (C := "ObjectBase$Text") (T := TC_Text) (N := 2) hx hb hts inC_Text hown hK hP 1 rfl rfl 0 (by decide) (hts _ tw157) (fun _ h9 => h9) rfl d_Reader_peek_18 ?_
    refine lv_aload_n hx hb d_Reader_peek_21 rfl (lv_at hl 0 rfl) ?_
    refine va_get (D := D) (ci := 8) (v := .int v_place) (C := "ObjectBase$Reader") (T := TC_Reader) (N := 6) hx hb hts inC_Reader hown hK hP 0 rfl rfl 4 (by decide) (hts _ tw179) (fun _ h9 => h9) rfl d_Reader_peek_22 ?_
    obtain ⟨hg25, hf⟩ := ob_iv_g hf
    refine va_cald hx hb hK hP 2 2 rfl rfl hg25 d_Reader_peek_25 ?_
    refine lv_goto (tgt := 30) hx hb d_Reader_peek_26 (by decide) ?_
    obtain ⟨hg30, hf⟩ := ob_nc_g hf
    exact hret (v_question_text_chars v_place.toNatClampNeg) H locs _ ls hf hP hD hS hg30.1 d_Reader_peek_30
abbrev bc_Reader_take : ByteArray := prog_9_method_6_code
abbrev y_Reader_take : MethodName := ⟨"ObjectBase$Reader", "take", "()C"⟩
def ws_Reader_take : List Cond := .code y_Reader_take bc_Reader_take 2 (some .char) :: obW
theorem d_Reader_take_0 : decode bc_Reader_take 0 = .ok (.aload_n 0, 1) := by decide +kernel
theorem d_Reader_take_1 : decode bc_Reader_take 1 = .ok (.getfield 37, 3) := by decide +kernel
theorem d_Reader_take_4 : decode bc_Reader_take 4 = .ok (.aload_n 0, 1) := by decide +kernel
theorem d_Reader_take_5 : decode bc_Reader_take 5 = .ok (.getfield 29, 3) := by decide +kernel
theorem d_Reader_take_8 : decode bc_Reader_take 8 = .ok (.getfield 41, 3) := by decide +kernel
theorem d_Reader_take_11 : decode bc_Reader_take 11 = .ok (.if_icmp .ge 18, 3) := by decide +kernel
theorem d_Reader_take_14 : decode bc_Reader_take 14 = .ok (.aload_n 0, 1) := by decide +kernel
theorem d_Reader_take_15 : decode bc_Reader_take 15 = .ok (.getfield 29, 3) := by decide +kernel
theorem d_Reader_take_18 : decode bc_Reader_take 18 = .ok (.getfield 82, 3) := by decide +kernel
theorem d_Reader_take_21 : decode bc_Reader_take 21 = .ok (.aload_n 0, 1) := by decide +kernel
theorem d_Reader_take_22 : decode bc_Reader_take 22 = .ok (.getfield 37, 3) := by decide +kernel
theorem d_Reader_take_25 : decode bc_Reader_take 25 = .ok (.caload, 1) := by decide +kernel
theorem d_Reader_take_26 : decode bc_Reader_take 26 = .ok (.goto 4, 3) := by decide +kernel
theorem d_Reader_take_29 : decode bc_Reader_take 29 = .ok (.iconst 0, 1) := by decide +kernel
theorem d_Reader_take_30 : decode bc_Reader_take 30 = .ok (.istore_n 1, 1) := by decide +kernel
theorem d_Reader_take_31 : decode bc_Reader_take 31 = .ok (.aload_n 0, 1) := by decide +kernel
theorem d_Reader_take_32 : decode bc_Reader_take 32 = .ok (.dup, 1) := by decide +kernel
theorem d_Reader_take_33 : decode bc_Reader_take 33 = .ok (.getfield 37, 3) := by decide +kernel
theorem d_Reader_take_36 : decode bc_Reader_take 36 = .ok (.iconst 1, 1) := by decide +kernel
theorem d_Reader_take_37 : decode bc_Reader_take 37 = .ok (.iadd, 1) := by decide +kernel
theorem d_Reader_take_38 : decode bc_Reader_take 38 = .ok (.putfield 37, 3) := by decide +kernel
theorem d_Reader_take_41 : decode bc_Reader_take 41 = .ok (.iload_n 1, 1) := by decide +kernel
theorem d_Reader_take_42 : decode bc_Reader_take 42 = .ok (.ireturn, 1) := by decide +kernel
def cw_Reader_take (G : Nat → ClassId) (a_t a_question_text a_question_text_chars a_schema a_standing a_question : Nat) (v_place : Int32) (v_ledTo : Int32) (v_question_text_length : Int32) (v_question_text_chars : Nat → Int32) : va_W := [(a_t, .inr (8, [.ref a_schema, .ref a_standing, .ref a_question, .ref a_question_text, .int v_place, .int v_ledTo])), (a_question_text, .inr (6, [.ref a_question_text_chars, .int v_question_text_length])), (a_question_text_chars, .inl (G 2, 60, .inl v_question_text_chars))]
def f_Reader_take_J30 (y30_0 : Int32) (v_place_30 : Int32) : Option (Int32 × Int32) := ob_nc y30_0 (some (y30_0, v_place_30 + 1))
def f_Reader_take (v_place : Int32) (v_question_text_length : Int32) (v_question_text_chars : Nat → Int32) : Option (Int32 × Int32) := if v_question_text_length ≤ v_place then (f_Reader_take_J30 0 v_place) else (ob_iv v_place 60 (f_Reader_take_J30 (v_question_text_chars v_place.toNatClampNeg) v_place))
set_option maxHeartbeats 4000000 in
set_option maxRecDepth 100000 in
theorem c_Reader_take (l : Launch) (D : va_G) (G : Nat → ClassId) (a_t a_question_text a_question_text_chars a_schema a_standing a_question : Nat) (v_place : Int32) (v_ledTo : Int32) (v_question_text_length : Int32) (v_question_text_chars : Nat → Int32) (o : Int32 × Int32) (hf : f_Reader_take v_place v_question_text_length v_question_text_chars = some o) (sz : Nat) : MetI l y_Reader_take ws_Reader_take ({ frames := 0, cells := 0, slots := 0, locals := 0 }) D (obT G) (cw_Reader_take G a_t a_question_text a_question_text_chars a_schema a_standing a_question v_place v_ledTo v_question_text_length v_question_text_chars) (cw_Reader_take G a_t a_question_text a_question_text_chars a_schema a_standing a_question o.2 v_ledTo v_question_text_length v_question_text_chars) [.ref a_t] o.1 sz := by
  refine ob_of (cc := bc_Reader_take) (maxL := 2) (ret := (some .char)) (Qc := ObQi D (obT G) (cw_Reader_take G a_t a_question_text a_question_text_chars a_schema a_standing a_question o.2 v_ledTo v_question_text_length v_question_text_chars) o.1) (by decide) rfl (Nat.le_of_ble_eq_true rfl) ?_
  intro p e s m below meth c A ls H locs hx hb hr hml hts hown hlk hnm hZ hP hK hD hA hS hl
  have hret : ∀ (o' : Int32 × Int32) (H : Heap) (locs : List Loc) (pc : Nat) (ls : Array Slot), some o' = some o → va_P D vwCl (cw_Reader_take G a_t a_question_text a_question_text_chars a_schema a_standing a_question o'.2 v_ledTo v_question_text_length v_question_text_chars) H → va_D A (cw_Reader_take G a_t a_question_text a_question_text_chars a_schema a_standing a_question o'.2 v_ledTo v_question_text_length v_question_text_chars) → va_S A s.heap H locs → narrow .char (.int o'.1) = .int o'.1 → decode bc_Reader_take pc = .ok (.ireturn, 1) → W p l e { frames := 0, cells := 0, slots := 0, locals := 0 } s m ([.ref a_t] : List Value).toArray below meth c H locs 0 0 (MQ below (ObQi D (obT G) (cw_Reader_take G a_t a_question_text a_question_text_chars a_schema a_standing a_question o.2 v_ledTo v_question_text_length v_question_text_chars) o.1 A) ([.ref a_t] : List Value).toArray s 0 0 A) (F0 m pc ls [.int o'.1]) := by
    intro o' H locs pc ls he hP hD hS hn hd
    obtain rfl := Option.some.inj he
    exact ob_iret hx hb hr hlk hK hP hD hS hn hd
  generalize MQ below (ObQi D (obT G) (cw_Reader_take G a_t a_question_text a_question_text_chars a_schema a_standing a_question o.2 v_ledTo v_question_text_length v_question_text_chars) o.1 A) ([.ref a_t] : List Value).toArray s 0 0 A = Q at hret ⊢
  have hl : lv_has ls 2 [(0, .ref a_t)] := hl
  unfold f_Reader_take at hf
  have blk30 : ∀ (y30_0 : Int32) (v_place_30 : Int32) (ls : Array Slot) (H : Heap) (locs : List Loc), lv_has ls 2 [(0, .ref a_t)] → va_P D vwCl (cw_Reader_take G a_t a_question_text a_question_text_chars a_schema a_standing a_question v_place_30 v_ledTo v_question_text_length v_question_text_chars) H → va_D A (cw_Reader_take G a_t a_question_text a_question_text_chars a_schema a_standing a_question v_place_30 v_ledTo v_question_text_length v_question_text_chars) → va_S A s.heap H locs → f_Reader_take_J30 y30_0 v_place_30 = some o → W p l e ({ frames := 0, cells := 0, slots := 0, locals := 0 }) s m ([.ref a_t] : List Value).toArray below meth c H locs 0 0 Q (F0 m 30 ls [.int y30_0]) := by
    intro y30_0 v_place_30 ls H locs hl hP hD hS hf
    unfold f_Reader_take_J30 at hf
    refine lv_istore_n (lv' := [(1, .int y30_0), (0, .ref a_t)]) hx hb d_Reader_take_30 rfl hl (by decide) rfl (fun ls hl => ?_)
    refine lv_aload_n hx hb d_Reader_take_31 rfl (lv_at hl 1 rfl) ?_
    refine lv_dup hx hb d_Reader_take_32 rfl ?_
    refine va_get (D := D) (ci := 8) (v := .int v_place_30) (C := "ObjectBase$Reader") (T := TC_Reader) (N := 6) hx hb hts inC_Reader hown hK hP 0 rfl rfl 4 (by decide) (hts _ tw179) (fun _ h9 => h9) rfl d_Reader_take_33 ?_
    refine lv_iconst (v := 1) hx hb d_Reader_take_36 (by decide) ?_
    refine lv_iadd hx hb d_Reader_take_37 ?_
    refine va_put (D := D) (ci := 8) (v := .int (v_place_30 + 1)) (ty := .int) (C := "ObjectBase$Reader") (T := TC_Reader) (N := 6) hx hb hts inC_Reader tyC_Reader tyC_Reader_ok nmC_Reader hown hK hP hD hS 0 rfl rfl 4 (by decide) (hts _ tw179) (fun _ h9 => h9) rfl (by decide +kernel) rfl rfl (Nat.le_of_ble_eq_true rfl) d_Reader_take_38 (fun H locs hP hD hS => ?_)
    have hP : va_P D vwCl (cw_Reader_take G a_t a_question_text a_question_text_chars a_schema a_standing a_question (v_place_30 + 1) v_ledTo v_question_text_length v_question_text_chars) H := hP
    have hD : va_D A (cw_Reader_take G a_t a_question_text a_question_text_chars a_schema a_standing a_question (v_place_30 + 1) v_ledTo v_question_text_length v_question_text_chars) := hD
    refine lv_iload_n hx hb d_Reader_take_41 rfl (lv_at hl 0 rfl) ?_
    obtain ⟨hg42, hf⟩ := ob_nc_g hf
    exact hret (y30_0, v_place_30 + 1) H locs _ ls hf hP hD hS hg42.1 d_Reader_take_42
  refine lv_aload_n hx hb d_Reader_take_0 rfl (lv_at hl 0 rfl) ?_
  refine va_get (D := D) (ci := 8) (v := .int v_place) (C := "ObjectBase$Reader") (T := TC_Reader) (N := 6) hx hb hts inC_Reader hown hK hP 0 rfl rfl 4 (by decide) (hts _ tw179) (fun _ h9 => h9) rfl d_Reader_take_1 ?_
  refine lv_aload_n hx hb d_Reader_take_4 rfl (lv_at hl 0 rfl) ?_
  refine va_get (D := D) (ci := 8) (v := .ref a_question_text) (C := "ObjectBase$Reader") (T := TC_Reader) (N := 6) hx hb hts inC_Reader hown hK hP 0 rfl rfl 3 (by decide) (hts _ tw178) (fun _ h9 => h9) rfl d_Reader_take_5 ?_
  refine va_get (D := D) (ci := 6) (v := .int v_question_text_length) (C := "ObjectBase$Text") (T := TC_Text) (N := 2) hx hb hts inC_Text hown hK hP 1 rfl rfl 1 (by decide) (hts _ tw159) (fun _ h9 => h9) rfl d_Reader_take_8 ?_
  refine lv_icmp_ge (tgt := 29) hx hb d_Reader_take_11 (by decide) (fun hc11 => ?_) (fun hc11 => ?_)
  · have hf := ob_t hc11 hf
    refine lv_iconst (v := 0) hx hb d_Reader_take_29 (by decide) ?_
    exact blk30 0 v_place ls H locs (lv_sub hl [0] rfl) hP hD hS hf
  · have hf := ob_f hc11 hf
    refine lv_aload_n hx hb d_Reader_take_14 rfl (lv_at hl 0 rfl) ?_
    refine va_get (D := D) (ci := 8) (v := .ref a_question_text) (C := "ObjectBase$Reader") (T := TC_Reader) (N := 6) hx hb hts inC_Reader hown hK hP 0 rfl rfl 3 (by decide) (hts _ tw178) (fun _ h9 => h9) rfl d_Reader_take_15 ?_
    refine va_get (D := D) (ci := 6) (v := .ref a_question_text_chars) (C := "ObjectBase$Text") (T := TC_Text) (N := 2) hx hb hts inC_Text hown hK hP 1 rfl rfl 0 (by decide) (hts _ tw157) (fun _ h9 => h9) rfl d_Reader_take_18 ?_
    refine lv_aload_n hx hb d_Reader_take_21 rfl (lv_at hl 0 rfl) ?_
    refine va_get (D := D) (ci := 8) (v := .int v_place) (C := "ObjectBase$Reader") (T := TC_Reader) (N := 6) hx hb hts inC_Reader hown hK hP 0 rfl rfl 4 (by decide) (hts _ tw179) (fun _ h9 => h9) rfl d_Reader_take_22 ?_
    obtain ⟨hg25, hf⟩ := ob_iv_g hf
    refine va_cald hx hb hK hP 2 2 rfl rfl hg25 d_Reader_take_25 ?_
    refine lv_goto (tgt := 30) hx hb d_Reader_take_26 (by decide) ?_
    exact blk30 (v_question_text_chars v_place.toNatClampNeg) v_place ls H locs (lv_sub hl [0] rfl) hP hD hS hf
abbrev bc_Reader_kindOfSign : ByteArray := prog_9_method_13_code
abbrev y_Reader_kindOfSign : MethodName := ⟨"ObjectBase$Reader", "kindOfSign", "(C)I"⟩
def ws_Reader_kindOfSign : List Cond := .code y_Reader_kindOfSign bc_Reader_kindOfSign 1 (some .int) :: obW
theorem d_Reader_kindOfSign_0 : decode bc_Reader_kindOfSign 0 = .ok (.iload_n 0, 1) := by decide +kernel
theorem d_Reader_kindOfSign_1 : decode bc_Reader_kindOfSign 1 = .ok (.bipush 61, 2) := by decide +kernel
theorem d_Reader_kindOfSign_3 : decode bc_Reader_kindOfSign 3 = .ok (.if_icmp .ne 5, 3) := by decide +kernel
theorem d_Reader_kindOfSign_6 : decode bc_Reader_kindOfSign 6 = .ok (.iconst 4, 1) := by decide +kernel
theorem d_Reader_kindOfSign_7 : decode bc_Reader_kindOfSign 7 = .ok (.ireturn, 1) := by decide +kernel
theorem d_Reader_kindOfSign_8 : decode bc_Reader_kindOfSign 8 = .ok (.iload_n 0, 1) := by decide +kernel
theorem d_Reader_kindOfSign_9 : decode bc_Reader_kindOfSign 9 = .ok (.bipush 60, 2) := by decide +kernel
theorem d_Reader_kindOfSign_11 : decode bc_Reader_kindOfSign 11 = .ok (.if_icmp .ne 5, 3) := by decide +kernel
theorem d_Reader_kindOfSign_14 : decode bc_Reader_kindOfSign 14 = .ok (.iconst 5, 1) := by decide +kernel
theorem d_Reader_kindOfSign_15 : decode bc_Reader_kindOfSign 15 = .ok (.ireturn, 1) := by decide +kernel
theorem d_Reader_kindOfSign_16 : decode bc_Reader_kindOfSign 16 = .ok (.iload_n 0, 1) := by decide +kernel
theorem d_Reader_kindOfSign_17 : decode bc_Reader_kindOfSign 17 = .ok (.bipush 62, 2) := by decide +kernel
theorem d_Reader_kindOfSign_19 : decode bc_Reader_kindOfSign 19 = .ok (.if_icmp .ne 8, 3) := by decide +kernel
theorem d_Reader_kindOfSign_22 : decode bc_Reader_kindOfSign 22 = .ok (.bipush 6, 2) := by decide +kernel
theorem d_Reader_kindOfSign_24 : decode bc_Reader_kindOfSign 24 = .ok (.goto 4, 3) := by decide +kernel
theorem d_Reader_kindOfSign_27 : decode bc_Reader_kindOfSign 27 = .ok (.iconst (-1), 1) := by decide +kernel
theorem d_Reader_kindOfSign_28 : decode bc_Reader_kindOfSign 28 = .ok (.ireturn, 1) := by decide +kernel
def cw_Reader_kindOfSign (G : Nat → ClassId) : va_W := []
def f_Reader_kindOfSign (p0 : Int32) : Option (Int32) := if p0 = 61 then (some 4) else (if p0 = 60 then (some 5) else (if p0 = 62 then (some 6) else (some (-1))))
set_option maxHeartbeats 4000000 in
set_option maxRecDepth 100000 in
theorem c_Reader_kindOfSign (l : Launch) (D : va_G) (G : Nat → ClassId) (p0 : Int32) (o : Int32) (hf : f_Reader_kindOfSign p0 = some o) (sz : Nat) : MetI l y_Reader_kindOfSign ws_Reader_kindOfSign ({ frames := 0, cells := 0, slots := 0, locals := 0 }) D (obT G) (cw_Reader_kindOfSign G) (cw_Reader_kindOfSign G) [.int p0] o sz := by
  refine ob_of (cc := bc_Reader_kindOfSign) (maxL := 1) (ret := (some .int)) (Qc := ObQi D (obT G) (cw_Reader_kindOfSign G) o) (by decide) rfl (Nat.le_of_ble_eq_true rfl) ?_
  intro p e s m below meth c A ls H locs hx hb hr hml hts hown hlk hnm hZ hP hK hD hA hS hl
  have hret : ∀ (o' : Int32) (H : Heap) (locs : List Loc) (pc : Nat) (ls : Array Slot), some o' = some o → va_P D vwCl (cw_Reader_kindOfSign G) H → va_D A (cw_Reader_kindOfSign G) → va_S A s.heap H locs → narrow .int (.int o') = .int o' → decode bc_Reader_kindOfSign pc = .ok (.ireturn, 1) → W p l e { frames := 0, cells := 0, slots := 0, locals := 0 } s m ([.int p0] : List Value).toArray below meth c H locs 0 0 (MQ below (ObQi D (obT G) (cw_Reader_kindOfSign G) o A) ([.int p0] : List Value).toArray s 0 0 A) (F0 m pc ls [.int o']) := by
    intro o' H locs pc ls he hP hD hS hn hd
    obtain rfl := Option.some.inj he
    exact ob_iret hx hb hr hlk hK hP hD hS hn hd
  generalize MQ below (ObQi D (obT G) (cw_Reader_kindOfSign G) o A) ([.int p0] : List Value).toArray s 0 0 A = Q at hret ⊢
  have hl : lv_has ls 1 [(0, .int p0)] := hl
  unfold f_Reader_kindOfSign at hf
  refine lv_iload_n hx hb d_Reader_kindOfSign_0 rfl (lv_at hl 0 rfl) ?_
  refine lv_bipush (v := 61) hx hb d_Reader_kindOfSign_1 (by decide) ?_
  refine lv_icmp_ne (tgt := 8) hx hb d_Reader_kindOfSign_3 (by decide) (fun hc3 => ?_) (fun hc3 => ?_)
  · have hf := ob_f hc3 hf
    refine lv_iload_n hx hb d_Reader_kindOfSign_8 rfl (lv_at hl 0 rfl) ?_
    refine lv_bipush (v := 60) hx hb d_Reader_kindOfSign_9 (by decide) ?_
    refine lv_icmp_ne (tgt := 16) hx hb d_Reader_kindOfSign_11 (by decide) (fun hc11 => ?_) (fun hc11 => ?_)
    · have hf := ob_f hc11 hf
      refine lv_iload_n hx hb d_Reader_kindOfSign_16 rfl (lv_at hl 0 rfl) ?_
      refine lv_bipush (v := 62) hx hb d_Reader_kindOfSign_17 (by decide) ?_
      refine lv_icmp_ne (tgt := 27) hx hb d_Reader_kindOfSign_19 (by decide) (fun hc19 => ?_) (fun hc19 => ?_)
      · have hf := ob_f hc19 hf
        refine lv_iconst (v := (-1)) hx hb d_Reader_kindOfSign_27 (by decide) ?_
        exact hret (-1) H locs _ ls hf hP hD hS rfl d_Reader_kindOfSign_28
      · have hf := ob_t hc19 hf
        refine lv_bipush (v := 6) hx hb d_Reader_kindOfSign_22 (by decide) ?_
        refine lv_goto (tgt := 28) hx hb d_Reader_kindOfSign_24 (by decide) ?_
        exact hret 6 H locs _ ls hf hP hD hS rfl d_Reader_kindOfSign_28
    · have hf := ob_t hc11 hf
      refine lv_iconst (v := 5) hx hb d_Reader_kindOfSign_14 (by decide) ?_
      exact hret 5 H locs _ ls hf hP hD hS rfl d_Reader_kindOfSign_15
  · have hf := ob_t hc3 hf
    refine lv_iconst (v := 4) hx hb d_Reader_kindOfSign_6 (by decide) ?_
    exact hret 4 H locs _ ls hf hP hD hS rfl d_Reader_kindOfSign_7
abbrev bc_Reader_readNumber : ByteArray := prog_9_method_15_code
abbrev y_Reader_readNumber : MethodName := ⟨"ObjectBase$Reader", "readNumber", "()I"⟩
def ws_Reader_readNumber : List Cond := .code y_Reader_readNumber bc_Reader_readNumber 6 (some .int) :: obW
theorem d_Reader_readNumber_0 : decode bc_Reader_readNumber 0 = .ok (.aload_n 0, 1) := by decide +kernel
theorem d_Reader_readNumber_1 : decode bc_Reader_readNumber 1 = .ok (.getfield 37, 3) := by decide +kernel
theorem d_Reader_readNumber_4 : decode bc_Reader_readNumber 4 = .ok (.istore_n 1, 1) := by decide +kernel
theorem d_Reader_readNumber_5 : decode bc_Reader_readNumber 5 = .ok (.aload_n 0, 1) := by decide +kernel
theorem d_Reader_readNumber_6 : decode bc_Reader_readNumber 6 = .ok (.invokevirtual 96, 3) := by decide +kernel
theorem d_Reader_readNumber_9 : decode bc_Reader_readNumber 9 = .ok (.bipush 45, 2) := by decide +kernel
theorem d_Reader_readNumber_11 : decode bc_Reader_readNumber 11 = .ok (.if_icmp .ne 7, 3) := by decide +kernel
theorem d_Reader_readNumber_14 : decode bc_Reader_readNumber 14 = .ok (.iconst 1, 1) := by decide +kernel
theorem d_Reader_readNumber_15 : decode bc_Reader_readNumber 15 = .ok (.goto 4, 3) := by decide +kernel
theorem d_Reader_readNumber_18 : decode bc_Reader_readNumber 18 = .ok (.iconst 0, 1) := by decide +kernel
theorem d_Reader_readNumber_19 : decode bc_Reader_readNumber 19 = .ok (.istore_n 2, 1) := by decide +kernel
theorem d_Reader_readNumber_20 : decode bc_Reader_readNumber 20 = .ok (.iload_n 2, 1) := by decide +kernel
theorem d_Reader_readNumber_21 : decode bc_Reader_readNumber 21 = .ok (.ifCond .eq 13, 3) := by decide +kernel
theorem d_Reader_readNumber_24 : decode bc_Reader_readNumber 24 = .ok (.aload_n 0, 1) := by decide +kernel
theorem d_Reader_readNumber_25 : decode bc_Reader_readNumber 25 = .ok (.dup, 1) := by decide +kernel
theorem d_Reader_readNumber_26 : decode bc_Reader_readNumber 26 = .ok (.getfield 37, 3) := by decide +kernel
theorem d_Reader_readNumber_29 : decode bc_Reader_readNumber 29 = .ok (.iconst 1, 1) := by decide +kernel
theorem d_Reader_readNumber_30 : decode bc_Reader_readNumber 30 = .ok (.iadd, 1) := by decide +kernel
theorem d_Reader_readNumber_31 : decode bc_Reader_readNumber 31 = .ok (.putfield 37, 3) := by decide +kernel
theorem d_Reader_readNumber_34 : decode bc_Reader_readNumber 34 = .ok (.lconst 0, 1) := by decide +kernel
theorem d_Reader_readNumber_35 : decode bc_Reader_readNumber 35 = .ok (.lstore_n 3, 1) := by decide +kernel
theorem d_Reader_readNumber_36 : decode bc_Reader_readNumber 36 = .ok (.iconst 0, 1) := by decide +kernel
theorem d_Reader_readNumber_37 : decode bc_Reader_readNumber 37 = .ok (.istore 5, 2) := by decide +kernel
theorem d_Reader_readNumber_39 : decode bc_Reader_readNumber 39 = .ok (.iload 5, 2) := by decide +kernel
theorem d_Reader_readNumber_41 : decode bc_Reader_readNumber 41 = .ok (.bipush 10, 2) := by decide +kernel
theorem d_Reader_readNumber_43 : decode bc_Reader_readNumber 43 = .ok (.if_icmp .gt 34, 3) := by decide +kernel
theorem d_Reader_readNumber_46 : decode bc_Reader_readNumber 46 = .ok (.aload_n 0, 1) := by decide +kernel
theorem d_Reader_readNumber_47 : decode bc_Reader_readNumber 47 = .ok (.invokevirtual 96, 3) := by decide +kernel
theorem d_Reader_readNumber_50 : decode bc_Reader_readNumber 50 = .ok (.invokestatic 125, 3) := by decide +kernel
theorem d_Reader_readNumber_53 : decode bc_Reader_readNumber 53 = .ok (.ifCond .eq 24, 3) := by decide +kernel
theorem d_Reader_readNumber_56 : decode bc_Reader_readNumber 56 = .ok (.lload_n 3, 1) := by decide +kernel
theorem d_Reader_readNumber_57 : decode bc_Reader_readNumber 57 = .ok (.ldc2_w 132, 3) := by decide +kernel
theorem d_Reader_readNumber_60 : decode bc_Reader_readNumber 60 = .ok (.lmul, 1) := by decide +kernel
theorem d_Reader_readNumber_61 : decode bc_Reader_readNumber 61 = .ok (.aload_n 0, 1) := by decide +kernel
theorem d_Reader_readNumber_62 : decode bc_Reader_readNumber 62 = .ok (.invokevirtual 46, 3) := by decide +kernel
theorem d_Reader_readNumber_65 : decode bc_Reader_readNumber 65 = .ok (.bipush 48, 2) := by decide +kernel
theorem d_Reader_readNumber_67 : decode bc_Reader_readNumber 67 = .ok (.isub, 1) := by decide +kernel
theorem d_Reader_readNumber_68 : decode bc_Reader_readNumber 68 = .ok (.i2l, 1) := by decide +kernel
theorem d_Reader_readNumber_69 : decode bc_Reader_readNumber 69 = .ok (.ladd, 1) := by decide +kernel
theorem d_Reader_readNumber_70 : decode bc_Reader_readNumber 70 = .ok (.lstore_n 3, 1) := by decide +kernel
theorem d_Reader_readNumber_71 : decode bc_Reader_readNumber 71 = .ok (.iinc 5 1, 3) := by decide +kernel
theorem d_Reader_readNumber_74 : decode bc_Reader_readNumber 74 = .ok (.goto (-35), 3) := by decide +kernel
theorem d_Reader_readNumber_77 : decode bc_Reader_readNumber 77 = .ok (.iload_n 2, 1) := by decide +kernel
theorem d_Reader_readNumber_78 : decode bc_Reader_readNumber 78 = .ok (.ifCond .eq 8, 3) := by decide +kernel
theorem d_Reader_readNumber_81 : decode bc_Reader_readNumber 81 = .ok (.lload_n 3, 1) := by decide +kernel
theorem d_Reader_readNumber_82 : decode bc_Reader_readNumber 82 = .ok (.lneg, 1) := by decide +kernel
theorem d_Reader_readNumber_83 : decode bc_Reader_readNumber 83 = .ok (.goto 4, 3) := by decide +kernel
theorem d_Reader_readNumber_86 : decode bc_Reader_readNumber 86 = .ok (.lload_n 3, 1) := by decide +kernel
theorem d_Reader_readNumber_87 : decode bc_Reader_readNumber 87 = .ok (.lstore_n 3, 1) := by decide +kernel
theorem d_Reader_readNumber_88 : decode bc_Reader_readNumber 88 = .ok (.iload 5, 2) := by decide +kernel
theorem d_Reader_readNumber_90 : decode bc_Reader_readNumber 90 = .ok (.ifCond .eq 18, 3) := by decide +kernel
theorem d_Reader_readNumber_93 : decode bc_Reader_readNumber 93 = .ok (.iload 5, 2) := by decide +kernel
theorem d_Reader_readNumber_95 : decode bc_Reader_readNumber 95 = .ok (.bipush 10, 2) := by decide +kernel
theorem d_Reader_readNumber_97 : decode bc_Reader_readNumber 97 = .ok (.if_icmp .gt 11, 3) := by decide +kernel
theorem d_Reader_readNumber_100 : decode bc_Reader_readNumber 100 = .ok (.lload_n 3, 1) := by decide +kernel
theorem d_Reader_readNumber_101 : decode bc_Reader_readNumber 101 = .ok (.lload_n 3, 1) := by decide +kernel
theorem d_Reader_readNumber_102 : decode bc_Reader_readNumber 102 = .ok (.l2i, 1) := by decide +kernel
theorem d_Reader_readNumber_103 : decode bc_Reader_readNumber 103 = .ok (.i2l, 1) := by decide +kernel
theorem d_Reader_readNumber_104 : decode bc_Reader_readNumber 104 = .ok (.lcmp, 1) := by decide +kernel
theorem d_Reader_readNumber_105 : decode bc_Reader_readNumber 105 = .ok (.ifCond .eq 5, 3) := by decide +kernel
theorem d_Reader_readNumber_108 : decode bc_Reader_readNumber 108 = .ok (.iconst (-1), 1) := by decide +kernel
theorem d_Reader_readNumber_109 : decode bc_Reader_readNumber 109 = .ok (.ireturn, 1) := by decide +kernel
theorem d_Reader_readNumber_110 : decode bc_Reader_readNumber 110 = .ok (.aload_n 0, 1) := by decide +kernel
theorem d_Reader_readNumber_111 : decode bc_Reader_readNumber 111 = .ok (.getfield 19, 3) := by decide +kernel
theorem d_Reader_readNumber_114 : decode bc_Reader_readNumber 114 = .ok (.getfield 134, 3) := by decide +kernel
theorem d_Reader_readNumber_117 : decode bc_Reader_readNumber 117 = .ok (.iload_n 1, 1) := by decide +kernel
theorem d_Reader_readNumber_118 : decode bc_Reader_readNumber 118 = .ok (.lload_n 3, 1) := by decide +kernel
theorem d_Reader_readNumber_119 : decode bc_Reader_readNumber 119 = .ok (.l2i, 1) := by decide +kernel
theorem d_Reader_readNumber_120 : decode bc_Reader_readNumber 120 = .ok (.iastore, 1) := by decide +kernel
theorem d_Reader_readNumber_121 : decode bc_Reader_readNumber 121 = .ok (.iconst 0, 1) := by decide +kernel
theorem d_Reader_readNumber_122 : decode bc_Reader_readNumber 122 = .ok (.ireturn, 1) := by decide +kernel
def cw_Reader_readNumber (G : Nat → ClassId) (a_t a_question a_question_text a_question_text_chars a_question_numbers a_schema a_standing a_question_kinds a_question_inner a_question_next a_question_left a_question_right : Nat) (v_place : Int32) (v_ledTo : Int32) (v_question_nodeCount : Int32) (v_question_root : Int32) (v_question_asked : Int32) (v_question_mode : Int32) (v_question_text_length : Int32) (v_question_text_chars : Nat → Int32) (v_question_numbers : Nat → Int32) : va_W := [(a_t, .inr (8, [.ref a_schema, .ref a_standing, .ref a_question, .ref a_question_text, .int v_place, .int v_ledTo])), (a_question, .inr (7, [.ref a_question_text, .ref a_question_numbers, .ref a_question_kinds, .ref a_question_inner, .ref a_question_next, .ref a_question_left, .ref a_question_right, .int v_question_nodeCount, .int v_question_root, .int v_question_asked, .int v_question_mode])), (a_question_text, .inr (6, [.ref a_question_text_chars, .int v_question_text_length])), (a_question_text_chars, .inl (G 2, 60, .inl v_question_text_chars)), (a_question_numbers, .inl (G 0, 60, .inl v_question_numbers))]
def f_Reader_readNumber_J87 (x87_1 : Int32) (x87_5 : Int32) (y87_0 : Int64) (v_place_87 : Int32) (v_question_numbers_87 : Nat → Int32) : Option (Int32 × Int32 × (Nat → Int32)) := if x87_5 = 0 then (some ((-1), v_place_87, v_question_numbers_87)) else (if 10 < x87_5 then (some ((-1), v_place_87, v_question_numbers_87)) else (if (lg_cmp y87_0 y87_0.toInt32.toInt64) = 0 then (ob_iv x87_1 60 (some (0, v_place_87, upd v_question_numbers_87 x87_1.toNatClampNeg y87_0.toInt32))) else (some ((-1), v_place_87, v_question_numbers_87))))
def f_Reader_readNumber_J77 (x77_1 : Int32) (x77_2 : Int32) (x77_3 : Int64) (x77_5 : Int32) (v_place_77 : Int32) (v_question_numbers_77 : Nat → Int32) : Option (Int32 × Int32 × (Nat → Int32)) := if x77_2 = 0 then (f_Reader_readNumber_J87 x77_1 x77_5 x77_3 v_place_77 v_question_numbers_77) else (f_Reader_readNumber_J87 x77_1 x77_5 (-x77_3) v_place_77 v_question_numbers_77)
def f_Reader_readNumber_B39 (v_question_text_length : Int32) (v_question_text_chars : Nat → Int32) (k39 : Int32 → Int32 → Int64 → Int32 → Int32 → (Nat → Int32) → Option (Int32 × Int32 × (Nat → Int32))) (x39_1 : Int32) (x39_2 : Int32) (x39_3 : Int64) (x39_5 : Int32) (v_place_39 : Int32) (v_question_numbers_39 : Nat → Int32) : Option (Int32 × Int32 × (Nat → Int32)) := if 10 < x39_5 then (f_Reader_readNumber_J77 x39_1 x39_2 x39_3 x39_5 v_place_39 v_question_numbers_39) else ((f_Reader_peek v_place_39 v_question_text_length v_question_text_chars).bind fun o47 => ((f_OB_isDigit o47).bind fun o50 => (if o50 = 0 then (f_Reader_readNumber_J77 x39_1 x39_2 x39_3 x39_5 v_place_39 v_question_numbers_39) else ((f_Reader_take v_place_39 v_question_text_length v_question_text_chars).bind fun o62 => (k39 x39_1 x39_2 ((x39_3 * 10) + ((o62.1 - 48).toInt64)) (x39_5 + 1) o62.2 v_question_numbers_39)))))
def f_Reader_readNumber_L39 (v_question_text_length : Int32) (v_question_text_chars : Nat → Int32) : Nat → Int32 → Int32 → Int64 → Int32 → Int32 → (Nat → Int32) → Option (Int32 × Int32 × (Nat → Int32)) := ob_lp6 (f_Reader_readNumber_B39 v_question_text_length v_question_text_chars)
def f_Reader_readNumber_J19 (v_question_text_length : Int32) (v_question_text_chars : Nat → Int32) (x19_1 : Int32) (y19_0 : Int32) (v_place_19 : Int32) (v_question_numbers_19 : Nat → Int32) : Option (Int32 × Int32 × (Nat → Int32)) := if y19_0 = 0 then (f_Reader_readNumber_L39 v_question_text_length v_question_text_chars 1000 x19_1 y19_0 0 0 v_place_19 v_question_numbers_19) else (f_Reader_readNumber_L39 v_question_text_length v_question_text_chars 1000 x19_1 y19_0 0 0 (v_place_19 + 1) v_question_numbers_19)
def f_Reader_readNumber (v_place : Int32) (v_question_text_length : Int32) (v_question_text_chars : Nat → Int32) (v_question_numbers : Nat → Int32) : Option (Int32 × Int32 × (Nat → Int32)) := (f_Reader_peek v_place v_question_text_length v_question_text_chars).bind fun o6 => (if o6 = 45 then (f_Reader_readNumber_J19 v_question_text_length v_question_text_chars v_place 1 v_place v_question_numbers) else (f_Reader_readNumber_J19 v_question_text_length v_question_text_chars v_place 0 v_place v_question_numbers))
set_option maxHeartbeats 4000000 in
set_option maxRecDepth 100000 in
theorem c_Reader_readNumber (l : Launch) (D : va_G) (G : Nat → ClassId) (a_t a_question a_question_text a_question_text_chars a_question_numbers a_schema a_standing a_question_kinds a_question_inner a_question_next a_question_left a_question_right : Nat) (v_place : Int32) (v_ledTo : Int32) (v_question_nodeCount : Int32) (v_question_root : Int32) (v_question_asked : Int32) (v_question_mode : Int32) (v_question_text_length : Int32) (v_question_text_chars : Nat → Int32) (v_question_numbers : Nat → Int32) (o : Int32 × Int32 × (Nat → Int32)) (hf : f_Reader_readNumber v_place v_question_text_length v_question_text_chars v_question_numbers = some o) (sz : Nat) : MetI l y_Reader_readNumber ws_Reader_readNumber ({ frames := 1, cells := 0, slots := 0, locals := 21 }) D (obT G) (cw_Reader_readNumber G a_t a_question a_question_text a_question_text_chars a_question_numbers a_schema a_standing a_question_kinds a_question_inner a_question_next a_question_left a_question_right v_place v_ledTo v_question_nodeCount v_question_root v_question_asked v_question_mode v_question_text_length v_question_text_chars v_question_numbers) (cw_Reader_readNumber G a_t a_question a_question_text a_question_text_chars a_question_numbers a_schema a_standing a_question_kinds a_question_inner a_question_next a_question_left a_question_right o.2.1 v_ledTo v_question_nodeCount v_question_root v_question_asked v_question_mode v_question_text_length v_question_text_chars o.2.2) [.ref a_t] o.1 sz := by
  refine ob_of (cc := bc_Reader_readNumber) (maxL := 6) (ret := (some .int)) (Qc := ObQi D (obT G) (cw_Reader_readNumber G a_t a_question a_question_text a_question_text_chars a_question_numbers a_schema a_standing a_question_kinds a_question_inner a_question_next a_question_left a_question_right o.2.1 v_ledTo v_question_nodeCount v_question_root v_question_asked v_question_mode v_question_text_length v_question_text_chars o.2.2) o.1) (by decide) rfl (Nat.le_of_ble_eq_true rfl) ?_
  intro p e s m below meth c A ls H locs hx hb hr hml hts hown hlk hnm hZ hP hK hD hA hS hl
  have hret : ∀ (o' : Int32 × Int32 × (Nat → Int32)) (H : Heap) (locs : List Loc) (pc : Nat) (ls : Array Slot), some o' = some o → va_P D vwCl (cw_Reader_readNumber G a_t a_question a_question_text a_question_text_chars a_question_numbers a_schema a_standing a_question_kinds a_question_inner a_question_next a_question_left a_question_right o'.2.1 v_ledTo v_question_nodeCount v_question_root v_question_asked v_question_mode v_question_text_length v_question_text_chars o'.2.2) H → va_D A (cw_Reader_readNumber G a_t a_question a_question_text a_question_text_chars a_question_numbers a_schema a_standing a_question_kinds a_question_inner a_question_next a_question_left a_question_right o'.2.1 v_ledTo v_question_nodeCount v_question_root v_question_asked v_question_mode v_question_text_length v_question_text_chars o'.2.2) → va_S A s.heap H locs → narrow .int (.int o'.1) = .int o'.1 → decode bc_Reader_readNumber pc = .ok (.ireturn, 1) → W p l e { frames := 1, cells := 0, slots := 0, locals := 21 } s m ([.ref a_t] : List Value).toArray below meth c H locs 0 0 (MQ below (ObQi D (obT G) (cw_Reader_readNumber G a_t a_question a_question_text a_question_text_chars a_question_numbers a_schema a_standing a_question_kinds a_question_inner a_question_next a_question_left a_question_right o.2.1 v_ledTo v_question_nodeCount v_question_root v_question_asked v_question_mode v_question_text_length v_question_text_chars o.2.2) o.1 A) ([.ref a_t] : List Value).toArray s 0 0 A) (F0 m pc ls [.int o'.1]) := by
    intro o' H locs pc ls he hP hD hS hn hd
    obtain rfl := Option.some.inj he
    exact ob_iret hx hb hr hlk hK hP hD hS hn hd
  generalize MQ below (ObQi D (obT G) (cw_Reader_readNumber G a_t a_question a_question_text a_question_text_chars a_question_numbers a_schema a_standing a_question_kinds a_question_inner a_question_next a_question_left a_question_right o.2.1 v_ledTo v_question_nodeCount v_question_root v_question_asked v_question_mode v_question_text_length v_question_text_chars o.2.2) o.1 A) ([.ref a_t] : List Value).toArray s 0 0 A = Q at hret ⊢
  have hl : lv_has ls 6 [(0, .ref a_t)] := hl
  unfold f_Reader_readNumber at hf
  have blk87 : ∀ (x87_1 : Int32) (x87_5 : Int32) (y87_0 : Int64) (v_place_87 : Int32) (v_question_numbers_87 : Nat → Int32) (ls : Array Slot) (H : Heap) (locs : List Loc), lv_has ls 6 [(0, .ref a_t), (1, .int x87_1), (5, .int x87_5)] → va_P D vwCl (cw_Reader_readNumber G a_t a_question a_question_text a_question_text_chars a_question_numbers a_schema a_standing a_question_kinds a_question_inner a_question_next a_question_left a_question_right v_place_87 v_ledTo v_question_nodeCount v_question_root v_question_asked v_question_mode v_question_text_length v_question_text_chars v_question_numbers_87) H → va_D A (cw_Reader_readNumber G a_t a_question a_question_text a_question_text_chars a_question_numbers a_schema a_standing a_question_kinds a_question_inner a_question_next a_question_left a_question_right v_place_87 v_ledTo v_question_nodeCount v_question_root v_question_asked v_question_mode v_question_text_length v_question_text_chars v_question_numbers_87) → va_S A s.heap H locs → f_Reader_readNumber_J87 x87_1 x87_5 y87_0 v_place_87 v_question_numbers_87 = some o → W p l e ({ frames := 1, cells := 0, slots := 0, locals := 21 }) s m ([.ref a_t] : List Value).toArray below meth c H locs 0 0 Q (F0 m 87 ls [.long y87_0]) := by
    intro x87_1 x87_5 y87_0 v_place_87 v_question_numbers_87 ls H locs hl hP hD hS hf
    unfold f_Reader_readNumber_J87 at hf
    refine lv_lstore_n (lv' := [(3, .long y87_0), (0, .ref a_t), (1, .int x87_1), (5, .int x87_5)]) hx hb d_Reader_readNumber_87 rfl hl (by decide) rfl (fun ls hl => ?_)
    refine lv_iload hx hb d_Reader_readNumber_88 (lv_at hl 3 rfl) ?_
    refine lv_if_eq (tgt := 108) hx hb d_Reader_readNumber_90 (by decide) (fun hc90 => ?_) (fun hc90 => ?_)
    · have hf := ob_t hc90 hf
      refine lv_iconst (v := (-1)) hx hb d_Reader_readNumber_108 (by decide) ?_
      exact hret ((-1), v_place_87, v_question_numbers_87) H locs _ ls hf hP hD hS rfl d_Reader_readNumber_109
    · have hf := ob_f hc90 hf
      refine lv_iload hx hb d_Reader_readNumber_93 (lv_at hl 3 rfl) ?_
      refine lv_bipush (v := 10) hx hb d_Reader_readNumber_95 (by decide) ?_
      refine lv_icmp_gt (tgt := 108) hx hb d_Reader_readNumber_97 (by decide) (fun hc97 => ?_) (fun hc97 => ?_)
      · have hf := ob_t hc97 hf
        refine lv_iconst (v := (-1)) hx hb d_Reader_readNumber_108 (by decide) ?_
        exact hret ((-1), v_place_87, v_question_numbers_87) H locs _ ls hf hP hD hS rfl d_Reader_readNumber_109
      · have hf := ob_f hc97 hf
        refine lv_lload_n hx hb d_Reader_readNumber_100 rfl (lv_at hl 0 rfl) ?_
        refine lv_lload_n hx hb d_Reader_readNumber_101 rfl (lv_at hl 0 rfl) ?_
        refine lv_l2i hx hb d_Reader_readNumber_102 rfl ?_
        refine lv_i2l hx hb d_Reader_readNumber_103 rfl ?_
        refine W.lcmp hx hb d_Reader_readNumber_104 ?_
        refine lv_if_eq (tgt := 110) hx hb d_Reader_readNumber_105 (by decide) (fun hc105 => ?_) (fun hc105 => ?_)
        · have hf := ob_t hc105 hf
          refine lv_aload_n hx hb d_Reader_readNumber_110 rfl (lv_at hl 1 rfl) ?_
          refine va_get (D := D) (ci := 8) (v := .ref a_question) (C := "ObjectBase$Reader") (T := TC_Reader) (N := 6) hx hb hts inC_Reader hown hK hP 0 rfl rfl 2 (by decide) (hts _ tw177) (fun _ h9 => h9) rfl d_Reader_readNumber_111 ?_
          refine va_get (D := D) (ci := 7) (v := .ref a_question_numbers) (C := "ObjectBase$Question") (T := TC_Question) (N := 11) hx hb hts inC_Question hown hK hP 1 rfl rfl 1 (by decide) (hts _ tw539) (fun _ h9 => h9) rfl d_Reader_readNumber_114 ?_
          refine lv_iload_n hx hb d_Reader_readNumber_117 rfl (lv_at hl 2 rfl) ?_
          refine lv_lload_n hx hb d_Reader_readNumber_118 rfl (lv_at hl 0 rfl) ?_
          refine lv_l2i hx hb d_Reader_readNumber_119 rfl ?_
          obtain ⟨hg120, hf⟩ := ob_iv_g hf
          refine va_iast hx hb hK hP hD hS 4 0 rfl rfl hg120 d_Reader_readNumber_120 (fun H locs hP hD hS => ?_)
          have hP : va_P D vwCl (cw_Reader_readNumber G a_t a_question a_question_text a_question_text_chars a_question_numbers a_schema a_standing a_question_kinds a_question_inner a_question_next a_question_left a_question_right v_place_87 v_ledTo v_question_nodeCount v_question_root v_question_asked v_question_mode v_question_text_length v_question_text_chars (upd v_question_numbers_87 x87_1.toNatClampNeg y87_0.toInt32)) H := hP
          have hD : va_D A (cw_Reader_readNumber G a_t a_question a_question_text a_question_text_chars a_question_numbers a_schema a_standing a_question_kinds a_question_inner a_question_next a_question_left a_question_right v_place_87 v_ledTo v_question_nodeCount v_question_root v_question_asked v_question_mode v_question_text_length v_question_text_chars (upd v_question_numbers_87 x87_1.toNatClampNeg y87_0.toInt32)) := hD
          refine lv_iconst (v := 0) hx hb d_Reader_readNumber_121 (by decide) ?_
          exact hret (0, v_place_87, upd v_question_numbers_87 x87_1.toNatClampNeg y87_0.toInt32) H locs _ ls hf hP hD hS rfl d_Reader_readNumber_122
        · have hf := ob_f hc105 hf
          refine lv_iconst (v := (-1)) hx hb d_Reader_readNumber_108 (by decide) ?_
          exact hret ((-1), v_place_87, v_question_numbers_87) H locs _ ls hf hP hD hS rfl d_Reader_readNumber_109
  have blk77 : ∀ (x77_1 : Int32) (x77_2 : Int32) (x77_3 : Int64) (x77_5 : Int32) (v_place_77 : Int32) (v_question_numbers_77 : Nat → Int32) (ls : Array Slot) (H : Heap) (locs : List Loc), lv_has ls 6 [(0, .ref a_t), (1, .int x77_1), (2, .int x77_2), (3, .long x77_3), (5, .int x77_5)] → va_P D vwCl (cw_Reader_readNumber G a_t a_question a_question_text a_question_text_chars a_question_numbers a_schema a_standing a_question_kinds a_question_inner a_question_next a_question_left a_question_right v_place_77 v_ledTo v_question_nodeCount v_question_root v_question_asked v_question_mode v_question_text_length v_question_text_chars v_question_numbers_77) H → va_D A (cw_Reader_readNumber G a_t a_question a_question_text a_question_text_chars a_question_numbers a_schema a_standing a_question_kinds a_question_inner a_question_next a_question_left a_question_right v_place_77 v_ledTo v_question_nodeCount v_question_root v_question_asked v_question_mode v_question_text_length v_question_text_chars v_question_numbers_77) → va_S A s.heap H locs → f_Reader_readNumber_J77 x77_1 x77_2 x77_3 x77_5 v_place_77 v_question_numbers_77 = some o → W p l e ({ frames := 1, cells := 0, slots := 0, locals := 21 }) s m ([.ref a_t] : List Value).toArray below meth c H locs 0 0 Q (F0 m 77 ls []) := by
    intro x77_1 x77_2 x77_3 x77_5 v_place_77 v_question_numbers_77 ls H locs hl hP hD hS hf
    unfold f_Reader_readNumber_J77 at hf
    refine lv_iload_n hx hb d_Reader_readNumber_77 rfl (lv_at hl 2 rfl) ?_
    refine lv_if_eq (tgt := 86) hx hb d_Reader_readNumber_78 (by decide) (fun hc78 => ?_) (fun hc78 => ?_)
    · have hf := ob_t hc78 hf
      refine lv_lload_n hx hb d_Reader_readNumber_86 rfl (lv_at hl 3 rfl) ?_
      exact blk87 x77_1 x77_5 x77_3 v_place_77 v_question_numbers_77 ls H locs (lv_sub hl [0, 1, 4] rfl) hP hD hS hf
    · have hf := ob_f hc78 hf
      refine lv_lload_n hx hb d_Reader_readNumber_81 rfl (lv_at hl 3 rfl) ?_
      refine lv_lneg hx hb d_Reader_readNumber_82 ?_
      refine lv_goto (tgt := 87) hx hb d_Reader_readNumber_83 (by decide) ?_
      exact blk87 x77_1 x77_5 (-x77_3) v_place_77 v_question_numbers_77 ls H locs (lv_sub hl [0, 1, 4] rfl) hP hD hS hf
  have loop39 : ∀ (n39 : Nat) (x39_1 : Int32) (x39_2 : Int32) (x39_3 : Int64) (x39_5 : Int32) (v_place_39 : Int32) (v_question_numbers_39 : Nat → Int32) (ls : Array Slot) (H : Heap) (locs : List Loc), lv_has ls 6 [(0, .ref a_t), (1, .int x39_1), (2, .int x39_2), (3, .long x39_3), (5, .int x39_5)] → va_P D vwCl (cw_Reader_readNumber G a_t a_question a_question_text a_question_text_chars a_question_numbers a_schema a_standing a_question_kinds a_question_inner a_question_next a_question_left a_question_right v_place_39 v_ledTo v_question_nodeCount v_question_root v_question_asked v_question_mode v_question_text_length v_question_text_chars v_question_numbers_39) H → va_D A (cw_Reader_readNumber G a_t a_question a_question_text a_question_text_chars a_question_numbers a_schema a_standing a_question_kinds a_question_inner a_question_next a_question_left a_question_right v_place_39 v_ledTo v_question_nodeCount v_question_root v_question_asked v_question_mode v_question_text_length v_question_text_chars v_question_numbers_39) → va_S A s.heap H locs → f_Reader_readNumber_L39 v_question_text_length v_question_text_chars n39 x39_1 x39_2 x39_3 x39_5 v_place_39 v_question_numbers_39 = some o → W p l e ({ frames := 1, cells := 0, slots := 0, locals := 21 }) s m ([.ref a_t] : List Value).toArray below meth c H locs 0 0 Q (F0 m 39 ls []) := by
    intro n39
    induction n39 with
    | zero => intro x39_1 x39_2 x39_3 x39_5 v_place_39 v_question_numbers_39 ls H locs hl hP hD hS hf; exact ob_no hf
    | succ n39 ih39 =>
      intro x39_1 x39_2 x39_3 x39_5 v_place_39 v_question_numbers_39 ls H locs hl hP hD hS hf
      have hf : f_Reader_readNumber_B39 v_question_text_length v_question_text_chars (f_Reader_readNumber_L39 v_question_text_length v_question_text_chars n39) x39_1 x39_2 x39_3 x39_5 v_place_39 v_question_numbers_39 = some o := hf
      unfold f_Reader_readNumber_B39 at hf
      refine lv_iload hx hb d_Reader_readNumber_39 (lv_at hl 4 rfl) ?_
      refine lv_bipush (v := 10) hx hb d_Reader_readNumber_41 (by decide) ?_
      refine lv_icmp_gt (tgt := 77) hx hb d_Reader_readNumber_43 (by decide) (fun hc43 => ?_) (fun hc43 => ?_)
      · have hf := ob_t hc43 hf
        exact blk77 x39_1 x39_2 x39_3 x39_5 v_place_39 v_question_numbers_39 ls H locs (lv_sub hl [0, 1, 2, 3, 4] rfl) hP hD hS hf
      · have hf := ob_f hc43 hf
        refine lv_aload_n hx hb d_Reader_readNumber_46 rfl (lv_at hl 0 rfl) ?_
        obtain ⟨o47, ho47, hf⟩ := ob_b hf
        refine ob_calli (w2 := (cw_Reader_readNumber G a_t a_question a_question_text a_question_text_chars a_question_numbers a_schema a_standing a_question_kinds a_question_inner a_question_next a_question_left a_question_right v_place_39 v_ledTo v_question_nodeCount v_question_root v_question_asked v_question_mode v_question_text_length v_question_text_chars v_question_numbers_39)) (va_runV (As := []) (rest := []) ⟨hx, hb, hml, hown, hts⟩ (c_Reader_peek l D G a_t a_question_text a_question_text_chars a_schema a_standing a_question v_place_39 v_ledTo v_question_text_length v_question_text_chars o47 ho47 H.size) (cwV 0 hts (gV tw621 tw623 tp10 tw8 tw624) rfl rfl rfl (by decide +kernel) ⟨Nat.le_of_ble_eq_true rfl, Nat.le_of_ble_eq_true rfl⟩) (ob_preV (q0 := 0) (ci := 8) hZ hK hP hD [0, 2, 3] rfl rfl rfl rfl rfl) rfl rfl hl.1 rfl (lv_room (Nat.le_of_ble_eq_true rfl)) d_Reader_readNumber_47 ⟨Nat.le_refl _, Nat.le_refl _⟩) hP hD hA hS [0, 2, 3] rfl rfl rfl rfl (fun H locs hP hD hS => ?_)
        obtain ⟨o50, ho50, hf⟩ := ob_b hf
        refine ob_calli (w2 := (cw_Reader_readNumber G a_t a_question a_question_text a_question_text_chars a_question_numbers a_schema a_standing a_question_kinds a_question_inner a_question_next a_question_left a_question_right v_place_39 v_ledTo v_question_nodeCount v_question_root v_question_asked v_question_mode v_question_text_length v_question_text_chars v_question_numbers_39)) (va_runSN (As := [.int o47]) (rest := []) ⟨hx, hb, hml, hown, hts⟩ (c_OB_isDigit l D G  o47 o50 ho50 H.size) ⟨va_cnB 1 hts (gN tw648) rfl rfl rfl (hZ.2 _ _ _ _ tw646) (hts _ tw1) (by decide +kernel) ⟨Nat.le_of_ble_eq_true rfl, Nat.le_of_ble_eq_true rfl⟩, hts _ tw647, trivial⟩ (ob_preS hZ hK hP hD [] rfl rfl) rfl rfl hl.1 rfl (lv_room (Nat.le_of_ble_eq_true rfl)) d_Reader_readNumber_50 ⟨Nat.le_refl _, Nat.le_refl _⟩) hP hD hA hS [] rfl rfl rfl rfl (fun H locs hP hD hS => ?_)
        refine lv_if_eq (tgt := 77) hx hb d_Reader_readNumber_53 (by decide) (fun hc53 => ?_) (fun hc53 => ?_)
        · have hf := ob_t hc53 hf
          exact blk77 x39_1 x39_2 x39_3 x39_5 v_place_39 v_question_numbers_39 ls H locs (lv_sub hl [0, 1, 2, 3, 4] rfl) hP hD hS hf
        · have hf := ob_f hc53 hf
          refine lv_lload_n hx hb d_Reader_readNumber_56 rfl (lv_at hl 3 rfl) ?_
          refine lv_ldc2 (v := 10) hx hb hown (hts _ tw653) d_Reader_readNumber_57 ?_
          refine lv_lmul hx hb d_Reader_readNumber_60 ?_
          refine lv_aload_n hx hb d_Reader_readNumber_61 rfl (lv_at hl 0 rfl) ?_
          obtain ⟨o62, ho62, hf⟩ := ob_b hf
          refine ob_calli (w2 := (cw_Reader_readNumber G a_t a_question a_question_text a_question_text_chars a_question_numbers a_schema a_standing a_question_kinds a_question_inner a_question_next a_question_left a_question_right o62.2 v_ledTo v_question_nodeCount v_question_root v_question_asked v_question_mode v_question_text_length v_question_text_chars v_question_numbers_39)) (va_runV (As := []) (rest := [.long (x39_3 * 10)]) ⟨hx, hb, hml, hown, hts⟩ (c_Reader_take l D G a_t a_question_text a_question_text_chars a_schema a_standing a_question v_place_39 v_ledTo v_question_text_length v_question_text_chars o62 ho62 H.size) (cwV 0 hts (gV tw617 tw619 tp9 tw8 tw620) rfl rfl rfl (by decide +kernel) ⟨Nat.le_of_ble_eq_true rfl, Nat.le_of_ble_eq_true rfl⟩) (ob_preV (q0 := 0) (ci := 8) hZ hK hP hD [0, 2, 3] rfl rfl rfl rfl rfl) rfl rfl hl.1 rfl (lv_room (Nat.le_of_ble_eq_true rfl)) d_Reader_readNumber_62 ⟨Nat.le_refl _, Nat.le_refl _⟩) hP hD hA hS [0, 2, 3] rfl rfl rfl rfl (fun H locs hP hD hS => ?_)
          refine lv_bipush (v := 48) hx hb d_Reader_readNumber_65 (by decide) ?_
          refine lv_isub hx hb d_Reader_readNumber_67 ?_
          refine lv_i2l hx hb d_Reader_readNumber_68 rfl ?_
          refine lv_ladd hx hb d_Reader_readNumber_69 ?_
          refine lv_lstore_n (lv' := [(3, .long ((x39_3 * 10) + ((o62.1 - 48).toInt64))), (0, .ref a_t), (1, .int x39_1), (2, .int x39_2), (5, .int x39_5)]) hx hb d_Reader_readNumber_70 rfl hl (by decide) rfl (fun ls hl => ?_)
          refine lv_iinc (k := 4) (v := x39_5 + 1) (lv' := [(5, .int (x39_5 + 1)), (3, .long ((x39_3 * 10) + ((o62.1 - 48).toInt64))), (0, .ref a_t), (1, .int x39_1), (2, .int x39_2)]) hx hb d_Reader_readNumber_71 hl rfl (by rw [show Int32.ofInt 1 = (1 : Int32) from by decide]) (by decide) rfl (fun ls hl => ?_)
          refine lv_goto (tgt := 39) hx hb d_Reader_readNumber_74 (by decide) ?_
          exact ih39 x39_1 x39_2 ((x39_3 * 10) + ((o62.1 - 48).toInt64)) (x39_5 + 1) o62.2 v_question_numbers_39 ls H locs (lv_sub hl [2, 3, 4, 1, 0] rfl) hP hD hS hf
  have blk19 : ∀ (x19_1 : Int32) (y19_0 : Int32) (v_place_19 : Int32) (v_question_numbers_19 : Nat → Int32) (ls : Array Slot) (H : Heap) (locs : List Loc), lv_has ls 6 [(0, .ref a_t), (1, .int x19_1)] → va_P D vwCl (cw_Reader_readNumber G a_t a_question a_question_text a_question_text_chars a_question_numbers a_schema a_standing a_question_kinds a_question_inner a_question_next a_question_left a_question_right v_place_19 v_ledTo v_question_nodeCount v_question_root v_question_asked v_question_mode v_question_text_length v_question_text_chars v_question_numbers_19) H → va_D A (cw_Reader_readNumber G a_t a_question a_question_text a_question_text_chars a_question_numbers a_schema a_standing a_question_kinds a_question_inner a_question_next a_question_left a_question_right v_place_19 v_ledTo v_question_nodeCount v_question_root v_question_asked v_question_mode v_question_text_length v_question_text_chars v_question_numbers_19) → va_S A s.heap H locs → f_Reader_readNumber_J19 v_question_text_length v_question_text_chars x19_1 y19_0 v_place_19 v_question_numbers_19 = some o → W p l e ({ frames := 1, cells := 0, slots := 0, locals := 21 }) s m ([.ref a_t] : List Value).toArray below meth c H locs 0 0 Q (F0 m 19 ls [.int y19_0]) := by
    intro x19_1 y19_0 v_place_19 v_question_numbers_19 ls H locs hl hP hD hS hf
    unfold f_Reader_readNumber_J19 at hf
    refine lv_istore_n (lv' := [(2, .int y19_0), (0, .ref a_t), (1, .int x19_1)]) hx hb d_Reader_readNumber_19 rfl hl (by decide) rfl (fun ls hl => ?_)
    refine lv_iload_n hx hb d_Reader_readNumber_20 rfl (lv_at hl 0 rfl) ?_
    refine lv_if_eq (tgt := 34) hx hb d_Reader_readNumber_21 (by decide) (fun hc21 => ?_) (fun hc21 => ?_)
    · have hf := ob_t hc21 hf
      refine lv_lconst (v := 0) hx hb d_Reader_readNumber_34 (by decide) ?_
      refine lv_lstore_n (lv' := [(3, .long 0), (2, .int y19_0), (0, .ref a_t), (1, .int x19_1)]) hx hb d_Reader_readNumber_35 rfl hl (by decide) rfl (fun ls hl => ?_)
      refine lv_iconst (v := 0) hx hb d_Reader_readNumber_36 (by decide) ?_
      refine lv_istore (lv' := [(5, .int 0), (3, .long 0), (2, .int y19_0), (0, .ref a_t), (1, .int x19_1)]) hx hb d_Reader_readNumber_37 hl (by decide) rfl (fun ls hl => ?_)
      exact loop39 1000 x19_1 y19_0 0 0 v_place_19 v_question_numbers_19 ls H locs (lv_sub hl [3, 4, 2, 1, 0] rfl) hP hD hS hf
    · have hf := ob_f hc21 hf
      refine lv_aload_n hx hb d_Reader_readNumber_24 rfl (lv_at hl 1 rfl) ?_
      refine lv_dup hx hb d_Reader_readNumber_25 rfl ?_
      refine va_get (D := D) (ci := 8) (v := .int v_place_19) (C := "ObjectBase$Reader") (T := TC_Reader) (N := 6) hx hb hts inC_Reader hown hK hP 0 rfl rfl 4 (by decide) (hts _ tw179) (fun _ h9 => h9) rfl d_Reader_readNumber_26 ?_
      refine lv_iconst (v := 1) hx hb d_Reader_readNumber_29 (by decide) ?_
      refine lv_iadd hx hb d_Reader_readNumber_30 ?_
      refine va_put (D := D) (ci := 8) (v := .int (v_place_19 + 1)) (ty := .int) (C := "ObjectBase$Reader") (T := TC_Reader) (N := 6) hx hb hts inC_Reader tyC_Reader tyC_Reader_ok nmC_Reader hown hK hP hD hS 0 rfl rfl 4 (by decide) (hts _ tw179) (fun _ h9 => h9) rfl (by decide +kernel) rfl rfl (Nat.le_of_ble_eq_true rfl) d_Reader_readNumber_31 (fun H locs hP hD hS => ?_)
      have hP : va_P D vwCl (cw_Reader_readNumber G a_t a_question a_question_text a_question_text_chars a_question_numbers a_schema a_standing a_question_kinds a_question_inner a_question_next a_question_left a_question_right (v_place_19 + 1) v_ledTo v_question_nodeCount v_question_root v_question_asked v_question_mode v_question_text_length v_question_text_chars v_question_numbers_19) H := hP
      have hD : va_D A (cw_Reader_readNumber G a_t a_question a_question_text a_question_text_chars a_question_numbers a_schema a_standing a_question_kinds a_question_inner a_question_next a_question_left a_question_right (v_place_19 + 1) v_ledTo v_question_nodeCount v_question_root v_question_asked v_question_mode v_question_text_length v_question_text_chars v_question_numbers_19) := hD
      refine lv_lconst (v := 0) hx hb d_Reader_readNumber_34 (by decide) ?_
      refine lv_lstore_n (lv' := [(3, .long 0), (2, .int y19_0), (0, .ref a_t), (1, .int x19_1)]) hx hb d_Reader_readNumber_35 rfl hl (by decide) rfl (fun ls hl => ?_)
      refine lv_iconst (v := 0) hx hb d_Reader_readNumber_36 (by decide) ?_
      refine lv_istore (lv' := [(5, .int 0), (3, .long 0), (2, .int y19_0), (0, .ref a_t), (1, .int x19_1)]) hx hb d_Reader_readNumber_37 hl (by decide) rfl (fun ls hl => ?_)
      exact loop39 1000 x19_1 y19_0 0 0 (v_place_19 + 1) v_question_numbers_19 ls H locs (lv_sub hl [3, 4, 2, 1, 0] rfl) hP hD hS hf
  refine lv_aload_n hx hb d_Reader_readNumber_0 rfl (lv_at hl 0 rfl) ?_
  refine va_get (D := D) (ci := 8) (v := .int v_place) (C := "ObjectBase$Reader") (T := TC_Reader) (N := 6) hx hb hts inC_Reader hown hK hP 0 rfl rfl 4 (by decide) (hts _ tw179) (fun _ h9 => h9) rfl d_Reader_readNumber_1 ?_
  refine lv_istore_n (lv' := [(1, .int v_place), (0, .ref a_t)]) hx hb d_Reader_readNumber_4 rfl hl (by decide) rfl (fun ls hl => ?_)
  refine lv_aload_n hx hb d_Reader_readNumber_5 rfl (lv_at hl 1 rfl) ?_
  obtain ⟨o6, ho6, hf⟩ := ob_b hf
  refine ob_calli (w2 := (cw_Reader_readNumber G a_t a_question a_question_text a_question_text_chars a_question_numbers a_schema a_standing a_question_kinds a_question_inner a_question_next a_question_left a_question_right v_place v_ledTo v_question_nodeCount v_question_root v_question_asked v_question_mode v_question_text_length v_question_text_chars v_question_numbers)) (va_runV (As := []) (rest := []) ⟨hx, hb, hml, hown, hts⟩ (c_Reader_peek l D G a_t a_question_text a_question_text_chars a_schema a_standing a_question v_place v_ledTo v_question_text_length v_question_text_chars o6 ho6 H.size) (cwV 0 hts (gV tw621 tw623 tp10 tw8 tw624) rfl rfl rfl (by decide +kernel) ⟨Nat.le_of_ble_eq_true rfl, Nat.le_of_ble_eq_true rfl⟩) (ob_preV (q0 := 0) (ci := 8) hZ hK hP hD [0, 2, 3] rfl rfl rfl rfl rfl) rfl rfl hl.1 rfl (lv_room (Nat.le_of_ble_eq_true rfl)) d_Reader_readNumber_6 ⟨Nat.le_refl _, Nat.le_refl _⟩) hP hD hA hS [0, 2, 3] rfl rfl rfl rfl (fun H locs hP hD hS => ?_)
  refine lv_bipush (v := 45) hx hb d_Reader_readNumber_9 (by decide) ?_
  refine lv_icmp_ne (tgt := 18) hx hb d_Reader_readNumber_11 (by decide) (fun hc11 => ?_) (fun hc11 => ?_)
  · have hf := ob_f hc11 hf
    refine lv_iconst (v := 0) hx hb d_Reader_readNumber_18 (by decide) ?_
    exact blk19 v_place 0 v_place v_question_numbers ls H locs (lv_sub hl [1, 0] rfl) hP hD hS hf
  · have hf := ob_t hc11 hf
    refine lv_iconst (v := 1) hx hb d_Reader_readNumber_14 (by decide) ?_
    refine lv_goto (tgt := 19) hx hb d_Reader_readNumber_15 (by decide) ?_
    exact blk19 v_place 1 v_place v_question_numbers ls H locs (lv_sub hl [1, 0] rfl) hP hD hS hf
