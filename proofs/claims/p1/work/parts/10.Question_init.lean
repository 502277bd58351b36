abbrev bc_Question_init : ByteArray := prog_8_method_1_code
abbrev y_Question_init : MethodName := ⟨"ObjectBase$Question", "<init>", "()V"⟩
def ws_Question_init : List Cond := .code y_Question_init bc_Question_init 1 none :: obW
theorem d_Question_init_0 : decode bc_Question_init 0 = .ok (.aload_n 0, 1) := by decide +kernel
theorem d_Question_init_1 : decode bc_Question_init 1 = .ok (.invokespecial 3, 3) := by decide +kernel
theorem d_Question_init_4 : decode bc_Question_init 4 = .ok (.aload_n 0, 1) := by decide +kernel
theorem d_Question_init_5 : decode bc_Question_init 5 = .ok (.new 9, 3) := by decide +kernel
theorem d_Question_init_8 : decode bc_Question_init 8 = .ok (.dup, 1) := by decide +kernel
theorem d_Question_init_9 : decode bc_Question_init 9 = .ok (.invokespecial 11, 3) := by decide +kernel
theorem d_Question_init_12 : decode bc_Question_init 12 = .ok (.putfield 12, 3) := by decide +kernel
theorem d_Question_init_15 : decode bc_Question_init 15 = .ok (.aload_n 0, 1) := by decide +kernel
theorem d_Question_init_16 : decode bc_Question_init 16 = .ok (.bipush 60, 2) := by decide +kernel
theorem d_Question_init_18 : decode bc_Question_init 18 = .ok (.newarray .int, 2) := by decide +kernel
theorem d_Question_init_20 : decode bc_Question_init 20 = .ok (.putfield 18, 3) := by decide +kernel
theorem d_Question_init_23 : decode bc_Question_init 23 = .ok (.aload_n 0, 1) := by decide +kernel
theorem d_Question_init_24 : decode bc_Question_init 24 = .ok (.bipush 60, 2) := by decide +kernel
theorem d_Question_init_26 : decode bc_Question_init 26 = .ok (.newarray .int, 2) := by decide +kernel
theorem d_Question_init_28 : decode bc_Question_init 28 = .ok (.putfield 22, 3) := by decide +kernel
theorem d_Question_init_31 : decode bc_Question_init 31 = .ok (.aload_n 0, 1) := by decide +kernel
theorem d_Question_init_32 : decode bc_Question_init 32 = .ok (.bipush 60, 2) := by decide +kernel
theorem d_Question_init_34 : decode bc_Question_init 34 = .ok (.newarray .int, 2) := by decide +kernel
theorem d_Question_init_36 : decode bc_Question_init 36 = .ok (.putfield 25, 3) := by decide +kernel
theorem d_Question_init_39 : decode bc_Question_init 39 = .ok (.aload_n 0, 1) := by decide +kernel
theorem d_Question_init_40 : decode bc_Question_init 40 = .ok (.bipush 60, 2) := by decide +kernel
theorem d_Question_init_42 : decode bc_Question_init 42 = .ok (.newarray .int, 2) := by decide +kernel
theorem d_Question_init_44 : decode bc_Question_init 44 = .ok (.putfield 28, 3) := by decide +kernel
theorem d_Question_init_47 : decode bc_Question_init 47 = .ok (.aload_n 0, 1) := by decide +kernel
theorem d_Question_init_48 : decode bc_Question_init 48 = .ok (.bipush 60, 2) := by decide +kernel
theorem d_Question_init_50 : decode bc_Question_init 50 = .ok (.newarray .int, 2) := by decide +kernel
theorem d_Question_init_52 : decode bc_Question_init 52 = .ok (.putfield 31, 3) := by decide +kernel
theorem d_Question_init_55 : decode bc_Question_init 55 = .ok (.aload_n 0, 1) := by decide +kernel
theorem d_Question_init_56 : decode bc_Question_init 56 = .ok (.bipush 60, 2) := by decide +kernel
theorem d_Question_init_58 : decode bc_Question_init 58 = .ok (.newarray .int, 2) := by decide +kernel
theorem d_Question_init_60 : decode bc_Question_init 60 = .ok (.putfield 34, 3) := by decide +kernel
theorem d_Question_init_63 : decode bc_Question_init 63 = .ok (.return_, 1) := by decide +kernel
def nw_Question (G : Nat → ClassId) (a_t : Nat) (b0 : Nat) (b1 : Nat) (b2 : Nat) (b3 : Nat) (b4 : Nat) (b5 : Nat) (b6 : Nat) (b7 : Nat) : va_W := [(a_t, .inr (7, [.ref b0, .ref b2, .ref b3, .ref b4, .ref b5, .ref b6, .ref b7, .int 0, .int 0, .int 0, .int 0])), (b0, .inr (6, [.ref b1, .int 0])), (b1, .inl (G 2, 60, .inl (fun _ => 0))), (b2, .inl (G 0, 60, .inl (fun _ => 0))), (b3, .inl (G 0, 60, .inl (fun _ => 0))), (b4, .inl (G 0, 60, .inl (fun _ => 0))), (b5, .inl (G 0, 60, .inl (fun _ => 0))), (b6, .inl (G 0, 60, .inl (fun _ => 0))), (b7, .inl (G 0, 60, .inl (fun _ => 0)))]
set_option maxHeartbeats 4000000 in
set_option maxRecDepth 100000 in
theorem n_Question (l : Launch) (D : va_G) (G : Nat → ClassId) (a_t : Nat) (sz : Nat) : Met l y_Question_init ws_Question_init ({ frames := 2, cells := 8, slots := 422, locals := 32 }) (ObPre D (obT G) [(a_t, .inr (7, [.null, .null, .null, .null, .null, .null, .null, .int 0, .int 0, .int 0, .int 0]))] sz [.ref a_t]) (va_Qv (S := Nat × Nat × Nat × Nat × Nat × Nat × Nat × Nat) (fun _ => True) (fun u t => ObAt D (obT G) (nw_Question G a_t u.1 u.2.1 u.2.2.1 u.2.2.2.1 u.2.2.2.2.1 u.2.2.2.2.2.1 u.2.2.2.2.2.2.1 u.2.2.2.2.2.2.2) (va_A [(a_t, .inr (7, [.null, .null, .null, .null, .null, .null, .null, .int 0, .int 0, .int 0, .int 0]))] sz) t) (va_A [(a_t, .inr (7, [.null, .null, .null, .null, .null, .null, .null, .int 0, .int 0, .int 0, .int 0]))] sz)) 8 422 (va_A [(a_t, .inr (7, [.null, .null, .null, .null, .null, .null, .null, .int 0, .int 0, .int 0, .int 0]))] sz) := by
  refine ob_of (cc := bc_Question_init) (maxL := 1) (ret := none) (Qc := fun A => va_Qv (S := Nat × Nat × Nat × Nat × Nat × Nat × Nat × Nat) (fun _ => True) (fun u t => ObAt D (obT G) (nw_Question G a_t u.1 u.2.1 u.2.2.1 u.2.2.2.1 u.2.2.2.2.1 u.2.2.2.2.2.1 u.2.2.2.2.2.2.1 u.2.2.2.2.2.2.2) A t) A) (by decide) rfl (Nat.le_of_ble_eq_true rfl) ?_
  intro p e s m below meth c A ls H locs hx hb hr hml hts hown hlk hnm hZ hP hK hD hA hS hl
  have hin : meth.name = "<init>" := hnm
  have hl : lv_has ls 1 [(0, .ref a_t)] := hl
  refine lv_aload_n hx hb d_Question_init_0 rfl (lv_at hl 0 rfl) ?_
  refine W.objInit hx hb hown (hts _ tw529) (hts _ tw21) (hts _ tw22) rfl (by rw [hml]; exact hl.1) rfl d_Question_init_1 (Nat.le_of_ble_eq_true rfl) (Nat.le_of_ble_eq_true rfl) ?_
  refine W.eq (g2 := F0 m 4 ls []) rfl ?_
  refine lv_aload_n hx hb d_Question_init_4 rfl (lv_at hl 0 rfl) ?_
  refine va_new (ci := 6) (fs := [.null, .int 0]) (C := "ObjectBase$Text") (T := TC_Text) (N := 2) hx hb hts inC_Text tyC_Text tyC_Text_ok hown (hts _ tw530) (hts _ tw151) (hts _ tw7) hK hP hD hS hA rfl (by intro j hj; rcases (show j = 0 ∨ j = 1 by omega) with rfl | rfl <;> rfl) (Nat.le_of_ble_eq_true rfl) (Nat.le_of_ble_eq_true rfl) d_Question_init_5 (fun q5 H hP hD hS => ?_)
  refine W.cs (cells' := 1) (slots' := 2) rfl rfl ?_
  have hP : va_P D vwCl [(a_t, .inr (7, [.null, .null, .null, .null, .null, .null, .null, .int 0, .int 0, .int 0, .int 0])), (q5, .inr (6, [.null, .int 0]))] H := hP
  have hD : va_D A [(a_t, .inr (7, [.null, .null, .null, .null, .null, .null, .null, .int 0, .int 0, .int 0, .int 0])), (q5, .inr (6, [.null, .int 0]))] := hD
  refine lv_dup hx hb d_Question_init_8 rfl ?_
  have hFc := va_free (wc := [(q5, .inr (6, [.null, .int 0]))]) hD hS hA [1] rfl
  refine va_callv (va_runIN (As := []) (rest := [.ref q5, .ref a_t]) ⟨hx, hb, hml, hown, hts⟩ (n_Text l D G q5 H.size) ⟨va_cnB 0 hts (gN tw154) rfl rfl rfl (hZ.2 _ _ _ _ tw531) (hts _ tw7) (by decide +kernel) ⟨Nat.le_of_ble_eq_true rfl, Nat.le_of_ble_eq_true rfl⟩, rfl, hts _ tw153⟩ (ob_preS hZ hK hP hD [1] rfl rfl) rfl rfl hl.1 rfl (lv_room (Nat.le_of_ble_eq_true rfl)) d_Question_init_9 ⟨Nat.le_of_ble_eq_true rfl, Nat.le_of_ble_eq_true rfl⟩) hS (fun q _ h => hFc q h) hFc (fun u9 t H1 locs ht hvm hw hB hz1 hk1 hS => ?_)
  obtain ⟨hP1, hK1, hD1⟩ := hB
  rw [ht] at hP1
  obtain ⟨hP, hD⟩ := va_join (wr := [(a_t, .inr (7, [.null, .null, .null, .null, .null, .null, .null, .int 0, .int 0, .int 0, .int 0]))]) (w1 := [(q5, .inr (6, [.ref u9, .int 0])), (u9, .inl (G 2, 60, .inl (fun _ => 0)))]) hP hD [1] [0] rfl rfl (by decide) (by decide) hk1 hFc hP1 hD1
  generalize H1 = H at hP hS ⊢
  refine W.cs (cells' := 2) (slots' := 62) rfl rfl ?_
  have hP : va_P D vwCl [(a_t, .inr (7, [.null, .null, .null, .null, .null, .null, .null, .int 0, .int 0, .int 0, .int 0])), (q5, .inr (6, [.ref u9, .int 0])), (u9, .inl (G 2, 60, .inl (fun _ => 0)))] H := hP
  have hD : va_D A [(a_t, .inr (7, [.null, .null, .null, .null, .null, .null, .null, .int 0, .int 0, .int 0, .int 0])), (q5, .inr (6, [.ref u9, .int 0])), (u9, .inl (G 2, 60, .inl (fun _ => 0)))] := hD
  refine va_putF (D := D) (ci := 7) (v := .ref q5) (ty := .object "ObjectBase$Text") (C := "ObjectBase$Question") (T := TC_Question) (N := 11) hx hb hts inC_Question tyC_Question tyC_Question_ok nmC_Question hown hK hP hD hS 0 rfl rfl 0 (by decide) (hts _ tw532) (fun _ h9 => h9) rfl hin rfl (by decide +kernel) rfl rfl (Nat.le_of_ble_eq_true rfl) d_Question_init_12 (fun H locs hP hD hS => ?_)
  have hP : va_P D vwCl [(a_t, .inr (7, [.ref q5, .null, .null, .null, .null, .null, .null, .int 0, .int 0, .int 0, .int 0])), (q5, .inr (6, [.ref u9, .int 0])), (u9, .inl (G 2, 60, .inl (fun _ => 0)))] H := hP
  have hD : va_D A [(a_t, .inr (7, [.ref q5, .null, .null, .null, .null, .null, .null, .int 0, .int 0, .int 0, .int 0])), (q5, .inr (6, [.ref u9, .int 0])), (u9, .inl (G 2, 60, .inl (fun _ => 0)))] := hD
  refine lv_aload_n hx hb d_Question_init_15 rfl (lv_at hl 0 rfl) ?_
  refine lv_bipush (v := 60) hx hb d_Question_init_16 (by decide) ?_
  refine ob_newa (atype := .int) (N' := 60) (a0 := (60, .inl (fun _ => 0))) hx hb (hts _ tw56) rfl hK 0 rfl hP hD hS hA (fun _ => rfl) (by decide) (by decide) (by decide) (Nat.le_of_ble_eq_true rfl) (Nat.le_of_ble_eq_true rfl) d_Question_init_18 (fun q18 H hP hD hS => ?_)
  refine W.cs (cells' := 3) (slots' := 122) rfl rfl ?_
  have hP : va_P D vwCl [(a_t, .inr (7, [.ref q5, .null, .null, .null, .null, .null, .null, .int 0, .int 0, .int 0, .int 0])), (q5, .inr (6, [.ref u9, .int 0])), (u9, .inl (G 2, 60, .inl (fun _ => 0))), (q18, .inl (G 0, 60, .inl (fun _ => 0)))] H := hP
  have hD : va_D A [(a_t, .inr (7, [.ref q5, .null, .null, .null, .null, .null, .null, .int 0, .int 0, .int 0, .int 0])), (q5, .inr (6, [.ref u9, .int 0])), (u9, .inl (G 2, 60, .inl (fun _ => 0))), (q18, .inl (G 0, 60, .inl (fun _ => 0)))] := hD
  refine va_putF (D := D) (ci := 7) (v := .ref q18) (ty := .array .int) (C := "ObjectBase$Question") (T := TC_Question) (N := 11) hx hb hts inC_Question tyC_Question tyC_Question_ok nmC_Question hown hK hP hD hS 0 rfl rfl 1 (by decide) (hts _ tw537) (fun _ h9 => h9) rfl hin rfl (by decide +kernel) rfl rfl (Nat.le_of_ble_eq_true rfl) d_Question_init_20 (fun H locs hP hD hS => ?_)
  have hP : va_P D vwCl [(a_t, .inr (7, [.ref q5, .ref q18, .null, .null, .null, .null, .null, .int 0, .int 0, .int 0, .int 0])), (q5, .inr (6, [.ref u9, .int 0])), (u9, .inl (G 2, 60, .inl (fun _ => 0))), (q18, .inl (G 0, 60, .inl (fun _ => 0)))] H := hP
  have hD : va_D A [(a_t, .inr (7, [.ref q5, .ref q18, .null, .null, .null, .null, .null, .int 0, .int 0, .int 0, .int 0])), (q5, .inr (6, [.ref u9, .int 0])), (u9, .inl (G 2, 60, .inl (fun _ => 0))), (q18, .inl (G 0, 60, .inl (fun _ => 0)))] := hD
  refine lv_aload_n hx hb d_Question_init_23 rfl (lv_at hl 0 rfl) ?_
  refine lv_bipush (v := 60) hx hb d_Question_init_24 (by decide) ?_
  refine ob_newa (atype := .int) (N' := 60) (a0 := (60, .inl (fun _ => 0))) hx hb (hts _ tw56) rfl hK 0 rfl hP hD hS hA (fun _ => rfl) (by decide) (by decide) (by decide) (Nat.le_of_ble_eq_true rfl) (Nat.le_of_ble_eq_true rfl) d_Question_init_26 (fun q26 H hP hD hS => ?_)
  refine W.cs (cells' := 4) (slots' := 182) rfl rfl ?_
  have hP : va_P D vwCl [(a_t, .inr (7, [.ref q5, .ref q18, .null, .null, .null, .null, .null, .int 0, .int 0, .int 0, .int 0])), (q5, .inr (6, [.ref u9, .int 0])), (u9, .inl (G 2, 60, .inl (fun _ => 0))), (q18, .inl (G 0, 60, .inl (fun _ => 0))), (q26, .inl (G 0, 60, .inl (fun _ => 0)))] H := hP
  have hD : va_D A [(a_t, .inr (7, [.ref q5, .ref q18, .null, .null, .null, .null, .null, .int 0, .int 0, .int 0, .int 0])), (q5, .inr (6, [.ref u9, .int 0])), (u9, .inl (G 2, 60, .inl (fun _ => 0))), (q18, .inl (G 0, 60, .inl (fun _ => 0))), (q26, .inl (G 0, 60, .inl (fun _ => 0)))] := hD
  refine va_putF (D := D) (ci := 7) (v := .ref q26) (ty := .array .int) (C := "ObjectBase$Question") (T := TC_Question) (N := 11) hx hb hts inC_Question tyC_Question tyC_Question_ok nmC_Question hown hK hP hD hS 0 rfl rfl 2 (by decide) (hts _ tw540) (fun _ h9 => h9) rfl hin rfl (by decide +kernel) rfl rfl (Nat.le_of_ble_eq_true rfl) d_Question_init_28 (fun H locs hP hD hS => ?_)
  have hP : va_P D vwCl [(a_t, .inr (7, [.ref q5, .ref q18, .ref q26, .null, .null, .null, .null, .int 0, .int 0, .int 0, .int 0])), (q5, .inr (6, [.ref u9, .int 0])), (u9, .inl (G 2, 60, .inl (fun _ => 0))), (q18, .inl (G 0, 60, .inl (fun _ => 0))), (q26, .inl (G 0, 60, .inl (fun _ => 0)))] H := hP
  have hD : va_D A [(a_t, .inr (7, [.ref q5, .ref q18, .ref q26, .null, .null, .null, .null, .int 0, .int 0, .int 0, .int 0])), (q5, .inr (6, [.ref u9, .int 0])), (u9, .inl (G 2, 60, .inl (fun _ => 0))), (q18, .inl (G 0, 60, .inl (fun _ => 0))), (q26, .inl (G 0, 60, .inl (fun _ => 0)))] := hD
  refine lv_aload_n hx hb d_Question_init_31 rfl (lv_at hl 0 rfl) ?_
  refine lv_bipush (v := 60) hx hb d_Question_init_32 (by decide) ?_
  refine ob_newa (atype := .int) (N' := 60) (a0 := (60, .inl (fun _ => 0))) hx hb (hts _ tw56) rfl hK 0 rfl hP hD hS hA (fun _ => rfl) (by decide) (by decide) (by decide) (Nat.le_of_ble_eq_true rfl) (Nat.le_of_ble_eq_true rfl) d_Question_init_34 (fun q34 H hP hD hS => ?_)
  refine W.cs (cells' := 5) (slots' := 242) rfl rfl ?_
  have hP : va_P D vwCl [(a_t, .inr (7, [.ref q5, .ref q18, .ref q26, .null, .null, .null, .null, .int 0, .int 0, .int 0, .int 0])), (q5, .inr (6, [.ref u9, .int 0])), (u9, .inl (G 2, 60, .inl (fun _ => 0))), (q18, .inl (G 0, 60, .inl (fun _ => 0))), (q26, .inl (G 0, 60, .inl (fun _ => 0))), (q34, .inl (G 0, 60, .inl (fun _ => 0)))] H := hP
  have hD : va_D A [(a_t, .inr (7, [.ref q5, .ref q18, .ref q26, .null, .null, .null, .null, .int 0, .int 0, .int 0, .int 0])), (q5, .inr (6, [.ref u9, .int 0])), (u9, .inl (G 2, 60, .inl (fun _ => 0))), (q18, .inl (G 0, 60, .inl (fun _ => 0))), (q26, .inl (G 0, 60, .inl (fun _ => 0))), (q34, .inl (G 0, 60, .inl (fun _ => 0)))] := hD
  refine va_putF (D := D) (ci := 7) (v := .ref q34) (ty := .array .int) (C := "ObjectBase$Question") (T := TC_Question) (N := 11) hx hb hts inC_Question tyC_Question tyC_Question_ok nmC_Question hown hK hP hD hS 0 rfl rfl 3 (by decide) (hts _ tw542) (fun _ h9 => h9) rfl hin rfl (by decide +kernel) rfl rfl (Nat.le_of_ble_eq_true rfl) d_Question_init_36 (fun H locs hP hD hS => ?_)
  have hP : va_P D vwCl [(a_t, .inr (7, [.ref q5, .ref q18, .ref q26, .ref q34, .null, .null, .null, .int 0, .int 0, .int 0, .int 0])), (q5, .inr (6, [.ref u9, .int 0])), (u9, .inl (G 2, 60, .inl (fun _ => 0))), (q18, .inl (G 0, 60, .inl (fun _ => 0))), (q26, .inl (G 0, 60, .inl (fun _ => 0))), (q34, .inl (G 0, 60, .inl (fun _ => 0)))] H := hP
  have hD : va_D A [(a_t, .inr (7, [.ref q5, .ref q18, .ref q26, .ref q34, .null, .null, .null, .int 0, .int 0, .int 0, .int 0])), (q5, .inr (6, [.ref u9, .int 0])), (u9, .inl (G 2, 60, .inl (fun _ => 0))), (q18, .inl (G 0, 60, .inl (fun _ => 0))), (q26, .inl (G 0, 60, .inl (fun _ => 0))), (q34, .inl (G 0, 60, .inl (fun _ => 0)))] := hD
  refine lv_aload_n hx hb d_Question_init_39 rfl (lv_at hl 0 rfl) ?_
  refine lv_bipush (v := 60) hx hb d_Question_init_40 (by decide) ?_
  refine ob_newa (atype := .int) (N' := 60) (a0 := (60, .inl (fun _ => 0))) hx hb (hts _ tw56) rfl hK 0 rfl hP hD hS hA (fun _ => rfl) (by decide) (by decide) (by decide) (Nat.le_of_ble_eq_true rfl) (Nat.le_of_ble_eq_true rfl) d_Question_init_42 (fun q42 H hP hD hS => ?_)
  refine W.cs (cells' := 6) (slots' := 302) rfl rfl ?_
  have hP : va_P D vwCl [(a_t, .inr (7, [.ref q5, .ref q18, .ref q26, .ref q34, .null, .null, .null, .int 0, .int 0, .int 0, .int 0])), (q5, .inr (6, [.ref u9, .int 0])), (u9, .inl (G 2, 60, .inl (fun _ => 0))), (q18, .inl (G 0, 60, .inl (fun _ => 0))), (q26, .inl (G 0, 60, .inl (fun _ => 0))), (q34, .inl (G 0, 60, .inl (fun _ => 0))), (q42, .inl (G 0, 60, .inl (fun _ => 0)))] H := hP
  have hD : va_D A [(a_t, .inr (7, [.ref q5, .ref q18, .ref q26, .ref q34, .null, .null, .null, .int 0, .int 0, .int 0, .int 0])), (q5, .inr (6, [.ref u9, .int 0])), (u9, .inl (G 2, 60, .inl (fun _ => 0))), (q18, .inl (G 0, 60, .inl (fun _ => 0))), (q26, .inl (G 0, 60, .inl (fun _ => 0))), (q34, .inl (G 0, 60, .inl (fun _ => 0))), (q42, .inl (G 0, 60, .inl (fun _ => 0)))] := hD
  refine va_putF (D := D) (ci := 7) (v := .ref q42) (ty := .array .int) (C := "ObjectBase$Question") (T := TC_Question) (N := 11) hx hb hts inC_Question tyC_Question tyC_Question_ok nmC_Question hown hK hP hD hS 0 rfl rfl 4 (by decide) (hts _ tw545) (fun _ h9 => h9) rfl hin rfl (by decide +kernel) rfl rfl (Nat.le_of_ble_eq_true rfl) d_Question_init_44 (fun H locs hP hD hS => ?_)
  have hP : va_P D vwCl [(a_t, .inr (7, [.ref q5, .ref q18, .ref q26, .ref q34, .ref q42, .null, .null, .int 0, .int 0, .int 0, .int 0])), (q5, .inr (6, [.ref u9, .int 0])), (u9, .inl (G 2, 60, .inl (fun _ => 0))), (q18, .inl (G 0, 60, .inl (fun _ => 0))), (q26, .inl (G 0, 60, .inl (fun _ => 0))), (q34, .inl (G 0, 60, .inl (fun _ => 0))), (q42, .inl (G 0, 60, .inl (fun _ => 0)))] H := hP
  have hD : va_D A [(a_t, .inr (7, [.ref q5, .ref q18, .ref q26, .ref q34, .ref q42, .null, .null, .int 0, .int 0, .int 0, .int 0])), (q5, .inr (6, [.ref u9, .int 0])), (u9, .inl (G 2, 60, .inl (fun _ => 0))), (q18, .inl (G 0, 60, .inl (fun _ => 0))), (q26, .inl (G 0, 60, .inl (fun _ => 0))), (q34, .inl (G 0, 60, .inl (fun _ => 0))), (q42, .inl (G 0, 60, .inl (fun _ => 0)))] := hD
  refine lv_aload_n hx hb d_Question_init_47 rfl (lv_at hl 0 rfl) ?_
  refine lv_bipush (v := 60) hx hb d_Question_init_48 (by decide) ?_
  refine ob_newa (atype := .int) (N' := 60) (a0 := (60, .inl (fun _ => 0))) hx hb (hts _ tw56) rfl hK 0 rfl hP hD hS hA (fun _ => rfl) (by decide) (by decide) (by decide) (Nat.le_of_ble_eq_true rfl) (Nat.le_of_ble_eq_true rfl) d_Question_init_50 (fun q50 H hP hD hS => ?_)
  refine W.cs (cells' := 7) (slots' := 362) rfl rfl ?_
  have hP : va_P D vwCl [(a_t, .inr (7, [.ref q5, .ref q18, .ref q26, .ref q34, .ref q42, .null, .null, .int 0, .int 0, .int 0, .int 0])), (q5, .inr (6, [.ref u9, .int 0])), (u9, .inl (G 2, 60, .inl (fun _ => 0))), (q18, .inl (G 0, 60, .inl (fun _ => 0))), (q26, .inl (G 0, 60, .inl (fun _ => 0))), (q34, .inl (G 0, 60, .inl (fun _ => 0))), (q42, .inl (G 0, 60, .inl (fun _ => 0))), (q50, .inl (G 0, 60, .inl (fun _ => 0)))] H := hP
  have hD : va_D A [(a_t, .inr (7, [.ref q5, .ref q18, .ref q26, .ref q34, .ref q42, .null, .null, .int 0, .int 0, .int 0, .int 0])), (q5, .inr (6, [.ref u9, .int 0])), (u9, .inl (G 2, 60, .inl (fun _ => 0))), (q18, .inl (G 0, 60, .inl (fun _ => 0))), (q26, .inl (G 0, 60, .inl (fun _ => 0))), (q34, .inl (G 0, 60, .inl (fun _ => 0))), (q42, .inl (G 0, 60, .inl (fun _ => 0))), (q50, .inl (G 0, 60, .inl (fun _ => 0)))] := hD
  refine va_putF (D := D) (ci := 7) (v := .ref q50) (ty := .array .int) (C := "ObjectBase$Question") (T := TC_Question) (N := 11) hx hb hts inC_Question tyC_Question tyC_Question_ok nmC_Question hown hK hP hD hS 0 rfl rfl 5 (by decide) (hts _ tw548) (fun _ h9 => h9) rfl hin rfl (by decide +kernel) rfl rfl (Nat.le_of_ble_eq_true rfl) d_Question_init_52 (fun H locs hP hD hS => ?_)
  have hP : va_P D vwCl [(a_t, .inr (7, [.ref q5, .ref q18, .ref q26, .ref q34, .ref q42, .ref q50, .null, .int 0, .int 0, .int 0, .int 0])), (q5, .inr (6, [.ref u9, .int 0])), (u9, .inl (G 2, 60, .inl (fun _ => 0))), (q18, .inl (G 0, 60, .inl (fun _ => 0))), (q26, .inl (G 0, 60, .inl (fun _ => 0))), (q34, .inl (G 0, 60, .inl (fun _ => 0))), (q42, .inl (G 0, 60, .inl (fun _ => 0))), (q50, .inl (G 0, 60, .inl (fun _ => 0)))] H := hP
  have hD : va_D A [(a_t, .inr (7, [.ref q5, .ref q18, .ref q26, .ref q34, .ref q42, .ref q50, .null, .int 0, .int 0, .int 0, .int 0])), (q5, .inr (6, [.ref u9, .int 0])), (u9, .inl (G 2, 60, .inl (fun _ => 0))), (q18, .inl (G 0, 60, .inl (fun _ => 0))), (q26, .inl (G 0, 60, .inl (fun _ => 0))), (q34, .inl (G 0, 60, .inl (fun _ => 0))), (q42, .inl (G 0, 60, .inl (fun _ => 0))), (q50, .inl (G 0, 60, .inl (fun _ => 0)))] := hD
  refine lv_aload_n hx hb d_Question_init_55 rfl (lv_at hl 0 rfl) ?_
  refine lv_bipush (v := 60) hx hb d_Question_init_56 (by decide) ?_
  refine ob_newa (atype := .int) (N' := 60) (a0 := (60, .inl (fun _ => 0))) hx hb (hts _ tw56) rfl hK 0 rfl hP hD hS hA (fun _ => rfl) (by decide) (by decide) (by decide) (Nat.le_of_ble_eq_true rfl) (Nat.le_of_ble_eq_true rfl) d_Question_init_58 (fun q58 H hP hD hS => ?_)
  refine W.cs (cells' := 8) (slots' := 422) rfl rfl ?_
  have hP : va_P D vwCl [(a_t, .inr (7, [.ref q5, .ref q18, .ref q26, .ref q34, .ref q42, .ref q50, .null, .int 0, .int 0, .int 0, .int 0])), (q5, .inr (6, [.ref u9, .int 0])), (u9, .inl (G 2, 60, .inl (fun _ => 0))), (q18, .inl (G 0, 60, .inl (fun _ => 0))), (q26, .inl (G 0, 60, .inl (fun _ => 0))), (q34, .inl (G 0, 60, .inl (fun _ => 0))), (q42, .inl (G 0, 60, .inl (fun _ => 0))), (q50, .inl (G 0, 60, .inl (fun _ => 0))), (q58, .inl (G 0, 60, .inl (fun _ => 0)))] H := hP
  have hD : va_D A [(a_t, .inr (7, [.ref q5, .ref q18, .ref q26, .ref q34, .ref q42, .ref q50, .null, .int 0, .int 0, .int 0, .int 0])), (q5, .inr (6, [.ref u9, .int 0])), (u9, .inl (G 2, 60, .inl (fun _ => 0))), (q18, .inl (G 0, 60, .inl (fun _ => 0))), (q26, .inl (G 0, 60, .inl (fun _ => 0))), (q34, .inl (G 0, 60, .inl (fun _ => 0))), (q42, .inl (G 0, 60, .inl (fun _ => 0))), (q50, .inl (G 0, 60, .inl (fun _ => 0))), (q58, .inl (G 0, 60, .inl (fun _ => 0)))] := hD
  refine va_putF (D := D) (ci := 7) (v := .ref q58) (ty := .array .int) (C := "ObjectBase$Question") (T := TC_Question) (N := 11) hx hb hts inC_Question tyC_Question tyC_Question_ok nmC_Question hown hK hP hD hS 0 rfl rfl 6 (by decide) (hts _ tw551) (fun _ h9 => h9) rfl hin rfl (by decide +kernel) rfl rfl (Nat.le_of_ble_eq_true rfl) d_Question_init_60 (fun H locs hP hD hS => ?_)
  have hP : va_P D vwCl [(a_t, .inr (7, [.ref q5, .ref q18, .ref q26, .ref q34, .ref q42, .ref q50, .ref q58, .int 0, .int 0, .int 0, .int 0])), (q5, .inr (6, [.ref u9, .int 0])), (u9, .inl (G 2, 60, .inl (fun _ => 0))), (q18, .inl (G 0, 60, .inl (fun _ => 0))), (q26, .inl (G 0, 60, .inl (fun _ => 0))), (q34, .inl (G 0, 60, .inl (fun _ => 0))), (q42, .inl (G 0, 60, .inl (fun _ => 0))), (q50, .inl (G 0, 60, .inl (fun _ => 0))), (q58, .inl (G 0, 60, .inl (fun _ => 0)))] H := hP
  have hD : va_D A [(a_t, .inr (7, [.ref q5, .ref q18, .ref q26, .ref q34, .ref q42, .ref q50, .ref q58, .int 0, .int 0, .int 0, .int 0])), (q5, .inr (6, [.ref u9, .int 0])), (u9, .inl (G 2, 60, .inl (fun _ => 0))), (q18, .inl (G 0, 60, .inl (fun _ => 0))), (q26, .inl (G 0, 60, .inl (fun _ => 0))), (q34, .inl (G 0, 60, .inl (fun _ => 0))), (q42, .inl (G 0, 60, .inl (fun _ => 0))), (q50, .inl (G 0, 60, .inl (fun _ => 0))), (q58, .inl (G 0, 60, .inl (fun _ => 0)))] := hD
  exact W.vret hx hb hr (fun t ht hW => ⟨⟨(q5, u9, q18, q26, q34, q42, q50, q58), rfl, trivial, by rw [ht]; exact hP, va_K.moved hW.alike hK, hD⟩, hS.F ht⟩) hS.2.2 d_Question_init_63 hlk
abbrev bc_Question_clear : ByteArray := prog_8_method_2_code
abbrev y_Question_clear : MethodName := ⟨"ObjectBase$Question", "clear", "()V"⟩
def ws_Question_clear : List Cond := .code y_Question_clear bc_Question_clear 1 none :: obW
theorem d_Question_clear_0 : decode bc_Question_clear 0 = .ok (.aload_n 0, 1) := by decide +kernel
theorem d_Question_clear_1 : decode bc_Question_clear 1 = .ok (.iconst 0, 1) := by decide +kernel
theorem d_Question_clear_2 : decode bc_Question_clear 2 = .ok (.putfield 37, 3) := by decide +kernel
theorem d_Question_clear_5 : decode bc_Question_clear 5 = .ok (.aload_n 0, 1) := by decide +kernel
theorem d_Question_clear_6 : decode bc_Question_clear 6 = .ok (.iconst (-1), 1) := by decide +kernel
theorem d_Question_clear_7 : decode bc_Question_clear 7 = .ok (.putfield 41, 3) := by decide +kernel
theorem d_Question_clear_10 : decode bc_Question_clear 10 = .ok (.return_, 1) := by decide +kernel
def cw_Question_clear (G : Nat → ClassId) (a_t a_text a_numbers a_kinds a_inner a_next a_left a_right : Nat) (v_nodeCount : Int32) (v_root : Int32) (v_asked : Int32) (v_mode : Int32) : va_W := [(a_t, .inr (7, [.ref a_text, .ref a_numbers, .ref a_kinds, .ref a_inner, .ref a_next, .ref a_left, .ref a_right, .int v_nodeCount, .int v_root, .int v_asked, .int v_mode]))]
def f_Question_clear : Option (Int32 × Int32) := some (0, (-1))
set_option maxHeartbeats 4000000 in
set_option maxRecDepth 100000 in
theorem c_Question_clear (l : Launch) (D : va_G) (G : Nat → ClassId) (a_t a_text a_numbers a_kinds a_inner a_next a_left a_right : Nat) (v_nodeCount : Int32) (v_root : Int32) (v_asked : Int32) (v_mode : Int32) (o : Int32 × Int32) (hf : f_Question_clear = some o) (sz : Nat) : MetV l y_Question_clear ws_Question_clear ({ frames := 0, cells := 0, slots := 0, locals := 0 }) D (obT G) (cw_Question_clear G a_t a_text a_numbers a_kinds a_inner a_next a_left a_right v_nodeCount v_root v_asked v_mode) (cw_Question_clear G a_t a_text a_numbers a_kinds a_inner a_next a_left a_right o.1 o.2 v_asked v_mode) [.ref a_t] sz := by
  refine ob_of (cc := bc_Question_clear) (maxL := 1) (ret := none) (Qc := ObQv D (obT G) (cw_Question_clear G a_t a_text a_numbers a_kinds a_inner a_next a_left a_right o.1 o.2 v_asked v_mode)) (by decide) rfl (Nat.le_of_ble_eq_true rfl) ?_
  intro p e s m below meth c A ls H locs hx hb hr hml hts hown hlk hnm hZ hP hK hD hA hS hl
  have hret : ∀ (o' : Int32 × Int32) (H : Heap) (locs : List Loc) (pc : Nat) (ls : Array Slot), some o' = some o → va_P D vwCl (cw_Question_clear G a_t a_text a_numbers a_kinds a_inner a_next a_left a_right o'.1 o'.2 v_asked v_mode) H → va_D A (cw_Question_clear G a_t a_text a_numbers a_kinds a_inner a_next a_left a_right o'.1 o'.2 v_asked v_mode) → va_S A s.heap H locs → decode bc_Question_clear pc = .ok (.return_, 1) → W p l e { frames := 0, cells := 0, slots := 0, locals := 0 } s m ([.ref a_t] : List Value).toArray below meth c H locs 0 0 (MQ below (ObQv D (obT G) (cw_Question_clear G a_t a_text a_numbers a_kinds a_inner a_next a_left a_right o.1 o.2 v_asked v_mode) A) ([.ref a_t] : List Value).toArray s 0 0 A) (F0 m pc ls []) := by
    intro o' H locs pc ls he hP hD hS hd
    obtain rfl := Option.some.inj he
    exact ob_vret hx hb hr hlk hK hP hD hS hd
  generalize MQ below (ObQv D (obT G) (cw_Question_clear G a_t a_text a_numbers a_kinds a_inner a_next a_left a_right o.1 o.2 v_asked v_mode) A) ([.ref a_t] : List Value).toArray s 0 0 A = Q at hret ⊢
  have hl : lv_has ls 1 [(0, .ref a_t)] := hl
  unfold f_Question_clear at hf
  refine lv_aload_n hx hb d_Question_clear_0 rfl (lv_at hl 0 rfl) ?_
  refine lv_iconst (v := 0) hx hb d_Question_clear_1 (by decide) ?_
  refine va_put (D := D) (ci := 7) (v := .int 0) (ty := .int) (C := "ObjectBase$Question") (T := TC_Question) (N := 11) hx hb hts inC_Question tyC_Question tyC_Question_ok nmC_Question hown hK hP hD hS 0 rfl rfl 7 (by decide) (hts _ tw553) (fun _ h9 => h9) rfl (by decide +kernel) rfl rfl (Nat.le_of_ble_eq_true rfl) d_Question_clear_2 (fun H locs hP hD hS => ?_)
  have hP : va_P D vwCl (cw_Question_clear G a_t a_text a_numbers a_kinds a_inner a_next a_left a_right 0 v_root v_asked v_mode) H := hP
  have hD : va_D A (cw_Question_clear G a_t a_text a_numbers a_kinds a_inner a_next a_left a_right 0 v_root v_asked v_mode) := hD
  refine lv_aload_n hx hb d_Question_clear_5 rfl (lv_at hl 0 rfl) ?_
  refine lv_iconst (v := (-1)) hx hb d_Question_clear_6 (by decide) ?_
  refine va_put (D := D) (ci := 7) (v := .int (-1)) (ty := .int) (C := "ObjectBase$Question") (T := TC_Question) (N := 11) hx hb hts inC_Question tyC_Question tyC_Question_ok nmC_Question hown hK hP hD hS 0 rfl rfl 8 (by decide) (hts _ tw554) (fun _ h9 => h9) rfl (by decide +kernel) rfl rfl (Nat.le_of_ble_eq_true rfl) d_Question_clear_7 (fun H locs hP hD hS => ?_)
  have hP : va_P D vwCl (cw_Question_clear G a_t a_text a_numbers a_kinds a_inner a_next a_left a_right 0 (-1) v_asked v_mode) H := hP
  have hD : va_D A (cw_Question_clear G a_t a_text a_numbers a_kinds a_inner a_next a_left a_right 0 (-1) v_asked v_mode) := hD
  exact hret (0, (-1)) H locs _ ls hf hP hD hS d_Question_clear_10
abbrev bc_Question_addNode : ByteArray := prog_8_method_3_code
abbrev y_Question_addNode : MethodName := ⟨"ObjectBase$Question", "addNode", "(II)I"⟩
def ws_Question_addNode : List Cond := .code y_Question_addNode bc_Question_addNode 4 (some .int) :: obW
theorem d_Question_addNode_0 : decode bc_Question_addNode 0 = .ok (.aload_n 0, 1) := by decide +kernel
theorem d_Question_addNode_1 : decode bc_Question_addNode 1 = .ok (.getfield 37, 3) := by decide +kernel
theorem d_Question_addNode_4 : decode bc_Question_addNode 4 = .ok (.bipush 60, 2) := by decide +kernel
theorem d_Question_addNode_6 : decode bc_Question_addNode 6 = .ok (.if_icmp .ne 5, 3) := by decide +kernel
theorem d_Question_addNode_9 : decode bc_Question_addNode 9 = .ok (.iconst (-1), 1) := by decide +kernel
theorem d_Question_addNode_10 : decode bc_Question_addNode 10 = .ok (.ireturn, 1) := by decide +kernel
theorem d_Question_addNode_11 : decode bc_Question_addNode 11 = .ok (.aload_n 0, 1) := by decide +kernel
theorem d_Question_addNode_12 : decode bc_Question_addNode 12 = .ok (.getfield 37, 3) := by decide +kernel
theorem d_Question_addNode_15 : decode bc_Question_addNode 15 = .ok (.istore_n 3, 1) := by decide +kernel
theorem d_Question_addNode_16 : decode bc_Question_addNode 16 = .ok (.aload_n 0, 1) := by decide +kernel
theorem d_Question_addNode_17 : decode bc_Question_addNode 17 = .ok (.dup, 1) := by decide +kernel
theorem d_Question_addNode_18 : decode bc_Question_addNode 18 = .ok (.getfield 37, 3) := by decide +kernel
theorem d_Question_addNode_21 : decode bc_Question_addNode 21 = .ok (.iconst 1, 1) := by decide +kernel
theorem d_Question_addNode_22 : decode bc_Question_addNode 22 = .ok (.iadd, 1) := by decide +kernel
theorem d_Question_addNode_23 : decode bc_Question_addNode 23 = .ok (.putfield 37, 3) := by decide +kernel
theorem d_Question_addNode_26 : decode bc_Question_addNode 26 = .ok (.aload_n 0, 1) := by decide +kernel
theorem d_Question_addNode_27 : decode bc_Question_addNode 27 = .ok (.getfield 22, 3) := by decide +kernel
theorem d_Question_addNode_30 : decode bc_Question_addNode 30 = .ok (.iload_n 3, 1) := by decide +kernel
theorem d_Question_addNode_31 : decode bc_Question_addNode 31 = .ok (.iload_n 1, 1) := by decide +kernel
theorem d_Question_addNode_32 : decode bc_Question_addNode 32 = .ok (.iastore, 1) := by decide +kernel
theorem d_Question_addNode_33 : decode bc_Question_addNode 33 = .ok (.aload_n 0, 1) := by decide +kernel
theorem d_Question_addNode_34 : decode bc_Question_addNode 34 = .ok (.getfield 25, 3) := by decide +kernel
theorem d_Question_addNode_37 : decode bc_Question_addNode 37 = .ok (.iload_n 3, 1) := by decide +kernel
theorem d_Question_addNode_38 : decode bc_Question_addNode 38 = .ok (.iload_n 2, 1) := by decide +kernel
theorem d_Question_addNode_39 : decode bc_Question_addNode 39 = .ok (.iastore, 1) := by decide +kernel
theorem d_Question_addNode_40 : decode bc_Question_addNode 40 = .ok (.aload_n 0, 1) := by decide +kernel
theorem d_Question_addNode_41 : decode bc_Question_addNode 41 = .ok (.getfield 28, 3) := by decide +kernel
theorem d_Question_addNode_44 : decode bc_Question_addNode 44 = .ok (.iload_n 3, 1) := by decide +kernel
theorem d_Question_addNode_45 : decode bc_Question_addNode 45 = .ok (.iconst (-1), 1) := by decide +kernel
theorem d_Question_addNode_46 : decode bc_Question_addNode 46 = .ok (.iastore, 1) := by decide +kernel
theorem d_Question_addNode_47 : decode bc_Question_addNode 47 = .ok (.iload_n 3, 1) := by decide +kernel
theorem d_Question_addNode_48 : decode bc_Question_addNode 48 = .ok (.ireturn, 1) := by decide +kernel
def cw_Question_addNode (G : Nat → ClassId) (a_t a_kinds a_inner a_next a_text a_numbers a_left a_right : Nat) (v_nodeCount : Int32) (v_root : Int32) (v_asked : Int32) (v_mode : Int32) (v_kinds : Nat → Int32) (v_inner : Nat → Int32) (v_next : Nat → Int32) : va_W := [(a_t, .inr (7, [.ref a_text, .ref a_numbers, .ref a_kinds, .ref a_inner, .ref a_next, .ref a_left, .ref a_right, .int v_nodeCount, .int v_root, .int v_asked, .int v_mode])), (a_kinds, .inl (G 0, 60, .inl v_kinds)), (a_inner, .inl (G 0, 60, .inl v_inner)), (a_next, .inl (G 0, 60, .inl v_next))]
def f_Question_addNode (v_nodeCount : Int32) (v_kinds : Nat → Int32) (v_inner : Nat → Int32) (v_next : Nat → Int32) (p1 : Int32) (p2 : Int32) : Option (Int32 × Int32 × (Nat → Int32) × (Nat → Int32) × (Nat → Int32)) := if v_nodeCount = 60 then (some ((-1), v_nodeCount, v_kinds, v_inner, v_next)) else (ob_iv v_nodeCount 60 (ob_iv v_nodeCount 60 (ob_iv v_nodeCount 60 (some (v_nodeCount, v_nodeCount + 1, upd v_kinds v_nodeCount.toNatClampNeg p1, upd v_inner v_nodeCount.toNatClampNeg p2, upd v_next v_nodeCount.toNatClampNeg (-1))))))
set_option maxHeartbeats 4000000 in
set_option maxRecDepth 100000 in
theorem c_Question_addNode (l : Launch) (D : va_G) (G : Nat → ClassId) (a_t a_kinds a_inner a_next a_text a_numbers a_left a_right : Nat) (v_nodeCount : Int32) (v_root : Int32) (v_asked : Int32) (v_mode : Int32) (v_kinds : Nat → Int32) (v_inner : Nat → Int32) (v_next : Nat → Int32) (p1 : Int32) (p2 : Int32) (o : Int32 × Int32 × (Nat → Int32) × (Nat → Int32) × (Nat → Int32)) (hf : f_Question_addNode v_nodeCount v_kinds v_inner v_next p1 p2 = some o) (sz : Nat) : MetI l y_Question_addNode ws_Question_addNode ({ frames := 0, cells := 0, slots := 0, locals := 0 }) D (obT G) (cw_Question_addNode G a_t a_kinds a_inner a_next a_text a_numbers a_left a_right v_nodeCount v_root v_asked v_mode v_kinds v_inner v_next) (cw_Question_addNode G a_t a_kinds a_inner a_next a_text a_numbers a_left a_right o.2.1 v_root v_asked v_mode o.2.2.1 o.2.2.2.1 o.2.2.2.2) [.ref a_t, .int p1, .int p2] o.1 sz := by
  refine ob_of (cc := bc_Question_addNode) (maxL := 4) (ret := (some .int)) (Qc := ObQi D (obT G) (cw_Question_addNode G a_t a_kinds a_inner a_next a_text a_numbers a_left a_right o.2.1 v_root v_asked v_mode o.2.2.1 o.2.2.2.1 o.2.2.2.2) o.1) (by decide) rfl (Nat.le_of_ble_eq_true rfl) ?_
  intro p e s m below meth c A ls H locs hx hb hr hml hts hown hlk hnm hZ hP hK hD hA hS hl
  have hret : ∀ (o' : Int32 × Int32 × (Nat → Int32) × (Nat → Int32) × (Nat → Int32)) (H : Heap) (locs : List Loc) (pc : Nat) (ls : Array Slot), some o' = some o → va_P D vwCl (cw_Question_addNode G a_t a_kinds a_inner a_next a_text a_numbers a_left a_right o'.2.1 v_root v_asked v_mode o'.2.2.1 o'.2.2.2.1 o'.2.2.2.2) H → va_D A (cw_Question_addNode G a_t a_kinds a_inner a_next a_text a_numbers a_left a_right o'.2.1 v_root v_asked v_mode o'.2.2.1 o'.2.2.2.1 o'.2.2.2.2) → va_S A s.heap H locs → narrow .int (.int o'.1) = .int o'.1 → decode bc_Question_addNode pc = .ok (.ireturn, 1) → W p l e { frames := 0, cells := 0, slots := 0, locals := 0 } s m ([.ref a_t, .int p1, .int p2] : List Value).toArray below meth c H locs 0 0 (MQ below (ObQi D (obT G) (cw_Question_addNode G a_t a_kinds a_inner a_next a_text a_numbers a_left a_right o.2.1 v_root v_asked v_mode o.2.2.1 o.2.2.2.1 o.2.2.2.2) o.1 A) ([.ref a_t, .int p1, .int p2] : List Value).toArray s 0 0 A) (F0 m pc ls [.int o'.1]) := by
    intro o' H locs pc ls he hP hD hS hn hd
    obtain rfl := Option.some.inj he
    exact ob_iret hx hb hr hlk hK hP hD hS hn hd
  generalize MQ below (ObQi D (obT G) (cw_Question_addNode G a_t a_kinds a_inner a_next a_text a_numbers a_left a_right o.2.1 v_root v_asked v_mode o.2.2.1 o.2.2.2.1 o.2.2.2.2) o.1 A) ([.ref a_t, .int p1, .int p2] : List Value).toArray s 0 0 A = Q at hret ⊢
  have hl : lv_has ls 4 [(0, .ref a_t), (1, .int p1), (2, .int p2)] := hl
  unfold f_Question_addNode at hf
  refine lv_aload_n hx hb d_Question_addNode_0 rfl (lv_at hl 0 rfl) ?_
  refine va_get (D := D) (ci := 7) (v := .int v_nodeCount) (C := "ObjectBase$Question") (T := TC_Question) (N := 11) hx hb hts inC_Question hown hK hP 0 rfl rfl 7 (by decide) (hts _ tw553) (fun _ h9 => h9) rfl d_Question_addNode_1 ?_
  refine lv_bipush (v := 60) hx hb d_Question_addNode_4 (by decide) ?_
  refine lv_icmp_ne (tgt := 11) hx hb d_Question_addNode_6 (by decide) (fun hc6 => ?_) (fun hc6 => ?_)
  · have hf := ob_f hc6 hf
    refine lv_aload_n hx hb d_Question_addNode_11 rfl (lv_at hl 0 rfl) ?_
    refine va_get (D := D) (ci := 7) (v := .int v_nodeCount) (C := "ObjectBase$Question") (T := TC_Question) (N := 11) hx hb hts inC_Question hown hK hP 0 rfl rfl 7 (by decide) (hts _ tw553) (fun _ h9 => h9) rfl d_Question_addNode_12 ?_
    refine lv_istore_n (lv' := [(3, .int v_nodeCount), (0, .ref a_t), (1, .int p1), (2, .int p2)]) hx hb d_Question_addNode_15 rfl hl (by decide) rfl (fun ls hl => ?_)
    refine lv_aload_n hx hb d_Question_addNode_16 rfl (lv_at hl 1 rfl) ?_
    refine lv_dup hx hb d_Question_addNode_17 rfl ?_
    refine va_get (D := D) (ci := 7) (v := .int v_nodeCount) (C := "ObjectBase$Question") (T := TC_Question) (N := 11) hx hb hts inC_Question hown hK hP 0 rfl rfl 7 (by decide) (hts _ tw553) (fun _ h9 => h9) rfl d_Question_addNode_18 ?_
    refine lv_iconst (v := 1) hx hb d_Question_addNode_21 (by decide) ?_
    refine lv_iadd hx hb d_Question_addNode_22 ?_
    refine va_put (D := D) (ci := 7) (v := .int (v_nodeCount + 1)) (ty := .int) (C := "ObjectBase$Question") (T := TC_Question) (N := 11) hx hb hts inC_Question tyC_Question tyC_Question_ok nmC_Question hown hK hP hD hS 0 rfl rfl 7 (by decide) (hts _ tw553) (fun _ h9 => h9) rfl (by decide +kernel) rfl rfl (Nat.le_of_ble_eq_true rfl) d_Question_addNode_23 (fun H locs hP hD hS => ?_)
    have hP : va_P D vwCl (cw_Question_addNode G a_t a_kinds a_inner a_next a_text a_numbers a_left a_right (v_nodeCount + 1) v_root v_asked v_mode v_kinds v_inner v_next) H := hP
    have hD : va_D A (cw_Question_addNode G a_t a_kinds a_inner a_next a_text a_numbers a_left a_right (v_nodeCount + 1) v_root v_asked v_mode v_kinds v_inner v_next) := hD
    refine lv_aload_n hx hb d_Question_addNode_26 rfl (lv_at hl 1 rfl) ?_
    refine va_get (D := D) (ci := 7) (v := .ref a_kinds) (C := "ObjectBase$Question") (T := TC_Question) (N := 11) hx hb hts inC_Question hown hK hP 0 rfl rfl 2 (by decide) (hts _ tw540) (fun _ h9 => h9) rfl d_Question_addNode_27 ?_
    refine lv_iload_n hx hb d_Question_addNode_30 rfl (lv_at hl 0 rfl) ?_
    refine lv_iload_n hx hb d_Question_addNode_31 rfl (lv_at hl 2 rfl) ?_
    obtain ⟨hg32, hf⟩ := ob_iv_g hf
    refine va_iast hx hb hK hP hD hS 1 0 rfl rfl hg32 d_Question_addNode_32 (fun H locs hP hD hS => ?_)
    have hP : va_P D vwCl (cw_Question_addNode G a_t a_kinds a_inner a_next a_text a_numbers a_left a_right (v_nodeCount + 1) v_root v_asked v_mode (upd v_kinds v_nodeCount.toNatClampNeg p1) v_inner v_next) H := hP
    have hD : va_D A (cw_Question_addNode G a_t a_kinds a_inner a_next a_text a_numbers a_left a_right (v_nodeCount + 1) v_root v_asked v_mode (upd v_kinds v_nodeCount.toNatClampNeg p1) v_inner v_next) := hD
    refine lv_aload_n hx hb d_Question_addNode_33 rfl (lv_at hl 1 rfl) ?_
    refine va_get (D := D) (ci := 7) (v := .ref a_inner) (C := "ObjectBase$Question") (T := TC_Question) (N := 11) hx hb hts inC_Question hown hK hP 0 rfl rfl 3 (by decide) (hts _ tw542) (fun _ h9 => h9) rfl d_Question_addNode_34 ?_
    refine lv_iload_n hx hb d_Question_addNode_37 rfl (lv_at hl 0 rfl) ?_
    refine lv_iload_n hx hb d_Question_addNode_38 rfl (lv_at hl 3 rfl) ?_
    obtain ⟨hg39, hf⟩ := ob_iv_g hf
    refine va_iast hx hb hK hP hD hS 2 0 rfl rfl hg39 d_Question_addNode_39 (fun H locs hP hD hS => ?_)
    have hP : va_P D vwCl (cw_Question_addNode G a_t a_kinds a_inner a_next a_text a_numbers a_left a_right (v_nodeCount + 1) v_root v_asked v_mode (upd v_kinds v_nodeCount.toNatClampNeg p1) (upd v_inner v_nodeCount.toNatClampNeg p2) v_next) H := hP
    have hD : va_D A (cw_Question_addNode G a_t a_kinds a_inner a_next a_text a_numbers a_left a_right (v_nodeCount + 1) v_root v_asked v_mode (upd v_kinds v_nodeCount.toNatClampNeg p1) (upd v_inner v_nodeCount.toNatClampNeg p2) v_next) := hD
    refine lv_aload_n hx hb d_Question_addNode_40 rfl (lv_at hl 1 rfl) ?_
    refine va_get (D := D) (ci := 7) (v := .ref a_next) (C := "ObjectBase$Question") (T := TC_Question) (N := 11) hx hb hts inC_Question hown hK hP 0 rfl rfl 4 (by decide) (hts _ tw545) (fun _ h9 => h9) rfl d_Question_addNode_41 ?_
    refine lv_iload_n hx hb d_Question_addNode_44 rfl (lv_at hl 0 rfl) ?_
    refine lv_iconst (v := (-1)) hx hb d_Question_addNode_45 (by decide) ?_
    obtain ⟨hg46, hf⟩ := ob_iv_g hf
    refine va_iast hx hb hK hP hD hS 3 0 rfl rfl hg46 d_Question_addNode_46 (fun H locs hP hD hS => ?_)
    have hP : va_P D vwCl (cw_Question_addNode G a_t a_kinds a_inner a_next a_text a_numbers a_left a_right (v_nodeCount + 1) v_root v_asked v_mode (upd v_kinds v_nodeCount.toNatClampNeg p1) (upd v_inner v_nodeCount.toNatClampNeg p2) (upd v_next v_nodeCount.toNatClampNeg (-1))) H := hP
    have hD : va_D A (cw_Question_addNode G a_t a_kinds a_inner a_next a_text a_numbers a_left a_right (v_nodeCount + 1) v_root v_asked v_mode (upd v_kinds v_nodeCount.toNatClampNeg p1) (upd v_inner v_nodeCount.toNatClampNeg p2) (upd v_next v_nodeCount.toNatClampNeg (-1))) := hD
    refine lv_iload_n hx hb d_Question_addNode_47 rfl (lv_at hl 0 rfl) ?_
    exact hret (v_nodeCount, v_nodeCount + 1, upd v_kinds v_nodeCount.toNatClampNeg p1, upd v_inner v_nodeCount.toNatClampNeg p2, upd v_next v_nodeCount.toNatClampNeg (-1)) H locs _ ls hf hP hD hS rfl d_Question_addNode_48
  · have hf := ob_t hc6 hf
    refine lv_iconst (v := (-1)) hx hb d_Question_addNode_9 (by decide) ?_
    exact hret ((-1), v_nodeCount, v_kinds, v_inner, v_next) H locs _ ls hf hP hD hS rfl d_Question_addNode_10
abbrev bc_Question_addPair : ByteArray := prog_8_method_4_code
abbrev y_Question_addPair : MethodName := ⟨"ObjectBase$Question", "addPair", "(IIII)I"⟩
def ws_Question_addPair : List Cond := .code y_Question_addPair bc_Question_addPair 6 (some .int) :: obW
theorem d_Question_addPair_0 : decode bc_Question_addPair 0 = .ok (.aload_n 0, 1) := by decide +kernel
theorem d_Question_addPair_1 : decode bc_Question_addPair 1 = .ok (.iload_n 1, 1) := by decide +kernel
theorem d_Question_addPair_2 : decode bc_Question_addPair 2 = .ok (.iload_n 2, 1) := by decide +kernel
theorem d_Question_addPair_3 : decode bc_Question_addPair 3 = .ok (.invokevirtual 44, 3) := by decide +kernel
theorem d_Question_addPair_6 : decode bc_Question_addPair 6 = .ok (.istore 5, 2) := by decide +kernel
theorem d_Question_addPair_8 : decode bc_Question_addPair 8 = .ok (.iload 5, 2) := by decide +kernel
theorem d_Question_addPair_10 : decode bc_Question_addPair 10 = .ok (.iconst (-1), 1) := by decide +kernel
theorem d_Question_addPair_11 : decode bc_Question_addPair 11 = .ok (.if_icmp .eq 20, 3) := by decide +kernel
theorem d_Question_addPair_14 : decode bc_Question_addPair 14 = .ok (.aload_n 0, 1) := by decide +kernel
theorem d_Question_addPair_15 : decode bc_Question_addPair 15 = .ok (.getfield 31, 3) := by decide +kernel
theorem d_Question_addPair_18 : decode bc_Question_addPair 18 = .ok (.iload 5, 2) := by decide +kernel
theorem d_Question_addPair_20 : decode bc_Question_addPair 20 = .ok (.iload_n 3, 1) := by decide +kernel
theorem d_Question_addPair_21 : decode bc_Question_addPair 21 = .ok (.iastore, 1) := by decide +kernel
theorem d_Question_addPair_22 : decode bc_Question_addPair 22 = .ok (.aload_n 0, 1) := by decide +kernel
theorem d_Question_addPair_23 : decode bc_Question_addPair 23 = .ok (.getfield 34, 3) := by decide +kernel
theorem d_Question_addPair_26 : decode bc_Question_addPair 26 = .ok (.iload 5, 2) := by decide +kernel
theorem d_Question_addPair_28 : decode bc_Question_addPair 28 = .ok (.iload 4, 2) := by decide +kernel
theorem d_Question_addPair_30 : decode bc_Question_addPair 30 = .ok (.iastore, 1) := by decide +kernel
theorem d_Question_addPair_31 : decode bc_Question_addPair 31 = .ok (.iload 5, 2) := by decide +kernel
theorem d_Question_addPair_33 : decode bc_Question_addPair 33 = .ok (.ireturn, 1) := by decide +kernel
def cw_Question_addPair (G : Nat → ClassId) (a_t a_kinds a_inner a_next a_left a_right a_text a_numbers : Nat) (v_nodeCount : Int32) (v_root : Int32) (v_asked : Int32) (v_mode : Int32) (v_kinds : Nat → Int32) (v_inner : Nat → Int32) (v_next : Nat → Int32) (v_left : Nat → Int32) (v_right : Nat → Int32) : va_W := [(a_t, .inr (7, [.ref a_text, .ref a_numbers, .ref a_kinds, .ref a_inner, .ref a_next, .ref a_left, .ref a_right, .int v_nodeCount, .int v_root, .int v_asked, .int v_mode])), (a_kinds, .inl (G 0, 60, .inl v_kinds)), (a_inner, .inl (G 0, 60, .inl v_inner)), (a_next, .inl (G 0, 60, .inl v_next)), (a_left, .inl (G 0, 60, .inl v_left)), (a_right, .inl (G 0, 60, .inl v_right))]
def f_Question_addPair (v_nodeCount : Int32) (v_kinds : Nat → Int32) (v_inner : Nat → Int32) (v_next : Nat → Int32) (v_left : Nat → Int32) (v_right : Nat → Int32) (p1 : Int32) (p2 : Int32) (p3 : Int32) (p4 : Int32) : Option (Int32 × Int32 × (Nat → Int32) × (Nat → Int32) × (Nat → Int32) × (Nat → Int32) × (Nat → Int32)) := (f_Question_addNode v_nodeCount v_kinds v_inner v_next p1 p2).bind fun o3 => (if o3.1 = (-1) then (some (o3.1, o3.2.1, o3.2.2.1, o3.2.2.2.1, o3.2.2.2.2, v_left, v_right)) else (ob_iv o3.1 60 (ob_iv o3.1 60 (some (o3.1, o3.2.1, o3.2.2.1, o3.2.2.2.1, o3.2.2.2.2, upd v_left o3.1.toNatClampNeg p3, upd v_right o3.1.toNatClampNeg p4)))))
set_option maxHeartbeats 4000000 in
set_option maxRecDepth 100000 in
theorem c_Question_addPair (l : Launch) (D : va_G) (G : Nat → ClassId) (a_t a_kinds a_inner a_next a_left a_right a_text a_numbers : Nat) (v_nodeCount : Int32) (v_root : Int32) (v_asked : Int32) (v_mode : Int32) (v_kinds : Nat → Int32) (v_inner : Nat → Int32) (v_next : Nat → Int32) (v_left : Nat → Int32) (v_right : Nat → Int32) (p1 : Int32) (p2 : Int32) (p3 : Int32) (p4 : Int32) (o : Int32 × Int32 × (Nat → Int32) × (Nat → Int32) × (Nat → Int32) × (Nat → Int32) × (Nat → Int32)) (hf : f_Question_addPair v_nodeCount v_kinds v_inner v_next v_left v_right p1 p2 p3 p4 = some o) (sz : Nat) : MetI l y_Question_addPair ws_Question_addPair ({ frames := 1, cells := 0, slots := 0, locals := 23 }) D (obT G) (cw_Question_addPair G a_t a_kinds a_inner a_next a_left a_right a_text a_numbers v_nodeCount v_root v_asked v_mode v_kinds v_inner v_next v_left v_right) (cw_Question_addPair G a_t a_kinds a_inner a_next a_left a_right a_text a_numbers o.2.1 v_root v_asked v_mode o.2.2.1 o.2.2.2.1 o.2.2.2.2.1 o.2.2.2.2.2.1 o.2.2.2.2.2.2) [.ref a_t, .int p1, .int p2, .int p3, .int p4] o.1 sz := by
  refine ob_of (cc := bc_Question_addPair) (maxL := 6) (ret := (some .int)) (Qc := ObQi D (obT G) (cw_Question_addPair G a_t a_kinds a_inner a_next a_left a_right a_text a_numbers o.2.1 v_root v_asked v_mode o.2.2.1 o.2.2.2.1 o.2.2.2.2.1 o.2.2.2.2.2.1 o.2.2.2.2.2.2) o.1) (by decide) rfl (Nat.le_of_ble_eq_true rfl) ?_
  intro p e s m below meth c A ls H locs hx hb hr hml hts hown hlk hnm hZ hP hK hD hA hS hl
  have hret : ∀ (o' : Int32 × Int32 × (Nat → Int32) × (Nat → Int32) × (Nat → Int32) × (Nat → Int32) × (Nat → Int32)) (H : Heap) (locs : List Loc) (pc : Nat) (ls : Array Slot), some o' = some o → va_P D vwCl (cw_Question_addPair G a_t a_kinds a_inner a_next a_left a_right a_text a_numbers o'.2.1 v_root v_asked v_mode o'.2.2.1 o'.2.2.2.1 o'.2.2.2.2.1 o'.2.2.2.2.2.1 o'.2.2.2.2.2.2) H → va_D A (cw_Question_addPair G a_t a_kinds a_inner a_next a_left a_right a_text a_numbers o'.2.1 v_root v_asked v_mode o'.2.2.1 o'.2.2.2.1 o'.2.2.2.2.1 o'.2.2.2.2.2.1 o'.2.2.2.2.2.2) → va_S A s.heap H locs → narrow .int (.int o'.1) = .int o'.1 → decode bc_Question_addPair pc = .ok (.ireturn, 1) → W p l e { frames := 1, cells := 0, slots := 0, locals := 23 } s m ([.ref a_t, .int p1, .int p2, .int p3, .int p4] : List Value).toArray below meth c H locs 0 0 (MQ below (ObQi D (obT G) (cw_Question_addPair G a_t a_kinds a_inner a_next a_left a_right a_text a_numbers o.2.1 v_root v_asked v_mode o.2.2.1 o.2.2.2.1 o.2.2.2.2.1 o.2.2.2.2.2.1 o.2.2.2.2.2.2) o.1 A) ([.ref a_t, .int p1, .int p2, .int p3, .int p4] : List Value).toArray s 0 0 A) (F0 m pc ls [.int o'.1]) := by
    intro o' H locs pc ls he hP hD hS hn hd
    obtain rfl := Option.some.inj he
    exact ob_iret hx hb hr hlk hK hP hD hS hn hd
  generalize MQ below (ObQi D (obT G) (cw_Question_addPair G a_t a_kinds a_inner a_next a_left a_right a_text a_numbers o.2.1 v_root v_asked v_mode o.2.2.1 o.2.2.2.1 o.2.2.2.2.1 o.2.2.2.2.2.1 o.2.2.2.2.2.2) o.1 A) ([.ref a_t, .int p1, .int p2, .int p3, .int p4] : List Value).toArray s 0 0 A = Q at hret ⊢
  have hl : lv_has ls 6 [(0, .ref a_t), (1, .int p1), (2, .int p2), (3, .int p3), (4, .int p4)] := hl
  unfold f_Question_addPair at hf
  refine lv_aload_n hx hb d_Question_addPair_0 rfl (lv_at hl 0 rfl) ?_
  refine lv_iload_n hx hb d_Question_addPair_1 rfl (lv_at hl 1 rfl) ?_
  refine lv_iload_n hx hb d_Question_addPair_2 rfl (lv_at hl 2 rfl) ?_
  obtain ⟨o3, ho3, hf⟩ := ob_b hf
  refine ob_calli (w2 := (cw_Question_addPair G a_t a_kinds a_inner a_next a_left a_right a_text a_numbers o3.2.1 v_root v_asked v_mode o3.2.2.1 o3.2.2.2.1 o3.2.2.2.2 v_left v_right)) (va_runV (As := [.int p1, .int p2]) (rest := []) ⟨hx, hb, hml, hown, hts⟩ (c_Question_addNode l D G a_t a_kinds a_inner a_next a_text a_numbers a_left a_right v_nodeCount v_root v_asked v_mode v_kinds v_inner v_next p1 p2 o3 ho3 H.size) (cwV 2 hts (gV tw661 tw631 tw632 tw14 tw633) rfl rfl rfl (by decide +kernel) ⟨Nat.le_of_ble_eq_true rfl, Nat.le_of_ble_eq_true rfl⟩) (ob_preV (q0 := 0) (ci := 7) hZ hK hP hD [0, 1, 2, 3] rfl rfl rfl rfl rfl) rfl rfl hl.1 rfl (lv_room (Nat.le_of_ble_eq_true rfl)) d_Question_addPair_3 ⟨Nat.le_refl _, Nat.le_refl _⟩) hP hD hA hS [0, 1, 2, 3] rfl rfl rfl rfl (fun H locs hP hD hS => ?_)
  refine lv_istore (lv' := [(5, .int o3.1), (0, .ref a_t), (1, .int p1), (2, .int p2), (3, .int p3), (4, .int p4)]) hx hb d_Question_addPair_6 hl (by decide) rfl (fun ls hl => ?_)
  refine lv_iload hx hb d_Question_addPair_8 (lv_at hl 0 rfl) ?_
  refine lv_iconst (v := (-1)) hx hb d_Question_addPair_10 (by decide) ?_
  refine lv_icmp_eq (tgt := 31) hx hb d_Question_addPair_11 (by decide) (fun hc11 => ?_) (fun hc11 => ?_)
  · have hf := ob_t hc11 hf
    refine lv_iload hx hb d_Question_addPair_31 (lv_at hl 0 rfl) ?_
    exact hret (o3.1, o3.2.1, o3.2.2.1, o3.2.2.2.1, o3.2.2.2.2, v_left, v_right) H locs _ ls hf hP hD hS rfl d_Question_addPair_33
  · have hf := ob_f hc11 hf
    refine lv_aload_n hx hb d_Question_addPair_14 rfl (lv_at hl 1 rfl) ?_
    refine va_get (D := D) (ci := 7) (v := .ref a_left) (C := "ObjectBase$Question") (T := TC_Question) (N := 11) hx hb hts inC_Question hown hK hP 0 rfl rfl 5 (by decide) (hts _ tw548) (fun _ h9 => h9) rfl d_Question_addPair_15 ?_
    refine lv_iload hx hb d_Question_addPair_18 (lv_at hl 0 rfl) ?_
    refine lv_iload_n hx hb d_Question_addPair_20 rfl (lv_at hl 4 rfl) ?_
    obtain ⟨hg21, hf⟩ := ob_iv_g hf
    refine va_iast hx hb hK hP hD hS 4 0 rfl rfl hg21 d_Question_addPair_21 (fun H locs hP hD hS => ?_)
    have hP : va_P D vwCl (cw_Question_addPair G a_t a_kinds a_inner a_next a_left a_right a_text a_numbers o3.2.1 v_root v_asked v_mode o3.2.2.1 o3.2.2.2.1 o3.2.2.2.2 (upd v_left o3.1.toNatClampNeg p3) v_right) H := hP
    have hD : va_D A (cw_Question_addPair G a_t a_kinds a_inner a_next a_left a_right a_text a_numbers o3.2.1 v_root v_asked v_mode o3.2.2.1 o3.2.2.2.1 o3.2.2.2.2 (upd v_left o3.1.toNatClampNeg p3) v_right) := hD
    refine lv_aload_n hx hb d_Question_addPair_22 rfl (lv_at hl 1 rfl) ?_
    refine va_get (D := D) (ci := 7) (v := .ref a_right) (C := "ObjectBase$Question") (T := TC_Question) (N := 11) hx hb hts inC_Question hown hK hP 0 rfl rfl 6 (by decide) (hts _ tw551) (fun _ h9 => h9) rfl d_Question_addPair_23 ?_
    refine lv_iload hx hb d_Question_addPair_26 (lv_at hl 0 rfl) ?_
    refine lv_iload hx hb d_Question_addPair_28 (lv_at hl 5 rfl) ?_
    obtain ⟨hg30, hf⟩ := ob_iv_g hf
    refine va_iast hx hb hK hP hD hS 5 0 rfl rfl hg30 d_Question_addPair_30 (fun H locs hP hD hS => ?_)
    have hP : va_P D vwCl (cw_Question_addPair G a_t a_kinds a_inner a_next a_left a_right a_text a_numbers o3.2.1 v_root v_asked v_mode o3.2.2.1 o3.2.2.2.1 o3.2.2.2.2 (upd v_left o3.1.toNatClampNeg p3) (upd v_right o3.1.toNatClampNeg p4)) H := hP
    have hD : va_D A (cw_Question_addPair G a_t a_kinds a_inner a_next a_left a_right a_text a_numbers o3.2.1 v_root v_asked v_mode o3.2.2.1 o3.2.2.2.1 o3.2.2.2.2 (upd v_left o3.1.toNatClampNeg p3) (upd v_right o3.1.toNatClampNeg p4)) := hD
    refine lv_iload hx hb d_Question_addPair_31 (lv_at hl 0 rfl) ?_
    exact hret (o3.1, o3.2.1, o3.2.2.1, o3.2.2.2.1, o3.2.2.2.2, upd v_left o3.1.toNatClampNeg p3, upd v_right o3.1.toNatClampNeg p4) H locs _ ls hf hP hD hS rfl d_Question_addPair_33
abbrev bc_Question_link : ByteArray := prog_8_method_5_code
abbrev y_Question_link : MethodName := ⟨"ObjectBase$Question", "link", "(III)V"⟩
def ws_Question_link : List Cond := .code y_Question_link bc_Question_link 4 none :: obW
theorem d_Question_link_0 : decode bc_Question_link 0 = .ok (.iload_n 2, 1) := by decide +kernel
theorem d_Question_link_1 : decode bc_Question_link 1 = .ok (.iconst (-1), 1) := by decide +kernel
theorem d_Question_link_2 : decode bc_Question_link 2 = .ok (.if_icmp .ne 13, 3) := by decide +kernel
theorem d_Question_link_5 : decode bc_Question_link 5 = .ok (.aload_n 0, 1) := by decide +kernel
theorem d_Question_link_6 : decode bc_Question_link 6 = .ok (.getfield 25, 3) := by decide +kernel
theorem d_Question_link_9 : decode bc_Question_link 9 = .ok (.iload_n 1, 1) := by decide +kernel
theorem d_Question_link_10 : decode bc_Question_link 10 = .ok (.iload_n 3, 1) := by decide +kernel
theorem d_Question_link_11 : decode bc_Question_link 11 = .ok (.iastore, 1) := by decide +kernel
theorem d_Question_link_12 : decode bc_Question_link 12 = .ok (.goto 10, 3) := by decide +kernel
theorem d_Question_link_15 : decode bc_Question_link 15 = .ok (.aload_n 0, 1) := by decide +kernel
theorem d_Question_link_16 : decode bc_Question_link 16 = .ok (.getfield 28, 3) := by decide +kernel
theorem d_Question_link_19 : decode bc_Question_link 19 = .ok (.iload_n 2, 1) := by decide +kernel
theorem d_Question_link_20 : decode bc_Question_link 20 = .ok (.iload_n 3, 1) := by decide +kernel
theorem d_Question_link_21 : decode bc_Question_link 21 = .ok (.iastore, 1) := by decide +kernel
theorem d_Question_link_22 : decode bc_Question_link 22 = .ok (.return_, 1) := by decide +kernel
def cw_Question_link (G : Nat → ClassId) (a_t a_next a_inner a_text a_numbers a_kinds a_left a_right : Nat) (v_nodeCount : Int32) (v_root : Int32) (v_asked : Int32) (v_mode : Int32) (v_next : Nat → Int32) (v_inner : Nat → Int32) : va_W := [(a_t, .inr (7, [.ref a_text, .ref a_numbers, .ref a_kinds, .ref a_inner, .ref a_next, .ref a_left, .ref a_right, .int v_nodeCount, .int v_root, .int v_asked, .int v_mode])), (a_next, .inl (G 0, 60, .inl v_next)), (a_inner, .inl (G 0, 60, .inl v_inner))]
def f_Question_link (v_next : Nat → Int32) (v_inner : Nat → Int32) (p1 : Int32) (p2 : Int32) (p3 : Int32) : Option ((Nat → Int32) × (Nat → Int32)) := if p2 = (-1) then (ob_iv p1 60 (some (v_next, upd v_inner p1.toNatClampNeg p3))) else (ob_iv p2 60 (some (upd v_next p2.toNatClampNeg p3, v_inner)))
set_option maxHeartbeats 4000000 in
set_option maxRecDepth 100000 in
theorem c_Question_link (l : Launch) (D : va_G) (G : Nat → ClassId) (a_t a_next a_inner a_text a_numbers a_kinds a_left a_right : Nat) (v_nodeCount : Int32) (v_root : Int32) (v_asked : Int32) (v_mode : Int32) (v_next : Nat → Int32) (v_inner : Nat → Int32) (p1 : Int32) (p2 : Int32) (p3 : Int32) (o : (Nat → Int32) × (Nat → Int32)) (hf : f_Question_link v_next v_inner p1 p2 p3 = some o) (sz : Nat) : MetV l y_Question_link ws_Question_link ({ frames := 0, cells := 0, slots := 0, locals := 0 }) D (obT G) (cw_Question_link G a_t a_next a_inner a_text a_numbers a_kinds a_left a_right v_nodeCount v_root v_asked v_mode v_next v_inner) (cw_Question_link G a_t a_next a_inner a_text a_numbers a_kinds a_left a_right v_nodeCount v_root v_asked v_mode o.1 o.2) [.ref a_t, .int p1, .int p2, .int p3] sz := by
  refine ob_of (cc := bc_Question_link) (maxL := 4) (ret := none) (Qc := ObQv D (obT G) (cw_Question_link G a_t a_next a_inner a_text a_numbers a_kinds a_left a_right v_nodeCount v_root v_asked v_mode o.1 o.2)) (by decide) rfl (Nat.le_of_ble_eq_true rfl) ?_
  intro p e s m below meth c A ls H locs hx hb hr hml hts hown hlk hnm hZ hP hK hD hA hS hl
  have hret : ∀ (o' : (Nat → Int32) × (Nat → Int32)) (H : Heap) (locs : List Loc) (pc : Nat) (ls : Array Slot), some o' = some o → va_P D vwCl (cw_Question_link G a_t a_next a_inner a_text a_numbers a_kinds a_left a_right v_nodeCount v_root v_asked v_mode o'.1 o'.2) H → va_D A (cw_Question_link G a_t a_next a_inner a_text a_numbers a_kinds a_left a_right v_nodeCount v_root v_asked v_mode o'.1 o'.2) → va_S A s.heap H locs → decode bc_Question_link pc = .ok (.return_, 1) → W p l e { frames := 0, cells := 0, slots := 0, locals := 0 } s m ([.ref a_t, .int p1, .int p2, .int p3] : List Value).toArray below meth c H locs 0 0 (MQ below (ObQv D (obT G) (cw_Question_link G a_t a_next a_inner a_text a_numbers a_kinds a_left a_right v_nodeCount v_root v_asked v_mode o.1 o.2) A) ([.ref a_t, .int p1, .int p2, .int p3] : List Value).toArray s 0 0 A) (F0 m pc ls []) := by
    intro o' H locs pc ls he hP hD hS hd
    obtain rfl := Option.some.inj he
    exact ob_vret hx hb hr hlk hK hP hD hS hd
  generalize MQ below (ObQv D (obT G) (cw_Question_link G a_t a_next a_inner a_text a_numbers a_kinds a_left a_right v_nodeCount v_root v_asked v_mode o.1 o.2) A) ([.ref a_t, .int p1, .int p2, .int p3] : List Value).toArray s 0 0 A = Q at hret ⊢
  have hl : lv_has ls 4 [(0, .ref a_t), (1, .int p1), (2, .int p2), (3, .int p3)] := hl
  unfold f_Question_link at hf
  refine lv_iload_n hx hb d_Question_link_0 rfl (lv_at hl 2 rfl) ?_
  refine lv_iconst (v := (-1)) hx hb d_Question_link_1 (by decide) ?_
  refine lv_icmp_ne (tgt := 15) hx hb d_Question_link_2 (by decide) (fun hc2 => ?_) (fun hc2 => ?_)
  · have hf := ob_f hc2 hf
    refine lv_aload_n hx hb d_Question_link_15 rfl (lv_at hl 0 rfl) ?_
    refine va_get (D := D) (ci := 7) (v := .ref a_next) (C := "ObjectBase$Question") (T := TC_Question) (N := 11) hx hb hts inC_Question hown hK hP 0 rfl rfl 4 (by decide) (hts _ tw545) (fun _ h9 => h9) rfl d_Question_link_16 ?_
    refine lv_iload_n hx hb d_Question_link_19 rfl (lv_at hl 2 rfl) ?_
    refine lv_iload_n hx hb d_Question_link_20 rfl (lv_at hl 3 rfl) ?_
    obtain ⟨hg21, hf⟩ := ob_iv_g hf
    refine va_iast hx hb hK hP hD hS 1 0 rfl rfl hg21 d_Question_link_21 (fun H locs hP hD hS => ?_)
    have hP : va_P D vwCl (cw_Question_link G a_t a_next a_inner a_text a_numbers a_kinds a_left a_right v_nodeCount v_root v_asked v_mode (upd v_next p2.toNatClampNeg p3) v_inner) H := hP
    have hD : va_D A (cw_Question_link G a_t a_next a_inner a_text a_numbers a_kinds a_left a_right v_nodeCount v_root v_asked v_mode (upd v_next p2.toNatClampNeg p3) v_inner) := hD
    exact hret (upd v_next p2.toNatClampNeg p3, v_inner) H locs _ ls hf hP hD hS d_Question_link_22
  · have hf := ob_t hc2 hf
    refine lv_aload_n hx hb d_Question_link_5 rfl (lv_at hl 0 rfl) ?_
    refine va_get (D := D) (ci := 7) (v := .ref a_inner) (C := "ObjectBase$Question") (T := TC_Question) (N := 11) hx hb hts inC_Question hown hK hP 0 rfl rfl 3 (by decide) (hts _ tw542) (fun _ h9 => h9) rfl d_Question_link_6 ?_
    refine lv_iload_n hx hb d_Question_link_9 rfl (lv_at hl 1 rfl) ?_
    refine lv_iload_n hx hb d_Question_link_10 rfl (lv_at hl 3 rfl) ?_
    obtain ⟨hg11, hf⟩ := ob_iv_g hf
    refine va_iast hx hb hK hP hD hS 2 0 rfl rfl hg11 d_Question_link_11 (fun H locs hP hD hS => ?_)
    have hP : va_P D vwCl (cw_Question_link G a_t a_next a_inner a_text a_numbers a_kinds a_left a_right v_nodeCount v_root v_asked v_mode v_next (upd v_inner p1.toNatClampNeg p3)) H := hP
    have hD : va_D A (cw_Question_link G a_t a_next a_inner a_text a_numbers a_kinds a_left a_right v_nodeCount v_root v_asked v_mode v_next (upd v_inner p1.toNatClampNeg p3)) := hD
    refine lv_goto (tgt := 22) hx hb d_Question_link_12 (by decide) ?_
    exact hret (v_next, upd v_inner p1.toNatClampNeg p3) H locs _ ls hf hP hD hS d_Question_link_22
abbrev bc_Question_isKeyForm : ByteArray := prog_8_method_6_code
abbrev y_Question_isKeyForm : MethodName := ⟨"ObjectBase$Question", "isKeyForm", "(I)Z"⟩
def ws_Question_isKeyForm : List Cond := .code y_Question_isKeyForm bc_Question_isKeyForm 3 (some .boolean) :: obW
theorem d_Question_isKeyForm_0 : decode bc_Question_isKeyForm 0 = .ok (.aload_n 0, 1) := by decide +kernel
theorem d_Question_isKeyForm_1 : decode bc_Question_isKeyForm 1 = .ok (.getfield 22, 3) := by decide +kernel
theorem d_Question_isKeyForm_4 : decode bc_Question_isKeyForm 4 = .ok (.iload_n 1, 1) := by decide +kernel
theorem d_Question_isKeyForm_5 : decode bc_Question_isKeyForm 5 = .ok (.iaload, 1) := by decide +kernel
theorem d_Question_isKeyForm_6 : decode bc_Question_isKeyForm 6 = .ok (.iconst 4, 1) := by decide +kernel
theorem d_Question_isKeyForm_7 : decode bc_Question_isKeyForm 7 = .ok (.if_icmp .ne 21, 3) := by decide +kernel
theorem d_Question_isKeyForm_10 : decode bc_Question_isKeyForm 10 = .ok (.aload_n 0, 1) := by decide +kernel
theorem d_Question_isKeyForm_11 : decode bc_Question_isKeyForm 11 = .ok (.getfield 12, 3) := by decide +kernel
theorem d_Question_isKeyForm_14 : decode bc_Question_isKeyForm 14 = .ok (.aload_n 0, 1) := by decide +kernel
theorem d_Question_isKeyForm_15 : decode bc_Question_isKeyForm 15 = .ok (.getfield 31, 3) := by decide +kernel
theorem d_Question_isKeyForm_18 : decode bc_Question_isKeyForm 18 = .ok (.iload_n 1, 1) := by decide +kernel
theorem d_Question_isKeyForm_19 : decode bc_Question_isKeyForm 19 = .ok (.iaload, 1) := by decide +kernel
theorem d_Question_isKeyForm_20 : decode bc_Question_isKeyForm 20 = .ok (.invokevirtual 48, 3) := by decide +kernel
theorem d_Question_isKeyForm_23 : decode bc_Question_isKeyForm 23 = .ok (.bipush 120, 2) := by decide +kernel
theorem d_Question_isKeyForm_25 : decode bc_Question_isKeyForm 25 = .ok (.if_icmp .eq 5, 3) := by decide +kernel
theorem d_Question_isKeyForm_28 : decode bc_Question_isKeyForm 28 = .ok (.iconst 0, 1) := by decide +kernel
theorem d_Question_isKeyForm_29 : decode bc_Question_isKeyForm 29 = .ok (.ireturn, 1) := by decide +kernel
theorem d_Question_isKeyForm_30 : decode bc_Question_isKeyForm 30 = .ok (.aload_n 0, 1) := by decide +kernel
theorem d_Question_isKeyForm_31 : decode bc_Question_isKeyForm 31 = .ok (.getfield 12, 3) := by decide +kernel
theorem d_Question_isKeyForm_34 : decode bc_Question_isKeyForm 34 = .ok (.aload_n 0, 1) := by decide +kernel
theorem d_Question_isKeyForm_35 : decode bc_Question_isKeyForm 35 = .ok (.getfield 34, 3) := by decide +kernel
theorem d_Question_isKeyForm_38 : decode bc_Question_isKeyForm 38 = .ok (.iload_n 1, 1) := by decide +kernel
theorem d_Question_isKeyForm_39 : decode bc_Question_isKeyForm 39 = .ok (.iaload, 1) := by decide +kernel
theorem d_Question_isKeyForm_40 : decode bc_Question_isKeyForm 40 = .ok (.invokevirtual 48, 3) := by decide +kernel
theorem d_Question_isKeyForm_43 : decode bc_Question_isKeyForm 43 = .ok (.istore_n 2, 1) := by decide +kernel
theorem d_Question_isKeyForm_44 : decode bc_Question_isKeyForm 44 = .ok (.iload_n 2, 1) := by decide +kernel
theorem d_Question_isKeyForm_45 : decode bc_Question_isKeyForm 45 = .ok (.bipush 45, 2) := by decide +kernel
theorem d_Question_isKeyForm_47 : decode bc_Question_isKeyForm 47 = .ok (.if_icmp .eq 10, 3) := by decide +kernel
theorem d_Question_isKeyForm_50 : decode bc_Question_isKeyForm 50 = .ok (.iload_n 2, 1) := by decide +kernel
theorem d_Question_isKeyForm_51 : decode bc_Question_isKeyForm 51 = .ok (.invokestatic 52, 3) := by decide +kernel
theorem d_Question_isKeyForm_54 : decode bc_Question_isKeyForm 54 = .ok (.ifCond .eq 7, 3) := by decide +kernel
theorem d_Question_isKeyForm_57 : decode bc_Question_isKeyForm 57 = .ok (.iconst 1, 1) := by decide +kernel
theorem d_Question_isKeyForm_58 : decode bc_Question_isKeyForm 58 = .ok (.goto 4, 3) := by decide +kernel
theorem d_Question_isKeyForm_61 : decode bc_Question_isKeyForm 61 = .ok (.iconst 0, 1) := by decide +kernel
theorem d_Question_isKeyForm_62 : decode bc_Question_isKeyForm 62 = .ok (.ireturn, 1) := by decide +kernel
def cw_Question_isKeyForm (G : Nat → ClassId) (a_t a_kinds a_left a_text a_text_chars a_right a_numbers a_inner a_next : Nat) (v_nodeCount : Int32) (v_root : Int32) (v_asked : Int32) (v_mode : Int32) (v_kinds : Nat → Int32) (v_left : Nat → Int32) (v_text_length : Int32) (v_text_chars : Nat → Int32) (v_right : Nat → Int32) : va_W := [(a_t, .inr (7, [.ref a_text, .ref a_numbers, .ref a_kinds, .ref a_inner, .ref a_next, .ref a_left, .ref a_right, .int v_nodeCount, .int v_root, .int v_asked, .int v_mode])), (a_kinds, .inl (G 0, 60, .inl v_kinds)), (a_left, .inl (G 0, 60, .inl v_left)), (a_text, .inr (6, [.ref a_text_chars, .int v_text_length])), (a_text_chars, .inl (G 2, 60, .inl v_text_chars)), (a_right, .inl (G 0, 60, .inl v_right))]
def f_Question_isKeyForm (v_kinds : Nat → Int32) (v_left : Nat → Int32) (v_text_length : Int32) (v_text_chars : Nat → Int32) (v_right : Nat → Int32) (p1 : Int32) : Option (Int32) := ob_iv p1 60 (if (v_kinds p1.toNatClampNeg) = 4 then (ob_iv p1 60 ((f_Text_at v_text_length v_text_chars (v_left p1.toNatClampNeg)).bind fun o20 => (if o20 = 120 then (ob_iv p1 60 ((f_Text_at v_text_length v_text_chars (v_right p1.toNatClampNeg)).bind fun o40 => (if o40 = 45 then (some 1) else ((f_OB_isDigit o40).bind fun o51 => (if o51 = 0 then (some 0) else (some 1)))))) else (some 0)))) else (some 0))
set_option maxHeartbeats 4000000 in
set_option maxRecDepth 100000 in
theorem c_Question_isKeyForm (l : Launch) (D : va_G) (G : Nat → ClassId) (a_t a_kinds a_left a_text a_text_chars a_right a_numbers a_inner a_next : Nat) (v_nodeCount : Int32) (v_root : Int32) (v_asked : Int32) (v_mode : Int32) (v_kinds : Nat → Int32) (v_left : Nat → Int32) (v_text_length : Int32) (v_text_chars : Nat → Int32) (v_right : Nat → Int32) (p1 : Int32) (o : Int32) (hf : f_Question_isKeyForm v_kinds v_left v_text_length v_text_chars v_right p1 = some o) (sz : Nat) : MetI l y_Question_isKeyForm ws_Question_isKeyForm ({ frames := 1, cells := 0, slots := 0, locals := 21 }) D (obT G) (cw_Question_isKeyForm G a_t a_kinds a_left a_text a_text_chars a_right a_numbers a_inner a_next v_nodeCount v_root v_asked v_mode v_kinds v_left v_text_length v_text_chars v_right) (cw_Question_isKeyForm G a_t a_kinds a_left a_text a_text_chars a_right a_numbers a_inner a_next v_nodeCount v_root v_asked v_mode v_kinds v_left v_text_length v_text_chars v_right) [.ref a_t, .int p1] o sz := by
  refine ob_of (cc := bc_Question_isKeyForm) (maxL := 3) (ret := (some .boolean)) (Qc := ObQi D (obT G) (cw_Question_isKeyForm G a_t a_kinds a_left a_text a_text_chars a_right a_numbers a_inner a_next v_nodeCount v_root v_asked v_mode v_kinds v_left v_text_length v_text_chars v_right) o) (by decide) rfl (Nat.le_of_ble_eq_true rfl) ?_
  intro p e s m below meth c A ls H locs hx hb hr hml hts hown hlk hnm hZ hP hK hD hA hS hl
  have hret : ∀ (o' : Int32) (H : Heap) (locs : List Loc) (pc : Nat) (ls : Array Slot), some o' = some o → va_P D vwCl (cw_Question_isKeyForm G a_t a_kinds a_left a_text a_text_chars a_right a_numbers a_inner a_next v_nodeCount v_root v_asked v_mode v_kinds v_left v_text_length v_text_chars v_right) H → va_D A (cw_Question_isKeyForm G a_t a_kinds a_left a_text a_text_chars a_right a_numbers a_inner a_next v_nodeCount v_root v_asked v_mode v_kinds v_left v_text_length v_text_chars v_right) → va_S A s.heap H locs → narrow .boolean (.int o') = .int o' → decode bc_Question_isKeyForm pc = .ok (.ireturn, 1) → W p l e { frames := 1, cells := 0, slots := 0, locals := 21 } s m ([.ref a_t, .int p1] : List Value).toArray below meth c H locs 0 0 (MQ below (ObQi D (obT G) (cw_Question_isKeyForm G a_t a_kinds a_left a_text a_text_chars a_right a_numbers a_inner a_next v_nodeCount v_root v_asked v_mode v_kinds v_left v_text_length v_text_chars v_right) o A) ([.ref a_t, .int p1] : List Value).toArray s 0 0 A) (F0 m pc ls [.int o']) := by
    intro o' H locs pc ls he hP hD hS hn hd
    obtain rfl := Option.some.inj he
    exact ob_iret hx hb hr hlk hK hP hD hS hn hd
  generalize MQ below (ObQi D (obT G) (cw_Question_isKeyForm G a_t a_kinds a_left a_text a_text_chars a_right a_numbers a_inner a_next v_nodeCount v_root v_asked v_mode v_kinds v_left v_text_length v_text_chars v_right) o A) ([.ref a_t, .int p1] : List Value).toArray s 0 0 A = Q at hret ⊢
  have hl : lv_has ls 3 [(0, .ref a_t), (1, .int p1)] := hl
  unfold f_Question_isKeyForm at hf
  refine lv_aload_n hx hb d_Question_isKeyForm_0 rfl (lv_at hl 0 rfl) ?_
  refine va_get (D := D) (ci := 7) (v := .ref a_kinds) (C := "ObjectBase$Question") (T := TC_Question) (N := 11) hx hb hts inC_Question hown hK hP 0 rfl rfl 2 (by decide) (hts _ tw540) (fun _ h9 => h9) rfl d_Question_isKeyForm_1 ?_
  refine lv_iload_n hx hb d_Question_isKeyForm_4 rfl (lv_at hl 1 rfl) ?_
  obtain ⟨hg5, hf⟩ := ob_iv_g hf
  refine va_iald hx hb hK hP 1 0 rfl rfl hg5 d_Question_isKeyForm_5 ?_
  refine lv_iconst (v := 4) hx hb d_Question_isKeyForm_6 (by decide) ?_
  refine lv_icmp_ne (tgt := 28) hx hb d_Question_isKeyForm_7 (by decide) (fun hc7 => ?_) (fun hc7 => ?_)
  · have hf := ob_f hc7 hf
    refine lv_iconst (v := 0) hx hb d_Question_isKeyForm_28 (by decide) ?_
    exact hret 0 H locs _ ls hf hP hD hS narrow_b0 d_Question_isKeyForm_29
  · have hf := ob_t hc7 hf
    refine lv_aload_n hx hb d_Question_isKeyForm_10 rfl (lv_at hl 0 rfl) ?_
    refine va_get (D := D) (ci := 7) (v := .ref a_text) (C := "ObjectBase$Question") (T := TC_Question) (N := 11) hx hb hts inC_Question hown hK hP 0 rfl rfl 0 (by decide) (hts _ tw532) (fun _ h9 => h9) rfl d_Question_isKeyForm_11 ?_
    refine lv_aload_n hx hb d_Question_isKeyForm_14 rfl (lv_at hl 0 rfl) ?_
    refine va_get (D := D) (ci := 7) (v := .ref a_left) (C := "ObjectBase$Question") (T := TC_Question) (N := 11) hx hb hts inC_Question hown hK hP 0 rfl rfl 5 (by decide) (hts _ tw548) (fun _ h9 => h9) rfl d_Question_isKeyForm_15 ?_
    refine lv_iload_n hx hb d_Question_isKeyForm_18 rfl (lv_at hl 1 rfl) ?_
    obtain ⟨hg19, hf⟩ := ob_iv_g hf
    refine va_iald hx hb hK hP 2 0 rfl rfl hg19 d_Question_isKeyForm_19 ?_
    obtain ⟨o20, ho20, hf⟩ := ob_b hf
    refine ob_calli (w2 := (cw_Question_isKeyForm G a_t a_kinds a_left a_text a_text_chars a_right a_numbers a_inner a_next v_nodeCount v_root v_asked v_mode v_kinds v_left v_text_length v_text_chars v_right)) (va_runV (As := [.int (v_left p1.toNatClampNeg)]) (rest := []) ⟨hx, hb, hml, hown, hts⟩ (c_Text_at l D G a_text a_text_chars v_text_length v_text_chars (v_left p1.toNatClampNeg) o20 ho20 H.size) (cwV 1 hts (gV tw695 tw605 tw606 tw7 tw607) rfl rfl rfl (by decide +kernel) ⟨Nat.le_of_ble_eq_true rfl, Nat.le_of_ble_eq_true rfl⟩) (ob_preV (q0 := 3) (ci := 6) hZ hK hP hD [3, 4] rfl rfl rfl rfl rfl) rfl rfl hl.1 rfl (lv_room (Nat.le_of_ble_eq_true rfl)) d_Question_isKeyForm_20 ⟨Nat.le_refl _, Nat.le_refl _⟩) hP hD hA hS [3, 4] rfl rfl rfl rfl (fun H locs hP hD hS => ?_)
    refine lv_bipush (v := 120) hx hb d_Question_isKeyForm_23 (by decide) ?_
    refine lv_icmp_eq (tgt := 30) hx hb d_Question_isKeyForm_25 (by decide) (fun hc25 => ?_) (fun hc25 => ?_)
    · have hf := ob_t hc25 hf
      refine lv_aload_n hx hb d_Question_isKeyForm_30 rfl (lv_at hl 0 rfl) ?_
      refine va_get (D := D) (ci := 7) (v := .ref a_text) (C := "ObjectBase$Question") (T := TC_Question) (N := 11) hx hb hts inC_Question hown hK hP 0 rfl rfl 0 (by decide) (hts _ tw532) (fun _ h9 => h9) rfl d_Question_isKeyForm_31 ?_
      refine lv_aload_n hx hb d_Question_isKeyForm_34 rfl (lv_at hl 0 rfl) ?_
      refine va_get (D := D) (ci := 7) (v := .ref a_right) (C := "ObjectBase$Question") (T := TC_Question) (N := 11) hx hb hts inC_Question hown hK hP 0 rfl rfl 6 (by decide) (hts _ tw551) (fun _ h9 => h9) rfl d_Question_isKeyForm_35 ?_
      refine lv_iload_n hx hb d_Question_isKeyForm_38 rfl (lv_at hl 1 rfl) ?_
      obtain ⟨hg39, hf⟩ := ob_iv_g hf
      refine va_iald hx hb hK hP 5 0 rfl rfl hg39 d_Question_isKeyForm_39 ?_
      obtain ⟨o40, ho40, hf⟩ := ob_b hf
      refine ob_calli (w2 := (cw_Question_isKeyForm G a_t a_kinds a_left a_text a_text_chars a_right a_numbers a_inner a_next v_nodeCount v_root v_asked v_mode v_kinds v_left v_text_length v_text_chars v_right)) (va_runV (As := [.int (v_right p1.toNatClampNeg)]) (rest := []) ⟨hx, hb, hml, hown, hts⟩ (c_Text_at l D G a_text a_text_chars v_text_length v_text_chars (v_right p1.toNatClampNeg) o40 ho40 H.size) (cwV 1 hts (gV tw695 tw605 tw606 tw7 tw607) rfl rfl rfl (by decide +kernel) ⟨Nat.le_of_ble_eq_true rfl, Nat.le_of_ble_eq_true rfl⟩) (ob_preV (q0 := 3) (ci := 6) hZ hK hP hD [3, 4] rfl rfl rfl rfl rfl) rfl rfl hl.1 rfl (lv_room (Nat.le_of_ble_eq_true rfl)) d_Question_isKeyForm_40 ⟨Nat.le_refl _, Nat.le_refl _⟩) hP hD hA hS [3, 4] rfl rfl rfl rfl (fun H locs hP hD hS => ?_)
      refine lv_istore_n (lv' := [(2, .int o40), (0, .ref a_t), (1, .int p1)]) hx hb d_Question_isKeyForm_43 rfl hl (by decide) rfl (fun ls hl => ?_)
      refine lv_iload_n hx hb d_Question_isKeyForm_44 rfl (lv_at hl 0 rfl) ?_
      refine lv_bipush (v := 45) hx hb d_Question_isKeyForm_45 (by decide) ?_
      refine lv_icmp_eq (tgt := 57) hx hb d_Question_isKeyForm_47 (by decide) (fun hc47 => ?_) (fun hc47 => ?_)
      · have hf := ob_t hc47 hf
        refine lv_iconst (v := 1) hx hb d_Question_isKeyForm_57 (by decide) ?_
        refine lv_goto (tgt := 62) hx hb d_Question_isKeyForm_58 (by decide) ?_
        exact hret 1 H locs _ ls hf hP hD hS narrow_b1 d_Question_isKeyForm_62
      · have hf := ob_f hc47 hf
        refine lv_iload_n hx hb d_Question_isKeyForm_50 rfl (lv_at hl 0 rfl) ?_
        obtain ⟨o51, ho51, hf⟩ := ob_b hf
        refine ob_calli (w2 := (cw_Question_isKeyForm G a_t a_kinds a_left a_text a_text_chars a_right a_numbers a_inner a_next v_nodeCount v_root v_asked v_mode v_kinds v_left v_text_length v_text_chars v_right)) (va_runSN (As := [.int o40]) (rest := []) ⟨hx, hb, hml, hown, hts⟩ (c_OB_isDigit l D G  o40 o51 ho51 H.size) ⟨va_cnB 1 hts (gN tw648) rfl rfl rfl (hZ.2 _ _ _ _ tw696) (hts _ tw1) (by decide +kernel) ⟨Nat.le_of_ble_eq_true rfl, Nat.le_of_ble_eq_true rfl⟩, hts _ tw647, trivial⟩ (ob_preS hZ hK hP hD [] rfl rfl) rfl rfl hl.1 rfl (lv_room (Nat.le_of_ble_eq_true rfl)) d_Question_isKeyForm_51 ⟨Nat.le_refl _, Nat.le_refl _⟩) hP hD hA hS [] rfl rfl rfl rfl (fun H locs hP hD hS => ?_)
        refine lv_if_eq (tgt := 61) hx hb d_Question_isKeyForm_54 (by decide) (fun hc54 => ?_) (fun hc54 => ?_)
        · have hf := ob_t hc54 hf
          refine lv_iconst (v := 0) hx hb d_Question_isKeyForm_61 (by decide) ?_
          exact hret 0 H locs _ ls hf hP hD hS narrow_b0 d_Question_isKeyForm_62
        · have hf := ob_f hc54 hf
          refine lv_iconst (v := 1) hx hb d_Question_isKeyForm_57 (by decide) ?_
          refine lv_goto (tgt := 62) hx hb d_Question_isKeyForm_58 (by decide) ?_
          exact hret 1 H locs _ ls hf hP hD hS narrow_b1 d_Question_isKeyForm_62
    · have hf := ob_f hc25 hf
      refine lv_iconst (v := 0) hx hb d_Question_isKeyForm_28 (by decide) ?_
      exact hret 0 H locs _ ls hf hP hD hS narrow_b0 d_Question_isKeyForm_29
abbrev bc_Reader_init : ByteArray := prog_9_method_1_code
abbrev y_Reader_init : MethodName := ⟨"ObjectBase$Reader", "<init>", "(LObjectBase$Schema;)V"⟩
def ws_Reader_init : List Cond := .code y_Reader_init bc_Reader_init 2 none :: obW
theorem d_Reader_init_0 : decode bc_Reader_init 0 = .ok (.aload_n 0, 1) := by decide +kernel
theorem d_Reader_init_1 : decode bc_Reader_init 1 = .ok (.invokespecial 3, 3) := by decide +kernel
theorem d_Reader_init_4 : decode bc_Reader_init 4 = .ok (.aload_n 0, 1) := by decide +kernel
theorem d_Reader_init_5 : decode bc_Reader_init 5 = .ok (.iconst 3, 1) := by decide +kernel
theorem d_Reader_init_6 : decode bc_Reader_init 6 = .ok (.newarray .int, 2) := by decide +kernel
theorem d_Reader_init_8 : decode bc_Reader_init 8 = .ok (.putfield 9, 3) := by decide +kernel
theorem d_Reader_init_11 : decode bc_Reader_init 11 = .ok (.aload_n 0, 1) := by decide +kernel
theorem d_Reader_init_12 : decode bc_Reader_init 12 = .ok (.aload_n 1, 1) := by decide +kernel
theorem d_Reader_init_13 : decode bc_Reader_init 13 = .ok (.putfield 15, 3) := by decide +kernel
theorem d_Reader_init_16 : decode bc_Reader_init 16 = .ok (.return_, 1) := by decide +kernel
def nw_Reader (G : Nat → ClassId) (a_t : Nat) (a_p1 : Nat) (b0 : Nat) : va_W := [(a_t, .inr (8, [.ref a_p1, .ref b0, .null, .null, .int 0, .int 0])), (b0, .inl (G 0, 3, .inl (fun _ => 0)))]
set_option maxHeartbeats 4000000 in
set_option maxRecDepth 100000 in
theorem n_Reader (l : Launch) (D : va_G) (G : Nat → ClassId) (a_t : Nat) (a_p1 : Nat) (sz : Nat) : Met l y_Reader_init ws_Reader_init ({ frames := 1, cells := 1, slots := 3, locals := 12 }) (ObPre D (obT G) [(a_t, .inr (8, [.null, .null, .null, .null, .int 0, .int 0]))] sz [.ref a_t, .ref a_p1]) (va_Qv (S := Nat) (fun _ => True) (fun u t => ObAt D (obT G) (nw_Reader G a_t a_p1 u) (va_A [(a_t, .inr (8, [.null, .null, .null, .null, .int 0, .int 0]))] sz) t) (va_A [(a_t, .inr (8, [.null, .null, .null, .null, .int 0, .int 0]))] sz)) 1 3 (va_A [(a_t, .inr (8, [.null, .null, .null, .null, .int 0, .int 0]))] sz) := by
  refine ob_of (cc := bc_Reader_init) (maxL := 2) (ret := none) (Qc := fun A => va_Qv (S := Nat) (fun _ => True) (fun u t => ObAt D (obT G) (nw_Reader G a_t a_p1 u) A t) A) (by decide) rfl (Nat.le_of_ble_eq_true rfl) ?_
  intro p e s m below meth c A ls H locs hx hb hr hml hts hown hlk hnm hZ hP hK hD hA hS hl
  have hin : meth.name = "<init>" := hnm
  have hl : lv_has ls 2 [(0, .ref a_t), (1, .ref a_p1)] := hl
  refine lv_aload_n hx hb d_Reader_init_0 rfl (lv_at hl 0 rfl) ?_
  refine W.objInit hx hb hown (hts _ tw174) (hts _ tw21) (hts _ tw22) rfl (by rw [hml]; exact hl.1) rfl d_Reader_init_1 (Nat.le_of_ble_eq_true rfl) (Nat.le_of_ble_eq_true rfl) ?_
  refine W.eq (g2 := F0 m 4 ls []) rfl ?_
  refine lv_aload_n hx hb d_Reader_init_4 rfl (lv_at hl 0 rfl) ?_
  refine lv_iconst (v := 3) hx hb d_Reader_init_5 (by decide) ?_
  refine ob_newa (atype := .int) (N' := 3) (a0 := (3, .inl (fun _ => 0))) hx hb (hts _ tw56) rfl hK 0 rfl hP hD hS hA (fun _ => rfl) (by decide) (by decide) (by decide) (Nat.le_of_ble_eq_true rfl) (Nat.le_of_ble_eq_true rfl) d_Reader_init_6 (fun q6 H hP hD hS => ?_)
  refine W.cs (cells' := 1) (slots' := 3) rfl rfl ?_
  have hP : va_P D vwCl [(a_t, .inr (8, [.null, .null, .null, .null, .int 0, .int 0])), (q6, .inl (G 0, 3, .inl (fun _ => 0)))] H := hP
  have hD : va_D A [(a_t, .inr (8, [.null, .null, .null, .null, .int 0, .int 0])), (q6, .inl (G 0, 3, .inl (fun _ => 0)))] := hD
  refine va_putF (D := D) (ci := 8) (v := .ref q6) (ty := .array .int) (C := "ObjectBase$Reader") (T := TC_Reader) (N := 6) hx hb hts inC_Reader tyC_Reader tyC_Reader_ok nmC_Reader hown hK hP hD hS 0 rfl rfl 1 (by decide) (hts _ tw176) (fun _ h9 => h9) rfl hin rfl (by decide +kernel) rfl rfl (Nat.le_of_ble_eq_true rfl) d_Reader_init_8 (fun H locs hP hD hS => ?_)
  have hP : va_P D vwCl [(a_t, .inr (8, [.null, .ref q6, .null, .null, .int 0, .int 0])), (q6, .inl (G 0, 3, .inl (fun _ => 0)))] H := hP
  have hD : va_D A [(a_t, .inr (8, [.null, .ref q6, .null, .null, .int 0, .int 0])), (q6, .inl (G 0, 3, .inl (fun _ => 0)))] := hD
  refine lv_aload_n hx hb d_Reader_init_11 rfl (lv_at hl 0 rfl) ?_
  refine lv_aload_n hx hb d_Reader_init_12 rfl (lv_at hl 1 rfl) ?_
  refine va_putF (D := D) (ci := 8) (v := .ref a_p1) (ty := .object "ObjectBase$Schema") (C := "ObjectBase$Reader") (T := TC_Reader) (N := 6) hx hb hts inC_Reader tyC_Reader tyC_Reader_ok nmC_Reader hown hK hP hD hS 0 rfl rfl 0 (by decide) (hts _ tw175) (fun _ h9 => h9) rfl hin rfl (by decide +kernel) rfl rfl (Nat.le_of_ble_eq_true rfl) d_Reader_init_13 (fun H locs hP hD hS => ?_)
  have hP : va_P D vwCl [(a_t, .inr (8, [.ref a_p1, .ref q6, .null, .null, .int 0, .int 0])), (q6, .inl (G 0, 3, .inl (fun _ => 0)))] H := hP
  have hD : va_D A [(a_t, .inr (8, [.ref a_p1, .ref q6, .null, .null, .int 0, .int 0])), (q6, .inl (G 0, 3, .inl (fun _ => 0)))] := hD
  exact W.vret hx hb hr (fun t ht hW => ⟨⟨q6, rfl, trivial, by rw [ht]; exact hP, va_K.moved hW.alike hK, hD⟩, hS.F ht⟩) hS.2.2 d_Reader_init_16 hlk
