abbrev bc_Indexes_keyOf : ByteArray := prog_6_method_3_code
abbrev y_Indexes_keyOf : MethodName := ⟨"ObjectBase$Indexes", "keyOf", "(LObjectBase$Question;)I"⟩
def ws_Indexes_keyOf : List Cond := .code y_Indexes_keyOf bc_Indexes_keyOf 5 (some .int) :: obW
theorem d_Indexes_keyOf_0 : decode bc_Indexes_keyOf 0 = .ok (.aload_n 1, 1) := by decide +kernel
theorem d_Indexes_keyOf_1 : decode bc_Indexes_keyOf 1 = .ok (.getfield 22, 3) := by decide +kernel
theorem d_Indexes_keyOf_4 : decode bc_Indexes_keyOf 4 = .ok (.iconst (-1), 1) := by decide +kernel
theorem d_Indexes_keyOf_5 : decode bc_Indexes_keyOf 5 = .ok (.if_icmp .ne 5, 3) := by decide +kernel
theorem d_Indexes_keyOf_8 : decode bc_Indexes_keyOf 8 = .ok (.iconst (-1), 1) := by decide +kernel
theorem d_Indexes_keyOf_9 : decode bc_Indexes_keyOf 9 = .ok (.ireturn, 1) := by decide +kernel
theorem d_Indexes_keyOf_10 : decode bc_Indexes_keyOf 10 = .ok (.aload_n 1, 1) := by decide +kernel
theorem d_Indexes_keyOf_11 : decode bc_Indexes_keyOf 11 = .ok (.getfield 27, 3) := by decide +kernel
theorem d_Indexes_keyOf_14 : decode bc_Indexes_keyOf 14 = .ok (.aload_n 1, 1) := by decide +kernel
theorem d_Indexes_keyOf_15 : decode bc_Indexes_keyOf 15 = .ok (.getfield 22, 3) := by decide +kernel
theorem d_Indexes_keyOf_18 : decode bc_Indexes_keyOf 18 = .ok (.iaload, 1) := by decide +kernel
theorem d_Indexes_keyOf_19 : decode bc_Indexes_keyOf 19 = .ok (.istore_n 2, 1) := by decide +kernel
theorem d_Indexes_keyOf_20 : decode bc_Indexes_keyOf 20 = .ok (.aload_n 1, 1) := by decide +kernel
theorem d_Indexes_keyOf_21 : decode bc_Indexes_keyOf 21 = .ok (.getfield 30, 3) := by decide +kernel
theorem d_Indexes_keyOf_24 : decode bc_Indexes_keyOf 24 = .ok (.iload_n 2, 1) := by decide +kernel
theorem d_Indexes_keyOf_25 : decode bc_Indexes_keyOf 25 = .ok (.iaload, 1) := by decide +kernel
theorem d_Indexes_keyOf_26 : decode bc_Indexes_keyOf 26 = .ok (.iconst (-1), 1) := by decide +kernel
theorem d_Indexes_keyOf_27 : decode bc_Indexes_keyOf 27 = .ok (.if_icmp .eq 5, 3) := by decide +kernel
theorem d_Indexes_keyOf_30 : decode bc_Indexes_keyOf 30 = .ok (.iconst (-1), 1) := by decide +kernel
theorem d_Indexes_keyOf_31 : decode bc_Indexes_keyOf 31 = .ok (.ireturn, 1) := by decide +kernel
theorem d_Indexes_keyOf_32 : decode bc_Indexes_keyOf 32 = .ok (.aload_n 1, 1) := by decide +kernel
theorem d_Indexes_keyOf_33 : decode bc_Indexes_keyOf 33 = .ok (.getfield 27, 3) := by decide +kernel
theorem d_Indexes_keyOf_36 : decode bc_Indexes_keyOf 36 = .ok (.iload_n 2, 1) := by decide +kernel
theorem d_Indexes_keyOf_37 : decode bc_Indexes_keyOf 37 = .ok (.iaload, 1) := by decide +kernel
theorem d_Indexes_keyOf_38 : decode bc_Indexes_keyOf 38 = .ok (.istore_n 3, 1) := by decide +kernel
theorem d_Indexes_keyOf_39 : decode bc_Indexes_keyOf 39 = .ok (.iconst 0, 1) := by decide +kernel
theorem d_Indexes_keyOf_40 : decode bc_Indexes_keyOf 40 = .ok (.istore 4, 2) := by decide +kernel
theorem d_Indexes_keyOf_42 : decode bc_Indexes_keyOf 42 = .ok (.iload 4, 2) := by decide +kernel
theorem d_Indexes_keyOf_44 : decode bc_Indexes_keyOf 44 = .ok (.bipush 60, 2) := by decide +kernel
theorem d_Indexes_keyOf_46 : decode bc_Indexes_keyOf 46 = .ok (.if_icmp .ge 45, 3) := by decide +kernel
theorem d_Indexes_keyOf_49 : decode bc_Indexes_keyOf 49 = .ok (.iload_n 3, 1) := by decide +kernel
theorem d_Indexes_keyOf_50 : decode bc_Indexes_keyOf 50 = .ok (.iconst (-1), 1) := by decide +kernel
theorem d_Indexes_keyOf_51 : decode bc_Indexes_keyOf 51 = .ok (.if_icmp .eq 40, 3) := by decide +kernel
theorem d_Indexes_keyOf_54 : decode bc_Indexes_keyOf 54 = .ok (.aload_n 1, 1) := by decide +kernel
theorem d_Indexes_keyOf_55 : decode bc_Indexes_keyOf 55 = .ok (.iload_n 3, 1) := by decide +kernel
theorem d_Indexes_keyOf_56 : decode bc_Indexes_keyOf 56 = .ok (.invokevirtual 33, 3) := by decide +kernel
theorem d_Indexes_keyOf_59 : decode bc_Indexes_keyOf 59 = .ok (.ifCond .eq 19, 3) := by decide +kernel
theorem d_Indexes_keyOf_62 : decode bc_Indexes_keyOf 62 = .ok (.aload_n 0, 1) := by decide +kernel
theorem d_Indexes_keyOf_63 : decode bc_Indexes_keyOf 63 = .ok (.aload_n 1, 1) := by decide +kernel
theorem d_Indexes_keyOf_64 : decode bc_Indexes_keyOf 64 = .ok (.aload_n 1, 1) := by decide +kernel
theorem d_Indexes_keyOf_65 : decode bc_Indexes_keyOf 65 = .ok (.getfield 37, 3) := by decide +kernel
theorem d_Indexes_keyOf_68 : decode bc_Indexes_keyOf 68 = .ok (.iload_n 3, 1) := by decide +kernel
theorem d_Indexes_keyOf_69 : decode bc_Indexes_keyOf 69 = .ok (.iaload, 1) := by decide +kernel
theorem d_Indexes_keyOf_70 : decode bc_Indexes_keyOf 70 = .ok (.invokevirtual 40, 3) := by decide +kernel
theorem d_Indexes_keyOf_73 : decode bc_Indexes_keyOf 73 = .ok (.ifCond .eq 5, 3) := by decide +kernel
theorem d_Indexes_keyOf_76 : decode bc_Indexes_keyOf 76 = .ok (.iload_n 3, 1) := by decide +kernel
theorem d_Indexes_keyOf_77 : decode bc_Indexes_keyOf 77 = .ok (.ireturn, 1) := by decide +kernel
theorem d_Indexes_keyOf_78 : decode bc_Indexes_keyOf 78 = .ok (.aload_n 1, 1) := by decide +kernel
theorem d_Indexes_keyOf_79 : decode bc_Indexes_keyOf 79 = .ok (.getfield 30, 3) := by decide +kernel
theorem d_Indexes_keyOf_82 : decode bc_Indexes_keyOf 82 = .ok (.iload_n 3, 1) := by decide +kernel
theorem d_Indexes_keyOf_83 : decode bc_Indexes_keyOf 83 = .ok (.iaload, 1) := by decide +kernel
theorem d_Indexes_keyOf_84 : decode bc_Indexes_keyOf 84 = .ok (.istore_n 3, 1) := by decide +kernel
theorem d_Indexes_keyOf_85 : decode bc_Indexes_keyOf 85 = .ok (.iinc 4 1, 3) := by decide +kernel
theorem d_Indexes_keyOf_88 : decode bc_Indexes_keyOf 88 = .ok (.goto (-46), 3) := by decide +kernel
theorem d_Indexes_keyOf_91 : decode bc_Indexes_keyOf 91 = .ok (.iconst (-1), 1) := by decide +kernel
theorem d_Indexes_keyOf_92 : decode bc_Indexes_keyOf 92 = .ok (.ireturn, 1) := by decide +kernel
def cw_Indexes_keyOf (G : Nat → ClassId) (a_p1 a_p1_inner a_p1_next a_p1_text a_p1_kinds a_p1_left a_p1_text_chars a_p1_right a_t a_classes a_fields a_p1_numbers : Nat) (v_p1_nodeCount : Int32) (v_p1_root : Int32) (v_p1_asked : Int32) (v_p1_mode : Int32) (v_p1_inner : Nat → Int32) (v_p1_next : Nat → Int32) (v_p1_text_length : Int32) (v_p1_kinds : Nat → Int32) (v_p1_left : Nat → Int32) (v_p1_text_chars : Nat → Int32) (v_p1_right : Nat → Int32) (v_count : Int32) (v_classes : Nat → Int32) (v_fields : Nat → Int32) : va_W := [(a_p1, .inr (7, [.ref a_p1_text, .ref a_p1_numbers, .ref a_p1_kinds, .ref a_p1_inner, .ref a_p1_next, .ref a_p1_left, .ref a_p1_right, .int v_p1_nodeCount, .int v_p1_root, .int v_p1_asked, .int v_p1_mode])), (a_p1_inner, .inl (G 0, 60, .inl v_p1_inner)), (a_p1_next, .inl (G 0, 60, .inl v_p1_next)), (a_p1_text, .inr (6, [.ref a_p1_text_chars, .int v_p1_text_length])), (a_p1_kinds, .inl (G 0, 60, .inl v_p1_kinds)), (a_p1_left, .inl (G 0, 60, .inl v_p1_left)), (a_p1_text_chars, .inl (G 2, 60, .inl v_p1_text_chars)), (a_p1_right, .inl (G 0, 60, .inl v_p1_right)), (a_t, .inr (2, [.ref a_classes, .ref a_fields, .int v_count])), (a_classes, .inl (G 0, 3, .inl v_classes)), (a_fields, .inl (G 0, 9, .inl v_fields))]
def f_Indexes_keyOf_J78 (k42 : Int32 → Int32 → Option (Int32)) (v_p1_next : Nat → Int32) (x78_3 : Int32) (x78_4 : Int32) : Option (Int32) := ob_iv x78_3 60 (k42 (v_p1_next x78_3.toNatClampNeg) (x78_4 + 1))
def f_Indexes_keyOf_B42 (v_p1_kinds : Nat → Int32) (v_p1_left : Nat → Int32) (v_p1_text_length : Int32) (v_p1_text_chars : Nat → Int32) (v_p1_right : Nat → Int32) (v_p1_next : Nat → Int32) (v_count : Int32) (v_classes : Nat → Int32) (v_p1_asked : Int32) (v_fields : Nat → Int32) (k42 : Int32 → Int32 → Option (Int32)) (x42_3 : Int32) (x42_4 : Int32) : Option (Int32) := if 60 ≤ x42_4 then (some (-1)) else (if x42_3 = (-1) then (some (-1)) else ((f_Question_isKeyForm v_p1_kinds v_p1_left v_p1_text_length v_p1_text_chars v_p1_right x42_3).bind fun o56 => (if o56 = 0 then (f_Indexes_keyOf_J78 k42 v_p1_next x42_3 x42_4) else (ob_iv x42_3 60 ((f_Indexes_hasPath v_count v_classes v_p1_asked v_p1_text_length v_p1_text_chars v_fields (v_p1_left x42_3.toNatClampNeg)).bind fun o70 => (if o70 = 0 then (f_Indexes_keyOf_J78 k42 v_p1_next x42_3 x42_4) else (some x42_3)))))))
def f_Indexes_keyOf_L42 (v_p1_kinds : Nat → Int32) (v_p1_left : Nat → Int32) (v_p1_text_length : Int32) (v_p1_text_chars : Nat → Int32) (v_p1_right : Nat → Int32) (v_p1_next : Nat → Int32) (v_count : Int32) (v_classes : Nat → Int32) (v_p1_asked : Int32) (v_fields : Nat → Int32) : Nat → Int32 → Int32 → Option (Int32) := ob_lp2 (f_Indexes_keyOf_B42 v_p1_kinds v_p1_left v_p1_text_length v_p1_text_chars v_p1_right v_p1_next v_count v_classes v_p1_asked v_fields)
def f_Indexes_keyOf (v_p1_root : Int32) (v_p1_asked : Int32) (v_p1_inner : Nat → Int32) (v_p1_next : Nat → Int32) (v_p1_text_length : Int32) (v_p1_kinds : Nat → Int32) (v_p1_left : Nat → Int32) (v_p1_text_chars : Nat → Int32) (v_p1_right : Nat → Int32) (v_count : Int32) (v_classes : Nat → Int32) (v_fields : Nat → Int32) : Option (Int32) := if v_p1_root = (-1) then (some (-1)) else (ob_iv v_p1_root 60 (ob_iv (v_p1_inner v_p1_root.toNatClampNeg) 60 (if (v_p1_next (v_p1_inner v_p1_root.toNatClampNeg).toNatClampNeg) = (-1) then (ob_iv (v_p1_inner v_p1_root.toNatClampNeg) 60 (f_Indexes_keyOf_L42 v_p1_kinds v_p1_left v_p1_text_length v_p1_text_chars v_p1_right v_p1_next v_count v_classes v_p1_asked v_fields 1000 (v_p1_inner (v_p1_inner v_p1_root.toNatClampNeg).toNatClampNeg) 0)) else (some (-1)))))
set_option maxHeartbeats 4000000 in
set_option maxRecDepth 100000 in
theorem c_Indexes_keyOf (l : Launch) (D : va_G) (G : Nat → ClassId) (a_p1 a_p1_inner a_p1_next a_p1_text a_p1_kinds a_p1_left a_p1_text_chars a_p1_right a_t a_classes a_fields a_p1_numbers : Nat) (v_p1_nodeCount : Int32) (v_p1_root : Int32) (v_p1_asked : Int32) (v_p1_mode : Int32) (v_p1_inner : Nat → Int32) (v_p1_next : Nat → Int32) (v_p1_text_length : Int32) (v_p1_kinds : Nat → Int32) (v_p1_left : Nat → Int32) (v_p1_text_chars : Nat → Int32) (v_p1_right : Nat → Int32) (v_count : Int32) (v_classes : Nat → Int32) (v_fields : Nat → Int32) (o : Int32) (hf : f_Indexes_keyOf v_p1_root v_p1_asked v_p1_inner v_p1_next v_p1_text_length v_p1_kinds v_p1_left v_p1_text_chars v_p1_right v_count v_classes v_fields = some o) (sz : Nat) : MetI l y_Indexes_keyOf ws_Indexes_keyOf ({ frames := 4, cells := 0, slots := 0, locals := 91 }) D (obT G) (cw_Indexes_keyOf G a_p1 a_p1_inner a_p1_next a_p1_text a_p1_kinds a_p1_left a_p1_text_chars a_p1_right a_t a_classes a_fields a_p1_numbers v_p1_nodeCount v_p1_root v_p1_asked v_p1_mode v_p1_inner v_p1_next v_p1_text_length v_p1_kinds v_p1_left v_p1_text_chars v_p1_right v_count v_classes v_fields) (cw_Indexes_keyOf G a_p1 a_p1_inner a_p1_next a_p1_text a_p1_kinds a_p1_left a_p1_text_chars a_p1_right a_t a_classes a_fields a_p1_numbers v_p1_nodeCount v_p1_root v_p1_asked v_p1_mode v_p1_inner v_p1_next v_p1_text_length v_p1_kinds v_p1_left v_p1_text_chars v_p1_right v_count v_classes v_fields) [.ref a_t, .ref a_p1] o sz := by
  refine ob_of (cc := bc_Indexes_keyOf) (maxL := 5) (ret := (some .int)) (Qc := ObQi D (obT G) (cw_Indexes_keyOf G a_p1 a_p1_inner a_p1_next a_p1_text a_p1_kinds a_p1_left a_p1_text_chars a_p1_right a_t a_classes a_fields a_p1_numbers v_p1_nodeCount v_p1_root v_p1_asked v_p1_mode v_p1_inner v_p1_next v_p1_text_length v_p1_kinds v_p1_left v_p1_text_chars v_p1_right v_count v_classes v_fields) o) (by decide) rfl (Nat.le_of_ble_eq_true rfl) ?_
  intro p e s m below meth c A ls H locs hx hb hr hml hts hown hlk hnm hZ hP hK hD hA hS hl
  have hret : ∀ (o' : Int32) (H : Heap) (locs : List Loc) (pc : Nat) (ls : Array Slot), some o' = some o → va_P D vwCl (cw_Indexes_keyOf G a_p1 a_p1_inner a_p1_next a_p1_text a_p1_kinds a_p1_left a_p1_text_chars a_p1_right a_t a_classes a_fields a_p1_numbers v_p1_nodeCount v_p1_root v_p1_asked v_p1_mode v_p1_inner v_p1_next v_p1_text_length v_p1_kinds v_p1_left v_p1_text_chars v_p1_right v_count v_classes v_fields) H → va_D A (cw_Indexes_keyOf G a_p1 a_p1_inner a_p1_next a_p1_text a_p1_kinds a_p1_left a_p1_text_chars a_p1_right a_t a_classes a_fields a_p1_numbers v_p1_nodeCount v_p1_root v_p1_asked v_p1_mode v_p1_inner v_p1_next v_p1_text_length v_p1_kinds v_p1_left v_p1_text_chars v_p1_right v_count v_classes v_fields) → va_S A s.heap H locs → narrow .int (.int o') = .int o' → decode bc_Indexes_keyOf pc = .ok (.ireturn, 1) → W p l e { frames := 4, cells := 0, slots := 0, locals := 91 } s m ([.ref a_t, .ref a_p1] : List Value).toArray below meth c H locs 0 0 (MQ below (ObQi D (obT G) (cw_Indexes_keyOf G a_p1 a_p1_inner a_p1_next a_p1_text a_p1_kinds a_p1_left a_p1_text_chars a_p1_right a_t a_classes a_fields a_p1_numbers v_p1_nodeCount v_p1_root v_p1_asked v_p1_mode v_p1_inner v_p1_next v_p1_text_length v_p1_kinds v_p1_left v_p1_text_chars v_p1_right v_count v_classes v_fields) o A) ([.ref a_t, .ref a_p1] : List Value).toArray s 0 0 A) (F0 m pc ls [.int o']) := by
    intro o' H locs pc ls he hP hD hS hn hd
    obtain rfl := Option.some.inj he
    exact ob_iret hx hb hr hlk hK hP hD hS hn hd
  generalize MQ below (ObQi D (obT G) (cw_Indexes_keyOf G a_p1 a_p1_inner a_p1_next a_p1_text a_p1_kinds a_p1_left a_p1_text_chars a_p1_right a_t a_classes a_fields a_p1_numbers v_p1_nodeCount v_p1_root v_p1_asked v_p1_mode v_p1_inner v_p1_next v_p1_text_length v_p1_kinds v_p1_left v_p1_text_chars v_p1_right v_count v_classes v_fields) o A) ([.ref a_t, .ref a_p1] : List Value).toArray s 0 0 A = Q at hret ⊢
  have hl : lv_has ls 5 [(0, .ref a_t), (1, .ref a_p1)] := hl
  unfold f_Indexes_keyOf at hf
  have loop42 : ∀ (n42 : Nat) (x42_3 : Int32) (x42_4 : Int32) (ls : Array Slot) (H : Heap) (locs : List Loc), lv_has ls 5 [(0, .ref a_t), (1, .ref a_p1), (3, .int x42_3), (4, .int x42_4)] → va_P D vwCl (cw_Indexes_keyOf G a_p1 a_p1_inner a_p1_next a_p1_text a_p1_kinds a_p1_left a_p1_text_chars a_p1_right a_t a_classes a_fields a_p1_numbers v_p1_nodeCount v_p1_root v_p1_asked v_p1_mode v_p1_inner v_p1_next v_p1_text_length v_p1_kinds v_p1_left v_p1_text_chars v_p1_right v_count v_classes v_fields) H → va_D A (cw_Indexes_keyOf G a_p1 a_p1_inner a_p1_next a_p1_text a_p1_kinds a_p1_left a_p1_text_chars a_p1_right a_t a_classes a_fields a_p1_numbers v_p1_nodeCount v_p1_root v_p1_asked v_p1_mode v_p1_inner v_p1_next v_p1_text_length v_p1_kinds v_p1_left v_p1_text_chars v_p1_right v_count v_classes v_fields) → va_S A s.heap H locs → f_Indexes_keyOf_L42 v_p1_kinds v_p1_left v_p1_text_length v_p1_text_chars v_p1_right v_p1_next v_count v_classes v_p1_asked v_fields n42 x42_3 x42_4 = some o → W p l e ({ frames := 4, cells := 0, slots := 0, locals := 91 }) s m ([.ref a_t, .ref a_p1] : List Value).toArray below meth c H locs 0 0 Q (F0 m 42 ls []) := by
    intro n42
    induction n42 with
    | zero => intro x42_3 x42_4 ls H locs hl hP hD hS hf; exact ob_no hf
    | succ n42 ih42 =>
      intro x42_3 x42_4 ls H locs hl hP hD hS hf
      have hf : f_Indexes_keyOf_B42 v_p1_kinds v_p1_left v_p1_text_length v_p1_text_chars v_p1_right v_p1_next v_count v_classes v_p1_asked v_fields (f_Indexes_keyOf_L42 v_p1_kinds v_p1_left v_p1_text_length v_p1_text_chars v_p1_right v_p1_next v_count v_classes v_p1_asked v_fields n42) x42_3 x42_4 = some o := hf
      unfold f_Indexes_keyOf_B42 at hf
      have blk78 : ∀ (x78_3 : Int32) (x78_4 : Int32) (ls : Array Slot) (H : Heap) (locs : List Loc), lv_has ls 5 [(0, .ref a_t), (1, .ref a_p1), (3, .int x78_3), (4, .int x78_4)] → va_P D vwCl (cw_Indexes_keyOf G a_p1 a_p1_inner a_p1_next a_p1_text a_p1_kinds a_p1_left a_p1_text_chars a_p1_right a_t a_classes a_fields a_p1_numbers v_p1_nodeCount v_p1_root v_p1_asked v_p1_mode v_p1_inner v_p1_next v_p1_text_length v_p1_kinds v_p1_left v_p1_text_chars v_p1_right v_count v_classes v_fields) H → va_D A (cw_Indexes_keyOf G a_p1 a_p1_inner a_p1_next a_p1_text a_p1_kinds a_p1_left a_p1_text_chars a_p1_right a_t a_classes a_fields a_p1_numbers v_p1_nodeCount v_p1_root v_p1_asked v_p1_mode v_p1_inner v_p1_next v_p1_text_length v_p1_kinds v_p1_left v_p1_text_chars v_p1_right v_count v_classes v_fields) → va_S A s.heap H locs → f_Indexes_keyOf_J78 (f_Indexes_keyOf_L42 v_p1_kinds v_p1_left v_p1_text_length v_p1_text_chars v_p1_right v_p1_next v_count v_classes v_p1_asked v_fields n42) v_p1_next x78_3 x78_4 = some o → W p l e ({ frames := 4, cells := 0, slots := 0, locals := 91 }) s m ([.ref a_t, .ref a_p1] : List Value).toArray below meth c H locs 0 0 Q (F0 m 78 ls []) := by
        intro x78_3 x78_4 ls H locs hl hP hD hS hf
        unfold f_Indexes_keyOf_J78 at hf
        refine lv_aload_n hx hb d_Indexes_keyOf_78 rfl (lv_at hl 1 rfl) ?_
        refine va_get (D := D) (ci := 7) (v := .ref a_p1_next) (C := "ObjectBase$Question") (T := TC_Question) (N := 11) hx hb hts inC_Question hown hK hP 0 rfl rfl 4 (by decide) (hts _ tw546) (fun _ h9 => h9) rfl d_Indexes_keyOf_79 ?_
        refine lv_iload_n hx hb d_Indexes_keyOf_82 rfl (lv_at hl 2 rfl) ?_
        obtain ⟨hg83, hf⟩ := ob_iv_g hf
        refine va_iald hx hb hK hP 2 0 rfl rfl hg83 d_Indexes_keyOf_83 ?_
        refine lv_istore_n (lv' := [(3, .int (v_p1_next x78_3.toNatClampNeg)), (0, .ref a_t), (1, .ref a_p1), (4, .int x78_4)]) hx hb d_Indexes_keyOf_84 rfl hl (by decide) rfl (fun ls hl => ?_)
        refine lv_iinc (k := 3) (v := x78_4 + 1) (lv' := [(4, .int (x78_4 + 1)), (3, .int (v_p1_next x78_3.toNatClampNeg)), (0, .ref a_t), (1, .ref a_p1)]) hx hb d_Indexes_keyOf_85 hl rfl (by rw [show Int32.ofInt 1 = (1 : Int32) from by decide]) (by decide) rfl (fun ls hl => ?_)
        refine lv_goto (tgt := 42) hx hb d_Indexes_keyOf_88 (by decide) ?_
        exact ih42 (v_p1_next x78_3.toNatClampNeg) (x78_4 + 1) ls H locs (lv_sub hl [2, 3, 1, 0] rfl) hP hD hS hf
      refine lv_iload hx hb d_Indexes_keyOf_42 (lv_at hl 3 rfl) ?_
      refine lv_bipush (v := 60) hx hb d_Indexes_keyOf_44 (by decide) ?_
      refine lv_icmp_ge (tgt := 91) hx hb d_Indexes_keyOf_46 (by decide) (fun hc46 => ?_) (fun hc46 => ?_)
      · have hf := ob_t hc46 hf
        refine lv_iconst (v := (-1)) hx hb d_Indexes_keyOf_91 (by decide) ?_
        exact hret (-1) H locs _ ls hf hP hD hS rfl d_Indexes_keyOf_92
      · have hf := ob_f hc46 hf
        refine lv_iload_n hx hb d_Indexes_keyOf_49 rfl (lv_at hl 2 rfl) ?_
        refine lv_iconst (v := (-1)) hx hb d_Indexes_keyOf_50 (by decide) ?_
        refine lv_icmp_eq (tgt := 91) hx hb d_Indexes_keyOf_51 (by decide) (fun hc51 => ?_) (fun hc51 => ?_)
        · have hf := ob_t hc51 hf
          refine lv_iconst (v := (-1)) hx hb d_Indexes_keyOf_91 (by decide) ?_
          exact hret (-1) H locs _ ls hf hP hD hS rfl d_Indexes_keyOf_92
        · have hf := ob_f hc51 hf
          refine lv_aload_n hx hb d_Indexes_keyOf_54 rfl (lv_at hl 1 rfl) ?_
          refine lv_iload_n hx hb d_Indexes_keyOf_55 rfl (lv_at hl 2 rfl) ?_
          obtain ⟨o56, ho56, hf⟩ := ob_b hf
          refine ob_calli (w2 := (cw_Indexes_keyOf G a_p1 a_p1_inner a_p1_next a_p1_text a_p1_kinds a_p1_left a_p1_text_chars a_p1_right a_t a_classes a_fields a_p1_numbers v_p1_nodeCount v_p1_root v_p1_asked v_p1_mode v_p1_inner v_p1_next v_p1_text_length v_p1_kinds v_p1_left v_p1_text_chars v_p1_right v_count v_classes v_fields)) (va_runV (As := [.int x42_3]) (rest := []) ⟨hx, hb, hml, hown, hts⟩ (c_Question_isKeyForm l D G a_p1 a_p1_kinds a_p1_left a_p1_text a_p1_text_chars a_p1_right a_p1_numbers a_p1_inner a_p1_next v_p1_nodeCount v_p1_root v_p1_asked v_p1_mode v_p1_kinds v_p1_left v_p1_text_length v_p1_text_chars v_p1_right x42_3 o56 ho56 H.size) (cwV 1 hts (gV tw691 tw692 tw693 tw14 tw694) rfl rfl rfl (by decide +kernel) ⟨Nat.le_of_ble_eq_true rfl, Nat.le_of_ble_eq_true rfl⟩) (ob_preV (q0 := 0) (ci := 7) hZ hK hP hD [0, 4, 5, 3, 6, 7] rfl rfl rfl rfl rfl) rfl rfl hl.1 rfl (lv_room (Nat.le_of_ble_eq_true rfl)) d_Indexes_keyOf_56 ⟨Nat.le_refl _, Nat.le_refl _⟩) hP hD hA hS [0, 4, 5, 3, 6, 7] rfl rfl rfl rfl (fun H locs hP hD hS => ?_)
          refine lv_if_eq (tgt := 78) hx hb d_Indexes_keyOf_59 (by decide) (fun hc59 => ?_) (fun hc59 => ?_)
          · have hf := ob_t hc59 hf
            exact blk78 x42_3 x42_4 ls H locs (lv_sub hl [0, 1, 2, 3] rfl) hP hD hS hf
          · have hf := ob_f hc59 hf
            refine lv_aload_n hx hb d_Indexes_keyOf_62 rfl (lv_at hl 0 rfl) ?_
            refine lv_aload_n hx hb d_Indexes_keyOf_63 rfl (lv_at hl 1 rfl) ?_
            refine lv_aload_n hx hb d_Indexes_keyOf_64 rfl (lv_at hl 1 rfl) ?_
            refine va_get (D := D) (ci := 7) (v := .ref a_p1_left) (C := "ObjectBase$Question") (T := TC_Question) (N := 11) hx hb hts inC_Question hown hK hP 0 rfl rfl 5 (by decide) (hts _ tw549) (fun _ h9 => h9) rfl d_Indexes_keyOf_65 ?_
            refine lv_iload_n hx hb d_Indexes_keyOf_68 rfl (lv_at hl 2 rfl) ?_
            obtain ⟨hg69, hf⟩ := ob_iv_g hf
            refine va_iald hx hb hK hP 5 0 rfl rfl hg69 d_Indexes_keyOf_69 ?_
            obtain ⟨o70, ho70, hf⟩ := ob_b hf
            refine ob_calli (w2 := (cw_Indexes_keyOf G a_p1 a_p1_inner a_p1_next a_p1_text a_p1_kinds a_p1_left a_p1_text_chars a_p1_right a_t a_classes a_fields a_p1_numbers v_p1_nodeCount v_p1_root v_p1_asked v_p1_mode v_p1_inner v_p1_next v_p1_text_length v_p1_kinds v_p1_left v_p1_text_chars v_p1_right v_count v_classes v_fields)) (va_runV (As := [.ref a_p1, .int (v_p1_left x42_3.toNatClampNeg)]) (rest := []) ⟨hx, hb, hml, hown, hts⟩ (c_Indexes_hasPath l D G a_t a_classes a_p1 a_p1_text a_p1_text_chars a_fields a_p1_numbers a_p1_kinds a_p1_inner a_p1_next a_p1_left a_p1_right v_count v_classes v_p1_nodeCount v_p1_root v_p1_asked v_p1_mode v_p1_text_length v_p1_text_chars v_fields (v_p1_left x42_3.toNatClampNeg) o70 ho70 H.size) (cwV 2 hts (gV tw697 tw699 tp20 tw3 tw700) rfl rfl rfl (by decide +kernel) ⟨Nat.le_of_ble_eq_true rfl, Nat.le_of_ble_eq_true rfl⟩) (ob_preV (q0 := 8) (ci := 2) hZ hK hP hD [8, 9, 0, 3, 6, 10] rfl rfl rfl rfl rfl) rfl rfl hl.1 rfl (lv_room (Nat.le_of_ble_eq_true rfl)) d_Indexes_keyOf_70 ⟨Nat.le_refl _, Nat.le_refl _⟩) hP hD hA hS [8, 9, 0, 3, 6, 10] rfl rfl rfl rfl (fun H locs hP hD hS => ?_)
            refine lv_if_eq (tgt := 78) hx hb d_Indexes_keyOf_73 (by decide) (fun hc73 => ?_) (fun hc73 => ?_)
            · have hf := ob_t hc73 hf
              exact blk78 x42_3 x42_4 ls H locs (lv_sub hl [0, 1, 2, 3] rfl) hP hD hS hf
            · have hf := ob_f hc73 hf
              refine lv_iload_n hx hb d_Indexes_keyOf_76 rfl (lv_at hl 2 rfl) ?_
              exact hret x42_3 H locs _ ls hf hP hD hS rfl d_Indexes_keyOf_77
  refine lv_aload_n hx hb d_Indexes_keyOf_0 rfl (lv_at hl 1 rfl) ?_
  refine va_get (D := D) (ci := 7) (v := .int v_p1_root) (C := "ObjectBase$Question") (T := TC_Question) (N := 11) hx hb hts inC_Question hown hK hP 0 rfl rfl 8 (by decide) (hts _ tw556) (fun _ h9 => h9) rfl d_Indexes_keyOf_1 ?_
  refine lv_iconst (v := (-1)) hx hb d_Indexes_keyOf_4 (by decide) ?_
  refine lv_icmp_ne (tgt := 10) hx hb d_Indexes_keyOf_5 (by decide) (fun hc5 => ?_) (fun hc5 => ?_)
  · have hf := ob_f hc5 hf
    refine lv_aload_n hx hb d_Indexes_keyOf_10 rfl (lv_at hl 1 rfl) ?_
    refine va_get (D := D) (ci := 7) (v := .ref a_p1_inner) (C := "ObjectBase$Question") (T := TC_Question) (N := 11) hx hb hts inC_Question hown hK hP 0 rfl rfl 3 (by decide) (hts _ tw543) (fun _ h9 => h9) rfl d_Indexes_keyOf_11 ?_
    refine lv_aload_n hx hb d_Indexes_keyOf_14 rfl (lv_at hl 1 rfl) ?_
    refine va_get (D := D) (ci := 7) (v := .int v_p1_root) (C := "ObjectBase$Question") (T := TC_Question) (N := 11) hx hb hts inC_Question hown hK hP 0 rfl rfl 8 (by decide) (hts _ tw556) (fun _ h9 => h9) rfl d_Indexes_keyOf_15 ?_
    obtain ⟨hg18, hf⟩ := ob_iv_g hf
    refine va_iald hx hb hK hP 1 0 rfl rfl hg18 d_Indexes_keyOf_18 ?_
    refine lv_istore_n (lv' := [(2, .int (v_p1_inner v_p1_root.toNatClampNeg)), (0, .ref a_t), (1, .ref a_p1)]) hx hb d_Indexes_keyOf_19 rfl hl (by decide) rfl (fun ls hl => ?_)
    refine lv_aload_n hx hb d_Indexes_keyOf_20 rfl (lv_at hl 2 rfl) ?_
    refine va_get (D := D) (ci := 7) (v := .ref a_p1_next) (C := "ObjectBase$Question") (T := TC_Question) (N := 11) hx hb hts inC_Question hown hK hP 0 rfl rfl 4 (by decide) (hts _ tw546) (fun _ h9 => h9) rfl d_Indexes_keyOf_21 ?_
    refine lv_iload_n hx hb d_Indexes_keyOf_24 rfl (lv_at hl 0 rfl) ?_
    obtain ⟨hg25, hf⟩ := ob_iv_g hf
    refine va_iald hx hb hK hP 2 0 rfl rfl hg25 d_Indexes_keyOf_25 ?_
    refine lv_iconst (v := (-1)) hx hb d_Indexes_keyOf_26 (by decide) ?_
    refine lv_icmp_eq (tgt := 32) hx hb d_Indexes_keyOf_27 (by decide) (fun hc27 => ?_) (fun hc27 => ?_)
    · have hf := ob_t hc27 hf
      refine lv_aload_n hx hb d_Indexes_keyOf_32 rfl (lv_at hl 2 rfl) ?_
      refine va_get (D := D) (ci := 7) (v := .ref a_p1_inner) (C := "ObjectBase$Question") (T := TC_Question) (N := 11) hx hb hts inC_Question hown hK hP 0 rfl rfl 3 (by decide) (hts _ tw543) (fun _ h9 => h9) rfl d_Indexes_keyOf_33 ?_
      refine lv_iload_n hx hb d_Indexes_keyOf_36 rfl (lv_at hl 0 rfl) ?_
      obtain ⟨hg37, hf⟩ := ob_iv_g hf
      refine va_iald hx hb hK hP 1 0 rfl rfl hg37 d_Indexes_keyOf_37 ?_
      refine lv_istore_n (lv' := [(3, .int (v_p1_inner (v_p1_inner v_p1_root.toNatClampNeg).toNatClampNeg)), (2, .int (v_p1_inner v_p1_root.toNatClampNeg)), (0, .ref a_t), (1, .ref a_p1)]) hx hb d_Indexes_keyOf_38 rfl hl (by decide) rfl (fun ls hl => ?_)
      refine lv_iconst (v := 0) hx hb d_Indexes_keyOf_39 (by decide) ?_
      refine lv_istore (lv' := [(4, .int 0), (3, .int (v_p1_inner (v_p1_inner v_p1_root.toNatClampNeg).toNatClampNeg)), (2, .int (v_p1_inner v_p1_root.toNatClampNeg)), (0, .ref a_t), (1, .ref a_p1)]) hx hb d_Indexes_keyOf_40 hl (by decide) rfl (fun ls hl => ?_)
      exact loop42 1000 (v_p1_inner (v_p1_inner v_p1_root.toNatClampNeg).toNatClampNeg) 0 ls H locs (lv_sub hl [3, 4, 1, 0] rfl) hP hD hS hf
    · have hf := ob_f hc27 hf
      refine lv_iconst (v := (-1)) hx hb d_Indexes_keyOf_30 (by decide) ?_
      exact hret (-1) H locs _ ls hf hP hD hS rfl d_Indexes_keyOf_31
  · have hf := ob_t hc5 hf
    refine lv_iconst (v := (-1)) hx hb d_Indexes_keyOf_8 (by decide) ?_
    exact hret (-1) H locs _ ls hf hP hD hS rfl d_Indexes_keyOf_9
abbrev bc_Reader_readQuestion : ByteArray := prog_9_method_2_code
abbrev y_Reader_readQuestion : MethodName := ⟨"ObjectBase$Reader", "readQuestion", "(LObjectBase$Question;)Z"⟩
def ws_Reader_readQuestion : List Cond := .code y_Reader_readQuestion bc_Reader_readQuestion 2 (some .boolean) :: obW
theorem d_Reader_readQuestion_0 : decode bc_Reader_readQuestion 0 = .ok (.aload_n 0, 1) := by decide +kernel
theorem d_Reader_readQuestion_1 : decode bc_Reader_readQuestion 1 = .ok (.aload_n 1, 1) := by decide +kernel
theorem d_Reader_readQuestion_2 : decode bc_Reader_readQuestion 2 = .ok (.putfield 19, 3) := by decide +kernel
theorem d_Reader_readQuestion_5 : decode bc_Reader_readQuestion 5 = .ok (.aload_n 0, 1) := by decide +kernel
theorem d_Reader_readQuestion_6 : decode bc_Reader_readQuestion 6 = .ok (.aload_n 1, 1) := by decide +kernel
theorem d_Reader_readQuestion_7 : decode bc_Reader_readQuestion 7 = .ok (.getfield 23, 3) := by decide +kernel
theorem d_Reader_readQuestion_10 : decode bc_Reader_readQuestion 10 = .ok (.putfield 29, 3) := by decide +kernel
theorem d_Reader_readQuestion_13 : decode bc_Reader_readQuestion 13 = .ok (.aload_n 0, 1) := by decide +kernel
theorem d_Reader_readQuestion_14 : decode bc_Reader_readQuestion 14 = .ok (.getfield 19, 3) := by decide +kernel
theorem d_Reader_readQuestion_17 : decode bc_Reader_readQuestion 17 = .ok (.invokevirtual 30, 3) := by decide +kernel
theorem d_Reader_readQuestion_20 : decode bc_Reader_readQuestion 20 = .ok (.aload_n 0, 1) := by decide +kernel
theorem d_Reader_readQuestion_21 : decode bc_Reader_readQuestion 21 = .ok (.invokevirtual 33, 3) := by decide +kernel
theorem d_Reader_readQuestion_24 : decode bc_Reader_readQuestion 24 = .ok (.ifCond .ne 5, 3) := by decide +kernel
theorem d_Reader_readQuestion_27 : decode bc_Reader_readQuestion 27 = .ok (.iconst 0, 1) := by decide +kernel
theorem d_Reader_readQuestion_28 : decode bc_Reader_readQuestion 28 = .ok (.ireturn, 1) := by decide +kernel
theorem d_Reader_readQuestion_29 : decode bc_Reader_readQuestion 29 = .ok (.aload_n 0, 1) := by decide +kernel
theorem d_Reader_readQuestion_30 : decode bc_Reader_readQuestion 30 = .ok (.getfield 37, 3) := by decide +kernel
theorem d_Reader_readQuestion_33 : decode bc_Reader_readQuestion 33 = .ok (.aload_n 0, 1) := by decide +kernel
theorem d_Reader_readQuestion_34 : decode bc_Reader_readQuestion 34 = .ok (.getfield 29, 3) := by decide +kernel
theorem d_Reader_readQuestion_37 : decode bc_Reader_readQuestion 37 = .ok (.getfield 41, 3) := by decide +kernel
theorem d_Reader_readQuestion_40 : decode bc_Reader_readQuestion 40 = .ok (.if_icmp .ne 5, 3) := by decide +kernel
theorem d_Reader_readQuestion_43 : decode bc_Reader_readQuestion 43 = .ok (.iconst 1, 1) := by decide +kernel
theorem d_Reader_readQuestion_44 : decode bc_Reader_readQuestion 44 = .ok (.ireturn, 1) := by decide +kernel
theorem d_Reader_readQuestion_45 : decode bc_Reader_readQuestion 45 = .ok (.aload_n 0, 1) := by decide +kernel
theorem d_Reader_readQuestion_46 : decode bc_Reader_readQuestion 46 = .ok (.invokevirtual 46, 3) := by decide +kernel
theorem d_Reader_readQuestion_49 : decode bc_Reader_readQuestion 49 = .ok (.bipush 63, 2) := by decide +kernel
theorem d_Reader_readQuestion_51 : decode bc_Reader_readQuestion 51 = .ok (.if_icmp .eq 5, 3) := by decide +kernel
theorem d_Reader_readQuestion_54 : decode bc_Reader_readQuestion 54 = .ok (.iconst 0, 1) := by decide +kernel
theorem d_Reader_readQuestion_55 : decode bc_Reader_readQuestion 55 = .ok (.ireturn, 1) := by decide +kernel
theorem d_Reader_readQuestion_56 : decode bc_Reader_readQuestion 56 = .ok (.aload_n 0, 1) := by decide +kernel
theorem d_Reader_readQuestion_57 : decode bc_Reader_readQuestion 57 = .ok (.getfield 19, 3) := by decide +kernel
theorem d_Reader_readQuestion_60 : decode bc_Reader_readQuestion 60 = .ok (.aload_n 0, 1) := by decide +kernel
theorem d_Reader_readQuestion_61 : decode bc_Reader_readQuestion 61 = .ok (.iconst 0, 1) := by decide +kernel
theorem d_Reader_readQuestion_62 : decode bc_Reader_readQuestion 62 = .ok (.iconst 0, 1) := by decide +kernel
theorem d_Reader_readQuestion_63 : decode bc_Reader_readQuestion 63 = .ok (.invokevirtual 50, 3) := by decide +kernel
theorem d_Reader_readQuestion_66 : decode bc_Reader_readQuestion 66 = .ok (.putfield 54, 3) := by decide +kernel
theorem d_Reader_readQuestion_69 : decode bc_Reader_readQuestion 69 = .ok (.aload_n 0, 1) := by decide +kernel
theorem d_Reader_readQuestion_70 : decode bc_Reader_readQuestion 70 = .ok (.getfield 19, 3) := by decide +kernel
theorem d_Reader_readQuestion_73 : decode bc_Reader_readQuestion 73 = .ok (.getfield 54, 3) := by decide +kernel
theorem d_Reader_readQuestion_76 : decode bc_Reader_readQuestion 76 = .ok (.iconst (-1), 1) := by decide +kernel
theorem d_Reader_readQuestion_77 : decode bc_Reader_readQuestion 77 = .ok (.if_icmp .eq 21, 3) := by decide +kernel
theorem d_Reader_readQuestion_80 : decode bc_Reader_readQuestion 80 = .ok (.aload_n 0, 1) := by decide +kernel
theorem d_Reader_readQuestion_81 : decode bc_Reader_readQuestion 81 = .ok (.getfield 37, 3) := by decide +kernel
theorem d_Reader_readQuestion_84 : decode bc_Reader_readQuestion 84 = .ok (.aload_n 0, 1) := by decide +kernel
theorem d_Reader_readQuestion_85 : decode bc_Reader_readQuestion 85 = .ok (.getfield 29, 3) := by decide +kernel
theorem d_Reader_readQuestion_88 : decode bc_Reader_readQuestion 88 = .ok (.getfield 41, 3) := by decide +kernel
theorem d_Reader_readQuestion_91 : decode bc_Reader_readQuestion 91 = .ok (.if_icmp .ne 7, 3) := by decide +kernel
theorem d_Reader_readQuestion_94 : decode bc_Reader_readQuestion 94 = .ok (.iconst 1, 1) := by decide +kernel
theorem d_Reader_readQuestion_95 : decode bc_Reader_readQuestion 95 = .ok (.goto 4, 3) := by decide +kernel
theorem d_Reader_readQuestion_98 : decode bc_Reader_readQuestion 98 = .ok (.iconst 0, 1) := by decide +kernel
theorem d_Reader_readQuestion_99 : decode bc_Reader_readQuestion 99 = .ok (.ireturn, 1) := by decide +kernel
def cw_Reader_readQuestion (G : Nat → ClassId) (a_t a_p1 a_schema a_p1_text a_p1_text_chars a_standing a_schema_above a_schema_owners a_schema_kinds a_schema_targets a_p1_kinds a_p1_inner a_p1_next a_p1_numbers a_p1_left a_p1_right : Nat) (v_question : Value) (v_text : Value) (v_place : Int32) (v_ledTo : Int32) (v_p1_nodeCount : Int32) (v_p1_root : Int32) (v_p1_asked : Int32) (v_p1_mode : Int32) (v_schema_classCount : Int32) (v_schema_fieldCount : Int32) (v_p1_text_length : Int32) (v_p1_text_chars : Nat → Int32) (v_standing : Nat → Int32) (v_schema_above : Nat → Int32) (v_schema_owners : Nat → Int32) (v_schema_kinds : Nat → Int32) (v_schema_targets : Nat → Int32) (v_p1_kinds : Nat → Int32) (v_p1_inner : Nat → Int32) (v_p1_next : Nat → Int32) (v_p1_numbers : Nat → Int32) (v_p1_left : Nat → Int32) (v_p1_right : Nat → Int32) : va_W := [(a_t, .inr (8, [.ref a_schema, .ref a_standing, v_question, v_text, .int v_place, .int v_ledTo])), (a_p1, .inr (7, [.ref a_p1_text, .ref a_p1_numbers, .ref a_p1_kinds, .ref a_p1_inner, .ref a_p1_next, .ref a_p1_left, .ref a_p1_right, .int v_p1_nodeCount, .int v_p1_root, .int v_p1_asked, .int v_p1_mode])), (a_schema, .inr (1, [.ref a_schema_above, .ref a_schema_owners, .ref a_schema_kinds, .ref a_schema_targets, .int v_schema_classCount, .int v_schema_fieldCount])), (a_p1_text, .inr (6, [.ref a_p1_text_chars, .int v_p1_text_length])), (a_p1_text_chars, .inl (G 2, 60, .inl v_p1_text_chars)), (a_standing, .inl (G 0, 3, .inl v_standing)), (a_schema_above, .inl (G 0, 6, .inl v_schema_above)), (a_schema_owners, .inl (G 0, 8, .inl v_schema_owners)), (a_schema_kinds, .inl (G 0, 8, .inl v_schema_kinds)), (a_schema_targets, .inl (G 0, 8, .inl v_schema_targets)), (a_p1_kinds, .inl (G 0, 60, .inl v_p1_kinds)), (a_p1_inner, .inl (G 0, 60, .inl v_p1_inner)), (a_p1_next, .inl (G 0, 60, .inl v_p1_next)), (a_p1_numbers, .inl (G 0, 60, .inl v_p1_numbers)), (a_p1_left, .inl (G 0, 60, .inl v_p1_left)), (a_p1_right, .inl (G 0, 60, .inl v_p1_right))]
def f_Reader_readQuestion (v_place : Int32) (v_ledTo : Int32) (v_p1_asked : Int32) (v_schema_classCount : Int32) (v_schema_fieldCount : Int32) (v_p1_text_length : Int32) (v_p1_text_chars : Nat → Int32) (v_standing : Nat → Int32) (v_schema_above : Nat → Int32) (v_schema_owners : Nat → Int32) (v_schema_kinds : Nat → Int32) (v_schema_targets : Nat → Int32) (v_p1_kinds : Nat → Int32) (v_p1_inner : Nat → Int32) (v_p1_next : Nat → Int32) (v_p1_numbers : Nat → Int32) (v_p1_left : Nat → Int32) (v_p1_right : Nat → Int32) : Option (Int32 × Int32 × Int32 × Int32 × Int32 × Int32 × Int32 × (Nat → Int32) × (Nat → Int32) × (Nat → Int32) × (Nat → Int32) × (Nat → Int32) × (Nat → Int32) × (Nat → Int32)) := (f_Question_clear).bind fun o17 => ((f_Reader_readHead v_place v_ledTo v_p1_text_length v_p1_text_chars v_p1_asked v_schema_classCount v_schema_fieldCount v_standing v_schema_above v_schema_owners v_schema_kinds v_schema_targets).bind fun o21 => (if o21.1 = 0 then (some (0, o21.2.1, o21.2.2.1, o17.1, o17.2, o21.2.2.2.1, o21.2.2.2.2.1, o21.2.2.2.2.2, v_p1_kinds, v_p1_inner, v_p1_next, v_p1_numbers, v_p1_left, v_p1_right)) else (if o21.2.1 = v_p1_text_length then (some (1, o21.2.1, o21.2.2.1, o17.1, o17.2, o21.2.2.2.1, o21.2.2.2.2.1, o21.2.2.2.2.2, v_p1_kinds, v_p1_inner, v_p1_next, v_p1_numbers, v_p1_left, v_p1_right)) else ((f_Reader_take o21.2.1 v_p1_text_length v_p1_text_chars).bind fun o46 => (if o46.1 = 63 then ((f_Reader_readList 70 o46.2 o21.2.2.1 o17.1 o17.2 o21.2.2.2.1 o21.2.2.2.2.1 v_p1_kinds v_p1_inner v_p1_next v_p1_text_length v_p1_text_chars v_schema_classCount v_schema_fieldCount v_p1_numbers o21.2.2.2.2.2 v_schema_above v_schema_owners v_schema_kinds v_schema_targets v_p1_left v_p1_right 0 0).bind fun o63 => (if o63.1 = (-1) then (some (0, o63.2.1, o63.2.2.1, o63.2.2.2.1, o63.1, o21.2.2.2.1, o21.2.2.2.2.1, o63.2.2.2.2.2.2.2.2.1, o63.2.2.2.2.1, o63.2.2.2.2.2.1, o63.2.2.2.2.2.2.1, o63.2.2.2.2.2.2.2.1, o63.2.2.2.2.2.2.2.2.2.1, o63.2.2.2.2.2.2.2.2.2.2)) else (if o63.2.1 = v_p1_text_length then (some (1, o63.2.1, o63.2.2.1, o63.2.2.2.1, o63.1, o21.2.2.2.1, o21.2.2.2.2.1, o63.2.2.2.2.2.2.2.2.1, o63.2.2.2.2.1, o63.2.2.2.2.2.1, o63.2.2.2.2.2.2.1, o63.2.2.2.2.2.2.2.1, o63.2.2.2.2.2.2.2.2.2.1, o63.2.2.2.2.2.2.2.2.2.2)) else (some (0, o63.2.1, o63.2.2.1, o63.2.2.2.1, o63.1, o21.2.2.2.1, o21.2.2.2.2.1, o63.2.2.2.2.2.2.2.2.1, o63.2.2.2.2.1, o63.2.2.2.2.2.1, o63.2.2.2.2.2.2.1, o63.2.2.2.2.2.2.2.1, o63.2.2.2.2.2.2.2.2.2.1, o63.2.2.2.2.2.2.2.2.2.2))))) else (some (0, o46.2, o21.2.2.1, o17.1, o17.2, o21.2.2.2.1, o21.2.2.2.2.1, o21.2.2.2.2.2, v_p1_kinds, v_p1_inner, v_p1_next, v_p1_numbers, v_p1_left, v_p1_right)))))))
set_option maxHeartbeats 4000000 in
set_option maxRecDepth 100000 in
theorem c_Reader_readQuestion (l : Launch) (D : va_G) (G : Nat → ClassId) (a_t a_p1 a_schema a_p1_text a_p1_text_chars a_standing a_schema_above a_schema_owners a_schema_kinds a_schema_targets a_p1_kinds a_p1_inner a_p1_next a_p1_numbers a_p1_left a_p1_right : Nat) (v_question : Value) (v_text : Value) (v_place : Int32) (v_ledTo : Int32) (v_p1_nodeCount : Int32) (v_p1_root : Int32) (v_p1_asked : Int32) (v_p1_mode : Int32) (v_schema_classCount : Int32) (v_schema_fieldCount : Int32) (v_p1_text_length : Int32) (v_p1_text_chars : Nat → Int32) (v_standing : Nat → Int32) (v_schema_above : Nat → Int32) (v_schema_owners : Nat → Int32) (v_schema_kinds : Nat → Int32) (v_schema_targets : Nat → Int32) (v_p1_kinds : Nat → Int32) (v_p1_inner : Nat → Int32) (v_p1_next : Nat → Int32) (v_p1_numbers : Nat → Int32) (v_p1_left : Nat → Int32) (v_p1_right : Nat → Int32) (o : Int32 × Int32 × Int32 × Int32 × Int32 × Int32 × Int32 × (Nat → Int32) × (Nat → Int32) × (Nat → Int32) × (Nat → Int32) × (Nat → Int32) × (Nat → Int32) × (Nat → Int32)) (hf : f_Reader_readQuestion v_place v_ledTo v_p1_asked v_schema_classCount v_schema_fieldCount v_p1_text_length v_p1_text_chars v_standing v_schema_above v_schema_owners v_schema_kinds v_schema_targets v_p1_kinds v_p1_inner v_p1_next v_p1_numbers v_p1_left v_p1_right = some o) (sz : Nat) : MetI l y_Reader_readQuestion ws_Reader_readQuestion ({ frames := 75, cells := 0, slots := 0, locals := 2007 }) D (obT G) (cw_Reader_readQuestion G a_t a_p1 a_schema a_p1_text a_p1_text_chars a_standing a_schema_above a_schema_owners a_schema_kinds a_schema_targets a_p1_kinds a_p1_inner a_p1_next a_p1_numbers a_p1_left a_p1_right v_question v_text v_place v_ledTo v_p1_nodeCount v_p1_root v_p1_asked v_p1_mode v_schema_classCount v_schema_fieldCount v_p1_text_length v_p1_text_chars v_standing v_schema_above v_schema_owners v_schema_kinds v_schema_targets v_p1_kinds v_p1_inner v_p1_next v_p1_numbers v_p1_left v_p1_right) (cw_Reader_readQuestion G a_t a_p1 a_schema a_p1_text a_p1_text_chars a_standing a_schema_above a_schema_owners a_schema_kinds a_schema_targets a_p1_kinds a_p1_inner a_p1_next a_p1_numbers a_p1_left a_p1_right (.ref a_p1) (.ref a_p1_text) o.2.1 o.2.2.1 o.2.2.2.1 o.2.2.2.2.1 o.2.2.2.2.2.1 o.2.2.2.2.2.2.1 v_schema_classCount v_schema_fieldCount v_p1_text_length v_p1_text_chars o.2.2.2.2.2.2.2.1 v_schema_above v_schema_owners v_schema_kinds v_schema_targets o.2.2.2.2.2.2.2.2.1 o.2.2.2.2.2.2.2.2.2.1 o.2.2.2.2.2.2.2.2.2.2.1 o.2.2.2.2.2.2.2.2.2.2.2.1 o.2.2.2.2.2.2.2.2.2.2.2.2.1 o.2.2.2.2.2.2.2.2.2.2.2.2.2) [.ref a_t, .ref a_p1] o.1 sz := by
  refine ob_of (cc := bc_Reader_readQuestion) (maxL := 2) (ret := (some .boolean)) (Qc := ObQi D (obT G) (cw_Reader_readQuestion G a_t a_p1 a_schema a_p1_text a_p1_text_chars a_standing a_schema_above a_schema_owners a_schema_kinds a_schema_targets a_p1_kinds a_p1_inner a_p1_next a_p1_numbers a_p1_left a_p1_right (.ref a_p1) (.ref a_p1_text) o.2.1 o.2.2.1 o.2.2.2.1 o.2.2.2.2.1 o.2.2.2.2.2.1 o.2.2.2.2.2.2.1 v_schema_classCount v_schema_fieldCount v_p1_text_length v_p1_text_chars o.2.2.2.2.2.2.2.1 v_schema_above v_schema_owners v_schema_kinds v_schema_targets o.2.2.2.2.2.2.2.2.1 o.2.2.2.2.2.2.2.2.2.1 o.2.2.2.2.2.2.2.2.2.2.1 o.2.2.2.2.2.2.2.2.2.2.2.1 o.2.2.2.2.2.2.2.2.2.2.2.2.1 o.2.2.2.2.2.2.2.2.2.2.2.2.2) o.1) (by decide) rfl (Nat.le_of_ble_eq_true rfl) ?_
  intro p e s m below meth c A ls H locs hx hb hr hml hts hown hlk hnm hZ hP hK hD hA hS hl
  have hret : ∀ (o' : Int32 × Int32 × Int32 × Int32 × Int32 × Int32 × Int32 × (Nat → Int32) × (Nat → Int32) × (Nat → Int32) × (Nat → Int32) × (Nat → Int32) × (Nat → Int32) × (Nat → Int32)) (H : Heap) (locs : List Loc) (pc : Nat) (ls : Array Slot), some o' = some o → va_P D vwCl (cw_Reader_readQuestion G a_t a_p1 a_schema a_p1_text a_p1_text_chars a_standing a_schema_above a_schema_owners a_schema_kinds a_schema_targets a_p1_kinds a_p1_inner a_p1_next a_p1_numbers a_p1_left a_p1_right (.ref a_p1) (.ref a_p1_text) o'.2.1 o'.2.2.1 o'.2.2.2.1 o'.2.2.2.2.1 o'.2.2.2.2.2.1 o'.2.2.2.2.2.2.1 v_schema_classCount v_schema_fieldCount v_p1_text_length v_p1_text_chars o'.2.2.2.2.2.2.2.1 v_schema_above v_schema_owners v_schema_kinds v_schema_targets o'.2.2.2.2.2.2.2.2.1 o'.2.2.2.2.2.2.2.2.2.1 o'.2.2.2.2.2.2.2.2.2.2.1 o'.2.2.2.2.2.2.2.2.2.2.2.1 o'.2.2.2.2.2.2.2.2.2.2.2.2.1 o'.2.2.2.2.2.2.2.2.2.2.2.2.2) H → va_D A (cw_Reader_readQuestion G a_t a_p1 a_schema a_p1_text a_p1_text_chars a_standing a_schema_above a_schema_owners a_schema_kinds a_schema_targets a_p1_kinds a_p1_inner a_p1_next a_p1_numbers a_p1_left a_p1_right (.ref a_p1) (.ref a_p1_text) o'.2.1 o'.2.2.1 o'.2.2.2.1 o'.2.2.2.2.1 o'.2.2.2.2.2.1 o'.2.2.2.2.2.2.1 v_schema_classCount v_schema_fieldCount v_p1_text_length v_p1_text_chars o'.2.2.2.2.2.2.2.1 v_schema_above v_schema_owners v_schema_kinds v_schema_targets o'.2.2.2.2.2.2.2.2.1 o'.2.2.2.2.2.2.2.2.2.1 o'.2.2.2.2.2.2.2.2.2.2.1 o'.2.2.2.2.2.2.2.2.2.2.2.1 o'.2.2.2.2.2.2.2.2.2.2.2.2.1 o'.2.2.2.2.2.2.2.2.2.2.2.2.2) → va_S A s.heap H locs → narrow .boolean (.int o'.1) = .int o'.1 → decode bc_Reader_readQuestion pc = .ok (.ireturn, 1) → W p l e { frames := 75, cells := 0, slots := 0, locals := 2007 } s m ([.ref a_t, .ref a_p1] : List Value).toArray below meth c H locs 0 0 (MQ below (ObQi D (obT G) (cw_Reader_readQuestion G a_t a_p1 a_schema a_p1_text a_p1_text_chars a_standing a_schema_above a_schema_owners a_schema_kinds a_schema_targets a_p1_kinds a_p1_inner a_p1_next a_p1_numbers a_p1_left a_p1_right (.ref a_p1) (.ref a_p1_text) o.2.1 o.2.2.1 o.2.2.2.1 o.2.2.2.2.1 o.2.2.2.2.2.1 o.2.2.2.2.2.2.1 v_schema_classCount v_schema_fieldCount v_p1_text_length v_p1_text_chars o.2.2.2.2.2.2.2.1 v_schema_above v_schema_owners v_schema_kinds v_schema_targets o.2.2.2.2.2.2.2.2.1 o.2.2.2.2.2.2.2.2.2.1 o.2.2.2.2.2.2.2.2.2.2.1 o.2.2.2.2.2.2.2.2.2.2.2.1 o.2.2.2.2.2.2.2.2.2.2.2.2.1 o.2.2.2.2.2.2.2.2.2.2.2.2.2) o.1 A) ([.ref a_t, .ref a_p1] : List Value).toArray s 0 0 A) (F0 m pc ls [.int o'.1]) := by
    intro o' H locs pc ls he hP hD hS hn hd
    obtain rfl := Option.some.inj he
    exact ob_iret hx hb hr hlk hK hP hD hS hn hd
  generalize MQ below (ObQi D (obT G) (cw_Reader_readQuestion G a_t a_p1 a_schema a_p1_text a_p1_text_chars a_standing a_schema_above a_schema_owners a_schema_kinds a_schema_targets a_p1_kinds a_p1_inner a_p1_next a_p1_numbers a_p1_left a_p1_right (.ref a_p1) (.ref a_p1_text) o.2.1 o.2.2.1 o.2.2.2.1 o.2.2.2.2.1 o.2.2.2.2.2.1 o.2.2.2.2.2.2.1 v_schema_classCount v_schema_fieldCount v_p1_text_length v_p1_text_chars o.2.2.2.2.2.2.2.1 v_schema_above v_schema_owners v_schema_kinds v_schema_targets o.2.2.2.2.2.2.2.2.1 o.2.2.2.2.2.2.2.2.2.1 o.2.2.2.2.2.2.2.2.2.2.1 o.2.2.2.2.2.2.2.2.2.2.2.1 o.2.2.2.2.2.2.2.2.2.2.2.2.1 o.2.2.2.2.2.2.2.2.2.2.2.2.2) o.1 A) ([.ref a_t, .ref a_p1] : List Value).toArray s 0 0 A = Q at hret ⊢
  have hl : lv_has ls 2 [(0, .ref a_t), (1, .ref a_p1)] := hl
  unfold f_Reader_readQuestion at hf
  refine lv_aload_n hx hb d_Reader_readQuestion_0 rfl (lv_at hl 0 rfl) ?_
  refine lv_aload_n hx hb d_Reader_readQuestion_1 rfl (lv_at hl 1 rfl) ?_
  refine va_put (D := D) (ci := 8) (v := .ref a_p1) (ty := .object "ObjectBase$Question") (C := "ObjectBase$Reader") (T := TC_Reader) (N := 6) hx hb hts inC_Reader tyC_Reader tyC_Reader_ok nmC_Reader hown hK hP hD hS 0 rfl rfl 2 (by decide) (hts _ tw177) (fun _ h9 => h9) rfl (by decide +kernel) rfl rfl (Nat.le_of_ble_eq_true rfl) d_Reader_readQuestion_2 (fun H locs hP hD hS => ?_)
  have hP : va_P D vwCl (cw_Reader_readQuestion G a_t a_p1 a_schema a_p1_text a_p1_text_chars a_standing a_schema_above a_schema_owners a_schema_kinds a_schema_targets a_p1_kinds a_p1_inner a_p1_next a_p1_numbers a_p1_left a_p1_right (.ref a_p1) v_text v_place v_ledTo v_p1_nodeCount v_p1_root v_p1_asked v_p1_mode v_schema_classCount v_schema_fieldCount v_p1_text_length v_p1_text_chars v_standing v_schema_above v_schema_owners v_schema_kinds v_schema_targets v_p1_kinds v_p1_inner v_p1_next v_p1_numbers v_p1_left v_p1_right) H := hP
  have hD : va_D A (cw_Reader_readQuestion G a_t a_p1 a_schema a_p1_text a_p1_text_chars a_standing a_schema_above a_schema_owners a_schema_kinds a_schema_targets a_p1_kinds a_p1_inner a_p1_next a_p1_numbers a_p1_left a_p1_right (.ref a_p1) v_text v_place v_ledTo v_p1_nodeCount v_p1_root v_p1_asked v_p1_mode v_schema_classCount v_schema_fieldCount v_p1_text_length v_p1_text_chars v_standing v_schema_above v_schema_owners v_schema_kinds v_schema_targets v_p1_kinds v_p1_inner v_p1_next v_p1_numbers v_p1_left v_p1_right) := hD
  refine lv_aload_n hx hb d_Reader_readQuestion_5 rfl (lv_at hl 0 rfl) ?_
  refine lv_aload_n hx hb d_Reader_readQuestion_6 rfl (lv_at hl 1 rfl) ?_
  refine va_get (D := D) (ci := 7) (v := .ref a_p1_text) (C := "ObjectBase$Question") (T := TC_Question) (N := 11) hx hb hts inC_Question hown hK hP 1 rfl rfl 0 (by decide) (hts _ tw533) (fun _ h9 => h9) rfl d_Reader_readQuestion_7 ?_
  refine va_put (D := D) (ci := 8) (v := .ref a_p1_text) (ty := .object "ObjectBase$Text") (C := "ObjectBase$Reader") (T := TC_Reader) (N := 6) hx hb hts inC_Reader tyC_Reader tyC_Reader_ok nmC_Reader hown hK hP hD hS 0 rfl rfl 3 (by decide) (hts _ tw178) (fun _ h9 => h9) rfl (by decide +kernel) rfl rfl (Nat.le_of_ble_eq_true rfl) d_Reader_readQuestion_10 (fun H locs hP hD hS => ?_)
  have hP : va_P D vwCl (cw_Reader_readQuestion G a_t a_p1 a_schema a_p1_text a_p1_text_chars a_standing a_schema_above a_schema_owners a_schema_kinds a_schema_targets a_p1_kinds a_p1_inner a_p1_next a_p1_numbers a_p1_left a_p1_right (.ref a_p1) (.ref a_p1_text) v_place v_ledTo v_p1_nodeCount v_p1_root v_p1_asked v_p1_mode v_schema_classCount v_schema_fieldCount v_p1_text_length v_p1_text_chars v_standing v_schema_above v_schema_owners v_schema_kinds v_schema_targets v_p1_kinds v_p1_inner v_p1_next v_p1_numbers v_p1_left v_p1_right) H := hP
  have hD : va_D A (cw_Reader_readQuestion G a_t a_p1 a_schema a_p1_text a_p1_text_chars a_standing a_schema_above a_schema_owners a_schema_kinds a_schema_targets a_p1_kinds a_p1_inner a_p1_next a_p1_numbers a_p1_left a_p1_right (.ref a_p1) (.ref a_p1_text) v_place v_ledTo v_p1_nodeCount v_p1_root v_p1_asked v_p1_mode v_schema_classCount v_schema_fieldCount v_p1_text_length v_p1_text_chars v_standing v_schema_above v_schema_owners v_schema_kinds v_schema_targets v_p1_kinds v_p1_inner v_p1_next v_p1_numbers v_p1_left v_p1_right) := hD
  refine lv_aload_n hx hb d_Reader_readQuestion_13 rfl (lv_at hl 0 rfl) ?_
  refine va_get (D := D) (ci := 8) (v := .ref a_p1) (C := "ObjectBase$Reader") (T := TC_Reader) (N := 6) hx hb hts inC_Reader hown hK hP 0 rfl rfl 2 (by decide) (hts _ tw177) (fun _ h9 => h9) rfl d_Reader_readQuestion_14 ?_
  obtain ⟨o17, ho17, hf⟩ := ob_b hf
  refine ob_callv (w2 := (cw_Reader_readQuestion G a_t a_p1 a_schema a_p1_text a_p1_text_chars a_standing a_schema_above a_schema_owners a_schema_kinds a_schema_targets a_p1_kinds a_p1_inner a_p1_next a_p1_numbers a_p1_left a_p1_right (.ref a_p1) (.ref a_p1_text) v_place v_ledTo o17.1 o17.2 v_p1_asked v_p1_mode v_schema_classCount v_schema_fieldCount v_p1_text_length v_p1_text_chars v_standing v_schema_above v_schema_owners v_schema_kinds v_schema_targets v_p1_kinds v_p1_inner v_p1_next v_p1_numbers v_p1_left v_p1_right)) (va_runV (As := []) (rest := []) ⟨hx, hb, hml, hown, hts⟩ (c_Question_clear l D G a_p1 a_p1_text a_p1_numbers a_p1_kinds a_p1_inner a_p1_next a_p1_left a_p1_right v_p1_nodeCount v_p1_root v_p1_asked v_p1_mode o17 ho17 H.size) (cwV 0 hts (gV tw596 tw597 tw598 tw14 tw599) rfl rfl rfl (by decide +kernel) ⟨Nat.le_of_ble_eq_true rfl, Nat.le_of_ble_eq_true rfl⟩) (ob_preV (q0 := 1) (ci := 7) hZ hK hP hD [1] rfl rfl rfl rfl rfl) rfl rfl hl.1 rfl (lv_room (Nat.le_of_ble_eq_true rfl)) d_Reader_readQuestion_17 ⟨Nat.le_refl _, Nat.le_refl _⟩) hP hD hA hS [1] rfl rfl rfl rfl (fun H locs hP hD hS => ?_)
  refine lv_aload_n hx hb d_Reader_readQuestion_20 rfl (lv_at hl 0 rfl) ?_
  obtain ⟨o21, ho21, hf⟩ := ob_b hf
  refine ob_calli (w2 := (cw_Reader_readQuestion G a_t a_p1 a_schema a_p1_text a_p1_text_chars a_standing a_schema_above a_schema_owners a_schema_kinds a_schema_targets a_p1_kinds a_p1_inner a_p1_next a_p1_numbers a_p1_left a_p1_right (.ref a_p1) (.ref a_p1_text) o21.2.1 o21.2.2.1 o17.1 o17.2 o21.2.2.2.1 o21.2.2.2.2.1 v_schema_classCount v_schema_fieldCount v_p1_text_length v_p1_text_chars o21.2.2.2.2.2 v_schema_above v_schema_owners v_schema_kinds v_schema_targets v_p1_kinds v_p1_inner v_p1_next v_p1_numbers v_p1_left v_p1_right)) (va_runV (As := []) (rest := []) ⟨hx, hb, hml, hown, hts⟩ (c_Reader_readHead l D G a_t a_p1_text a_p1_text_chars a_p1 a_schema a_standing a_schema_above a_schema_owners a_schema_kinds a_schema_targets a_p1_numbers a_p1_kinds a_p1_inner a_p1_next a_p1_left a_p1_right v_place v_ledTo v_p1_text_length v_p1_text_chars o17.1 o17.2 v_p1_asked v_p1_mode v_schema_classCount v_schema_fieldCount v_standing v_schema_above v_schema_owners v_schema_kinds v_schema_targets o21 ho21 H.size) (cwV 0 hts (gV tw600 tw602 tp6 tw8 tw603) rfl rfl rfl (by decide +kernel) ⟨Nat.le_of_ble_eq_true rfl, Nat.le_of_ble_eq_true rfl⟩) (ob_preV (q0 := 0) (ci := 8) hZ hK hP hD [0, 3, 4, 1, 2, 5, 6, 7, 8, 9] rfl rfl rfl rfl rfl) rfl rfl hl.1 rfl (lv_room (Nat.le_of_ble_eq_true rfl)) d_Reader_readQuestion_21 ⟨Nat.le_refl _, Nat.le_refl _⟩) hP hD hA hS [0, 3, 4, 1, 2, 5, 6, 7, 8, 9] rfl rfl rfl rfl (fun H locs hP hD hS => ?_)
  refine lv_if_ne (tgt := 29) hx hb d_Reader_readQuestion_24 (by decide) (fun hc24 => ?_) (fun hc24 => ?_)
  · have hf := ob_f hc24 hf
    refine lv_aload_n hx hb d_Reader_readQuestion_29 rfl (lv_at hl 0 rfl) ?_
    refine va_get (D := D) (ci := 8) (v := .int o21.2.1) (C := "ObjectBase$Reader") (T := TC_Reader) (N := 6) hx hb hts inC_Reader hown hK hP 0 rfl rfl 4 (by decide) (hts _ tw179) (fun _ h9 => h9) rfl d_Reader_readQuestion_30 ?_
    refine lv_aload_n hx hb d_Reader_readQuestion_33 rfl (lv_at hl 0 rfl) ?_
    refine va_get (D := D) (ci := 8) (v := .ref a_p1_text) (C := "ObjectBase$Reader") (T := TC_Reader) (N := 6) hx hb hts inC_Reader hown hK hP 0 rfl rfl 3 (by decide) (hts _ tw178) (fun _ h9 => h9) rfl d_Reader_readQuestion_34 ?_
    refine va_get (D := D) (ci := 6) (v := .int v_p1_text_length) (C := "ObjectBase$Text") (T := TC_Text) (N := 2) hx hb hts inC_Text hown hK hP 3 rfl rfl 1 (by decide) (hts _ tw159) (fun _ h9 => h9) rfl d_Reader_readQuestion_37 ?_
    refine lv_icmp_ne (tgt := 45) hx hb d_Reader_readQuestion_40 (by decide) (fun hc40 => ?_) (fun hc40 => ?_)
    · have hf := ob_f hc40 hf
      refine lv_aload_n hx hb d_Reader_readQuestion_45 rfl (lv_at hl 0 rfl) ?_
      obtain ⟨o46, ho46, hf⟩ := ob_b hf
      refine ob_calli (w2 := (cw_Reader_readQuestion G a_t a_p1 a_schema a_p1_text a_p1_text_chars a_standing a_schema_above a_schema_owners a_schema_kinds a_schema_targets a_p1_kinds a_p1_inner a_p1_next a_p1_numbers a_p1_left a_p1_right (.ref a_p1) (.ref a_p1_text) o46.2 o21.2.2.1 o17.1 o17.2 o21.2.2.2.1 o21.2.2.2.2.1 v_schema_classCount v_schema_fieldCount v_p1_text_length v_p1_text_chars o21.2.2.2.2.2 v_schema_above v_schema_owners v_schema_kinds v_schema_targets v_p1_kinds v_p1_inner v_p1_next v_p1_numbers v_p1_left v_p1_right)) (va_runV (As := []) (rest := []) ⟨hx, hb, hml, hown, hts⟩ (c_Reader_take l D G a_t a_p1_text a_p1_text_chars a_schema a_standing a_p1 o21.2.1 o21.2.2.1 v_p1_text_length v_p1_text_chars o46 ho46 H.size) (cwV 0 hts (gV tw617 tw619 tp9 tw8 tw620) rfl rfl rfl (by decide +kernel) ⟨Nat.le_of_ble_eq_true rfl, Nat.le_of_ble_eq_true rfl⟩) (ob_preV (q0 := 0) (ci := 8) hZ hK hP hD [0, 3, 4] rfl rfl rfl rfl rfl) rfl rfl hl.1 rfl (lv_room (Nat.le_of_ble_eq_true rfl)) d_Reader_readQuestion_46 ⟨Nat.le_refl _, Nat.le_refl _⟩) hP hD hA hS [0, 3, 4] rfl rfl rfl rfl (fun H locs hP hD hS => ?_)
      refine lv_bipush (v := 63) hx hb d_Reader_readQuestion_49 (by decide) ?_
      refine lv_icmp_eq (tgt := 56) hx hb d_Reader_readQuestion_51 (by decide) (fun hc51 => ?_) (fun hc51 => ?_)
      · have hf := ob_t hc51 hf
        refine lv_aload_n hx hb d_Reader_readQuestion_56 rfl (lv_at hl 0 rfl) ?_
        refine va_get (D := D) (ci := 8) (v := .ref a_p1) (C := "ObjectBase$Reader") (T := TC_Reader) (N := 6) hx hb hts inC_Reader hown hK hP 0 rfl rfl 2 (by decide) (hts _ tw177) (fun _ h9 => h9) rfl d_Reader_readQuestion_57 ?_
        refine lv_aload_n hx hb d_Reader_readQuestion_60 rfl (lv_at hl 0 rfl) ?_
        refine lv_iconst (v := 0) hx hb d_Reader_readQuestion_61 (by decide) ?_
        refine lv_iconst (v := 0) hx hb d_Reader_readQuestion_62 (by decide) ?_
        obtain ⟨o63, ho63, hf⟩ := ob_b hf
        refine ob_calli (w2 := (cw_Reader_readQuestion G a_t a_p1 a_schema a_p1_text a_p1_text_chars a_standing a_schema_above a_schema_owners a_schema_kinds a_schema_targets a_p1_kinds a_p1_inner a_p1_next a_p1_numbers a_p1_left a_p1_right (.ref a_p1) (.ref a_p1_text) o63.2.1 o63.2.2.1 o63.2.2.2.1 o17.2 o21.2.2.2.1 o21.2.2.2.2.1 v_schema_classCount v_schema_fieldCount v_p1_text_length v_p1_text_chars o63.2.2.2.2.2.2.2.2.1 v_schema_above v_schema_owners v_schema_kinds v_schema_targets o63.2.2.2.2.1 o63.2.2.2.2.2.1 o63.2.2.2.2.2.2.1 o63.2.2.2.2.2.2.2.1 o63.2.2.2.2.2.2.2.2.2.1 o63.2.2.2.2.2.2.2.2.2.2)) (va_runV (As := [.int 0, .int 0]) (rest := [.ref a_p1]) ⟨hx, hb, hml, hown, hts⟩ (c_Reader_readList l D G 70 a_t a_p1 a_p1_kinds a_p1_inner a_p1_next a_p1_text a_p1_text_chars a_schema a_p1_numbers a_standing a_schema_above a_schema_owners a_schema_kinds a_schema_targets a_p1_left a_p1_right o46.2 o21.2.2.1 o17.1 o17.2 o21.2.2.2.1 o21.2.2.2.2.1 v_p1_kinds v_p1_inner v_p1_next v_p1_text_length v_p1_text_chars v_schema_classCount v_schema_fieldCount v_p1_numbers o21.2.2.2.2.2 v_schema_above v_schema_owners v_schema_kinds v_schema_targets v_p1_left v_p1_right 0 0 o63 ho63 H.size) (cwV 2 hts (gV tw626 tw628 tp11 tw8 tw629) rfl rfl rfl (by decide +kernel) ⟨Nat.le_of_ble_eq_true rfl, Nat.le_of_ble_eq_true rfl⟩) (ob_preV (q0 := 0) (ci := 8) hZ hK hP hD [0, 1, 10, 11, 12, 3, 4, 2, 13, 5, 6, 7, 8, 9, 14, 15] rfl rfl rfl rfl rfl) rfl rfl hl.1 rfl (lv_room (Nat.le_of_ble_eq_true rfl)) d_Reader_readQuestion_63 ⟨Nat.le_refl _, Nat.le_refl _⟩) hP hD hA hS [0, 1, 10, 11, 12, 3, 4, 2, 13, 5, 6, 7, 8, 9, 14, 15] rfl rfl rfl rfl (fun H locs hP hD hS => ?_)
        refine va_put (D := D) (ci := 7) (v := .int o63.1) (ty := .int) (C := "ObjectBase$Question") (T := TC_Question) (N := 11) hx hb hts inC_Question tyC_Question tyC_Question_ok nmC_Question hown hK hP hD hS 1 rfl rfl 8 (by decide) (hts _ tw555) (fun _ h9 => h9) rfl (by decide +kernel) rfl rfl (Nat.le_of_ble_eq_true rfl) d_Reader_readQuestion_66 (fun H locs hP hD hS => ?_)
        have hP : va_P D vwCl (cw_Reader_readQuestion G a_t a_p1 a_schema a_p1_text a_p1_text_chars a_standing a_schema_above a_schema_owners a_schema_kinds a_schema_targets a_p1_kinds a_p1_inner a_p1_next a_p1_numbers a_p1_left a_p1_right (.ref a_p1) (.ref a_p1_text) o63.2.1 o63.2.2.1 o63.2.2.2.1 o63.1 o21.2.2.2.1 o21.2.2.2.2.1 v_schema_classCount v_schema_fieldCount v_p1_text_length v_p1_text_chars o63.2.2.2.2.2.2.2.2.1 v_schema_above v_schema_owners v_schema_kinds v_schema_targets o63.2.2.2.2.1 o63.2.2.2.2.2.1 o63.2.2.2.2.2.2.1 o63.2.2.2.2.2.2.2.1 o63.2.2.2.2.2.2.2.2.2.1 o63.2.2.2.2.2.2.2.2.2.2) H := hP
        have hD : va_D A (cw_Reader_readQuestion G a_t a_p1 a_schema a_p1_text a_p1_text_chars a_standing a_schema_above a_schema_owners a_schema_kinds a_schema_targets a_p1_kinds a_p1_inner a_p1_next a_p1_numbers a_p1_left a_p1_right (.ref a_p1) (.ref a_p1_text) o63.2.1 o63.2.2.1 o63.2.2.2.1 o63.1 o21.2.2.2.1 o21.2.2.2.2.1 v_schema_classCount v_schema_fieldCount v_p1_text_length v_p1_text_chars o63.2.2.2.2.2.2.2.2.1 v_schema_above v_schema_owners v_schema_kinds v_schema_targets o63.2.2.2.2.1 o63.2.2.2.2.2.1 o63.2.2.2.2.2.2.1 o63.2.2.2.2.2.2.2.1 o63.2.2.2.2.2.2.2.2.2.1 o63.2.2.2.2.2.2.2.2.2.2) := hD
        refine lv_aload_n hx hb d_Reader_readQuestion_69 rfl (lv_at hl 0 rfl) ?_
        refine va_get (D := D) (ci := 8) (v := .ref a_p1) (C := "ObjectBase$Reader") (T := TC_Reader) (N := 6) hx hb hts inC_Reader hown hK hP 0 rfl rfl 2 (by decide) (hts _ tw177) (fun _ h9 => h9) rfl d_Reader_readQuestion_70 ?_
        refine va_get (D := D) (ci := 7) (v := .int o63.1) (C := "ObjectBase$Question") (T := TC_Question) (N := 11) hx hb hts inC_Question hown hK hP 1 rfl rfl 8 (by decide) (hts _ tw555) (fun _ h9 => h9) rfl d_Reader_readQuestion_73 ?_
        refine lv_iconst (v := (-1)) hx hb d_Reader_readQuestion_76 (by decide) ?_
        refine lv_icmp_eq (tgt := 98) hx hb d_Reader_readQuestion_77 (by decide) (fun hc77 => ?_) (fun hc77 => ?_)
        · have hf := ob_t hc77 hf
          refine lv_iconst (v := 0) hx hb d_Reader_readQuestion_98 (by decide) ?_
          exact hret (0, o63.2.1, o63.2.2.1, o63.2.2.2.1, o63.1, o21.2.2.2.1, o21.2.2.2.2.1, o63.2.2.2.2.2.2.2.2.1, o63.2.2.2.2.1, o63.2.2.2.2.2.1, o63.2.2.2.2.2.2.1, o63.2.2.2.2.2.2.2.1, o63.2.2.2.2.2.2.2.2.2.1, o63.2.2.2.2.2.2.2.2.2.2) H locs _ ls hf hP hD hS narrow_b0 d_Reader_readQuestion_99
        · have hf := ob_f hc77 hf
          refine lv_aload_n hx hb d_Reader_readQuestion_80 rfl (lv_at hl 0 rfl) ?_
          refine va_get (D := D) (ci := 8) (v := .int o63.2.1) (C := "ObjectBase$Reader") (T := TC_Reader) (N := 6) hx hb hts inC_Reader hown hK hP 0 rfl rfl 4 (by decide) (hts _ tw179) (fun _ h9 => h9) rfl d_Reader_readQuestion_81 ?_
          refine lv_aload_n hx hb d_Reader_readQuestion_84 rfl (lv_at hl 0 rfl) ?_
          refine va_get (D := D) (ci := 8) (v := .ref a_p1_text) (C := "ObjectBase$Reader") (T := TC_Reader) (N := 6) hx hb hts inC_Reader hown hK hP 0 rfl rfl 3 (by decide) (hts _ tw178) (fun _ h9 => h9) rfl d_Reader_readQuestion_85 ?_
          refine va_get (D := D) (ci := 6) (v := .int v_p1_text_length) (C := "ObjectBase$Text") (T := TC_Text) (N := 2) hx hb hts inC_Text hown hK hP 3 rfl rfl 1 (by decide) (hts _ tw159) (fun _ h9 => h9) rfl d_Reader_readQuestion_88 ?_
          refine lv_icmp_ne (tgt := 98) hx hb d_Reader_readQuestion_91 (by decide) (fun hc91 => ?_) (fun hc91 => ?_)
          · have hf := ob_f hc91 hf
            refine lv_iconst (v := 0) hx hb d_Reader_readQuestion_98 (by decide) ?_
            exact hret (0, o63.2.1, o63.2.2.1, o63.2.2.2.1, o63.1, o21.2.2.2.1, o21.2.2.2.2.1, o63.2.2.2.2.2.2.2.2.1, o63.2.2.2.2.1, o63.2.2.2.2.2.1, o63.2.2.2.2.2.2.1, o63.2.2.2.2.2.2.2.1, o63.2.2.2.2.2.2.2.2.2.1, o63.2.2.2.2.2.2.2.2.2.2) H locs _ ls hf hP hD hS narrow_b0 d_Reader_readQuestion_99
          · have hf := ob_t hc91 hf
            refine lv_iconst (v := 1) hx hb d_Reader_readQuestion_94 (by decide) ?_
            refine lv_goto (tgt := 99) hx hb d_Reader_readQuestion_95 (by decide) ?_
            exact hret (1, o63.2.1, o63.2.2.1, o63.2.2.2.1, o63.1, o21.2.2.2.1, o21.2.2.2.2.1, o63.2.2.2.2.2.2.2.2.1, o63.2.2.2.2.1, o63.2.2.2.2.2.1, o63.2.2.2.2.2.2.1, o63.2.2.2.2.2.2.2.1, o63.2.2.2.2.2.2.2.2.2.1, o63.2.2.2.2.2.2.2.2.2.2) H locs _ ls hf hP hD hS narrow_b1 d_Reader_readQuestion_99
      · have hf := ob_f hc51 hf
        refine lv_iconst (v := 0) hx hb d_Reader_readQuestion_54 (by decide) ?_
        exact hret (0, o46.2, o21.2.2.1, o17.1, o17.2, o21.2.2.2.1, o21.2.2.2.2.1, o21.2.2.2.2.2, v_p1_kinds, v_p1_inner, v_p1_next, v_p1_numbers, v_p1_left, v_p1_right) H locs _ ls hf hP hD hS narrow_b0 d_Reader_readQuestion_55
    · have hf := ob_t hc40 hf
      refine lv_iconst (v := 1) hx hb d_Reader_readQuestion_43 (by decide) ?_
      exact hret (1, o21.2.1, o21.2.2.1, o17.1, o17.2, o21.2.2.2.1, o21.2.2.2.2.1, o21.2.2.2.2.2, v_p1_kinds, v_p1_inner, v_p1_next, v_p1_numbers, v_p1_left, v_p1_right) H locs _ ls hf hP hD hS narrow_b1 d_Reader_readQuestion_44
  · have hf := ob_t hc24 hf
    refine lv_iconst (v := 0) hx hb d_Reader_readQuestion_27 (by decide) ?_
    exact hret (0, o21.2.1, o21.2.2.1, o17.1, o17.2, o21.2.2.2.1, o21.2.2.2.2.1, o21.2.2.2.2.2, v_p1_kinds, v_p1_inner, v_p1_next, v_p1_numbers, v_p1_left, v_p1_right) H locs _ ls hf hP hD hS narrow_b0 d_Reader_readQuestion_28
