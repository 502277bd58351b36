abbrev bc_Reader_readPath : ByteArray := prog_9_method_16_code
abbrev y_Reader_readPath : MethodName := ⟨"ObjectBase$Reader", "readPath", "()I"⟩
def ws_Reader_readPath : List Cond := .code y_Reader_readPath bc_Reader_readPath 5 (some .int) :: obW
theorem d_Reader_readPath_0 : decode bc_Reader_readPath 0 = .ok (.aload_n 0, 1) := by decide +kernel
theorem d_Reader_readPath_1 : decode bc_Reader_readPath 1 = .ok (.invokevirtual 46, 3) := by decide +kernel
theorem d_Reader_readPath_4 : decode bc_Reader_readPath 4 = .ok (.bipush 120, 2) := by decide +kernel
theorem d_Reader_readPath_6 : decode bc_Reader_readPath 6 = .ok (.isub, 1) := by decide +kernel
theorem d_Reader_readPath_7 : decode bc_Reader_readPath 7 = .ok (.istore_n 1, 1) := by decide +kernel
theorem d_Reader_readPath_8 : decode bc_Reader_readPath 8 = .ok (.iload_n 1, 1) := by decide +kernel
theorem d_Reader_readPath_9 : decode bc_Reader_readPath 9 = .ok (.ifCond .lt 17, 3) := by decide +kernel
theorem d_Reader_readPath_12 : decode bc_Reader_readPath 12 = .ok (.iload_n 1, 1) := by decide +kernel
theorem d_Reader_readPath_13 : decode bc_Reader_readPath 13 = .ok (.iconst 3, 1) := by decide +kernel
theorem d_Reader_readPath_14 : decode bc_Reader_readPath 14 = .ok (.if_icmp .ge 12, 3) := by decide +kernel
theorem d_Reader_readPath_17 : decode bc_Reader_readPath 17 = .ok (.aload_n 0, 1) := by decide +kernel
theorem d_Reader_readPath_18 : decode bc_Reader_readPath 18 = .ok (.getfield 9, 3) := by decide +kernel
theorem d_Reader_readPath_21 : decode bc_Reader_readPath 21 = .ok (.iload_n 1, 1) := by decide +kernel
theorem d_Reader_readPath_22 : decode bc_Reader_readPath 22 = .ok (.iaload, 1) := by decide +kernel
theorem d_Reader_readPath_23 : decode bc_Reader_readPath 23 = .ok (.ifCond .ne 5, 3) := by decide +kernel
theorem d_Reader_readPath_26 : decode bc_Reader_readPath 26 = .ok (.iconst (-1), 1) := by decide +kernel
theorem d_Reader_readPath_27 : decode bc_Reader_readPath 27 = .ok (.ireturn, 1) := by decide +kernel
theorem d_Reader_readPath_28 : decode bc_Reader_readPath 28 = .ok (.aload_n 0, 1) := by decide +kernel
theorem d_Reader_readPath_29 : decode bc_Reader_readPath 29 = .ok (.aload_n 0, 1) := by decide +kernel
theorem d_Reader_readPath_30 : decode bc_Reader_readPath 30 = .ok (.getfield 9, 3) := by decide +kernel
theorem d_Reader_readPath_33 : decode bc_Reader_readPath 33 = .ok (.iload_n 1, 1) := by decide +kernel
theorem d_Reader_readPath_34 : decode bc_Reader_readPath 34 = .ok (.iaload, 1) := by decide +kernel
theorem d_Reader_readPath_35 : decode bc_Reader_readPath 35 = .ok (.putfield 111, 3) := by decide +kernel
theorem d_Reader_readPath_38 : decode bc_Reader_readPath 38 = .ok (.iconst 1, 1) := by decide +kernel
theorem d_Reader_readPath_39 : decode bc_Reader_readPath 39 = .ok (.istore_n 2, 1) := by decide +kernel
theorem d_Reader_readPath_40 : decode bc_Reader_readPath 40 = .ok (.iconst 0, 1) := by decide +kernel
theorem d_Reader_readPath_41 : decode bc_Reader_readPath 41 = .ok (.istore_n 3, 1) := by decide +kernel
theorem d_Reader_readPath_42 : decode bc_Reader_readPath 42 = .ok (.iload_n 3, 1) := by decide +kernel
theorem d_Reader_readPath_43 : decode bc_Reader_readPath 43 = .ok (.bipush 60, 2) := by decide +kernel
theorem d_Reader_readPath_45 : decode bc_Reader_readPath 45 = .ok (.if_icmp .ge 85, 3) := by decide +kernel
theorem d_Reader_readPath_48 : decode bc_Reader_readPath 48 = .ok (.aload_n 0, 1) := by decide +kernel
theorem d_Reader_readPath_49 : decode bc_Reader_readPath 49 = .ok (.invokevirtual 96, 3) := by decide +kernel
theorem d_Reader_readPath_52 : decode bc_Reader_readPath 52 = .ok (.bipush 46, 2) := by decide +kernel
theorem d_Reader_readPath_54 : decode bc_Reader_readPath 54 = .ok (.if_icmp .ne 76, 3) := by decide +kernel
theorem d_Reader_readPath_57 : decode bc_Reader_readPath 57 = .ok (.aload_n 0, 1) := by decide +kernel
theorem d_Reader_readPath_58 : decode bc_Reader_readPath 58 = .ok (.dup, 1) := by decide +kernel
theorem d_Reader_readPath_59 : decode bc_Reader_readPath 59 = .ok (.getfield 37, 3) := by decide +kernel
theorem d_Reader_readPath_62 : decode bc_Reader_readPath 62 = .ok (.iconst 1, 1) := by decide +kernel
theorem d_Reader_readPath_63 : decode bc_Reader_readPath 63 = .ok (.iadd, 1) := by decide +kernel
theorem d_Reader_readPath_64 : decode bc_Reader_readPath 64 = .ok (.putfield 37, 3) := by decide +kernel
theorem d_Reader_readPath_67 : decode bc_Reader_readPath 67 = .ok (.aload_n 0, 1) := by decide +kernel
theorem d_Reader_readPath_68 : decode bc_Reader_readPath 68 = .ok (.invokevirtual 46, 3) := by decide +kernel
theorem d_Reader_readPath_71 : decode bc_Reader_readPath 71 = .ok (.bipush 97, 2) := by decide +kernel
theorem d_Reader_readPath_73 : decode bc_Reader_readPath 73 = .ok (.isub, 1) := by decide +kernel
theorem d_Reader_readPath_74 : decode bc_Reader_readPath 74 = .ok (.istore 4, 2) := by decide +kernel
theorem d_Reader_readPath_76 : decode bc_Reader_readPath 76 = .ok (.iload_n 2, 1) := by decide +kernel
theorem d_Reader_readPath_77 : decode bc_Reader_readPath 77 = .ok (.iconst 1, 1) := by decide +kernel
theorem d_Reader_readPath_78 : decode bc_Reader_readPath 78 = .ok (.if_icmp .ne 19, 3) := by decide +kernel
theorem d_Reader_readPath_81 : decode bc_Reader_readPath 81 = .ok (.aload_n 0, 1) := by decide +kernel
theorem d_Reader_readPath_82 : decode bc_Reader_readPath 82 = .ok (.getfield 15, 3) := by decide +kernel
theorem d_Reader_readPath_85 : decode bc_Reader_readPath 85 = .ok (.aload_n 0, 1) := by decide +kernel
theorem d_Reader_readPath_86 : decode bc_Reader_readPath 86 = .ok (.getfield 111, 3) := by decide +kernel
theorem d_Reader_readPath_89 : decode bc_Reader_readPath 89 = .ok (.iload 4, 2) := by decide +kernel
theorem d_Reader_readPath_91 : decode bc_Reader_readPath 91 = .ok (.invokevirtual 137, 3) := by decide +kernel
theorem d_Reader_readPath_94 : decode bc_Reader_readPath 94 = .ok (.ifCond .ne 5, 3) := by decide +kernel
theorem d_Reader_readPath_97 : decode bc_Reader_readPath 97 = .ok (.iconst (-1), 1) := by decide +kernel
theorem d_Reader_readPath_98 : decode bc_Reader_readPath 98 = .ok (.ireturn, 1) := by decide +kernel
theorem d_Reader_readPath_99 : decode bc_Reader_readPath 99 = .ok (.aload_n 0, 1) := by decide +kernel
theorem d_Reader_readPath_100 : decode bc_Reader_readPath 100 = .ok (.getfield 15, 3) := by decide +kernel
theorem d_Reader_readPath_103 : decode bc_Reader_readPath 103 = .ok (.getfield 141, 3) := by decide +kernel
theorem d_Reader_readPath_106 : decode bc_Reader_readPath 106 = .ok (.iload 4, 2) := by decide +kernel
theorem d_Reader_readPath_108 : decode bc_Reader_readPath 108 = .ok (.iaload, 1) := by decide +kernel
theorem d_Reader_readPath_109 : decode bc_Reader_readPath 109 = .ok (.istore_n 2, 1) := by decide +kernel
theorem d_Reader_readPath_110 : decode bc_Reader_readPath 110 = .ok (.aload_n 0, 1) := by decide +kernel
theorem d_Reader_readPath_111 : decode bc_Reader_readPath 111 = .ok (.aload_n 0, 1) := by decide +kernel
theorem d_Reader_readPath_112 : decode bc_Reader_readPath 112 = .ok (.getfield 15, 3) := by decide +kernel
theorem d_Reader_readPath_115 : decode bc_Reader_readPath 115 = .ok (.getfield 144, 3) := by decide +kernel
theorem d_Reader_readPath_118 : decode bc_Reader_readPath 118 = .ok (.iload 4, 2) := by decide +kernel
theorem d_Reader_readPath_120 : decode bc_Reader_readPath 120 = .ok (.iaload, 1) := by decide +kernel
theorem d_Reader_readPath_121 : decode bc_Reader_readPath 121 = .ok (.putfield 111, 3) := by decide +kernel
theorem d_Reader_readPath_124 : decode bc_Reader_readPath 124 = .ok (.iinc 3 1, 3) := by decide +kernel
theorem d_Reader_readPath_127 : decode bc_Reader_readPath 127 = .ok (.goto (-85), 3) := by decide +kernel
theorem d_Reader_readPath_130 : decode bc_Reader_readPath 130 = .ok (.iload_n 2, 1) := by decide +kernel
theorem d_Reader_readPath_131 : decode bc_Reader_readPath 131 = .ok (.ireturn, 1) := by decide +kernel
def cw_Reader_readPath (G : Nat → ClassId) (a_t a_question a_question_text a_question_text_chars a_standing a_schema a_schema_above a_schema_owners a_schema_kinds a_schema_targets a_question_numbers a_question_kinds a_question_inner a_question_next a_question_left a_question_right : Nat) (v_place : Int32) (v_ledTo : Int32) (v_question_nodeCount : Int32) (v_question_root : Int32) (v_question_asked : Int32) (v_question_mode : Int32) (v_question_text_length : Int32) (v_question_text_chars : Nat → Int32) (v_standing : Nat → Int32) (v_schema_classCount : Int32) (v_schema_fieldCount : Int32) (v_schema_above : Nat → Int32) (v_schema_owners : Nat → Int32) (v_schema_kinds : Nat → Int32) (v_schema_targets : Nat → Int32) : va_W := [(a_t, .inr (8, [.ref a_schema, .ref a_standing, .ref a_question, .ref a_question_text, .int v_place, .int v_ledTo])), (a_question, .inr (7, [.ref a_question_text, .ref a_question_numbers, .ref a_question_kinds, .ref a_question_inner, .ref a_question_next, .ref a_question_left, .ref a_question_right, .int v_question_nodeCount, .int v_question_root, .int v_question_asked, .int v_question_mode])), (a_question_text, .inr (6, [.ref a_question_text_chars, .int v_question_text_length])), (a_question_text_chars, .inl (G 2, 60, .inl v_question_text_chars)), (a_standing, .inl (G 0, 3, .inl v_standing)), (a_schema, .inr (1, [.ref a_schema_above, .ref a_schema_owners, .ref a_schema_kinds, .ref a_schema_targets, .int v_schema_classCount, .int v_schema_fieldCount])), (a_schema_above, .inl (G 0, 6, .inl v_schema_above)), (a_schema_owners, .inl (G 0, 8, .inl v_schema_owners)), (a_schema_kinds, .inl (G 0, 8, .inl v_schema_kinds)), (a_schema_targets, .inl (G 0, 8, .inl v_schema_targets))]
def f_Reader_readPath_B42 (v_question_text_length : Int32) (v_question_text_chars : Nat → Int32) (v_schema_fieldCount : Int32) (v_schema_above : Nat → Int32) (v_schema_owners : Nat → Int32) (v_schema_kinds : Nat → Int32) (v_schema_targets : Nat → Int32) (k42 : Int32 → Int32 → Int32 → Int32 → Option (Int32 × Int32 × Int32)) (x42_2 : Int32) (x42_3 : Int32) (v_place_42 : Int32) (v_ledTo_42 : Int32) : Option (Int32 × Int32 × Int32) := if 60 ≤ x42_3 then (some (x42_2, v_place_42, v_ledTo_42)) else ((f_Reader_peek v_place_42 v_question_text_length v_question_text_chars).bind fun o49 => (if o49 = 46 then ((f_Reader_take (v_place_42 + 1) v_question_text_length v_question_text_chars).bind fun o68 => (if x42_2 = 1 then ((f_Schema_hasField v_schema_fieldCount v_schema_above v_schema_owners v_ledTo_42 (o68.1 - 97)).bind fun o91 => (if o91 = 0 then (some ((-1), o68.2, v_ledTo_42)) else (ob_iv (o68.1 - 97) 8 (ob_iv (o68.1 - 97) 8 (k42 (v_schema_kinds (o68.1 - 97).toNatClampNeg) (x42_3 + 1) o68.2 (v_schema_targets (o68.1 - 97).toNatClampNeg)))))) else (some ((-1), o68.2, v_ledTo_42)))) else (some (x42_2, v_place_42, v_ledTo_42))))
def f_Reader_readPath_L42 (v_question_text_length : Int32) (v_question_text_chars : Nat → Int32) (v_schema_fieldCount : Int32) (v_schema_above : Nat → Int32) (v_schema_owners : Nat → Int32) (v_schema_kinds : Nat → Int32) (v_schema_targets : Nat → Int32) : Nat → Int32 → Int32 → Int32 → Int32 → Option (Int32 × Int32 × Int32) := ob_lp4 (f_Reader_readPath_B42 v_question_text_length v_question_text_chars v_schema_fieldCount v_schema_above v_schema_owners v_schema_kinds v_schema_targets)
def f_Reader_readPath (v_place : Int32) (v_ledTo : Int32) (v_question_text_length : Int32) (v_question_text_chars : Nat → Int32) (v_standing : Nat → Int32) (v_schema_fieldCount : Int32) (v_schema_above : Nat → Int32) (v_schema_owners : Nat → Int32) (v_schema_kinds : Nat → Int32) (v_schema_targets : Nat → Int32) : Option (Int32 × Int32 × Int32) := (f_Reader_take v_place v_question_text_length v_question_text_chars).bind fun o1 => (if (o1.1 - 120) < 0 then (some ((-1), o1.2, v_ledTo)) else (if 3 ≤ (o1.1 - 120) then (some ((-1), o1.2, v_ledTo)) else (ob_iv (o1.1 - 120) 3 (if (v_standing (o1.1 - 120).toNatClampNeg) = 0 then (some ((-1), o1.2, v_ledTo)) else (ob_iv (o1.1 - 120) 3 (f_Reader_readPath_L42 v_question_text_length v_question_text_chars v_schema_fieldCount v_schema_above v_schema_owners v_schema_kinds v_schema_targets 1000 1 0 o1.2 (v_standing (o1.1 - 120).toNatClampNeg)))))))
set_option maxHeartbeats 4000000 in
set_option maxRecDepth 100000 in
theorem c_Reader_readPath (l : Launch) (D : va_G) (G : Nat → ClassId) (a_t a_question a_question_text a_question_text_chars a_standing a_schema a_schema_above a_schema_owners a_schema_kinds a_schema_targets a_question_numbers a_question_kinds a_question_inner a_question_next a_question_left a_question_right : Nat) (v_place : Int32) (v_ledTo : Int32) (v_question_nodeCount : Int32) (v_question_root : Int32) (v_question_asked : Int32) (v_question_mode : Int32) (v_question_text_length : Int32) (v_question_text_chars : Nat → Int32) (v_standing : Nat → Int32) (v_schema_classCount : Int32) (v_schema_fieldCount : Int32) (v_schema_above : Nat → Int32) (v_schema_owners : Nat → Int32) (v_schema_kinds : Nat → Int32) (v_schema_targets : Nat → Int32) (o : Int32 × Int32 × Int32) (hf : f_Reader_readPath v_place v_ledTo v_question_text_length v_question_text_chars v_standing v_schema_fieldCount v_schema_above v_schema_owners v_schema_kinds v_schema_targets = some o) (sz : Nat) : MetI l y_Reader_readPath ws_Reader_readPath ({ frames := 1, cells := 0, slots := 0, locals := 22 }) D (obT G) (cw_Reader_readPath G a_t a_question a_question_text a_question_text_chars a_standing a_schema a_schema_above a_schema_owners a_schema_kinds a_schema_targets a_question_numbers a_question_kinds a_question_inner a_question_next a_question_left a_question_right v_place v_ledTo v_question_nodeCount v_question_root v_question_asked v_question_mode v_question_text_length v_question_text_chars v_standing v_schema_classCount v_schema_fieldCount v_schema_above v_schema_owners v_schema_kinds v_schema_targets) (cw_Reader_readPath G a_t a_question a_question_text a_question_text_chars a_standing a_schema a_schema_above a_schema_owners a_schema_kinds a_schema_targets a_question_numbers a_question_kinds a_question_inner a_question_next a_question_left a_question_right o.2.1 o.2.2 v_question_nodeCount v_question_root v_question_asked v_question_mode v_question_text_length v_question_text_chars v_standing v_schema_classCount v_schema_fieldCount v_schema_above v_schema_owners v_schema_kinds v_schema_targets) [.ref a_t] o.1 sz := by
  refine ob_of (cc := bc_Reader_readPath) (maxL := 5) (ret := (some .int)) (Qc := ObQi D (obT G) (cw_Reader_readPath G a_t a_question a_question_text a_question_text_chars a_standing a_schema a_schema_above a_schema_owners a_schema_kinds a_schema_targets a_question_numbers a_question_kinds a_question_inner a_question_next a_question_left a_question_right o.2.1 o.2.2 v_question_nodeCount v_question_root v_question_asked v_question_mode v_question_text_length v_question_text_chars v_standing v_schema_classCount v_schema_fieldCount v_schema_above v_schema_owners v_schema_kinds v_schema_targets) o.1) (by decide) rfl (Nat.le_of_ble_eq_true rfl) ?_
  intro p e s m below meth c A ls H locs hx hb hr hml hts hown hlk hnm hZ hP hK hD hA hS hl
  have hret : ∀ (o' : Int32 × Int32 × Int32) (H : Heap) (locs : List Loc) (pc : Nat) (ls : Array Slot), some o' = some o → va_P D vwCl (cw_Reader_readPath G a_t a_question a_question_text a_question_text_chars a_standing a_schema a_schema_above a_schema_owners a_schema_kinds a_schema_targets a_question_numbers a_question_kinds a_question_inner a_question_next a_question_left a_question_right o'.2.1 o'.2.2 v_question_nodeCount v_question_root v_question_asked v_question_mode v_question_text_length v_question_text_chars v_standing v_schema_classCount v_schema_fieldCount v_schema_above v_schema_owners v_schema_kinds v_schema_targets) H → va_D A (cw_Reader_readPath G a_t a_question a_question_text a_question_text_chars a_standing a_schema a_schema_above a_schema_owners a_schema_kinds a_schema_targets a_question_numbers a_question_kinds a_question_inner a_question_next a_question_left a_question_right o'.2.1 o'.2.2 v_question_nodeCount v_question_root v_question_asked v_question_mode v_question_text_length v_question_text_chars v_standing v_schema_classCount v_schema_fieldCount v_schema_above v_schema_owners v_schema_kinds v_schema_targets) → va_S A s.heap H locs → narrow .int (.int o'.1) = .int o'.1 → decode bc_Reader_readPath pc = .ok (.ireturn, 1) → W p l e { frames := 1, cells := 0, slots := 0, locals := 22 } s m ([.ref a_t] : List Value).toArray below meth c H locs 0 0 (MQ below (ObQi D (obT G) (cw_Reader_readPath G a_t a_question a_question_text a_question_text_chars a_standing a_schema a_schema_above a_schema_owners a_schema_kinds a_schema_targets a_question_numbers a_question_kinds a_question_inner a_question_next a_question_left a_question_right o.2.1 o.2.2 v_question_nodeCount v_question_root v_question_asked v_question_mode v_question_text_length v_question_text_chars v_standing v_schema_classCount v_schema_fieldCount v_schema_above v_schema_owners v_schema_kinds v_schema_targets) o.1 A) ([.ref a_t] : List Value).toArray s 0 0 A) (F0 m pc ls [.int o'.1]) := by
    intro o' H locs pc ls he hP hD hS hn hd
    obtain rfl := Option.some.inj he
    exact ob_iret hx hb hr hlk hK hP hD hS hn hd
  generalize MQ below (ObQi D (obT G) (cw_Reader_readPath G a_t a_question a_question_text a_question_text_chars a_standing a_schema a_schema_above a_schema_owners a_schema_kinds a_schema_targets a_question_numbers a_question_kinds a_question_inner a_question_next a_question_left a_question_right o.2.1 o.2.2 v_question_nodeCount v_question_root v_question_asked v_question_mode v_question_text_length v_question_text_chars v_standing v_schema_classCount v_schema_fieldCount v_schema_above v_schema_owners v_schema_kinds v_schema_targets) o.1 A) ([.ref a_t] : List Value).toArray s 0 0 A = Q at hret ⊢
  have hl : lv_has ls 5 [(0, .ref a_t)] := hl
  unfold f_Reader_readPath at hf
  have loop42 : ∀ (n42 : Nat) (x42_2 : Int32) (x42_3 : Int32) (v_place_42 : Int32) (v_ledTo_42 : Int32) (ls : Array Slot) (H : Heap) (locs : List Loc), lv_has ls 5 [(0, .ref a_t), (2, .int x42_2), (3, .int x42_3)] → va_P D vwCl (cw_Reader_readPath G a_t a_question a_question_text a_question_text_chars a_standing a_schema a_schema_above a_schema_owners a_schema_kinds a_schema_targets a_question_numbers a_question_kinds a_question_inner a_question_next a_question_left a_question_right v_place_42 v_ledTo_42 v_question_nodeCount v_question_root v_question_asked v_question_mode v_question_text_length v_question_text_chars v_standing v_schema_classCount v_schema_fieldCount v_schema_above v_schema_owners v_schema_kinds v_schema_targets) H → va_D A (cw_Reader_readPath G a_t a_question a_question_text a_question_text_chars a_standing a_schema a_schema_above a_schema_owners a_schema_kinds a_schema_targets a_question_numbers a_question_kinds a_question_inner a_question_next a_question_left a_question_right v_place_42 v_ledTo_42 v_question_nodeCount v_question_root v_question_asked v_question_mode v_question_text_length v_question_text_chars v_standing v_schema_classCount v_schema_fieldCount v_schema_above v_schema_owners v_schema_kinds v_schema_targets) → va_S A s.heap H locs → f_Reader_readPath_L42 v_question_text_length v_question_text_chars v_schema_fieldCount v_schema_above v_schema_owners v_schema_kinds v_schema_targets n42 x42_2 x42_3 v_place_42 v_ledTo_42 = some o → W p l e ({ frames := 1, cells := 0, slots := 0, locals := 22 }) s m ([.ref a_t] : List Value).toArray below meth c H locs 0 0 Q (F0 m 42 ls []) := by
    intro n42
    induction n42 with
    | zero => intro x42_2 x42_3 v_place_42 v_ledTo_42 ls H locs hl hP hD hS hf; exact ob_no hf
    | succ n42 ih42 =>
      intro x42_2 x42_3 v_place_42 v_ledTo_42 ls H locs hl hP hD hS hf
      have hf : f_Reader_readPath_B42 v_question_text_length v_question_text_chars v_schema_fieldCount v_schema_above v_schema_owners v_schema_kinds v_schema_targets (f_Reader_readPath_L42 v_question_text_length v_question_text_chars v_schema_fieldCount v_schema_above v_schema_owners v_schema_kinds v_schema_targets n42) x42_2 x42_3 v_place_42 v_ledTo_42 = some o := hf
      unfold f_Reader_readPath_B42 at hf
      refine lv_iload_n hx hb d_Reader_readPath_42 rfl (lv_at hl 2 rfl) ?_
      refine lv_bipush (v := 60) hx hb d_Reader_readPath_43 (by decide) ?_
      refine lv_icmp_ge (tgt := 130) hx hb d_Reader_readPath_45 (by decide) (fun hc45 => ?_) (fun hc45 => ?_)
      · have hf := ob_t hc45 hf
        refine lv_iload_n hx hb d_Reader_readPath_130 rfl (lv_at hl 1 rfl) ?_
        exact hret (x42_2, v_place_42, v_ledTo_42) H locs _ ls hf hP hD hS rfl d_Reader_readPath_131
      · have hf := ob_f hc45 hf
        refine lv_aload_n hx hb d_Reader_readPath_48 rfl (lv_at hl 0 rfl) ?_
        obtain ⟨o49, ho49, hf⟩ := ob_b hf
        refine ob_calli (w2 := (cw_Reader_readPath G a_t a_question a_question_text a_question_text_chars a_standing a_schema a_schema_above a_schema_owners a_schema_kinds a_schema_targets a_question_numbers a_question_kinds a_question_inner a_question_next a_question_left a_question_right v_place_42 v_ledTo_42 v_question_nodeCount v_question_root v_question_asked v_question_mode v_question_text_length v_question_text_chars v_standing v_schema_classCount v_schema_fieldCount v_schema_above v_schema_owners v_schema_kinds v_schema_targets)) (va_runV (As := []) (rest := []) ⟨hx, hb, hml, hown, hts⟩ (c_Reader_peek l D G a_t a_question_text a_question_text_chars a_schema a_standing a_question v_place_42 v_ledTo_42 v_question_text_length v_question_text_chars o49 ho49 H.size) (cwV 0 hts (gV tw621 tw623 tp10 tw8 tw624) rfl rfl rfl (by decide +kernel) ⟨Nat.le_of_ble_eq_true rfl, Nat.le_of_ble_eq_true rfl⟩) (ob_preV (q0 := 0) (ci := 8) hZ hK hP hD [0, 2, 3] rfl rfl rfl rfl rfl) rfl rfl hl.1 rfl (lv_room (Nat.le_of_ble_eq_true rfl)) d_Reader_readPath_49 ⟨Nat.le_refl _, Nat.le_refl _⟩) hP hD hA hS [0, 2, 3] rfl rfl rfl rfl (fun H locs hP hD hS => ?_)
        refine lv_bipush (v := 46) hx hb d_Reader_readPath_52 (by decide) ?_
        refine lv_icmp_ne (tgt := 130) hx hb d_Reader_readPath_54 (by decide) (fun hc54 => ?_) (fun hc54 => ?_)
        · have hf := ob_f hc54 hf
          refine lv_iload_n hx hb d_Reader_readPath_130 rfl (lv_at hl 1 rfl) ?_
          exact hret (x42_2, v_place_42, v_ledTo_42) H locs _ ls hf hP hD hS rfl d_Reader_readPath_131
        · have hf := ob_t hc54 hf
          refine lv_aload_n hx hb d_Reader_readPath_57 rfl (lv_at hl 0 rfl) ?_
          refine lv_dup hx hb d_Reader_readPath_58 rfl ?_
          refine va_get (D := D) (ci := 8) (v := .int v_place_42) (C := "ObjectBase$Reader") (T := TC_Reader) (N := 6) hx hb hts inC_Reader hown hK hP 0 rfl rfl 4 (by decide) (hts _ tw179) (fun _ h9 => h9) rfl d_Reader_readPath_59 ?_
          refine lv_iconst (v := 1) hx hb d_Reader_readPath_62 (by decide) ?_
          refine lv_iadd hx hb d_Reader_readPath_63 ?_
          refine va_put (D := D) (ci := 8) (v := .int (v_place_42 + 1)) (ty := .int) (C := "ObjectBase$Reader") (T := TC_Reader) (N := 6) hx hb hts inC_Reader tyC_Reader tyC_Reader_ok nmC_Reader hown hK hP hD hS 0 rfl rfl 4 (by decide) (hts _ tw179) (fun _ h9 => h9) rfl (by decide +kernel) rfl rfl (Nat.le_of_ble_eq_true rfl) d_Reader_readPath_64 (fun H locs hP hD hS => ?_)
          have hP : va_P D vwCl (cw_Reader_readPath G a_t a_question a_question_text a_question_text_chars a_standing a_schema a_schema_above a_schema_owners a_schema_kinds a_schema_targets a_question_numbers a_question_kinds a_question_inner a_question_next a_question_left a_question_right (v_place_42 + 1) v_ledTo_42 v_question_nodeCount v_question_root v_question_asked v_question_mode v_question_text_length v_question_text_chars v_standing v_schema_classCount v_schema_fieldCount v_schema_above v_schema_owners v_schema_kinds v_schema_targets) H := hP
          have hD : va_D A (cw_Reader_readPath G a_t a_question a_question_text a_question_text_chars a_standing a_schema a_schema_above a_schema_owners a_schema_kinds a_schema_targets a_question_numbers a_question_kinds a_question_inner a_question_next a_question_left a_question_right (v_place_42 + 1) v_ledTo_42 v_question_nodeCount v_question_root v_question_asked v_question_mode v_question_text_length v_question_text_chars v_standing v_schema_classCount v_schema_fieldCount v_schema_above v_schema_owners v_schema_kinds v_schema_targets) := hD
          refine lv_aload_n hx hb d_Reader_readPath_67 rfl (lv_at hl 0 rfl) ?_
          obtain ⟨o68, ho68, hf⟩ := ob_b hf
          refine ob_calli (w2 := (cw_Reader_readPath G a_t a_question a_question_text a_question_text_chars a_standing a_schema a_schema_above a_schema_owners a_schema_kinds a_schema_targets a_question_numbers a_question_kinds a_question_inner a_question_next a_question_left a_question_right o68.2 v_ledTo_42 v_question_nodeCount v_question_root v_question_asked v_question_mode v_question_text_length v_question_text_chars v_standing v_schema_classCount v_schema_fieldCount v_schema_above v_schema_owners v_schema_kinds v_schema_targets)) (va_runV (As := []) (rest := []) ⟨hx, hb, hml, hown, hts⟩ (c_Reader_take l D G a_t a_question_text a_question_text_chars a_schema a_standing a_question (v_place_42 + 1) v_ledTo_42 v_question_text_length v_question_text_chars o68 ho68 H.size) (cwV 0 hts (gV tw617 tw619 tp9 tw8 tw620) rfl rfl rfl (by decide +kernel) ⟨Nat.le_of_ble_eq_true rfl, Nat.le_of_ble_eq_true rfl⟩) (ob_preV (q0 := 0) (ci := 8) hZ hK hP hD [0, 2, 3] rfl rfl rfl rfl rfl) rfl rfl hl.1 rfl (lv_room (Nat.le_of_ble_eq_true rfl)) d_Reader_readPath_68 ⟨Nat.le_refl _, Nat.le_refl _⟩) hP hD hA hS [0, 2, 3] rfl rfl rfl rfl (fun H locs hP hD hS => ?_)
          refine lv_bipush (v := 97) hx hb d_Reader_readPath_71 (by decide) ?_
          refine lv_isub hx hb d_Reader_readPath_73 ?_
          refine lv_istore (lv' := [(4, .int (o68.1 - 97)), (0, .ref a_t), (2, .int x42_2), (3, .int x42_3)]) hx hb d_Reader_readPath_74 hl (by decide) rfl (fun ls hl => ?_)
          refine lv_iload_n hx hb d_Reader_readPath_76 rfl (lv_at hl 2 rfl) ?_
          refine lv_iconst (v := 1) hx hb d_Reader_readPath_77 (by decide) ?_
          refine lv_icmp_ne (tgt := 97) hx hb d_Reader_readPath_78 (by decide) (fun hc78 => ?_) (fun hc78 => ?_)
          · have hf := ob_f hc78 hf
            refine lv_iconst (v := (-1)) hx hb d_Reader_readPath_97 (by decide) ?_
            exact hret ((-1), o68.2, v_ledTo_42) H locs _ ls hf hP hD hS rfl d_Reader_readPath_98
          · have hf := ob_t hc78 hf
            refine lv_aload_n hx hb d_Reader_readPath_81 rfl (lv_at hl 1 rfl) ?_
            refine va_get (D := D) (ci := 8) (v := .ref a_schema) (C := "ObjectBase$Reader") (T := TC_Reader) (N := 6) hx hb hts inC_Reader hown hK hP 0 rfl rfl 0 (by decide) (hts _ tw175) (fun _ h9 => h9) rfl d_Reader_readPath_82 ?_
            refine lv_aload_n hx hb d_Reader_readPath_85 rfl (lv_at hl 1 rfl) ?_
            refine va_get (D := D) (ci := 8) (v := .int v_ledTo_42) (C := "ObjectBase$Reader") (T := TC_Reader) (N := 6) hx hb hts inC_Reader hown hK hP 0 rfl rfl 5 (by decide) (hts _ tw180) (fun _ h9 => h9) rfl d_Reader_readPath_86 ?_
            refine lv_iload hx hb d_Reader_readPath_89 (lv_at hl 0 rfl) ?_
            obtain ⟨o91, ho91, hf⟩ := ob_b hf
            refine ob_calli (w2 := (cw_Reader_readPath G a_t a_question a_question_text a_question_text_chars a_standing a_schema a_schema_above a_schema_owners a_schema_kinds a_schema_targets a_question_numbers a_question_kinds a_question_inner a_question_next a_question_left a_question_right o68.2 v_ledTo_42 v_question_nodeCount v_question_root v_question_asked v_question_mode v_question_text_length v_question_text_chars v_standing v_schema_classCount v_schema_fieldCount v_schema_above v_schema_owners v_schema_kinds v_schema_targets)) (va_runV (As := [.int v_ledTo_42, .int (o68.1 - 97)]) (rest := []) ⟨hx, hb, hml, hown, hts⟩ (c_Schema_hasField l D G a_schema a_schema_above a_schema_owners a_schema_kinds a_schema_targets v_schema_classCount v_schema_fieldCount v_schema_above v_schema_owners v_ledTo_42 (o68.1 - 97) o91 ho91 H.size) (cwV 2 hts (gV tw625 tw305 tw306 tw2 tw307) rfl rfl rfl (by decide +kernel) ⟨Nat.le_of_ble_eq_true rfl, Nat.le_of_ble_eq_true rfl⟩) (ob_preV (q0 := 5) (ci := 1) hZ hK hP hD [5, 6, 7] rfl rfl rfl rfl rfl) rfl rfl hl.1 rfl (lv_room (Nat.le_of_ble_eq_true rfl)) d_Reader_readPath_91 ⟨Nat.le_refl _, Nat.le_refl _⟩) hP hD hA hS [5, 6, 7] rfl rfl rfl rfl (fun H locs hP hD hS => ?_)
            refine lv_if_ne (tgt := 99) hx hb d_Reader_readPath_94 (by decide) (fun hc94 => ?_) (fun hc94 => ?_)
            · have hf := ob_f hc94 hf
              refine lv_aload_n hx hb d_Reader_readPath_99 rfl (lv_at hl 1 rfl) ?_
              refine va_get (D := D) (ci := 8) (v := .ref a_schema) (C := "ObjectBase$Reader") (T := TC_Reader) (N := 6) hx hb hts inC_Reader hown hK hP 0 rfl rfl 0 (by decide) (hts _ tw175) (fun _ h9 => h9) rfl d_Reader_readPath_100 ?_
              refine va_get (D := D) (ci := 1) (v := .ref a_schema_kinds) (C := "ObjectBase$Schema") (T := TC_Schema) (N := 6) hx hb hts inC_Schema hown hK hP 5 rfl rfl 2 (by decide) (hts _ tw33) (fun _ h9 => h9) rfl d_Reader_readPath_103 ?_
              refine lv_iload hx hb d_Reader_readPath_106 (lv_at hl 0 rfl) ?_
              obtain ⟨hg108, hf⟩ := ob_iv_g hf
              refine va_iald hx hb hK hP 8 0 rfl rfl hg108 d_Reader_readPath_108 ?_
              refine lv_istore_n (lv' := [(2, .int (v_schema_kinds (o68.1 - 97).toNatClampNeg)), (4, .int (o68.1 - 97)), (0, .ref a_t), (3, .int x42_3)]) hx hb d_Reader_readPath_109 rfl hl (by decide) rfl (fun ls hl => ?_)
              refine lv_aload_n hx hb d_Reader_readPath_110 rfl (lv_at hl 2 rfl) ?_
              refine lv_aload_n hx hb d_Reader_readPath_111 rfl (lv_at hl 2 rfl) ?_
              refine va_get (D := D) (ci := 8) (v := .ref a_schema) (C := "ObjectBase$Reader") (T := TC_Reader) (N := 6) hx hb hts inC_Reader hown hK hP 0 rfl rfl 0 (by decide) (hts _ tw175) (fun _ h9 => h9) rfl d_Reader_readPath_112 ?_
              refine va_get (D := D) (ci := 1) (v := .ref a_schema_targets) (C := "ObjectBase$Schema") (T := TC_Schema) (N := 6) hx hb hts inC_Schema hown hK hP 5 rfl rfl 3 (by decide) (hts _ tw36) (fun _ h9 => h9) rfl d_Reader_readPath_115 ?_
              refine lv_iload hx hb d_Reader_readPath_118 (lv_at hl 1 rfl) ?_
              obtain ⟨hg120, hf⟩ := ob_iv_g hf
              refine va_iald hx hb hK hP 9 0 rfl rfl hg120 d_Reader_readPath_120 ?_
              refine va_put (D := D) (ci := 8) (v := .int (v_schema_targets (o68.1 - 97).toNatClampNeg)) (ty := .int) (C := "ObjectBase$Reader") (T := TC_Reader) (N := 6) hx hb hts inC_Reader tyC_Reader tyC_Reader_ok nmC_Reader hown hK hP hD hS 0 rfl rfl 5 (by decide) (hts _ tw180) (fun _ h9 => h9) rfl (by decide +kernel) rfl rfl (Nat.le_of_ble_eq_true rfl) d_Reader_readPath_121 (fun H locs hP hD hS => ?_)
              have hP : va_P D vwCl (cw_Reader_readPath G a_t a_question a_question_text a_question_text_chars a_standing a_schema a_schema_above a_schema_owners a_schema_kinds a_schema_targets a_question_numbers a_question_kinds a_question_inner a_question_next a_question_left a_question_right o68.2 (v_schema_targets (o68.1 - 97).toNatClampNeg) v_question_nodeCount v_question_root v_question_asked v_question_mode v_question_text_length v_question_text_chars v_standing v_schema_classCount v_schema_fieldCount v_schema_above v_schema_owners v_schema_kinds v_schema_targets) H := hP
              have hD : va_D A (cw_Reader_readPath G a_t a_question a_question_text a_question_text_chars a_standing a_schema a_schema_above a_schema_owners a_schema_kinds a_schema_targets a_question_numbers a_question_kinds a_question_inner a_question_next a_question_left a_question_right o68.2 (v_schema_targets (o68.1 - 97).toNatClampNeg) v_question_nodeCount v_question_root v_question_asked v_question_mode v_question_text_length v_question_text_chars v_standing v_schema_classCount v_schema_fieldCount v_schema_above v_schema_owners v_schema_kinds v_schema_targets) := hD
              refine lv_iinc (k := 3) (v := x42_3 + 1) (lv' := [(3, .int (x42_3 + 1)), (2, .int (v_schema_kinds (o68.1 - 97).toNatClampNeg)), (4, .int (o68.1 - 97)), (0, .ref a_t)]) hx hb d_Reader_readPath_124 hl rfl (by rw [show Int32.ofInt 1 = (1 : Int32) from by decide]) (by decide) rfl (fun ls hl => ?_)
              refine lv_goto (tgt := 42) hx hb d_Reader_readPath_127 (by decide) ?_
              exact ih42 (v_schema_kinds (o68.1 - 97).toNatClampNeg) (x42_3 + 1) o68.2 (v_schema_targets (o68.1 - 97).toNatClampNeg) ls H locs (lv_sub hl [3, 1, 0] rfl) hP hD hS hf
            · have hf := ob_t hc94 hf
              refine lv_iconst (v := (-1)) hx hb d_Reader_readPath_97 (by decide) ?_
              exact hret ((-1), o68.2, v_ledTo_42) H locs _ ls hf hP hD hS rfl d_Reader_readPath_98
  refine lv_aload_n hx hb d_Reader_readPath_0 rfl (lv_at hl 0 rfl) ?_
  obtain ⟨o1, ho1, hf⟩ := ob_b hf
  refine ob_calli (w2 := (cw_Reader_readPath G a_t a_question a_question_text a_question_text_chars a_standing a_schema a_schema_above a_schema_owners a_schema_kinds a_schema_targets a_question_numbers a_question_kinds a_question_inner a_question_next a_question_left a_question_right o1.2 v_ledTo v_question_nodeCount v_question_root v_question_asked v_question_mode v_question_text_length v_question_text_chars v_standing v_schema_classCount v_schema_fieldCount v_schema_above v_schema_owners v_schema_kinds v_schema_targets)) (va_runV (As := []) (rest := []) ⟨hx, hb, hml, hown, hts⟩ (c_Reader_take l D G a_t a_question_text a_question_text_chars a_schema a_standing a_question v_place v_ledTo v_question_text_length v_question_text_chars o1 ho1 H.size) (cwV 0 hts (gV tw617 tw619 tp9 tw8 tw620) rfl rfl rfl (by decide +kernel) ⟨Nat.le_of_ble_eq_true rfl, Nat.le_of_ble_eq_true rfl⟩) (ob_preV (q0 := 0) (ci := 8) hZ hK hP hD [0, 2, 3] rfl rfl rfl rfl rfl) rfl rfl hl.1 rfl (lv_room (Nat.le_of_ble_eq_true rfl)) d_Reader_readPath_1 ⟨Nat.le_refl _, Nat.le_refl _⟩) hP hD hA hS [0, 2, 3] rfl rfl rfl rfl (fun H locs hP hD hS => ?_)
  refine lv_bipush (v := 120) hx hb d_Reader_readPath_4 (by decide) ?_
  refine lv_isub hx hb d_Reader_readPath_6 ?_
  refine lv_istore_n (lv' := [(1, .int (o1.1 - 120)), (0, .ref a_t)]) hx hb d_Reader_readPath_7 rfl hl (by decide) rfl (fun ls hl => ?_)
  refine lv_iload_n hx hb d_Reader_readPath_8 rfl (lv_at hl 0 rfl) ?_
  refine lv_if_lt (tgt := 26) hx hb d_Reader_readPath_9 (by decide) (fun hc9 => ?_) (fun hc9 => ?_)
  · have hf := ob_t hc9 hf
    refine lv_iconst (v := (-1)) hx hb d_Reader_readPath_26 (by decide) ?_
    exact hret ((-1), o1.2, v_ledTo) H locs _ ls hf hP hD hS rfl d_Reader_readPath_27
  · have hf := ob_f hc9 hf
    refine lv_iload_n hx hb d_Reader_readPath_12 rfl (lv_at hl 0 rfl) ?_
    refine lv_iconst (v := 3) hx hb d_Reader_readPath_13 (by decide) ?_
    refine lv_icmp_ge (tgt := 26) hx hb d_Reader_readPath_14 (by decide) (fun hc14 => ?_) (fun hc14 => ?_)
    · have hf := ob_t hc14 hf
      refine lv_iconst (v := (-1)) hx hb d_Reader_readPath_26 (by decide) ?_
      exact hret ((-1), o1.2, v_ledTo) H locs _ ls hf hP hD hS rfl d_Reader_readPath_27
    · have hf := ob_f hc14 hf
      refine lv_aload_n hx hb d_Reader_readPath_17 rfl (lv_at hl 1 rfl) ?_
      refine va_get (D := D) (ci := 8) (v := .ref a_standing) (C := "ObjectBase$Reader") (T := TC_Reader) (N := 6) hx hb hts inC_Reader hown hK hP 0 rfl rfl 1 (by decide) (hts _ tw176) (fun _ h9 => h9) rfl d_Reader_readPath_18 ?_
      refine lv_iload_n hx hb d_Reader_readPath_21 rfl (lv_at hl 0 rfl) ?_
      obtain ⟨hg22, hf⟩ := ob_iv_g hf
      refine va_iald hx hb hK hP 4 0 rfl rfl hg22 d_Reader_readPath_22 ?_
      refine lv_if_ne (tgt := 28) hx hb d_Reader_readPath_23 (by decide) (fun hc23 => ?_) (fun hc23 => ?_)
      · have hf := ob_f hc23 hf
        refine lv_aload_n hx hb d_Reader_readPath_28 rfl (lv_at hl 1 rfl) ?_
        refine lv_aload_n hx hb d_Reader_readPath_29 rfl (lv_at hl 1 rfl) ?_
        refine va_get (D := D) (ci := 8) (v := .ref a_standing) (C := "ObjectBase$Reader") (T := TC_Reader) (N := 6) hx hb hts inC_Reader hown hK hP 0 rfl rfl 1 (by decide) (hts _ tw176) (fun _ h9 => h9) rfl d_Reader_readPath_30 ?_
        refine lv_iload_n hx hb d_Reader_readPath_33 rfl (lv_at hl 0 rfl) ?_
        obtain ⟨hg34, hf⟩ := ob_iv_g hf
        refine va_iald hx hb hK hP 4 0 rfl rfl hg34 d_Reader_readPath_34 ?_
        refine va_put (D := D) (ci := 8) (v := .int (v_standing (o1.1 - 120).toNatClampNeg)) (ty := .int) (C := "ObjectBase$Reader") (T := TC_Reader) (N := 6) hx hb hts inC_Reader tyC_Reader tyC_Reader_ok nmC_Reader hown hK hP hD hS 0 rfl rfl 5 (by decide) (hts _ tw180) (fun _ h9 => h9) rfl (by decide +kernel) rfl rfl (Nat.le_of_ble_eq_true rfl) d_Reader_readPath_35 (fun H locs hP hD hS => ?_)
        have hP : va_P D vwCl (cw_Reader_readPath G a_t a_question a_question_text a_question_text_chars a_standing a_schema a_schema_above a_schema_owners a_schema_kinds a_schema_targets a_question_numbers a_question_kinds a_question_inner a_question_next a_question_left a_question_right o1.2 (v_standing (o1.1 - 120).toNatClampNeg) v_question_nodeCount v_question_root v_question_asked v_question_mode v_question_text_length v_question_text_chars v_standing v_schema_classCount v_schema_fieldCount v_schema_above v_schema_owners v_schema_kinds v_schema_targets) H := hP
        have hD : va_D A (cw_Reader_readPath G a_t a_question a_question_text a_question_text_chars a_standing a_schema a_schema_above a_schema_owners a_schema_kinds a_schema_targets a_question_numbers a_question_kinds a_question_inner a_question_next a_question_left a_question_right o1.2 (v_standing (o1.1 - 120).toNatClampNeg) v_question_nodeCount v_question_root v_question_asked v_question_mode v_question_text_length v_question_text_chars v_standing v_schema_classCount v_schema_fieldCount v_schema_above v_schema_owners v_schema_kinds v_schema_targets) := hD
        refine lv_iconst (v := 1) hx hb d_Reader_readPath_38 (by decide) ?_
        refine lv_istore_n (lv' := [(2, .int 1), (1, .int (o1.1 - 120)), (0, .ref a_t)]) hx hb d_Reader_readPath_39 rfl hl (by decide) rfl (fun ls hl => ?_)
        refine lv_iconst (v := 0) hx hb d_Reader_readPath_40 (by decide) ?_
        refine lv_istore_n (lv' := [(3, .int 0), (2, .int 1), (1, .int (o1.1 - 120)), (0, .ref a_t)]) hx hb d_Reader_readPath_41 rfl hl (by decide) rfl (fun ls hl => ?_)
        exact loop42 1000 1 0 o1.2 (v_standing (o1.1 - 120).toNatClampNeg) ls H locs (lv_sub hl [3, 1, 0] rfl) hP hD hS hf
      · have hf := ob_t hc23 hf
        refine lv_iconst (v := (-1)) hx hb d_Reader_readPath_26 (by decide) ?_
        exact hret ((-1), o1.2, v_ledTo) H locs _ ls hf hP hD hS rfl d_Reader_readPath_27
abbrev bc_Judge_init : ByteArray := prog_7_method_1_code
abbrev y_Judge_init : MethodName := ⟨"ObjectBase$Judge", "<init>", "(LObjectBase$Image;)V"⟩
def ws_Judge_init : List Cond := .code y_Judge_init bc_Judge_init 2 none :: obW
theorem d_Judge_init_0 : decode bc_Judge_init 0 = .ok (.aload_n 0, 1) := by decide +kernel
theorem d_Judge_init_1 : decode bc_Judge_init 1 = .ok (.invokespecial 3, 3) := by decide +kernel
theorem d_Judge_init_4 : decode bc_Judge_init 4 = .ok (.aload_n 0, 1) := by decide +kernel
theorem d_Judge_init_5 : decode bc_Judge_init 5 = .ok (.iconst 3, 1) := by decide +kernel
theorem d_Judge_init_6 : decode bc_Judge_init 6 = .ok (.newarray .int, 2) := by decide +kernel
theorem d_Judge_init_8 : decode bc_Judge_init 8 = .ok (.putfield 9, 3) := by decide +kernel
theorem d_Judge_init_11 : decode bc_Judge_init 11 = .ok (.aload_n 0, 1) := by decide +kernel
theorem d_Judge_init_12 : decode bc_Judge_init 12 = .ok (.aload_n 1, 1) := by decide +kernel
theorem d_Judge_init_13 : decode bc_Judge_init 13 = .ok (.putfield 15, 3) := by decide +kernel
theorem d_Judge_init_16 : decode bc_Judge_init 16 = .ok (.return_, 1) := by decide +kernel
def nw_Judge (G : Nat → ClassId) (a_t : Nat) (a_p1 : Nat) (b0 : Nat) : va_W := [(a_t, .inr (9, [.ref a_p1, .ref b0, .null])), (b0, .inl (G 0, 3, .inl (fun _ => 0)))]
set_option maxHeartbeats 4000000 in
set_option maxRecDepth 100000 in
theorem n_Judge (l : Launch) (D : va_G) (G : Nat → ClassId) (a_t : Nat) (a_p1 : Nat) (sz : Nat) : Met l y_Judge_init ws_Judge_init ({ frames := 1, cells := 1, slots := 3, locals := 12 }) (ObPre D (obT G) [(a_t, .inr (9, [.null, .null, .null]))] sz [.ref a_t, .ref a_p1]) (va_Qv (S := Nat) (fun _ => True) (fun u t => ObAt D (obT G) (nw_Judge G a_t a_p1 u) (va_A [(a_t, .inr (9, [.null, .null, .null]))] sz) t) (va_A [(a_t, .inr (9, [.null, .null, .null]))] sz)) 1 3 (va_A [(a_t, .inr (9, [.null, .null, .null]))] sz) := by
  refine ob_of (cc := bc_Judge_init) (maxL := 2) (ret := none) (Qc := fun A => va_Qv (S := Nat) (fun _ => True) (fun u t => ObAt D (obT G) (nw_Judge G a_t a_p1 u) A t) A) (by decide) rfl (Nat.le_of_ble_eq_true rfl) ?_
  intro p e s m below meth c A ls H locs hx hb hr hml hts hown hlk hnm hZ hP hK hD hA hS hl
  have hin : meth.name = "<init>" := hnm
  have hl : lv_has ls 2 [(0, .ref a_t), (1, .ref a_p1)] := hl
  refine lv_aload_n hx hb d_Judge_init_0 rfl (lv_at hl 0 rfl) ?_
  refine W.objInit hx hb hown (hts _ tw199) (hts _ tw21) (hts _ tw22) rfl (by rw [hml]; exact hl.1) rfl d_Judge_init_1 (Nat.le_of_ble_eq_true rfl) (Nat.le_of_ble_eq_true rfl) ?_
  refine W.eq (g2 := F0 m 4 ls []) rfl ?_
  refine lv_aload_n hx hb d_Judge_init_4 rfl (lv_at hl 0 rfl) ?_
  refine lv_iconst (v := 3) hx hb d_Judge_init_5 (by decide) ?_
  refine ob_newa (atype := .int) (N' := 3) (a0 := (3, .inl (fun _ => 0))) hx hb (hts _ tw56) rfl hK 0 rfl hP hD hS hA (fun _ => rfl) (by decide) (by decide) (by decide) (Nat.le_of_ble_eq_true rfl) (Nat.le_of_ble_eq_true rfl) d_Judge_init_6 (fun q6 H hP hD hS => ?_)
  refine W.cs (cells' := 1) (slots' := 3) rfl rfl ?_
  have hP : va_P D vwCl [(a_t, .inr (9, [.null, .null, .null])), (q6, .inl (G 0, 3, .inl (fun _ => 0)))] H := hP
  have hD : va_D A [(a_t, .inr (9, [.null, .null, .null])), (q6, .inl (G 0, 3, .inl (fun _ => 0)))] := hD
  refine va_putF (D := D) (ci := 9) (v := .ref q6) (ty := .array .int) (C := "ObjectBase$Judge") (T := TC_Judge) (N := 3) hx hb hts inC_Judge tyC_Judge tyC_Judge_ok nmC_Judge hown hK hP hD hS 0 rfl rfl 1 (by decide) (hts _ tw201) (fun _ h9 => h9) rfl hin rfl (by decide +kernel) rfl rfl (Nat.le_of_ble_eq_true rfl) d_Judge_init_8 (fun H locs hP hD hS => ?_)
  have hP : va_P D vwCl [(a_t, .inr (9, [.null, .ref q6, .null])), (q6, .inl (G 0, 3, .inl (fun _ => 0)))] H := hP
  have hD : va_D A [(a_t, .inr (9, [.null, .ref q6, .null])), (q6, .inl (G 0, 3, .inl (fun _ => 0)))] := hD
  refine lv_aload_n hx hb d_Judge_init_11 rfl (lv_at hl 0 rfl) ?_
  refine lv_aload_n hx hb d_Judge_init_12 rfl (lv_at hl 1 rfl) ?_
  refine va_putF (D := D) (ci := 9) (v := .ref a_p1) (ty := .object "ObjectBase$Image") (C := "ObjectBase$Judge") (T := TC_Judge) (N := 3) hx hb hts inC_Judge tyC_Judge tyC_Judge_ok nmC_Judge hown hK hP hD hS 0 rfl rfl 0 (by decide) (hts _ tw200) (fun _ h9 => h9) rfl hin rfl (by decide +kernel) rfl rfl (Nat.le_of_ble_eq_true rfl) d_Judge_init_13 (fun H locs hP hD hS => ?_)
  have hP : va_P D vwCl [(a_t, .inr (9, [.ref a_p1, .ref q6, .null])), (q6, .inl (G 0, 3, .inl (fun _ => 0)))] H := hP
  have hD : va_D A [(a_t, .inr (9, [.ref a_p1, .ref q6, .null])), (q6, .inl (G 0, 3, .inl (fun _ => 0)))] := hD
  exact W.vret hx hb hr (fun t ht hW => ⟨⟨q6, rfl, trivial, by rw [ht]; exact hP, va_K.moved hW.alike hK, hD⟩, hS.F ht⟩) hS.2.2 d_Judge_init_16 hlk
abbrev bc_Judge_turnTo : ByteArray := prog_7_method_2_code
abbrev y_Judge_turnTo : MethodName := ⟨"ObjectBase$Judge", "turnTo", "(LObjectBase$Question;I)V"⟩
def ws_Judge_turnTo : List Cond := .code y_Judge_turnTo bc_Judge_turnTo 3 none :: obW
theorem d_Judge_turnTo_0 : decode bc_Judge_turnTo 0 = .ok (.aload_n 0, 1) := by decide +kernel
theorem d_Judge_turnTo_1 : decode bc_Judge_turnTo 1 = .ok (.aload_n 1, 1) := by decide +kernel
theorem d_Judge_turnTo_2 : decode bc_Judge_turnTo 2 = .ok (.putfield 19, 3) := by decide +kernel
theorem d_Judge_turnTo_5 : decode bc_Judge_turnTo 5 = .ok (.aload_n 0, 1) := by decide +kernel
theorem d_Judge_turnTo_6 : decode bc_Judge_turnTo 6 = .ok (.getfield 9, 3) := by decide +kernel
theorem d_Judge_turnTo_9 : decode bc_Judge_turnTo 9 = .ok (.iconst 0, 1) := by decide +kernel
theorem d_Judge_turnTo_10 : decode bc_Judge_turnTo 10 = .ok (.iload_n 2, 1) := by decide +kernel
theorem d_Judge_turnTo_11 : decode bc_Judge_turnTo 11 = .ok (.iastore, 1) := by decide +kernel
theorem d_Judge_turnTo_12 : decode bc_Judge_turnTo 12 = .ok (.return_, 1) := by decide +kernel
def cw_Judge_turnTo (G : Nat → ClassId) (a_t a_bound a_image a_p1 : Nat) (v_question : Value) (v_bound : Nat → Int32) : va_W := [(a_t, .inr (9, [.ref a_image, .ref a_bound, v_question])), (a_bound, .inl (G 0, 3, .inl v_bound))]
def f_Judge_turnTo (v_bound : Nat → Int32) (p2 : Int32) : Option ((Nat → Int32)) := ob_iv 0 3 (some (upd v_bound (0 : Int32).toNatClampNeg p2))
set_option maxHeartbeats 4000000 in
set_option maxRecDepth 100000 in
theorem c_Judge_turnTo (l : Launch) (D : va_G) (G : Nat → ClassId) (a_t a_bound a_image a_p1 : Nat) (v_question : Value) (v_bound : Nat → Int32) (p2 : Int32) (o : (Nat → Int32)) (hf : f_Judge_turnTo v_bound p2 = some o) (sz : Nat) : MetV l y_Judge_turnTo ws_Judge_turnTo ({ frames := 0, cells := 0, slots := 0, locals := 0 }) D (obT G) (cw_Judge_turnTo G a_t a_bound a_image a_p1 v_question v_bound) (cw_Judge_turnTo G a_t a_bound a_image a_p1 (.ref a_p1) o) [.ref a_t, .ref a_p1, .int p2] sz := by
  refine ob_of (cc := bc_Judge_turnTo) (maxL := 3) (ret := none) (Qc := ObQv D (obT G) (cw_Judge_turnTo G a_t a_bound a_image a_p1 (.ref a_p1) o)) (by decide) rfl (Nat.le_of_ble_eq_true rfl) ?_
  intro p e s m below meth c A ls H locs hx hb hr hml hts hown hlk hnm hZ hP hK hD hA hS hl
  have hret : ∀ (o' : (Nat → Int32)) (H : Heap) (locs : List Loc) (pc : Nat) (ls : Array Slot), some o' = some o → va_P D vwCl (cw_Judge_turnTo G a_t a_bound a_image a_p1 (.ref a_p1) o') H → va_D A (cw_Judge_turnTo G a_t a_bound a_image a_p1 (.ref a_p1) o') → va_S A s.heap H locs → decode bc_Judge_turnTo pc = .ok (.return_, 1) → W p l e { frames := 0, cells := 0, slots := 0, locals := 0 } s m ([.ref a_t, .ref a_p1, .int p2] : List Value).toArray below meth c H locs 0 0 (MQ below (ObQv D (obT G) (cw_Judge_turnTo G a_t a_bound a_image a_p1 (.ref a_p1) o) A) ([.ref a_t, .ref a_p1, .int p2] : List Value).toArray s 0 0 A) (F0 m pc ls []) := by
    intro o' H locs pc ls he hP hD hS hd
    obtain rfl := Option.some.inj he
    exact ob_vret hx hb hr hlk hK hP hD hS hd
  generalize MQ below (ObQv D (obT G) (cw_Judge_turnTo G a_t a_bound a_image a_p1 (.ref a_p1) o) A) ([.ref a_t, .ref a_p1, .int p2] : List Value).toArray s 0 0 A = Q at hret ⊢
  have hl : lv_has ls 3 [(0, .ref a_t), (1, .ref a_p1), (2, .int p2)] := hl
  unfold f_Judge_turnTo at hf
  refine lv_aload_n hx hb d_Judge_turnTo_0 rfl (lv_at hl 0 rfl) ?_
  refine lv_aload_n hx hb d_Judge_turnTo_1 rfl (lv_at hl 1 rfl) ?_
  refine va_put (D := D) (ci := 9) (v := .ref a_p1) (ty := .object "ObjectBase$Question") (C := "ObjectBase$Judge") (T := TC_Judge) (N := 3) hx hb hts inC_Judge tyC_Judge tyC_Judge_ok nmC_Judge hown hK hP hD hS 0 rfl rfl 2 (by decide) (hts _ tw202) (fun _ h9 => h9) rfl (by decide +kernel) rfl rfl (Nat.le_of_ble_eq_true rfl) d_Judge_turnTo_2 (fun H locs hP hD hS => ?_)
  have hP : va_P D vwCl (cw_Judge_turnTo G a_t a_bound a_image a_p1 (.ref a_p1) v_bound) H := hP
  have hD : va_D A (cw_Judge_turnTo G a_t a_bound a_image a_p1 (.ref a_p1) v_bound) := hD
  refine lv_aload_n hx hb d_Judge_turnTo_5 rfl (lv_at hl 0 rfl) ?_
  refine va_get (D := D) (ci := 9) (v := .ref a_bound) (C := "ObjectBase$Judge") (T := TC_Judge) (N := 3) hx hb hts inC_Judge hown hK hP 0 rfl rfl 1 (by decide) (hts _ tw201) (fun _ h9 => h9) rfl d_Judge_turnTo_6 ?_
  refine lv_iconst (v := 0) hx hb d_Judge_turnTo_9 (by decide) ?_
  refine lv_iload_n hx hb d_Judge_turnTo_10 rfl (lv_at hl 2 rfl) ?_
  obtain ⟨hg11, hf⟩ := ob_iv_g hf
  refine va_iast hx hb hK hP hD hS 1 0 rfl rfl hg11 d_Judge_turnTo_11 (fun H locs hP hD hS => ?_)
  have hP : va_P D vwCl (cw_Judge_turnTo G a_t a_bound a_image a_p1 (.ref a_p1) (upd v_bound (0 : Int32).toNatClampNeg p2)) H := hP
  have hD : va_D A (cw_Judge_turnTo G a_t a_bound a_image a_p1 (.ref a_p1) (upd v_bound (0 : Int32).toNatClampNeg p2)) := hD
  exact hret (upd v_bound (0 : Int32).toNatClampNeg p2) H locs _ ls hf hP hD hS d_Judge_turnTo_12
abbrev bc_Judge_valueFrom : ByteArray := prog_7_method_11_code
abbrev y_Judge_valueFrom : MethodName := ⟨"ObjectBase$Judge", "valueFrom", "(I)J"⟩
def ws_Judge_valueFrom : List Cond := .code y_Judge_valueFrom bc_Judge_valueFrom 8 (some .long) :: obW
theorem d_Judge_valueFrom_0 : decode bc_Judge_valueFrom 0 = .ok (.aload_n 0, 1) := by decide +kernel
theorem d_Judge_valueFrom_1 : decode bc_Judge_valueFrom 1 = .ok (.getfield 19, 3) := by decide +kernel
theorem d_Judge_valueFrom_4 : decode bc_Judge_valueFrom 4 = .ok (.getfield 69, 3) := by decide +kernel
theorem d_Judge_valueFrom_7 : decode bc_Judge_valueFrom 7 = .ok (.iload_n 1, 1) := by decide +kernel
theorem d_Judge_valueFrom_8 : decode bc_Judge_valueFrom 8 = .ok (.invokevirtual 76, 3) := by decide +kernel
theorem d_Judge_valueFrom_11 : decode bc_Judge_valueFrom 11 = .ok (.istore_n 2, 1) := by decide +kernel
theorem d_Judge_valueFrom_12 : decode bc_Judge_valueFrom 12 = .ok (.iload_n 2, 1) := by decide +kernel
theorem d_Judge_valueFrom_13 : decode bc_Judge_valueFrom 13 = .ok (.bipush 110, 2) := by decide +kernel
theorem d_Judge_valueFrom_15 : decode bc_Judge_valueFrom 15 = .ok (.if_icmp .ne 5, 3) := by decide +kernel
theorem d_Judge_valueFrom_18 : decode bc_Judge_valueFrom 18 = .ok (.lconst 0, 1) := by decide +kernel
theorem d_Judge_valueFrom_19 : decode bc_Judge_valueFrom 19 = .ok (.lreturn, 1) := by decide +kernel
theorem d_Judge_valueFrom_20 : decode bc_Judge_valueFrom 20 = .ok (.iload_n 2, 1) := by decide +kernel
theorem d_Judge_valueFrom_21 : decode bc_Judge_valueFrom 21 = .ok (.bipush 120, 2) := by decide +kernel
theorem d_Judge_valueFrom_23 : decode bc_Judge_valueFrom 23 = .ok (.isub, 1) := by decide +kernel
theorem d_Judge_valueFrom_24 : decode bc_Judge_valueFrom 24 = .ok (.istore_n 3, 1) := by decide +kernel
theorem d_Judge_valueFrom_25 : decode bc_Judge_valueFrom 25 = .ok (.iload_n 3, 1) := by decide +kernel
theorem d_Judge_valueFrom_26 : decode bc_Judge_valueFrom 26 = .ok (.ifCond .lt 8, 3) := by decide +kernel
theorem d_Judge_valueFrom_29 : decode bc_Judge_valueFrom 29 = .ok (.iload_n 3, 1) := by decide +kernel
theorem d_Judge_valueFrom_30 : decode bc_Judge_valueFrom 30 = .ok (.iconst 3, 1) := by decide +kernel
theorem d_Judge_valueFrom_31 : decode bc_Judge_valueFrom 31 = .ok (.if_icmp .lt 14, 3) := by decide +kernel
theorem d_Judge_valueFrom_34 : decode bc_Judge_valueFrom 34 = .ok (.aload_n 0, 1) := by decide +kernel
theorem d_Judge_valueFrom_35 : decode bc_Judge_valueFrom 35 = .ok (.getfield 19, 3) := by decide +kernel
theorem d_Judge_valueFrom_38 : decode bc_Judge_valueFrom 38 = .ok (.getfield 86, 3) := by decide +kernel
theorem d_Judge_valueFrom_41 : decode bc_Judge_valueFrom 41 = .ok (.iload_n 1, 1) := by decide +kernel
theorem d_Judge_valueFrom_42 : decode bc_Judge_valueFrom 42 = .ok (.iaload, 1) := by decide +kernel
theorem d_Judge_valueFrom_43 : decode bc_Judge_valueFrom 43 = .ok (.i2l, 1) := by decide +kernel
theorem d_Judge_valueFrom_44 : decode bc_Judge_valueFrom 44 = .ok (.lreturn, 1) := by decide +kernel
theorem d_Judge_valueFrom_45 : decode bc_Judge_valueFrom 45 = .ok (.aload_n 0, 1) := by decide +kernel
theorem d_Judge_valueFrom_46 : decode bc_Judge_valueFrom 46 = .ok (.getfield 9, 3) := by decide +kernel
theorem d_Judge_valueFrom_49 : decode bc_Judge_valueFrom 49 = .ok (.iload_n 3, 1) := by decide +kernel
theorem d_Judge_valueFrom_50 : decode bc_Judge_valueFrom 50 = .ok (.iaload, 1) := by decide +kernel
theorem d_Judge_valueFrom_51 : decode bc_Judge_valueFrom 51 = .ok (.i2l, 1) := by decide +kernel
theorem d_Judge_valueFrom_52 : decode bc_Judge_valueFrom 52 = .ok (.lstore 4, 2) := by decide +kernel
theorem d_Judge_valueFrom_54 : decode bc_Judge_valueFrom 54 = .ok (.iload_n 1, 1) := by decide +kernel
theorem d_Judge_valueFrom_55 : decode bc_Judge_valueFrom 55 = .ok (.iconst 1, 1) := by decide +kernel
theorem d_Judge_valueFrom_56 : decode bc_Judge_valueFrom 56 = .ok (.iadd, 1) := by decide +kernel
theorem d_Judge_valueFrom_57 : decode bc_Judge_valueFrom 57 = .ok (.istore 6, 2) := by decide +kernel
theorem d_Judge_valueFrom_59 : decode bc_Judge_valueFrom 59 = .ok (.iconst 0, 1) := by decide +kernel
theorem d_Judge_valueFrom_60 : decode bc_Judge_valueFrom 60 = .ok (.istore 7, 2) := by decide +kernel
theorem d_Judge_valueFrom_62 : decode bc_Judge_valueFrom 62 = .ok (.iload 7, 2) := by decide +kernel
theorem d_Judge_valueFrom_64 : decode bc_Judge_valueFrom 64 = .ok (.bipush 60, 2) := by decide +kernel
theorem d_Judge_valueFrom_66 : decode bc_Judge_valueFrom 66 = .ok (.if_icmp .ge 69, 3) := by decide +kernel
theorem d_Judge_valueFrom_69 : decode bc_Judge_valueFrom 69 = .ok (.aload_n 0, 1) := by decide +kernel
theorem d_Judge_valueFrom_70 : decode bc_Judge_valueFrom 70 = .ok (.getfield 19, 3) := by decide +kernel
theorem d_Judge_valueFrom_73 : decode bc_Judge_valueFrom 73 = .ok (.getfield 69, 3) := by decide +kernel
theorem d_Judge_valueFrom_76 : decode bc_Judge_valueFrom 76 = .ok (.iload 6, 2) := by decide +kernel
theorem d_Judge_valueFrom_78 : decode bc_Judge_valueFrom 78 = .ok (.invokevirtual 76, 3) := by decide +kernel
theorem d_Judge_valueFrom_81 : decode bc_Judge_valueFrom 81 = .ok (.bipush 46, 2) := by decide +kernel
theorem d_Judge_valueFrom_83 : decode bc_Judge_valueFrom 83 = .ok (.if_icmp .ne 52, 3) := by decide +kernel
theorem d_Judge_valueFrom_86 : decode bc_Judge_valueFrom 86 = .ok (.lload 4, 2) := by decide +kernel
theorem d_Judge_valueFrom_88 : decode bc_Judge_valueFrom 88 = .ok (.lconst 0, 1) := by decide +kernel
theorem d_Judge_valueFrom_89 : decode bc_Judge_valueFrom 89 = .ok (.lcmp, 1) := by decide +kernel
theorem d_Judge_valueFrom_90 : decode bc_Judge_valueFrom 90 = .ok (.ifCond .ne 7, 3) := by decide +kernel
theorem d_Judge_valueFrom_93 : decode bc_Judge_valueFrom 93 = .ok (.ldc2_w 45, 3) := by decide +kernel
theorem d_Judge_valueFrom_96 : decode bc_Judge_valueFrom 96 = .ok (.lreturn, 1) := by decide +kernel
theorem d_Judge_valueFrom_97 : decode bc_Judge_valueFrom 97 = .ok (.aload_n 0, 1) := by decide +kernel
theorem d_Judge_valueFrom_98 : decode bc_Judge_valueFrom 98 = .ok (.getfield 15, 3) := by decide +kernel
theorem d_Judge_valueFrom_101 : decode bc_Judge_valueFrom 101 = .ok (.lload 4, 2) := by decide +kernel
theorem d_Judge_valueFrom_103 : decode bc_Judge_valueFrom 103 = .ok (.l2i, 1) := by decide +kernel
theorem d_Judge_valueFrom_104 : decode bc_Judge_valueFrom 104 = .ok (.aload_n 0, 1) := by decide +kernel
theorem d_Judge_valueFrom_105 : decode bc_Judge_valueFrom 105 = .ok (.getfield 19, 3) := by decide +kernel
theorem d_Judge_valueFrom_108 : decode bc_Judge_valueFrom 108 = .ok (.getfield 69, 3) := by decide +kernel
theorem d_Judge_valueFrom_111 : decode bc_Judge_valueFrom 111 = .ok (.iload 6, 2) := by decide +kernel
theorem d_Judge_valueFrom_113 : decode bc_Judge_valueFrom 113 = .ok (.iconst 1, 1) := by decide +kernel
theorem d_Judge_valueFrom_114 : decode bc_Judge_valueFrom 114 = .ok (.iadd, 1) := by decide +kernel
theorem d_Judge_valueFrom_115 : decode bc_Judge_valueFrom 115 = .ok (.invokevirtual 76, 3) := by decide +kernel
theorem d_Judge_valueFrom_118 : decode bc_Judge_valueFrom 118 = .ok (.bipush 97, 2) := by decide +kernel
theorem d_Judge_valueFrom_120 : decode bc_Judge_valueFrom 120 = .ok (.isub, 1) := by decide +kernel
theorem d_Judge_valueFrom_121 : decode bc_Judge_valueFrom 121 = .ok (.invokevirtual 89, 3) := by decide +kernel
theorem d_Judge_valueFrom_124 : decode bc_Judge_valueFrom 124 = .ok (.lstore 4, 2) := by decide +kernel
theorem d_Judge_valueFrom_126 : decode bc_Judge_valueFrom 126 = .ok (.iinc 6 2, 3) := by decide +kernel
theorem d_Judge_valueFrom_129 : decode bc_Judge_valueFrom 129 = .ok (.iinc 7 1, 3) := by decide +kernel
theorem d_Judge_valueFrom_132 : decode bc_Judge_valueFrom 132 = .ok (.goto (-70), 3) := by decide +kernel
theorem d_Judge_valueFrom_135 : decode bc_Judge_valueFrom 135 = .ok (.lload 4, 2) := by decide +kernel
theorem d_Judge_valueFrom_137 : decode bc_Judge_valueFrom 137 = .ok (.lreturn, 1) := by decide +kernel
def cw_Judge_valueFrom (G : Nat → ClassId) (a_t a_question a_question_text a_question_text_chars a_question_numbers a_bound a_image a_image_values a_question_kinds a_question_inner a_question_next a_question_left a_question_right a_image_classes a_image_names : Nat) (v_question_nodeCount : Int32) (v_question_root : Int32) (v_question_asked : Int32) (v_question_mode : Int32) (v_question_text_length : Int32) (v_question_text_chars : Nat → Int32) (v_question_numbers : Nat → Int32) (v_bound : Nat → Int32) (v_image_values : Nat → Int64) : va_W := [(a_t, .inr (9, [.ref a_image, .ref a_bound, .ref a_question])), (a_question, .inr (7, [.ref a_question_text, .ref a_question_numbers, .ref a_question_kinds, .ref a_question_inner, .ref a_question_next, .ref a_question_left, .ref a_question_right, .int v_question_nodeCount, .int v_question_root, .int v_question_asked, .int v_question_mode])), (a_question_text, .inr (6, [.ref a_question_text_chars, .int v_question_text_length])), (a_question_text_chars, .inl (G 2, 60, .inl v_question_text_chars)), (a_question_numbers, .inl (G 0, 60, .inl v_question_numbers)), (a_bound, .inl (G 0, 3, .inl v_bound)), (a_image, .inr (4, [.ref a_image_classes, .ref a_image_values, .ref a_image_names])), (a_image_values, .inl (G 1, 504, .inr (.inl v_image_values)))]
def f_Judge_valueFrom_B62 (v_question_text_length : Int32) (v_question_text_chars : Nat → Int32) (v_image_values : Nat → Int64) (k62 : Int64 → Int32 → Int32 → Option (Int64)) (x62_4 : Int64) (x62_6 : Int32) (x62_7 : Int32) : Option (Int64) := if 60 ≤ x62_7 then (some x62_4) else ((f_Text_at v_question_text_length v_question_text_chars x62_6).bind fun o78 => (if o78 = 46 then (if (lg_cmp x62_4 0) = 0 then (some (-9223372036854775808)) else ((f_Text_at v_question_text_length v_question_text_chars (x62_6 + 1)).bind fun o115 => ((f_Image_valueOf v_image_values x62_4.toInt32 (o115 - 97)).bind fun o121 => (k62 o121 (x62_6 + 2) (x62_7 + 1))))) else (some x62_4)))
def f_Judge_valueFrom_L62 (v_question_text_length : Int32) (v_question_text_chars : Nat → Int32) (v_image_values : Nat → Int64) : Nat → Int64 → Int32 → Int32 → Option (Int64) := ob_lp3 (f_Judge_valueFrom_B62 v_question_text_length v_question_text_chars v_image_values)
def f_Judge_valueFrom_J34 (p1 : Int32) (v_question_numbers : Nat → Int32) : Option (Int64) := ob_iv p1 60 (some ((v_question_numbers p1.toNatClampNeg).toInt64))
def f_Judge_valueFrom (v_question_text_length : Int32) (v_question_text_chars : Nat → Int32) (v_question_numbers : Nat → Int32) (v_bound : Nat → Int32) (v_image_values : Nat → Int64) (p1 : Int32) : Option (Int64) := (f_Text_at v_question_text_length v_question_text_chars p1).bind fun o8 => (if o8 = 110 then (some 0) else (if (o8 - 120) < 0 then (f_Judge_valueFrom_J34 p1 v_question_numbers) else (if (o8 - 120) < 3 then (ob_iv (o8 - 120) 3 (f_Judge_valueFrom_L62 v_question_text_length v_question_text_chars v_image_values 1000 ((v_bound (o8 - 120).toNatClampNeg).toInt64) (p1 + 1) 0)) else (f_Judge_valueFrom_J34 p1 v_question_numbers))))
set_option maxHeartbeats 4000000 in
set_option maxRecDepth 100000 in
theorem c_Judge_valueFrom (l : Launch) (D : va_G) (G : Nat → ClassId) (a_t a_question a_question_text a_question_text_chars a_question_numbers a_bound a_image a_image_values a_question_kinds a_question_inner a_question_next a_question_left a_question_right a_image_classes a_image_names : Nat) (v_question_nodeCount : Int32) (v_question_root : Int32) (v_question_asked : Int32) (v_question_mode : Int32) (v_question_text_length : Int32) (v_question_text_chars : Nat → Int32) (v_question_numbers : Nat → Int32) (v_bound : Nat → Int32) (v_image_values : Nat → Int64) (p1 : Int32) (o : Int64) (hf : f_Judge_valueFrom v_question_text_length v_question_text_chars v_question_numbers v_bound v_image_values p1 = some o) (sz : Nat) : MetL l y_Judge_valueFrom ws_Judge_valueFrom ({ frames := 1, cells := 0, slots := 0, locals := 22 }) D (obT G) (cw_Judge_valueFrom G a_t a_question a_question_text a_question_text_chars a_question_numbers a_bound a_image a_image_values a_question_kinds a_question_inner a_question_next a_question_left a_question_right a_image_classes a_image_names v_question_nodeCount v_question_root v_question_asked v_question_mode v_question_text_length v_question_text_chars v_question_numbers v_bound v_image_values) (cw_Judge_valueFrom G a_t a_question a_question_text a_question_text_chars a_question_numbers a_bound a_image a_image_values a_question_kinds a_question_inner a_question_next a_question_left a_question_right a_image_classes a_image_names v_question_nodeCount v_question_root v_question_asked v_question_mode v_question_text_length v_question_text_chars v_question_numbers v_bound v_image_values) [.ref a_t, .int p1] o sz := by
  refine ob_of (cc := bc_Judge_valueFrom) (maxL := 8) (ret := (some .long)) (Qc := ObQl D (obT G) (cw_Judge_valueFrom G a_t a_question a_question_text a_question_text_chars a_question_numbers a_bound a_image a_image_values a_question_kinds a_question_inner a_question_next a_question_left a_question_right a_image_classes a_image_names v_question_nodeCount v_question_root v_question_asked v_question_mode v_question_text_length v_question_text_chars v_question_numbers v_bound v_image_values) o) (by decide) rfl (Nat.le_of_ble_eq_true rfl) ?_
  intro p e s m below meth c A ls H locs hx hb hr hml hts hown hlk hnm hZ hP hK hD hA hS hl
  have hret : ∀ (o' : Int64) (H : Heap) (locs : List Loc) (pc : Nat) (ls : Array Slot), some o' = some o → va_P D vwCl (cw_Judge_valueFrom G a_t a_question a_question_text a_question_text_chars a_question_numbers a_bound a_image a_image_values a_question_kinds a_question_inner a_question_next a_question_left a_question_right a_image_classes a_image_names v_question_nodeCount v_question_root v_question_asked v_question_mode v_question_text_length v_question_text_chars v_question_numbers v_bound v_image_values) H → va_D A (cw_Judge_valueFrom G a_t a_question a_question_text a_question_text_chars a_question_numbers a_bound a_image a_image_values a_question_kinds a_question_inner a_question_next a_question_left a_question_right a_image_classes a_image_names v_question_nodeCount v_question_root v_question_asked v_question_mode v_question_text_length v_question_text_chars v_question_numbers v_bound v_image_values) → va_S A s.heap H locs → decode bc_Judge_valueFrom pc = .ok (.lreturn, 1) → W p l e { frames := 1, cells := 0, slots := 0, locals := 22 } s m ([.ref a_t, .int p1] : List Value).toArray below meth c H locs 0 0 (MQ below (ObQl D (obT G) (cw_Judge_valueFrom G a_t a_question a_question_text a_question_text_chars a_question_numbers a_bound a_image a_image_values a_question_kinds a_question_inner a_question_next a_question_left a_question_right a_image_classes a_image_names v_question_nodeCount v_question_root v_question_asked v_question_mode v_question_text_length v_question_text_chars v_question_numbers v_bound v_image_values) o A) ([.ref a_t, .int p1] : List Value).toArray s 0 0 A) (F0 m pc ls [.long o']) := by
    intro o' H locs pc ls he hP hD hS hd
    obtain rfl := Option.some.inj he
    exact ob_lret hx hb hr hlk hK hP hD hS hd
  generalize MQ below (ObQl D (obT G) (cw_Judge_valueFrom G a_t a_question a_question_text a_question_text_chars a_question_numbers a_bound a_image a_image_values a_question_kinds a_question_inner a_question_next a_question_left a_question_right a_image_classes a_image_names v_question_nodeCount v_question_root v_question_asked v_question_mode v_question_text_length v_question_text_chars v_question_numbers v_bound v_image_values) o A) ([.ref a_t, .int p1] : List Value).toArray s 0 0 A = Q at hret ⊢
  have hl : lv_has ls 8 [(0, .ref a_t), (1, .int p1)] := hl
  unfold f_Judge_valueFrom at hf
  have loop62 : ∀ (n62 : Nat) (x62_4 : Int64) (x62_6 : Int32) (x62_7 : Int32) (ls : Array Slot) (H : Heap) (locs : List Loc), lv_has ls 8 [(0, .ref a_t), (4, .long x62_4), (6, .int x62_6), (7, .int x62_7)] → va_P D vwCl (cw_Judge_valueFrom G a_t a_question a_question_text a_question_text_chars a_question_numbers a_bound a_image a_image_values a_question_kinds a_question_inner a_question_next a_question_left a_question_right a_image_classes a_image_names v_question_nodeCount v_question_root v_question_asked v_question_mode v_question_text_length v_question_text_chars v_question_numbers v_bound v_image_values) H → va_D A (cw_Judge_valueFrom G a_t a_question a_question_text a_question_text_chars a_question_numbers a_bound a_image a_image_values a_question_kinds a_question_inner a_question_next a_question_left a_question_right a_image_classes a_image_names v_question_nodeCount v_question_root v_question_asked v_question_mode v_question_text_length v_question_text_chars v_question_numbers v_bound v_image_values) → va_S A s.heap H locs → f_Judge_valueFrom_L62 v_question_text_length v_question_text_chars v_image_values n62 x62_4 x62_6 x62_7 = some o → W p l e ({ frames := 1, cells := 0, slots := 0, locals := 22 }) s m ([.ref a_t, .int p1] : List Value).toArray below meth c H locs 0 0 Q (F0 m 62 ls []) := by
    intro n62
    induction n62 with
    | zero => intro x62_4 x62_6 x62_7 ls H locs hl hP hD hS hf; exact ob_no hf
    | succ n62 ih62 =>
      intro x62_4 x62_6 x62_7 ls H locs hl hP hD hS hf
      have hf : f_Judge_valueFrom_B62 v_question_text_length v_question_text_chars v_image_values (f_Judge_valueFrom_L62 v_question_text_length v_question_text_chars v_image_values n62) x62_4 x62_6 x62_7 = some o := hf
      unfold f_Judge_valueFrom_B62 at hf
      refine lv_iload hx hb d_Judge_valueFrom_62 (lv_at hl 3 rfl) ?_
      refine lv_bipush (v := 60) hx hb d_Judge_valueFrom_64 (by decide) ?_
      refine lv_icmp_ge (tgt := 135) hx hb d_Judge_valueFrom_66 (by decide) (fun hc66 => ?_) (fun hc66 => ?_)
      · have hf := ob_t hc66 hf
        refine lv_lload hx hb d_Judge_valueFrom_135 (lv_at hl 1 rfl) ?_
        exact hret x62_4 H locs _ ls hf hP hD hS d_Judge_valueFrom_137
      · have hf := ob_f hc66 hf
        refine lv_aload_n hx hb d_Judge_valueFrom_69 rfl (lv_at hl 0 rfl) ?_
        refine va_get (D := D) (ci := 9) (v := .ref a_question) (C := "ObjectBase$Judge") (T := TC_Judge) (N := 3) hx hb hts inC_Judge hown hK hP 0 rfl rfl 2 (by decide) (hts _ tw202) (fun _ h9 => h9) rfl d_Judge_valueFrom_70 ?_
        refine va_get (D := D) (ci := 7) (v := .ref a_question_text) (C := "ObjectBase$Question") (T := TC_Question) (N := 11) hx hb hts inC_Question hown hK hP 1 rfl rfl 0 (by decide) (hts _ tw535) (fun _ h9 => h9) rfl d_Judge_valueFrom_73 ?_
        refine lv_iload hx hb d_Judge_valueFrom_76 (lv_at hl 2 rfl) ?_
        obtain ⟨o78, ho78, hf⟩ := ob_b hf
        refine ob_calli (w2 := (cw_Judge_valueFrom G a_t a_question a_question_text a_question_text_chars a_question_numbers a_bound a_image a_image_values a_question_kinds a_question_inner a_question_next a_question_left a_question_right a_image_classes a_image_names v_question_nodeCount v_question_root v_question_asked v_question_mode v_question_text_length v_question_text_chars v_question_numbers v_bound v_image_values)) (va_runV (As := [.int x62_6]) (rest := []) ⟨hx, hb, hml, hown, hts⟩ (c_Text_at l D G a_question_text a_question_text_chars v_question_text_length v_question_text_chars x62_6 o78 ho78 H.size) (cwV 1 hts (gV tw726 tw605 tw606 tw7 tw607) rfl rfl rfl (by decide +kernel) ⟨Nat.le_of_ble_eq_true rfl, Nat.le_of_ble_eq_true rfl⟩) (ob_preV (q0 := 2) (ci := 6) hZ hK hP hD [2, 3] rfl rfl rfl rfl rfl) rfl rfl hl.1 rfl (lv_room (Nat.le_of_ble_eq_true rfl)) d_Judge_valueFrom_78 ⟨Nat.le_refl _, Nat.le_refl _⟩) hP hD hA hS [2, 3] rfl rfl rfl rfl (fun H locs hP hD hS => ?_)
        refine lv_bipush (v := 46) hx hb d_Judge_valueFrom_81 (by decide) ?_
        refine lv_icmp_ne (tgt := 135) hx hb d_Judge_valueFrom_83 (by decide) (fun hc83 => ?_) (fun hc83 => ?_)
        · have hf := ob_f hc83 hf
          refine lv_lload hx hb d_Judge_valueFrom_135 (lv_at hl 1 rfl) ?_
          exact hret x62_4 H locs _ ls hf hP hD hS d_Judge_valueFrom_137
        · have hf := ob_t hc83 hf
          refine lv_lload hx hb d_Judge_valueFrom_86 (lv_at hl 1 rfl) ?_
          refine lv_lconst (v := 0) hx hb d_Judge_valueFrom_88 (by decide) ?_
          refine W.lcmp hx hb d_Judge_valueFrom_89 ?_
          refine lv_if_ne (tgt := 97) hx hb d_Judge_valueFrom_90 (by decide) (fun hc90 => ?_) (fun hc90 => ?_)
          · have hf := ob_f hc90 hf
            refine lv_aload_n hx hb d_Judge_valueFrom_97 rfl (lv_at hl 0 rfl) ?_
            refine va_get (D := D) (ci := 9) (v := .ref a_image) (C := "ObjectBase$Judge") (T := TC_Judge) (N := 3) hx hb hts inC_Judge hown hK hP 0 rfl rfl 0 (by decide) (hts _ tw200) (fun _ h9 => h9) rfl d_Judge_valueFrom_98 ?_
            refine lv_lload hx hb d_Judge_valueFrom_101 (lv_at hl 1 rfl) ?_
            refine lv_l2i hx hb d_Judge_valueFrom_103 rfl ?_
            refine lv_aload_n hx hb d_Judge_valueFrom_104 rfl (lv_at hl 0 rfl) ?_
            refine va_get (D := D) (ci := 9) (v := .ref a_question) (C := "ObjectBase$Judge") (T := TC_Judge) (N := 3) hx hb hts inC_Judge hown hK hP 0 rfl rfl 2 (by decide) (hts _ tw202) (fun _ h9 => h9) rfl d_Judge_valueFrom_105 ?_
            refine va_get (D := D) (ci := 7) (v := .ref a_question_text) (C := "ObjectBase$Question") (T := TC_Question) (N := 11) hx hb hts inC_Question hown hK hP 1 rfl rfl 0 (by decide) (hts _ tw535) (fun _ h9 => h9) rfl d_Judge_valueFrom_108 ?_
            refine lv_iload hx hb d_Judge_valueFrom_111 (lv_at hl 2 rfl) ?_
            refine lv_iconst (v := 1) hx hb d_Judge_valueFrom_113 (by decide) ?_
            refine lv_iadd hx hb d_Judge_valueFrom_114 ?_
            obtain ⟨o115, ho115, hf⟩ := ob_b hf
            refine ob_calli (w2 := (cw_Judge_valueFrom G a_t a_question a_question_text a_question_text_chars a_question_numbers a_bound a_image a_image_values a_question_kinds a_question_inner a_question_next a_question_left a_question_right a_image_classes a_image_names v_question_nodeCount v_question_root v_question_asked v_question_mode v_question_text_length v_question_text_chars v_question_numbers v_bound v_image_values)) (va_runV (As := [.int (x62_6 + 1)]) (rest := [.int x62_4.toInt32, .ref a_image]) ⟨hx, hb, hml, hown, hts⟩ (c_Text_at l D G a_question_text a_question_text_chars v_question_text_length v_question_text_chars (x62_6 + 1) o115 ho115 H.size) (cwV 1 hts (gV tw726 tw605 tw606 tw7 tw607) rfl rfl rfl (by decide +kernel) ⟨Nat.le_of_ble_eq_true rfl, Nat.le_of_ble_eq_true rfl⟩) (ob_preV (q0 := 2) (ci := 6) hZ hK hP hD [2, 3] rfl rfl rfl rfl rfl) rfl rfl hl.1 rfl (lv_room (Nat.le_of_ble_eq_true rfl)) d_Judge_valueFrom_115 ⟨Nat.le_refl _, Nat.le_refl _⟩) hP hD hA hS [2, 3] rfl rfl rfl rfl (fun H locs hP hD hS => ?_)
            refine lv_bipush (v := 97) hx hb d_Judge_valueFrom_118 (by decide) ?_
            refine lv_isub hx hb d_Judge_valueFrom_120 ?_
            obtain ⟨o121, ho121, hf⟩ := ob_b hf
            refine ob_calll (w2 := (cw_Judge_valueFrom G a_t a_question a_question_text a_question_text_chars a_question_numbers a_bound a_image a_image_values a_question_kinds a_question_inner a_question_next a_question_left a_question_right a_image_classes a_image_names v_question_nodeCount v_question_root v_question_asked v_question_mode v_question_text_length v_question_text_chars v_question_numbers v_bound v_image_values)) (va_runV (As := [.int x62_4.toInt32, .int (o115 - 97)]) (rest := []) ⟨hx, hb, hml, hown, hts⟩ (c_Image_valueOf l D G a_image a_image_values a_image_classes a_image_names v_image_values x62_4.toInt32 (o115 - 97) o121 ho121 H.size) (cwV 2 hts (gV tw728 tw332 tw333 tw5 tw334) rfl rfl rfl (by decide +kernel) ⟨Nat.le_of_ble_eq_true rfl, Nat.le_of_ble_eq_true rfl⟩) (ob_preV (q0 := 6) (ci := 4) hZ hK hP hD [6, 7] rfl rfl rfl rfl rfl) rfl rfl hl.1 rfl (lv_room (Nat.le_of_ble_eq_true rfl)) d_Judge_valueFrom_121 ⟨Nat.le_refl _, Nat.le_refl _⟩) hP hD hA hS [6, 7] rfl rfl rfl rfl (fun H locs hP hD hS => ?_)
            refine lv_lstore (lv' := [(4, .long o121), (0, .ref a_t), (6, .int x62_6), (7, .int x62_7)]) hx hb d_Judge_valueFrom_124 hl (by decide) rfl (fun ls hl => ?_)
            refine lv_iinc (k := 2) (v := x62_6 + 2) (lv' := [(6, .int (x62_6 + 2)), (4, .long o121), (0, .ref a_t), (7, .int x62_7)]) hx hb d_Judge_valueFrom_126 hl rfl (by rw [show Int32.ofInt 2 = (2 : Int32) from by decide]) (by decide) rfl (fun ls hl => ?_)
            refine lv_iinc (k := 3) (v := x62_7 + 1) (lv' := [(7, .int (x62_7 + 1)), (6, .int (x62_6 + 2)), (4, .long o121), (0, .ref a_t)]) hx hb d_Judge_valueFrom_129 hl rfl (by rw [show Int32.ofInt 1 = (1 : Int32) from by decide]) (by decide) rfl (fun ls hl => ?_)
            refine lv_goto (tgt := 62) hx hb d_Judge_valueFrom_132 (by decide) ?_
            exact ih62 o121 (x62_6 + 2) (x62_7 + 1) ls H locs (lv_sub hl [3, 2, 1, 0] rfl) hP hD hS hf
          · have hf := ob_t hc90 hf
            refine lv_ldc2 (v := (-9223372036854775808)) hx hb hown (hts _ tw727) d_Judge_valueFrom_93 ?_
            exact hret (-9223372036854775808) H locs _ ls hf hP hD hS d_Judge_valueFrom_96
  have blk34 : ∀ (ls : Array Slot) (H : Heap) (locs : List Loc), lv_has ls 8 [(0, .ref a_t), (1, .int p1)] → va_P D vwCl (cw_Judge_valueFrom G a_t a_question a_question_text a_question_text_chars a_question_numbers a_bound a_image a_image_values a_question_kinds a_question_inner a_question_next a_question_left a_question_right a_image_classes a_image_names v_question_nodeCount v_question_root v_question_asked v_question_mode v_question_text_length v_question_text_chars v_question_numbers v_bound v_image_values) H → va_D A (cw_Judge_valueFrom G a_t a_question a_question_text a_question_text_chars a_question_numbers a_bound a_image a_image_values a_question_kinds a_question_inner a_question_next a_question_left a_question_right a_image_classes a_image_names v_question_nodeCount v_question_root v_question_asked v_question_mode v_question_text_length v_question_text_chars v_question_numbers v_bound v_image_values) → va_S A s.heap H locs → f_Judge_valueFrom_J34 p1 v_question_numbers = some o → W p l e ({ frames := 1, cells := 0, slots := 0, locals := 22 }) s m ([.ref a_t, .int p1] : List Value).toArray below meth c H locs 0 0 Q (F0 m 34 ls []) := by
    intro ls H locs hl hP hD hS hf
    unfold f_Judge_valueFrom_J34 at hf
    refine lv_aload_n hx hb d_Judge_valueFrom_34 rfl (lv_at hl 0 rfl) ?_
    refine va_get (D := D) (ci := 9) (v := .ref a_question) (C := "ObjectBase$Judge") (T := TC_Judge) (N := 3) hx hb hts inC_Judge hown hK hP 0 rfl rfl 2 (by decide) (hts _ tw202) (fun _ h9 => h9) rfl d_Judge_valueFrom_35 ?_
    refine va_get (D := D) (ci := 7) (v := .ref a_question_numbers) (C := "ObjectBase$Question") (T := TC_Question) (N := 11) hx hb hts inC_Question hown hK hP 1 rfl rfl 1 (by decide) (hts _ tw538) (fun _ h9 => h9) rfl d_Judge_valueFrom_38 ?_
    refine lv_iload_n hx hb d_Judge_valueFrom_41 rfl (lv_at hl 1 rfl) ?_
    obtain ⟨hg42, hf⟩ := ob_iv_g hf
    refine va_iald hx hb hK hP 4 0 rfl rfl hg42 d_Judge_valueFrom_42 ?_
    refine lv_i2l hx hb d_Judge_valueFrom_43 rfl ?_
    exact hret ((v_question_numbers p1.toNatClampNeg).toInt64) H locs _ ls hf hP hD hS d_Judge_valueFrom_44
  refine lv_aload_n hx hb d_Judge_valueFrom_0 rfl (lv_at hl 0 rfl) ?_
  refine va_get (D := D) (ci := 9) (v := .ref a_question) (C := "ObjectBase$Judge") (T := TC_Judge) (N := 3) hx hb hts inC_Judge hown hK hP 0 rfl rfl 2 (by decide) (hts _ tw202) (fun _ h9 => h9) rfl d_Judge_valueFrom_1 ?_
  refine va_get (D := D) (ci := 7) (v := .ref a_question_text) (C := "ObjectBase$Question") (T := TC_Question) (N := 11) hx hb hts inC_Question hown hK hP 1 rfl rfl 0 (by decide) (hts _ tw535) (fun _ h9 => h9) rfl d_Judge_valueFrom_4 ?_
  refine lv_iload_n hx hb d_Judge_valueFrom_7 rfl (lv_at hl 1 rfl) ?_
  obtain ⟨o8, ho8, hf⟩ := ob_b hf
  refine ob_calli (w2 := (cw_Judge_valueFrom G a_t a_question a_question_text a_question_text_chars a_question_numbers a_bound a_image a_image_values a_question_kinds a_question_inner a_question_next a_question_left a_question_right a_image_classes a_image_names v_question_nodeCount v_question_root v_question_asked v_question_mode v_question_text_length v_question_text_chars v_question_numbers v_bound v_image_values)) (va_runV (As := [.int p1]) (rest := []) ⟨hx, hb, hml, hown, hts⟩ (c_Text_at l D G a_question_text a_question_text_chars v_question_text_length v_question_text_chars p1 o8 ho8 H.size) (cwV 1 hts (gV tw726 tw605 tw606 tw7 tw607) rfl rfl rfl (by decide +kernel) ⟨Nat.le_of_ble_eq_true rfl, Nat.le_of_ble_eq_true rfl⟩) (ob_preV (q0 := 2) (ci := 6) hZ hK hP hD [2, 3] rfl rfl rfl rfl rfl) rfl rfl hl.1 rfl (lv_room (Nat.le_of_ble_eq_true rfl)) d_Judge_valueFrom_8 ⟨Nat.le_refl _, Nat.le_refl _⟩) hP hD hA hS [2, 3] rfl rfl rfl rfl (fun H locs hP hD hS => ?_)
  refine lv_istore_n (lv' := [(2, .int o8), (0, .ref a_t), (1, .int p1)]) hx hb d_Judge_valueFrom_11 rfl hl (by decide) rfl (fun ls hl => ?_)
  refine lv_iload_n hx hb d_Judge_valueFrom_12 rfl (lv_at hl 0 rfl) ?_
  refine lv_bipush (v := 110) hx hb d_Judge_valueFrom_13 (by decide) ?_
  refine lv_icmp_ne (tgt := 20) hx hb d_Judge_valueFrom_15 (by decide) (fun hc15 => ?_) (fun hc15 => ?_)
  · have hf := ob_f hc15 hf
    refine lv_iload_n hx hb d_Judge_valueFrom_20 rfl (lv_at hl 0 rfl) ?_
    refine lv_bipush (v := 120) hx hb d_Judge_valueFrom_21 (by decide) ?_
    refine lv_isub hx hb d_Judge_valueFrom_23 ?_
    refine lv_istore_n (lv' := [(3, .int (o8 - 120)), (2, .int o8), (0, .ref a_t), (1, .int p1)]) hx hb d_Judge_valueFrom_24 rfl hl (by decide) rfl (fun ls hl => ?_)
    refine lv_iload_n hx hb d_Judge_valueFrom_25 rfl (lv_at hl 0 rfl) ?_
    refine lv_if_lt (tgt := 34) hx hb d_Judge_valueFrom_26 (by decide) (fun hc26 => ?_) (fun hc26 => ?_)
    · have hf := ob_t hc26 hf
      exact blk34 ls H locs (lv_sub hl [2, 3] rfl) hP hD hS hf
    · have hf := ob_f hc26 hf
      refine lv_iload_n hx hb d_Judge_valueFrom_29 rfl (lv_at hl 0 rfl) ?_
      refine lv_iconst (v := 3) hx hb d_Judge_valueFrom_30 (by decide) ?_
      refine lv_icmp_lt (tgt := 45) hx hb d_Judge_valueFrom_31 (by decide) (fun hc31 => ?_) (fun hc31 => ?_)
      · have hf := ob_t hc31 hf
        refine lv_aload_n hx hb d_Judge_valueFrom_45 rfl (lv_at hl 2 rfl) ?_
        refine va_get (D := D) (ci := 9) (v := .ref a_bound) (C := "ObjectBase$Judge") (T := TC_Judge) (N := 3) hx hb hts inC_Judge hown hK hP 0 rfl rfl 1 (by decide) (hts _ tw201) (fun _ h9 => h9) rfl d_Judge_valueFrom_46 ?_
        refine lv_iload_n hx hb d_Judge_valueFrom_49 rfl (lv_at hl 0 rfl) ?_
        obtain ⟨hg50, hf⟩ := ob_iv_g hf
        refine va_iald hx hb hK hP 5 0 rfl rfl hg50 d_Judge_valueFrom_50 ?_
        refine lv_i2l hx hb d_Judge_valueFrom_51 rfl ?_
        refine lv_lstore (lv' := [(4, .long ((v_bound (o8 - 120).toNatClampNeg).toInt64)), (3, .int (o8 - 120)), (2, .int o8), (0, .ref a_t), (1, .int p1)]) hx hb d_Judge_valueFrom_52 hl (by decide) rfl (fun ls hl => ?_)
        refine lv_iload_n hx hb d_Judge_valueFrom_54 rfl (lv_at hl 4 rfl) ?_
        refine lv_iconst (v := 1) hx hb d_Judge_valueFrom_55 (by decide) ?_
        refine lv_iadd hx hb d_Judge_valueFrom_56 ?_
        refine lv_istore (lv' := [(6, .int (p1 + 1)), (4, .long ((v_bound (o8 - 120).toNatClampNeg).toInt64)), (3, .int (o8 - 120)), (2, .int o8), (0, .ref a_t), (1, .int p1)]) hx hb d_Judge_valueFrom_57 hl (by decide) rfl (fun ls hl => ?_)
        refine lv_iconst (v := 0) hx hb d_Judge_valueFrom_59 (by decide) ?_
        refine lv_istore (lv' := [(7, .int 0), (6, .int (p1 + 1)), (4, .long ((v_bound (o8 - 120).toNatClampNeg).toInt64)), (3, .int (o8 - 120)), (2, .int o8), (0, .ref a_t), (1, .int p1)]) hx hb d_Judge_valueFrom_60 hl (by decide) rfl (fun ls hl => ?_)
        exact loop62 1000 ((v_bound (o8 - 120).toNatClampNeg).toInt64) (p1 + 1) 0 ls H locs (lv_sub hl [5, 2, 1, 0] rfl) hP hD hS hf
      · have hf := ob_f hc31 hf
        exact blk34 ls H locs (lv_sub hl [2, 3] rfl) hP hD hS hf
  · have hf := ob_t hc15 hf
    refine lv_lconst (v := 0) hx hb d_Judge_valueFrom_18 (by decide) ?_
    exact hret 0 H locs _ ls hf hP hD hS d_Judge_valueFrom_19
abbrev bc_Answer_init : ByteArray := prog_2_method_1_code
abbrev y_Answer_init : MethodName := ⟨"ObjectBase$Answer", "<init>", "()V"⟩
def ws_Answer_init : List Cond := .code y_Answer_init bc_Answer_init 1 none :: obW
theorem d_Answer_init_0 : decode bc_Answer_init 0 = .ok (.aload_n 0, 1) := by decide +kernel
theorem d_Answer_init_1 : decode bc_Answer_init 1 = .ok (.invokespecial 3, 3) := by decide +kernel
theorem d_Answer_init_4 : decode bc_Answer_init 4 = .ok (.return_, 1) := by decide +kernel
def nw_Answer (G : Nat → ClassId) (a_t : Nat) : va_W := [(a_t, .inr (10, [.int 0, .long 0, .long 0, .int 0]))]
set_option maxHeartbeats 4000000 in
set_option maxRecDepth 100000 in
theorem n_Answer (l : Launch) (D : va_G) (G : Nat → ClassId) (a_t : Nat) (sz : Nat) : Met l y_Answer_init ws_Answer_init ({ frames := 1, cells := 0, slots := 0, locals := 12 }) (ObPre D (obT G) [(a_t, .inr (10, [.int 0, .long 0, .long 0, .int 0]))] sz [.ref a_t]) (va_Qv (S := Unit) (fun _ => True) (fun u t => ObAt D (obT G) (nw_Answer G a_t) (va_A [(a_t, .inr (10, [.int 0, .long 0, .long 0, .int 0]))] sz) t) (va_A [(a_t, .inr (10, [.int 0, .long 0, .long 0, .int 0]))] sz)) 0 0 (va_A [(a_t, .inr (10, [.int 0, .long 0, .long 0, .int 0]))] sz) := by
  refine ob_of (cc := bc_Answer_init) (maxL := 1) (ret := none) (Qc := fun A => va_Qv (S := Unit) (fun _ => True) (fun u t => ObAt D (obT G) (nw_Answer G a_t) A t) A) (by decide) rfl (Nat.le_of_ble_eq_true rfl) ?_
  intro p e s m below meth c A ls H locs hx hb hr hml hts hown hlk hnm hZ hP hK hD hA hS hl
  have hin : meth.name = "<init>" := hnm
  have hl : lv_has ls 1 [(0, .ref a_t)] := hl
  refine lv_aload_n hx hb d_Answer_init_0 rfl (lv_at hl 0 rfl) ?_
  refine W.objInit hx hb hown (hts _ tw215) (hts _ tw21) (hts _ tw22) rfl (by rw [hml]; exact hl.1) rfl d_Answer_init_1 (Nat.le_of_ble_eq_true rfl) (Nat.le_of_ble_eq_true rfl) ?_
  refine W.eq (g2 := F0 m 4 ls []) rfl ?_
  exact W.vret hx hb hr (fun t ht hW => ⟨⟨(), rfl, trivial, by rw [ht]; exact hP, va_K.moved hW.alike hK, hD⟩, hS.F ht⟩) hS.2.2 d_Answer_init_4 hlk
abbrev bc_Answer_startFor : ByteArray := prog_2_method_3_code
abbrev y_Answer_startFor : MethodName := ⟨"ObjectBase$Answer", "startFor", "(C)V"⟩
def ws_Answer_startFor : List Cond := .code y_Answer_startFor bc_Answer_startFor 2 none :: obW
theorem d_Answer_startFor_0 : decode bc_Answer_startFor 0 = .ok (.aload_n 0, 1) := by decide +kernel
theorem d_Answer_startFor_1 : decode bc_Answer_startFor 1 = .ok (.iload_n 1, 1) := by decide +kernel
theorem d_Answer_startFor_2 : decode bc_Answer_startFor 2 = .ok (.putfield 15, 3) := by decide +kernel
theorem d_Answer_startFor_5 : decode bc_Answer_startFor 5 = .ok (.aload_n 0, 1) := by decide +kernel
theorem d_Answer_startFor_6 : decode bc_Answer_startFor 6 = .ok (.lconst 0, 1) := by decide +kernel
theorem d_Answer_startFor_7 : decode bc_Answer_startFor 7 = .ok (.putfield 19, 3) := by decide +kernel
theorem d_Answer_startFor_10 : decode bc_Answer_startFor 10 = .ok (.aload_n 0, 1) := by decide +kernel
theorem d_Answer_startFor_11 : decode bc_Answer_startFor 11 = .ok (.lconst 0, 1) := by decide +kernel
theorem d_Answer_startFor_12 : decode bc_Answer_startFor 12 = .ok (.putfield 23, 3) := by decide +kernel
theorem d_Answer_startFor_15 : decode bc_Answer_startFor 15 = .ok (.aload_n 0, 1) := by decide +kernel
theorem d_Answer_startFor_16 : decode bc_Answer_startFor 16 = .ok (.iconst 0, 1) := by decide +kernel
theorem d_Answer_startFor_17 : decode bc_Answer_startFor 17 = .ok (.putfield 26, 3) := by decide +kernel
theorem d_Answer_startFor_20 : decode bc_Answer_startFor 20 = .ok (.return_, 1) := by decide +kernel
def cw_Answer_startFor (G : Nat → ClassId) (a_t : Nat) (v_mode : Int32) (v_fitting : Int64) (v_total : Int64) (v_looked : Int32) : va_W := [(a_t, .inr (10, [.int v_mode, .long v_fitting, .long v_total, .int v_looked]))]
def f_Answer_startFor (p1 : Int32) : Option (Int32 × Int64 × Int64 × Int32) := ob_nc p1 (some (p1, 0, 0, 0))
set_option maxHeartbeats 4000000 in
set_option maxRecDepth 100000 in
theorem c_Answer_startFor (l : Launch) (D : va_G) (G : Nat → ClassId) (a_t : Nat) (v_mode : Int32) (v_fitting : Int64) (v_total : Int64) (v_looked : Int32) (p1 : Int32) (o : Int32 × Int64 × Int64 × Int32) (hf : f_Answer_startFor p1 = some o) (sz : Nat) : MetV l y_Answer_startFor ws_Answer_startFor ({ frames := 0, cells := 0, slots := 0, locals := 0 }) D (obT G) (cw_Answer_startFor G a_t v_mode v_fitting v_total v_looked) (cw_Answer_startFor G a_t o.1 o.2.1 o.2.2.1 o.2.2.2) [.ref a_t, .int p1] sz := by
  refine ob_of (cc := bc_Answer_startFor) (maxL := 2) (ret := none) (Qc := ObQv D (obT G) (cw_Answer_startFor G a_t o.1 o.2.1 o.2.2.1 o.2.2.2)) (by decide) rfl (Nat.le_of_ble_eq_true rfl) ?_
  intro p e s m below meth c A ls H locs hx hb hr hml hts hown hlk hnm hZ hP hK hD hA hS hl
  have hret : ∀ (o' : Int32 × Int64 × Int64 × Int32) (H : Heap) (locs : List Loc) (pc : Nat) (ls : Array Slot), some o' = some o → va_P D vwCl (cw_Answer_startFor G a_t o'.1 o'.2.1 o'.2.2.1 o'.2.2.2) H → va_D A (cw_Answer_startFor G a_t o'.1 o'.2.1 o'.2.2.1 o'.2.2.2) → va_S A s.heap H locs → decode bc_Answer_startFor pc = .ok (.return_, 1) → W p l e { frames := 0, cells := 0, slots := 0, locals := 0 } s m ([.ref a_t, .int p1] : List Value).toArray below meth c H locs 0 0 (MQ below (ObQv D (obT G) (cw_Answer_startFor G a_t o.1 o.2.1 o.2.2.1 o.2.2.2) A) ([.ref a_t, .int p1] : List Value).toArray s 0 0 A) (F0 m pc ls []) := by
    intro o' H locs pc ls he hP hD hS hd
    obtain rfl := Option.some.inj he
    exact ob_vret hx hb hr hlk hK hP hD hS hd
  generalize MQ below (ObQv D (obT G) (cw_Answer_startFor G a_t o.1 o.2.1 o.2.2.1 o.2.2.2) A) ([.ref a_t, .int p1] : List Value).toArray s 0 0 A = Q at hret ⊢
  have hl : lv_has ls 2 [(0, .ref a_t), (1, .int p1)] := hl
  unfold f_Answer_startFor at hf
  refine lv_aload_n hx hb d_Answer_startFor_0 rfl (lv_at hl 0 rfl) ?_
  refine lv_iload_n hx hb d_Answer_startFor_1 rfl (lv_at hl 1 rfl) ?_
  obtain ⟨hg2, hf⟩ := ob_nc_g hf
  refine va_put (D := D) (ci := 10) (v := .int p1) (ty := .char) (C := "ObjectBase$Answer") (T := TC_Answer) (N := 4) hx hb hts inC_Answer tyC_Answer tyC_Answer_ok nmC_Answer hown hK hP hD hS 0 rfl rfl 0 (by decide) (hts _ tw216) (fun _ h9 => h9) rfl (by decide +kernel) hg2.1 hg2.2 (Nat.le_of_ble_eq_true rfl) d_Answer_startFor_2 (fun H locs hP hD hS => ?_)
  have hP : va_P D vwCl (cw_Answer_startFor G a_t p1 v_fitting v_total v_looked) H := hP
  have hD : va_D A (cw_Answer_startFor G a_t p1 v_fitting v_total v_looked) := hD
  refine lv_aload_n hx hb d_Answer_startFor_5 rfl (lv_at hl 0 rfl) ?_
  refine lv_lconst (v := 0) hx hb d_Answer_startFor_6 (by decide) ?_
  refine va_put (D := D) (ci := 10) (v := .long 0) (ty := .long) (C := "ObjectBase$Answer") (T := TC_Answer) (N := 4) hx hb hts inC_Answer tyC_Answer tyC_Answer_ok nmC_Answer hown hK hP hD hS 0 rfl rfl 1 (by decide) (hts _ tw218) (fun _ h9 => h9) rfl (by decide +kernel) rfl rfl (Nat.le_of_ble_eq_true rfl) d_Answer_startFor_7 (fun H locs hP hD hS => ?_)
  have hP : va_P D vwCl (cw_Answer_startFor G a_t p1 0 v_total v_looked) H := hP
  have hD : va_D A (cw_Answer_startFor G a_t p1 0 v_total v_looked) := hD
  refine lv_aload_n hx hb d_Answer_startFor_10 rfl (lv_at hl 0 rfl) ?_
  refine lv_lconst (v := 0) hx hb d_Answer_startFor_11 (by decide) ?_
  refine va_put (D := D) (ci := 10) (v := .long 0) (ty := .long) (C := "ObjectBase$Answer") (T := TC_Answer) (N := 4) hx hb hts inC_Answer tyC_Answer tyC_Answer_ok nmC_Answer hown hK hP hD hS 0 rfl rfl 2 (by decide) (hts _ tw219) (fun _ h9 => h9) rfl (by decide +kernel) rfl rfl (Nat.le_of_ble_eq_true rfl) d_Answer_startFor_12 (fun H locs hP hD hS => ?_)
  have hP : va_P D vwCl (cw_Answer_startFor G a_t p1 0 0 v_looked) H := hP
  have hD : va_D A (cw_Answer_startFor G a_t p1 0 0 v_looked) := hD
  refine lv_aload_n hx hb d_Answer_startFor_15 rfl (lv_at hl 0 rfl) ?_
  refine lv_iconst (v := 0) hx hb d_Answer_startFor_16 (by decide) ?_
  refine va_put (D := D) (ci := 10) (v := .int 0) (ty := .int) (C := "ObjectBase$Answer") (T := TC_Answer) (N := 4) hx hb hts inC_Answer tyC_Answer tyC_Answer_ok nmC_Answer hown hK hP hD hS 0 rfl rfl 3 (by decide) (hts _ tw221) (fun _ h9 => h9) rfl (by decide +kernel) rfl rfl (Nat.le_of_ble_eq_true rfl) d_Answer_startFor_17 (fun H locs hP hD hS => ?_)
  have hP : va_P D vwCl (cw_Answer_startFor G a_t p1 0 0 0) H := hP
  have hD : va_D A (cw_Answer_startFor G a_t p1 0 0 0) := hD
  exact hret (p1, 0, 0, 0) H locs _ ls hf hP hD hS d_Answer_startFor_20
