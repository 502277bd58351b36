abbrev bc_Schema_leadsToNumber : ByteArray := prog_10_method_8_code
abbrev y_Schema_leadsToNumber : MethodName := ⟨"ObjectBase$Schema", "leadsToNumber", "(IIII)Z"⟩
def ws_Schema_leadsToNumber : List Cond := .code y_Schema_leadsToNumber bc_Schema_leadsToNumber 5 (some .boolean) :: obW
theorem d_Schema_leadsToNumber_0 : decode bc_Schema_leadsToNumber 0 = .ok (.iload_n 3, 1) := by decide +kernel
theorem d_Schema_leadsToNumber_1 : decode bc_Schema_leadsToNumber 1 = .ok (.iconst (-1), 1) := by decide +kernel
theorem d_Schema_leadsToNumber_2 : decode bc_Schema_leadsToNumber 2 = .ok (.if_icmp .ne 11, 3) := by decide +kernel
theorem d_Schema_leadsToNumber_5 : decode bc_Schema_leadsToNumber 5 = .ok (.aload_n 0, 1) := by decide +kernel
theorem d_Schema_leadsToNumber_6 : decode bc_Schema_leadsToNumber 6 = .ok (.iload_n 1, 1) := by decide +kernel
theorem d_Schema_leadsToNumber_7 : decode bc_Schema_leadsToNumber 7 = .ok (.iload_n 2, 1) := by decide +kernel
theorem d_Schema_leadsToNumber_8 : decode bc_Schema_leadsToNumber 8 = .ok (.iconst 0, 1) := by decide +kernel
theorem d_Schema_leadsToNumber_9 : decode bc_Schema_leadsToNumber 9 = .ok (.invokevirtual 35, 3) := by decide +kernel
theorem d_Schema_leadsToNumber_12 : decode bc_Schema_leadsToNumber 12 = .ok (.ireturn, 1) := by decide +kernel
theorem d_Schema_leadsToNumber_13 : decode bc_Schema_leadsToNumber 13 = .ok (.aload_n 0, 1) := by decide +kernel
theorem d_Schema_leadsToNumber_14 : decode bc_Schema_leadsToNumber 14 = .ok (.iload_n 1, 1) := by decide +kernel
theorem d_Schema_leadsToNumber_15 : decode bc_Schema_leadsToNumber 15 = .ok (.iload_n 2, 1) := by decide +kernel
theorem d_Schema_leadsToNumber_16 : decode bc_Schema_leadsToNumber 16 = .ok (.iconst 1, 1) := by decide +kernel
theorem d_Schema_leadsToNumber_17 : decode bc_Schema_leadsToNumber 17 = .ok (.invokevirtual 35, 3) := by decide +kernel
theorem d_Schema_leadsToNumber_20 : decode bc_Schema_leadsToNumber 20 = .ok (.ifCond .ne 5, 3) := by decide +kernel
theorem d_Schema_leadsToNumber_23 : decode bc_Schema_leadsToNumber 23 = .ok (.iconst 0, 1) := by decide +kernel
theorem d_Schema_leadsToNumber_24 : decode bc_Schema_leadsToNumber 24 = .ok (.ireturn, 1) := by decide +kernel
theorem d_Schema_leadsToNumber_25 : decode bc_Schema_leadsToNumber 25 = .ok (.iload 4, 2) := by decide +kernel
theorem d_Schema_leadsToNumber_27 : decode bc_Schema_leadsToNumber 27 = .ok (.iconst (-1), 1) := by decide +kernel
theorem d_Schema_leadsToNumber_28 : decode bc_Schema_leadsToNumber 28 = .ok (.if_icmp .ne 16, 3) := by decide +kernel
theorem d_Schema_leadsToNumber_31 : decode bc_Schema_leadsToNumber 31 = .ok (.aload_n 0, 1) := by decide +kernel
theorem d_Schema_leadsToNumber_32 : decode bc_Schema_leadsToNumber 32 = .ok (.aload_n 0, 1) := by decide +kernel
theorem d_Schema_leadsToNumber_33 : decode bc_Schema_leadsToNumber 33 = .ok (.getfield 21, 3) := by decide +kernel
theorem d_Schema_leadsToNumber_36 : decode bc_Schema_leadsToNumber 36 = .ok (.iload_n 2, 1) := by decide +kernel
theorem d_Schema_leadsToNumber_37 : decode bc_Schema_leadsToNumber 37 = .ok (.iaload, 1) := by decide +kernel
theorem d_Schema_leadsToNumber_38 : decode bc_Schema_leadsToNumber 38 = .ok (.iload_n 3, 1) := by decide +kernel
theorem d_Schema_leadsToNumber_39 : decode bc_Schema_leadsToNumber 39 = .ok (.iconst 0, 1) := by decide +kernel
theorem d_Schema_leadsToNumber_40 : decode bc_Schema_leadsToNumber 40 = .ok (.invokevirtual 35, 3) := by decide +kernel
theorem d_Schema_leadsToNumber_43 : decode bc_Schema_leadsToNumber 43 = .ok (.ireturn, 1) := by decide +kernel
theorem d_Schema_leadsToNumber_44 : decode bc_Schema_leadsToNumber 44 = .ok (.aload_n 0, 1) := by decide +kernel
theorem d_Schema_leadsToNumber_45 : decode bc_Schema_leadsToNumber 45 = .ok (.aload_n 0, 1) := by decide +kernel
theorem d_Schema_leadsToNumber_46 : decode bc_Schema_leadsToNumber 46 = .ok (.getfield 21, 3) := by decide +kernel
theorem d_Schema_leadsToNumber_49 : decode bc_Schema_leadsToNumber 49 = .ok (.iload_n 2, 1) := by decide +kernel
theorem d_Schema_leadsToNumber_50 : decode bc_Schema_leadsToNumber 50 = .ok (.iaload, 1) := by decide +kernel
theorem d_Schema_leadsToNumber_51 : decode bc_Schema_leadsToNumber 51 = .ok (.iload_n 3, 1) := by decide +kernel
theorem d_Schema_leadsToNumber_52 : decode bc_Schema_leadsToNumber 52 = .ok (.iconst 1, 1) := by decide +kernel
theorem d_Schema_leadsToNumber_53 : decode bc_Schema_leadsToNumber 53 = .ok (.invokevirtual 35, 3) := by decide +kernel
theorem d_Schema_leadsToNumber_56 : decode bc_Schema_leadsToNumber 56 = .ok (.ifCond .eq 23, 3) := by decide +kernel
theorem d_Schema_leadsToNumber_59 : decode bc_Schema_leadsToNumber 59 = .ok (.aload_n 0, 1) := by decide +kernel
theorem d_Schema_leadsToNumber_60 : decode bc_Schema_leadsToNumber 60 = .ok (.aload_n 0, 1) := by decide +kernel
theorem d_Schema_leadsToNumber_61 : decode bc_Schema_leadsToNumber 61 = .ok (.getfield 21, 3) := by decide +kernel
theorem d_Schema_leadsToNumber_64 : decode bc_Schema_leadsToNumber 64 = .ok (.iload_n 3, 1) := by decide +kernel
theorem d_Schema_leadsToNumber_65 : decode bc_Schema_leadsToNumber 65 = .ok (.iaload, 1) := by decide +kernel
theorem d_Schema_leadsToNumber_66 : decode bc_Schema_leadsToNumber 66 = .ok (.iload 4, 2) := by decide +kernel
theorem d_Schema_leadsToNumber_68 : decode bc_Schema_leadsToNumber 68 = .ok (.iconst 0, 1) := by decide +kernel
theorem d_Schema_leadsToNumber_69 : decode bc_Schema_leadsToNumber 69 = .ok (.invokevirtual 35, 3) := by decide +kernel
theorem d_Schema_leadsToNumber_72 : decode bc_Schema_leadsToNumber 72 = .ok (.ifCond .eq 7, 3) := by decide +kernel
theorem d_Schema_leadsToNumber_75 : decode bc_Schema_leadsToNumber 75 = .ok (.iconst 1, 1) := by decide +kernel
theorem d_Schema_leadsToNumber_76 : decode bc_Schema_leadsToNumber 76 = .ok (.goto 4, 3) := by decide +kernel
theorem d_Schema_leadsToNumber_79 : decode bc_Schema_leadsToNumber 79 = .ok (.iconst 0, 1) := by decide +kernel
theorem d_Schema_leadsToNumber_80 : decode bc_Schema_leadsToNumber 80 = .ok (.ireturn, 1) := by decide +kernel
def cw_Schema_leadsToNumber (G : Nat → ClassId) (a_t a_above a_owners a_kinds a_targets : Nat) (v_classCount : Int32) (v_fieldCount : Int32) (v_above : Nat → Int32) (v_owners : Nat → Int32) (v_kinds : Nat → Int32) (v_targets : Nat → Int32) : va_W := [(a_t, .inr (1, [.ref a_above, .ref a_owners, .ref a_kinds, .ref a_targets, .int v_classCount, .int v_fieldCount])), (a_above, .inl (G 0, 6, .inl v_above)), (a_owners, .inl (G 0, 8, .inl v_owners)), (a_kinds, .inl (G 0, 8, .inl v_kinds)), (a_targets, .inl (G 0, 8, .inl v_targets))]
def f_Schema_leadsToNumber (v_fieldCount : Int32) (v_above : Nat → Int32) (v_owners : Nat → Int32) (v_kinds : Nat → Int32) (v_targets : Nat → Int32) (p1 : Int32) (p2 : Int32) (p3 : Int32) (p4 : Int32) : Option (Int32) := if p3 = (-1) then ((f_Schema_hasFieldOfKind v_fieldCount v_above v_owners v_kinds p1 p2 0).bind fun o9 => (ob_nz o9 (some o9))) else ((f_Schema_hasFieldOfKind v_fieldCount v_above v_owners v_kinds p1 p2 1).bind fun o17 => (if o17 = 0 then (some 0) else (if p4 = (-1) then (ob_iv p2 8 ((f_Schema_hasFieldOfKind v_fieldCount v_above v_owners v_kinds (v_targets p2.toNatClampNeg) p3 0).bind fun o40 => (ob_nz o40 (some o40)))) else (ob_iv p2 8 ((f_Schema_hasFieldOfKind v_fieldCount v_above v_owners v_kinds (v_targets p2.toNatClampNeg) p3 1).bind fun o53 => (if o53 = 0 then (some 0) else (ob_iv p3 8 ((f_Schema_hasFieldOfKind v_fieldCount v_above v_owners v_kinds (v_targets p3.toNatClampNeg) p4 0).bind fun o69 => (if o69 = 0 then (some 0) else (some 1))))))))))
set_option maxHeartbeats 4000000 in
set_option maxRecDepth 100000 in
theorem c_Schema_leadsToNumber (l : Launch) (D : va_G) (G : Nat → ClassId) (a_t a_above a_owners a_kinds a_targets : Nat) (v_classCount : Int32) (v_fieldCount : Int32) (v_above : Nat → Int32) (v_owners : Nat → Int32) (v_kinds : Nat → Int32) (v_targets : Nat → Int32) (p1 : Int32) (p2 : Int32) (p3 : Int32) (p4 : Int32) (o : Int32) (hf : f_Schema_leadsToNumber v_fieldCount v_above v_owners v_kinds v_targets p1 p2 p3 p4 = some o) (sz : Nat) : MetI l y_Schema_leadsToNumber ws_Schema_leadsToNumber ({ frames := 2, cells := 0, slots := 0, locals := 45 }) D (obT G) (cw_Schema_leadsToNumber G a_t a_above a_owners a_kinds a_targets v_classCount v_fieldCount v_above v_owners v_kinds v_targets) (cw_Schema_leadsToNumber G a_t a_above a_owners a_kinds a_targets v_classCount v_fieldCount v_above v_owners v_kinds v_targets) [.ref a_t, .int p1, .int p2, .int p3, .int p4] o sz := by
  refine ob_of (cc := bc_Schema_leadsToNumber) (maxL := 5) (ret := (some .boolean)) (Qc := ObQi D (obT G) (cw_Schema_leadsToNumber G a_t a_above a_owners a_kinds a_targets v_classCount v_fieldCount v_above v_owners v_kinds v_targets) o) (by decide) rfl (Nat.le_of_ble_eq_true rfl) ?_
  intro p e s m below meth c A ls H locs hx hb hr hml hts hown hlk hnm hZ hP hK hD hA hS hl
  have hret : ∀ (o' : Int32) (H : Heap) (locs : List Loc) (pc : Nat) (ls : Array Slot), some o' = some o → va_P D vwCl (cw_Schema_leadsToNumber G a_t a_above a_owners a_kinds a_targets v_classCount v_fieldCount v_above v_owners v_kinds v_targets) H → va_D A (cw_Schema_leadsToNumber G a_t a_above a_owners a_kinds a_targets v_classCount v_fieldCount v_above v_owners v_kinds v_targets) → va_S A s.heap H locs → narrow .boolean (.int o') = .int o' → decode bc_Schema_leadsToNumber pc = .ok (.ireturn, 1) → W p l e { frames := 2, cells := 0, slots := 0, locals := 45 } s m ([.ref a_t, .int p1, .int p2, .int p3, .int p4] : List Value).toArray below meth c H locs 0 0 (MQ below (ObQi D (obT G) (cw_Schema_leadsToNumber G a_t a_above a_owners a_kinds a_targets v_classCount v_fieldCount v_above v_owners v_kinds v_targets) o A) ([.ref a_t, .int p1, .int p2, .int p3, .int p4] : List Value).toArray s 0 0 A) (F0 m pc ls [.int o']) := by
    intro o' H locs pc ls he hP hD hS hn hd
    obtain rfl := Option.some.inj he
    exact ob_iret hx hb hr hlk hK hP hD hS hn hd
  generalize MQ below (ObQi D (obT G) (cw_Schema_leadsToNumber G a_t a_above a_owners a_kinds a_targets v_classCount v_fieldCount v_above v_owners v_kinds v_targets) o A) ([.ref a_t, .int p1, .int p2, .int p3, .int p4] : List Value).toArray s 0 0 A = Q at hret ⊢
  have hl : lv_has ls 5 [(0, .ref a_t), (1, .int p1), (2, .int p2), (3, .int p3), (4, .int p4)] := hl
  unfold f_Schema_leadsToNumber at hf
  refine lv_iload_n hx hb d_Schema_leadsToNumber_0 rfl (lv_at hl 3 rfl) ?_
  refine lv_iconst (v := (-1)) hx hb d_Schema_leadsToNumber_1 (by decide) ?_
  refine lv_icmp_ne (tgt := 13) hx hb d_Schema_leadsToNumber_2 (by decide) (fun hc2 => ?_) (fun hc2 => ?_)
  · have hf := ob_f hc2 hf
    refine lv_aload_n hx hb d_Schema_leadsToNumber_13 rfl (lv_at hl 0 rfl) ?_
    refine lv_iload_n hx hb d_Schema_leadsToNumber_14 rfl (lv_at hl 1 rfl) ?_
    refine lv_iload_n hx hb d_Schema_leadsToNumber_15 rfl (lv_at hl 2 rfl) ?_
    refine lv_iconst (v := 1) hx hb d_Schema_leadsToNumber_16 (by decide) ?_
    obtain ⟨o17, ho17, hf⟩ := ob_b hf
    refine ob_calli (w2 := (cw_Schema_leadsToNumber G a_t a_above a_owners a_kinds a_targets v_classCount v_fieldCount v_above v_owners v_kinds v_targets)) (va_runV (As := [.int p1, .int p2, .int 1]) (rest := []) ⟨hx, hb, hml, hown, hts⟩ (c_Schema_hasFieldOfKind l D G a_t a_above a_owners a_kinds a_targets v_classCount v_fieldCount v_above v_owners v_kinds p1 p2 1 o17 ho17 H.size) (cwV 3 hts (gV tw300 tw301 tw302 tw2 tw303) rfl rfl rfl (by decide +kernel) ⟨Nat.le_of_ble_eq_true rfl, Nat.le_of_ble_eq_true rfl⟩) (ob_preV (q0 := 0) (ci := 1) hZ hK hP hD [0, 1, 2, 3] rfl rfl rfl rfl rfl) rfl rfl hl.1 rfl (lv_room (Nat.le_of_ble_eq_true rfl)) d_Schema_leadsToNumber_17 ⟨Nat.le_refl _, Nat.le_refl _⟩) hP hD hA hS [0, 1, 2, 3] rfl rfl rfl rfl (fun H locs hP hD hS => ?_)
    refine lv_if_ne (tgt := 25) hx hb d_Schema_leadsToNumber_20 (by decide) (fun hc20 => ?_) (fun hc20 => ?_)
    · have hf := ob_f hc20 hf
      refine lv_iload hx hb d_Schema_leadsToNumber_25 (lv_at hl 4 rfl) ?_
      refine lv_iconst (v := (-1)) hx hb d_Schema_leadsToNumber_27 (by decide) ?_
      refine lv_icmp_ne (tgt := 44) hx hb d_Schema_leadsToNumber_28 (by decide) (fun hc28 => ?_) (fun hc28 => ?_)
      · have hf := ob_f hc28 hf
        refine lv_aload_n hx hb d_Schema_leadsToNumber_44 rfl (lv_at hl 0 rfl) ?_
        refine lv_aload_n hx hb d_Schema_leadsToNumber_45 rfl (lv_at hl 0 rfl) ?_
        refine va_get (D := D) (ci := 1) (v := .ref a_targets) (C := "ObjectBase$Schema") (T := TC_Schema) (N := 6) hx hb hts inC_Schema hown hK hP 0 rfl rfl 3 (by decide) (hts _ tw35) (fun _ h9 => h9) rfl d_Schema_leadsToNumber_46 ?_
        refine lv_iload_n hx hb d_Schema_leadsToNumber_49 rfl (lv_at hl 2 rfl) ?_
        obtain ⟨hg50, hf⟩ := ob_iv_g hf
        refine va_iald hx hb hK hP 4 0 rfl rfl hg50 d_Schema_leadsToNumber_50 ?_
        refine lv_iload_n hx hb d_Schema_leadsToNumber_51 rfl (lv_at hl 3 rfl) ?_
        refine lv_iconst (v := 1) hx hb d_Schema_leadsToNumber_52 (by decide) ?_
        obtain ⟨o53, ho53, hf⟩ := ob_b hf
        refine ob_calli (w2 := (cw_Schema_leadsToNumber G a_t a_above a_owners a_kinds a_targets v_classCount v_fieldCount v_above v_owners v_kinds v_targets)) (va_runV (As := [.int (v_targets p2.toNatClampNeg), .int p3, .int 1]) (rest := []) ⟨hx, hb, hml, hown, hts⟩ (c_Schema_hasFieldOfKind l D G a_t a_above a_owners a_kinds a_targets v_classCount v_fieldCount v_above v_owners v_kinds (v_targets p2.toNatClampNeg) p3 1 o53 ho53 H.size) (cwV 3 hts (gV tw300 tw301 tw302 tw2 tw303) rfl rfl rfl (by decide +kernel) ⟨Nat.le_of_ble_eq_true rfl, Nat.le_of_ble_eq_true rfl⟩) (ob_preV (q0 := 0) (ci := 1) hZ hK hP hD [0, 1, 2, 3] rfl rfl rfl rfl rfl) rfl rfl hl.1 rfl (lv_room (Nat.le_of_ble_eq_true rfl)) d_Schema_leadsToNumber_53 ⟨Nat.le_refl _, Nat.le_refl _⟩) hP hD hA hS [0, 1, 2, 3] rfl rfl rfl rfl (fun H locs hP hD hS => ?_)
        refine lv_if_eq (tgt := 79) hx hb d_Schema_leadsToNumber_56 (by decide) (fun hc56 => ?_) (fun hc56 => ?_)
        · have hf := ob_t hc56 hf
          refine lv_iconst (v := 0) hx hb d_Schema_leadsToNumber_79 (by decide) ?_
          exact hret 0 H locs _ ls hf hP hD hS narrow_b0 d_Schema_leadsToNumber_80
        · have hf := ob_f hc56 hf
          refine lv_aload_n hx hb d_Schema_leadsToNumber_59 rfl (lv_at hl 0 rfl) ?_
          refine lv_aload_n hx hb d_Schema_leadsToNumber_60 rfl (lv_at hl 0 rfl) ?_
          refine va_get (D := D) (ci := 1) (v := .ref a_targets) (C := "ObjectBase$Schema") (T := TC_Schema) (N := 6) hx hb hts inC_Schema hown hK hP 0 rfl rfl 3 (by decide) (hts _ tw35) (fun _ h9 => h9) rfl d_Schema_leadsToNumber_61 ?_
          refine lv_iload_n hx hb d_Schema_leadsToNumber_64 rfl (lv_at hl 3 rfl) ?_
          obtain ⟨hg65, hf⟩ := ob_iv_g hf
          refine va_iald hx hb hK hP 4 0 rfl rfl hg65 d_Schema_leadsToNumber_65 ?_
          refine lv_iload hx hb d_Schema_leadsToNumber_66 (lv_at hl 4 rfl) ?_
          refine lv_iconst (v := 0) hx hb d_Schema_leadsToNumber_68 (by decide) ?_
          obtain ⟨o69, ho69, hf⟩ := ob_b hf
          refine ob_calli (w2 := (cw_Schema_leadsToNumber G a_t a_above a_owners a_kinds a_targets v_classCount v_fieldCount v_above v_owners v_kinds v_targets)) (va_runV (As := [.int (v_targets p3.toNatClampNeg), .int p4, .int 0]) (rest := []) ⟨hx, hb, hml, hown, hts⟩ (c_Schema_hasFieldOfKind l D G a_t a_above a_owners a_kinds a_targets v_classCount v_fieldCount v_above v_owners v_kinds (v_targets p3.toNatClampNeg) p4 0 o69 ho69 H.size) (cwV 3 hts (gV tw300 tw301 tw302 tw2 tw303) rfl rfl rfl (by decide +kernel) ⟨Nat.le_of_ble_eq_true rfl, Nat.le_of_ble_eq_true rfl⟩) (ob_preV (q0 := 0) (ci := 1) hZ hK hP hD [0, 1, 2, 3] rfl rfl rfl rfl rfl) rfl rfl hl.1 rfl (lv_room (Nat.le_of_ble_eq_true rfl)) d_Schema_leadsToNumber_69 ⟨Nat.le_refl _, Nat.le_refl _⟩) hP hD hA hS [0, 1, 2, 3] rfl rfl rfl rfl (fun H locs hP hD hS => ?_)
          refine lv_if_eq (tgt := 79) hx hb d_Schema_leadsToNumber_72 (by decide) (fun hc72 => ?_) (fun hc72 => ?_)
          · have hf := ob_t hc72 hf
            refine lv_iconst (v := 0) hx hb d_Schema_leadsToNumber_79 (by decide) ?_
            exact hret 0 H locs _ ls hf hP hD hS narrow_b0 d_Schema_leadsToNumber_80
          · have hf := ob_f hc72 hf
            refine lv_iconst (v := 1) hx hb d_Schema_leadsToNumber_75 (by decide) ?_
            refine lv_goto (tgt := 80) hx hb d_Schema_leadsToNumber_76 (by decide) ?_
            exact hret 1 H locs _ ls hf hP hD hS narrow_b1 d_Schema_leadsToNumber_80
      · have hf := ob_t hc28 hf
        refine lv_aload_n hx hb d_Schema_leadsToNumber_31 rfl (lv_at hl 0 rfl) ?_
        refine lv_aload_n hx hb d_Schema_leadsToNumber_32 rfl (lv_at hl 0 rfl) ?_
        refine va_get (D := D) (ci := 1) (v := .ref a_targets) (C := "ObjectBase$Schema") (T := TC_Schema) (N := 6) hx hb hts inC_Schema hown hK hP 0 rfl rfl 3 (by decide) (hts _ tw35) (fun _ h9 => h9) rfl d_Schema_leadsToNumber_33 ?_
        refine lv_iload_n hx hb d_Schema_leadsToNumber_36 rfl (lv_at hl 2 rfl) ?_
        obtain ⟨hg37, hf⟩ := ob_iv_g hf
        refine va_iald hx hb hK hP 4 0 rfl rfl hg37 d_Schema_leadsToNumber_37 ?_
        refine lv_iload_n hx hb d_Schema_leadsToNumber_38 rfl (lv_at hl 3 rfl) ?_
        refine lv_iconst (v := 0) hx hb d_Schema_leadsToNumber_39 (by decide) ?_
        obtain ⟨o40, ho40, hf⟩ := ob_b hf
        refine ob_calli (w2 := (cw_Schema_leadsToNumber G a_t a_above a_owners a_kinds a_targets v_classCount v_fieldCount v_above v_owners v_kinds v_targets)) (va_runV (As := [.int (v_targets p2.toNatClampNeg), .int p3, .int 0]) (rest := []) ⟨hx, hb, hml, hown, hts⟩ (c_Schema_hasFieldOfKind l D G a_t a_above a_owners a_kinds a_targets v_classCount v_fieldCount v_above v_owners v_kinds (v_targets p2.toNatClampNeg) p3 0 o40 ho40 H.size) (cwV 3 hts (gV tw300 tw301 tw302 tw2 tw303) rfl rfl rfl (by decide +kernel) ⟨Nat.le_of_ble_eq_true rfl, Nat.le_of_ble_eq_true rfl⟩) (ob_preV (q0 := 0) (ci := 1) hZ hK hP hD [0, 1, 2, 3] rfl rfl rfl rfl rfl) rfl rfl hl.1 rfl (lv_room (Nat.le_of_ble_eq_true rfl)) d_Schema_leadsToNumber_40 ⟨Nat.le_refl _, Nat.le_refl _⟩) hP hD hA hS [0, 1, 2, 3] rfl rfl rfl rfl (fun H locs hP hD hS => ?_)
        obtain ⟨hg43, hf⟩ := ob_nz_g hf
        exact hret o40 H locs _ ls hf hP hD hS hg43.1 d_Schema_leadsToNumber_43
    · have hf := ob_t hc20 hf
      refine lv_iconst (v := 0) hx hb d_Schema_leadsToNumber_23 (by decide) ?_
      exact hret 0 H locs _ ls hf hP hD hS narrow_b0 d_Schema_leadsToNumber_24
  · have hf := ob_t hc2 hf
    refine lv_aload_n hx hb d_Schema_leadsToNumber_5 rfl (lv_at hl 0 rfl) ?_
    refine lv_iload_n hx hb d_Schema_leadsToNumber_6 rfl (lv_at hl 1 rfl) ?_
    refine lv_iload_n hx hb d_Schema_leadsToNumber_7 rfl (lv_at hl 2 rfl) ?_
    refine lv_iconst (v := 0) hx hb d_Schema_leadsToNumber_8 (by decide) ?_
    obtain ⟨o9, ho9, hf⟩ := ob_b hf
    refine ob_calli (w2 := (cw_Schema_leadsToNumber G a_t a_above a_owners a_kinds a_targets v_classCount v_fieldCount v_above v_owners v_kinds v_targets)) (va_runV (As := [.int p1, .int p2, .int 0]) (rest := []) ⟨hx, hb, hml, hown, hts⟩ (c_Schema_hasFieldOfKind l D G a_t a_above a_owners a_kinds a_targets v_classCount v_fieldCount v_above v_owners v_kinds p1 p2 0 o9 ho9 H.size) (cwV 3 hts (gV tw300 tw301 tw302 tw2 tw303) rfl rfl rfl (by decide +kernel) ⟨Nat.le_of_ble_eq_true rfl, Nat.le_of_ble_eq_true rfl⟩) (ob_preV (q0 := 0) (ci := 1) hZ hK hP hD [0, 1, 2, 3] rfl rfl rfl rfl rfl) rfl rfl hl.1 rfl (lv_room (Nat.le_of_ble_eq_true rfl)) d_Schema_leadsToNumber_9 ⟨Nat.le_refl _, Nat.le_refl _⟩) hP hD hA hS [0, 1, 2, 3] rfl rfl rfl rfl (fun H locs hP hD hS => ?_)
    obtain ⟨hg12, hf⟩ := ob_nz_g hf
    exact hret o9 H locs _ ls hf hP hD hS hg12.1 d_Schema_leadsToNumber_12
abbrev bc_Indexes_init : ByteArray := prog_6_method_1_code
abbrev y_Indexes_init : MethodName := ⟨"ObjectBase$Indexes", "<init>", "()V"⟩
def ws_Indexes_init : List Cond := .code y_Indexes_init bc_Indexes_init 1 none :: obW
theorem d_Indexes_init_0 : decode bc_Indexes_init 0 = .ok (.aload_n 0, 1) := by decide +kernel
theorem d_Indexes_init_1 : decode bc_Indexes_init 1 = .ok (.invokespecial 3, 3) := by decide +kernel
theorem d_Indexes_init_4 : decode bc_Indexes_init 4 = .ok (.aload_n 0, 1) := by decide +kernel
theorem d_Indexes_init_5 : decode bc_Indexes_init 5 = .ok (.iconst 3, 1) := by decide +kernel
theorem d_Indexes_init_6 : decode bc_Indexes_init 6 = .ok (.newarray .int, 2) := by decide +kernel
theorem d_Indexes_init_8 : decode bc_Indexes_init 8 = .ok (.putfield 9, 3) := by decide +kernel
theorem d_Indexes_init_11 : decode bc_Indexes_init 11 = .ok (.aload_n 0, 1) := by decide +kernel
theorem d_Indexes_init_12 : decode bc_Indexes_init 12 = .ok (.bipush 9, 2) := by decide +kernel
theorem d_Indexes_init_14 : decode bc_Indexes_init 14 = .ok (.newarray .int, 2) := by decide +kernel
theorem d_Indexes_init_16 : decode bc_Indexes_init 16 = .ok (.putfield 15, 3) := by decide +kernel
theorem d_Indexes_init_19 : decode bc_Indexes_init 19 = .ok (.return_, 1) := by decide +kernel
def nw_Indexes (G : Nat → ClassId) (a_t : Nat) (b0 : Nat) (b1 : Nat) : va_W := [(a_t, .inr (2, [.ref b0, .ref b1, .int 0])), (b0, .inl (G 0, 3, .inl (fun _ => 0))), (b1, .inl (G 0, 9, .inl (fun _ => 0)))]
set_option maxHeartbeats 4000000 in
set_option maxRecDepth 100000 in
theorem n_Indexes (l : Launch) (D : va_G) (G : Nat → ClassId) (a_t : Nat) (sz : Nat) : Met l y_Indexes_init ws_Indexes_init ({ frames := 1, cells := 2, slots := 12, locals := 12 }) (ObPre D (obT G) [(a_t, .inr (2, [.null, .null, .int 0]))] sz [.ref a_t]) (va_Qv (S := Nat × Nat) (fun _ => True) (fun u t => ObAt D (obT G) (nw_Indexes G a_t u.1 u.2) (va_A [(a_t, .inr (2, [.null, .null, .int 0]))] sz) t) (va_A [(a_t, .inr (2, [.null, .null, .int 0]))] sz)) 2 12 (va_A [(a_t, .inr (2, [.null, .null, .int 0]))] sz) := by
  refine ob_of (cc := bc_Indexes_init) (maxL := 1) (ret := none) (Qc := fun A => va_Qv (S := Nat × Nat) (fun _ => True) (fun u t => ObAt D (obT G) (nw_Indexes G a_t u.1 u.2) A t) A) (by decide) rfl (Nat.le_of_ble_eq_true rfl) ?_
  intro p e s m below meth c A ls H locs hx hb hr hml hts hown hlk hnm hZ hP hK hD hA hS hl
  have hin : meth.name = "<init>" := hnm
  have hl : lv_has ls 1 [(0, .ref a_t)] := hl
  refine lv_aload_n hx hb d_Indexes_init_0 rfl (lv_at hl 0 rfl) ?_
  refine W.objInit hx hb hown (hts _ tw62) (hts _ tw21) (hts _ tw22) rfl (by rw [hml]; exact hl.1) rfl d_Indexes_init_1 (Nat.le_of_ble_eq_true rfl) (Nat.le_of_ble_eq_true rfl) ?_
  refine W.eq (g2 := F0 m 4 ls []) rfl ?_
  refine lv_aload_n hx hb d_Indexes_init_4 rfl (lv_at hl 0 rfl) ?_
  refine lv_iconst (v := 3) hx hb d_Indexes_init_5 (by decide) ?_
  refine ob_newa (atype := .int) (N' := 3) (a0 := (3, .inl (fun _ => 0))) hx hb (hts _ tw56) rfl hK 0 rfl hP hD hS hA (fun _ => rfl) (by decide) (by decide) (by decide) (Nat.le_of_ble_eq_true rfl) (Nat.le_of_ble_eq_true rfl) d_Indexes_init_6 (fun q6 H hP hD hS => ?_)
  refine W.cs (cells' := 1) (slots' := 3) rfl rfl ?_
  have hP : va_P D vwCl [(a_t, .inr (2, [.null, .null, .int 0])), (q6, .inl (G 0, 3, .inl (fun _ => 0)))] H := hP
  have hD : va_D A [(a_t, .inr (2, [.null, .null, .int 0])), (q6, .inl (G 0, 3, .inl (fun _ => 0)))] := hD
  refine va_putF (D := D) (ci := 2) (v := .ref q6) (ty := .array .int) (C := "ObjectBase$Indexes") (T := TC_Indexes) (N := 3) hx hb hts inC_Indexes tyC_Indexes tyC_Indexes_ok nmC_Indexes hown hK hP hD hS 0 rfl rfl 0 (by decide) (hts _ tw63) (fun _ h9 => h9) rfl hin rfl (by decide +kernel) rfl rfl (Nat.le_of_ble_eq_true rfl) d_Indexes_init_8 (fun H locs hP hD hS => ?_)
  have hP : va_P D vwCl [(a_t, .inr (2, [.ref q6, .null, .int 0])), (q6, .inl (G 0, 3, .inl (fun _ => 0)))] H := hP
  have hD : va_D A [(a_t, .inr (2, [.ref q6, .null, .int 0])), (q6, .inl (G 0, 3, .inl (fun _ => 0)))] := hD
  refine lv_aload_n hx hb d_Indexes_init_11 rfl (lv_at hl 0 rfl) ?_
  refine lv_bipush (v := 9) hx hb d_Indexes_init_12 (by decide) ?_
  refine ob_newa (atype := .int) (N' := 9) (a0 := (9, .inl (fun _ => 0))) hx hb (hts _ tw56) rfl hK 0 rfl hP hD hS hA (fun _ => rfl) (by decide) (by decide) (by decide) (Nat.le_of_ble_eq_true rfl) (Nat.le_of_ble_eq_true rfl) d_Indexes_init_14 (fun q14 H hP hD hS => ?_)
  refine W.cs (cells' := 2) (slots' := 12) rfl rfl ?_
  have hP : va_P D vwCl [(a_t, .inr (2, [.ref q6, .null, .int 0])), (q6, .inl (G 0, 3, .inl (fun _ => 0))), (q14, .inl (G 0, 9, .inl (fun _ => 0)))] H := hP
  have hD : va_D A [(a_t, .inr (2, [.ref q6, .null, .int 0])), (q6, .inl (G 0, 3, .inl (fun _ => 0))), (q14, .inl (G 0, 9, .inl (fun _ => 0)))] := hD
  refine va_putF (D := D) (ci := 2) (v := .ref q14) (ty := .array .int) (C := "ObjectBase$Indexes") (T := TC_Indexes) (N := 3) hx hb hts inC_Indexes tyC_Indexes tyC_Indexes_ok nmC_Indexes hown hK hP hD hS 0 rfl rfl 1 (by decide) (hts _ tw64) (fun _ h9 => h9) rfl hin rfl (by decide +kernel) rfl rfl (Nat.le_of_ble_eq_true rfl) d_Indexes_init_16 (fun H locs hP hD hS => ?_)
  have hP : va_P D vwCl [(a_t, .inr (2, [.ref q6, .ref q14, .int 0])), (q6, .inl (G 0, 3, .inl (fun _ => 0))), (q14, .inl (G 0, 9, .inl (fun _ => 0)))] H := hP
  have hD : va_D A [(a_t, .inr (2, [.ref q6, .ref q14, .int 0])), (q6, .inl (G 0, 3, .inl (fun _ => 0))), (q14, .inl (G 0, 9, .inl (fun _ => 0)))] := hD
  exact W.vret hx hb hr (fun t ht hW => ⟨⟨(q6, q14), rfl, trivial, by rw [ht]; exact hP, va_K.moved hW.alike hK, hD⟩, hS.F ht⟩) hS.2.2 d_Indexes_init_19 hlk
abbrev bc_Indexes_addIndex : ByteArray := prog_6_method_2_code
abbrev y_Indexes_addIndex : MethodName := ⟨"ObjectBase$Indexes", "addIndex", "(IIII)I"⟩
def ws_Indexes_addIndex : List Cond := .code y_Indexes_addIndex bc_Indexes_addIndex 5 (some .int) :: obW
theorem d_Indexes_addIndex_0 : decode bc_Indexes_addIndex 0 = .ok (.aload_n 0, 1) := by decide +kernel
theorem d_Indexes_addIndex_1 : decode bc_Indexes_addIndex 1 = .ok (.getfield 9, 3) := by decide +kernel
theorem d_Indexes_addIndex_4 : decode bc_Indexes_addIndex 4 = .ok (.aload_n 0, 1) := by decide +kernel
theorem d_Indexes_addIndex_5 : decode bc_Indexes_addIndex 5 = .ok (.getfield 18, 3) := by decide +kernel
theorem d_Indexes_addIndex_8 : decode bc_Indexes_addIndex 8 = .ok (.iload_n 1, 1) := by decide +kernel
theorem d_Indexes_addIndex_9 : decode bc_Indexes_addIndex 9 = .ok (.iastore, 1) := by decide +kernel
theorem d_Indexes_addIndex_10 : decode bc_Indexes_addIndex 10 = .ok (.aload_n 0, 1) := by decide +kernel
theorem d_Indexes_addIndex_11 : decode bc_Indexes_addIndex 11 = .ok (.getfield 15, 3) := by decide +kernel
theorem d_Indexes_addIndex_14 : decode bc_Indexes_addIndex 14 = .ok (.aload_n 0, 1) := by decide +kernel
theorem d_Indexes_addIndex_15 : decode bc_Indexes_addIndex 15 = .ok (.getfield 18, 3) := by decide +kernel
theorem d_Indexes_addIndex_18 : decode bc_Indexes_addIndex 18 = .ok (.iconst 3, 1) := by decide +kernel
theorem d_Indexes_addIndex_19 : decode bc_Indexes_addIndex 19 = .ok (.imul, 1) := by decide +kernel
theorem d_Indexes_addIndex_20 : decode bc_Indexes_addIndex 20 = .ok (.iload_n 2, 1) := by decide +kernel
theorem d_Indexes_addIndex_21 : decode bc_Indexes_addIndex 21 = .ok (.iastore, 1) := by decide +kernel
theorem d_Indexes_addIndex_22 : decode bc_Indexes_addIndex 22 = .ok (.aload_n 0, 1) := by decide +kernel
theorem d_Indexes_addIndex_23 : decode bc_Indexes_addIndex 23 = .ok (.getfield 15, 3) := by decide +kernel
theorem d_Indexes_addIndex_26 : decode bc_Indexes_addIndex 26 = .ok (.aload_n 0, 1) := by decide +kernel
theorem d_Indexes_addIndex_27 : decode bc_Indexes_addIndex 27 = .ok (.getfield 18, 3) := by decide +kernel
theorem d_Indexes_addIndex_30 : decode bc_Indexes_addIndex 30 = .ok (.iconst 3, 1) := by decide +kernel
theorem d_Indexes_addIndex_31 : decode bc_Indexes_addIndex 31 = .ok (.imul, 1) := by decide +kernel
theorem d_Indexes_addIndex_32 : decode bc_Indexes_addIndex 32 = .ok (.iconst 1, 1) := by decide +kernel
theorem d_Indexes_addIndex_33 : decode bc_Indexes_addIndex 33 = .ok (.iadd, 1) := by decide +kernel
theorem d_Indexes_addIndex_34 : decode bc_Indexes_addIndex 34 = .ok (.iload_n 3, 1) := by decide +kernel
theorem d_Indexes_addIndex_35 : decode bc_Indexes_addIndex 35 = .ok (.iastore, 1) := by decide +kernel
theorem d_Indexes_addIndex_36 : decode bc_Indexes_addIndex 36 = .ok (.aload_n 0, 1) := by decide +kernel
theorem d_Indexes_addIndex_37 : decode bc_Indexes_addIndex 37 = .ok (.getfield 15, 3) := by decide +kernel
theorem d_Indexes_addIndex_40 : decode bc_Indexes_addIndex 40 = .ok (.aload_n 0, 1) := by decide +kernel
theorem d_Indexes_addIndex_41 : decode bc_Indexes_addIndex 41 = .ok (.getfield 18, 3) := by decide +kernel
theorem d_Indexes_addIndex_44 : decode bc_Indexes_addIndex 44 = .ok (.iconst 3, 1) := by decide +kernel
theorem d_Indexes_addIndex_45 : decode bc_Indexes_addIndex 45 = .ok (.imul, 1) := by decide +kernel
theorem d_Indexes_addIndex_46 : decode bc_Indexes_addIndex 46 = .ok (.iconst 2, 1) := by decide +kernel
theorem d_Indexes_addIndex_47 : decode bc_Indexes_addIndex 47 = .ok (.iadd, 1) := by decide +kernel
theorem d_Indexes_addIndex_48 : decode bc_Indexes_addIndex 48 = .ok (.iload 4, 2) := by decide +kernel
theorem d_Indexes_addIndex_50 : decode bc_Indexes_addIndex 50 = .ok (.iastore, 1) := by decide +kernel
theorem d_Indexes_addIndex_51 : decode bc_Indexes_addIndex 51 = .ok (.aload_n 0, 1) := by decide +kernel
theorem d_Indexes_addIndex_52 : decode bc_Indexes_addIndex 52 = .ok (.dup, 1) := by decide +kernel
theorem d_Indexes_addIndex_53 : decode bc_Indexes_addIndex 53 = .ok (.getfield 18, 3) := by decide +kernel
theorem d_Indexes_addIndex_56 : decode bc_Indexes_addIndex 56 = .ok (.iconst 1, 1) := by decide +kernel
theorem d_Indexes_addIndex_57 : decode bc_Indexes_addIndex 57 = .ok (.iadd, 1) := by decide +kernel
theorem d_Indexes_addIndex_58 : decode bc_Indexes_addIndex 58 = .ok (.putfield 18, 3) := by decide +kernel
theorem d_Indexes_addIndex_61 : decode bc_Indexes_addIndex 61 = .ok (.aload_n 0, 1) := by decide +kernel
theorem d_Indexes_addIndex_62 : decode bc_Indexes_addIndex 62 = .ok (.getfield 18, 3) := by decide +kernel
theorem d_Indexes_addIndex_65 : decode bc_Indexes_addIndex 65 = .ok (.iconst 1, 1) := by decide +kernel
theorem d_Indexes_addIndex_66 : decode bc_Indexes_addIndex 66 = .ok (.isub, 1) := by decide +kernel
theorem d_Indexes_addIndex_67 : decode bc_Indexes_addIndex 67 = .ok (.ireturn, 1) := by decide +kernel
def cw_Indexes_addIndex (G : Nat → ClassId) (a_t a_classes a_fields : Nat) (v_count : Int32) (v_classes : Nat → Int32) (v_fields : Nat → Int32) : va_W := [(a_t, .inr (2, [.ref a_classes, .ref a_fields, .int v_count])), (a_classes, .inl (G 0, 3, .inl v_classes)), (a_fields, .inl (G 0, 9, .inl v_fields))]
def f_Indexes_addIndex (v_count : Int32) (v_classes : Nat → Int32) (v_fields : Nat → Int32) (p1 : Int32) (p2 : Int32) (p3 : Int32) (p4 : Int32) : Option (Int32 × Int32 × (Nat → Int32) × (Nat → Int32)) := ob_iv v_count 3 (ob_iv (v_count * 3) 9 (ob_iv ((v_count * 3) + 1) 9 (ob_iv ((v_count * 3) + 2) 9 (some ((v_count + 1) - 1, v_count + 1, upd v_classes v_count.toNatClampNeg p1, upd (upd (upd v_fields (v_count * 3).toNatClampNeg p2) ((v_count * 3) + 1).toNatClampNeg p3) ((v_count * 3) + 2).toNatClampNeg p4)))))
set_option maxHeartbeats 4000000 in
set_option maxRecDepth 100000 in
theorem c_Indexes_addIndex (l : Launch) (D : va_G) (G : Nat → ClassId) (a_t a_classes a_fields : Nat) (v_count : Int32) (v_classes : Nat → Int32) (v_fields : Nat → Int32) (p1 : Int32) (p2 : Int32) (p3 : Int32) (p4 : Int32) (o : Int32 × Int32 × (Nat → Int32) × (Nat → Int32)) (hf : f_Indexes_addIndex v_count v_classes v_fields p1 p2 p3 p4 = some o) (sz : Nat) : MetI l y_Indexes_addIndex ws_Indexes_addIndex ({ frames := 0, cells := 0, slots := 0, locals := 0 }) D (obT G) (cw_Indexes_addIndex G a_t a_classes a_fields v_count v_classes v_fields) (cw_Indexes_addIndex G a_t a_classes a_fields o.2.1 o.2.2.1 o.2.2.2) [.ref a_t, .int p1, .int p2, .int p3, .int p4] o.1 sz := by
  refine ob_of (cc := bc_Indexes_addIndex) (maxL := 5) (ret := (some .int)) (Qc := ObQi D (obT G) (cw_Indexes_addIndex G a_t a_classes a_fields o.2.1 o.2.2.1 o.2.2.2) o.1) (by decide) rfl (Nat.le_of_ble_eq_true rfl) ?_
  intro p e s m below meth c A ls H locs hx hb hr hml hts hown hlk hnm hZ hP hK hD hA hS hl
  have hret : ∀ (o' : Int32 × Int32 × (Nat → Int32) × (Nat → Int32)) (H : Heap) (locs : List Loc) (pc : Nat) (ls : Array Slot), some o' = some o → va_P D vwCl (cw_Indexes_addIndex G a_t a_classes a_fields o'.2.1 o'.2.2.1 o'.2.2.2) H → va_D A (cw_Indexes_addIndex G a_t a_classes a_fields o'.2.1 o'.2.2.1 o'.2.2.2) → va_S A s.heap H locs → narrow .int (.int o'.1) = .int o'.1 → decode bc_Indexes_addIndex pc = .ok (.ireturn, 1) → W p l e { frames := 0, cells := 0, slots := 0, locals := 0 } s m ([.ref a_t, .int p1, .int p2, .int p3, .int p4] : List Value).toArray below meth c H locs 0 0 (MQ below (ObQi D (obT G) (cw_Indexes_addIndex G a_t a_classes a_fields o.2.1 o.2.2.1 o.2.2.2) o.1 A) ([.ref a_t, .int p1, .int p2, .int p3, .int p4] : List Value).toArray s 0 0 A) (F0 m pc ls [.int o'.1]) := by
    intro o' H locs pc ls he hP hD hS hn hd
    obtain rfl := Option.some.inj he
    exact ob_iret hx hb hr hlk hK hP hD hS hn hd
  generalize MQ below (ObQi D (obT G) (cw_Indexes_addIndex G a_t a_classes a_fields o.2.1 o.2.2.1 o.2.2.2) o.1 A) ([.ref a_t, .int p1, .int p2, .int p3, .int p4] : List Value).toArray s 0 0 A = Q at hret ⊢
  have hl : lv_has ls 5 [(0, .ref a_t), (1, .int p1), (2, .int p2), (3, .int p3), (4, .int p4)] := hl
  unfold f_Indexes_addIndex at hf
  refine lv_aload_n hx hb d_Indexes_addIndex_0 rfl (lv_at hl 0 rfl) ?_
  refine va_get (D := D) (ci := 2) (v := .ref a_classes) (C := "ObjectBase$Indexes") (T := TC_Indexes) (N := 3) hx hb hts inC_Indexes hown hK hP 0 rfl rfl 0 (by decide) (hts _ tw63) (fun _ h9 => h9) rfl d_Indexes_addIndex_1 ?_
  refine lv_aload_n hx hb d_Indexes_addIndex_4 rfl (lv_at hl 0 rfl) ?_
  refine va_get (D := D) (ci := 2) (v := .int v_count) (C := "ObjectBase$Indexes") (T := TC_Indexes) (N := 3) hx hb hts inC_Indexes hown hK hP 0 rfl rfl 2 (by decide) (hts _ tw65) (fun _ h9 => h9) rfl d_Indexes_addIndex_5 ?_
  refine lv_iload_n hx hb d_Indexes_addIndex_8 rfl (lv_at hl 1 rfl) ?_
  obtain ⟨hg9, hf⟩ := ob_iv_g hf
  refine va_iast hx hb hK hP hD hS 1 0 rfl rfl hg9 d_Indexes_addIndex_9 (fun H locs hP hD hS => ?_)
  have hP : va_P D vwCl (cw_Indexes_addIndex G a_t a_classes a_fields v_count (upd v_classes v_count.toNatClampNeg p1) v_fields) H := hP
  have hD : va_D A (cw_Indexes_addIndex G a_t a_classes a_fields v_count (upd v_classes v_count.toNatClampNeg p1) v_fields) := hD
  refine lv_aload_n hx hb d_Indexes_addIndex_10 rfl (lv_at hl 0 rfl) ?_
  refine va_get (D := D) (ci := 2) (v := .ref a_fields) (C := "ObjectBase$Indexes") (T := TC_Indexes) (N := 3) hx hb hts inC_Indexes hown hK hP 0 rfl rfl 1 (by decide) (hts _ tw64) (fun _ h9 => h9) rfl d_Indexes_addIndex_11 ?_
  refine lv_aload_n hx hb d_Indexes_addIndex_14 rfl (lv_at hl 0 rfl) ?_
  refine va_get (D := D) (ci := 2) (v := .int v_count) (C := "ObjectBase$Indexes") (T := TC_Indexes) (N := 3) hx hb hts inC_Indexes hown hK hP 0 rfl rfl 2 (by decide) (hts _ tw65) (fun _ h9 => h9) rfl d_Indexes_addIndex_15 ?_
  refine lv_iconst (v := 3) hx hb d_Indexes_addIndex_18 (by decide) ?_
  refine lv_imul hx hb d_Indexes_addIndex_19 ?_
  refine lv_iload_n hx hb d_Indexes_addIndex_20 rfl (lv_at hl 2 rfl) ?_
  obtain ⟨hg21, hf⟩ := ob_iv_g hf
  refine va_iast hx hb hK hP hD hS 2 0 rfl rfl hg21 d_Indexes_addIndex_21 (fun H locs hP hD hS => ?_)
  have hP : va_P D vwCl (cw_Indexes_addIndex G a_t a_classes a_fields v_count (upd v_classes v_count.toNatClampNeg p1) (upd v_fields (v_count * 3).toNatClampNeg p2)) H := hP
  have hD : va_D A (cw_Indexes_addIndex G a_t a_classes a_fields v_count (upd v_classes v_count.toNatClampNeg p1) (upd v_fields (v_count * 3).toNatClampNeg p2)) := hD
  refine lv_aload_n hx hb d_Indexes_addIndex_22 rfl (lv_at hl 0 rfl) ?_
  refine va_get (D := D) (ci := 2) (v := .ref a_fields) (C := "ObjectBase$Indexes") (T := TC_Indexes) (N := 3) hx hb hts inC_Indexes hown hK hP 0 rfl rfl 1 (by decide) (hts _ tw64) (fun _ h9 => h9) rfl d_Indexes_addIndex_23 ?_
  refine lv_aload_n hx hb d_Indexes_addIndex_26 rfl (lv_at hl 0 rfl) ?_
  refine va_get (D := D) (ci := 2) (v := .int v_count) (C := "ObjectBase$Indexes") (T := TC_Indexes) (N := 3) hx hb hts inC_Indexes hown hK hP 0 rfl rfl 2 (by decide) (hts _ tw65) (fun _ h9 => h9) rfl d_Indexes_addIndex_27 ?_
  refine lv_iconst (v := 3) hx hb d_Indexes_addIndex_30 (by decide) ?_
  refine lv_imul hx hb d_Indexes_addIndex_31 ?_
  refine lv_iconst (v := 1) hx hb d_Indexes_addIndex_32 (by decide) ?_
  refine lv_iadd hx hb d_Indexes_addIndex_33 ?_
  refine lv_iload_n hx hb d_Indexes_addIndex_34 rfl (lv_at hl 3 rfl) ?_
  obtain ⟨hg35, hf⟩ := ob_iv_g hf
  refine va_iast hx hb hK hP hD hS 2 0 rfl rfl hg35 d_Indexes_addIndex_35 (fun H locs hP hD hS => ?_)
  have hP : va_P D vwCl (cw_Indexes_addIndex G a_t a_classes a_fields v_count (upd v_classes v_count.toNatClampNeg p1) (upd (upd v_fields (v_count * 3).toNatClampNeg p2) ((v_count * 3) + 1).toNatClampNeg p3)) H := hP
  have hD : va_D A (cw_Indexes_addIndex G a_t a_classes a_fields v_count (upd v_classes v_count.toNatClampNeg p1) (upd (upd v_fields (v_count * 3).toNatClampNeg p2) ((v_count * 3) + 1).toNatClampNeg p3)) := hD
  refine lv_aload_n hx hb d_Indexes_addIndex_36 rfl (lv_at hl 0 rfl) ?_
  refine va_get (D := D) (ci := 2) (v := .ref a_fields) (C := "ObjectBase$Indexes") (T := TC_Indexes) (N := 3) hx hb hts inC_Indexes hown hK hP 0 rfl rfl 1 (by decide) (hts _ tw64) (fun _ h9 => h9) rfl d_Indexes_addIndex_37 ?_
  refine lv_aload_n hx hb d_Indexes_addIndex_40 rfl (lv_at hl 0 rfl) ?_
  refine va_get (D := D) (ci := 2) (v := .int v_count) (C := "ObjectBase$Indexes") (T := TC_Indexes) (N := 3) hx hb hts inC_Indexes hown hK hP 0 rfl rfl 2 (by decide) (hts _ tw65) (fun _ h9 => h9) rfl d_Indexes_addIndex_41 ?_
  refine lv_iconst (v := 3) hx hb d_Indexes_addIndex_44 (by decide) ?_
  refine lv_imul hx hb d_Indexes_addIndex_45 ?_
  refine lv_iconst (v := 2) hx hb d_Indexes_addIndex_46 (by decide) ?_
  refine lv_iadd hx hb d_Indexes_addIndex_47 ?_
  refine lv_iload hx hb d_Indexes_addIndex_48 (lv_at hl 4 rfl) ?_
  obtain ⟨hg50, hf⟩ := ob_iv_g hf
  refine va_iast hx hb hK hP hD hS 2 0 rfl rfl hg50 d_Indexes_addIndex_50 (fun H locs hP hD hS => ?_)
  have hP : va_P D vwCl (cw_Indexes_addIndex G a_t a_classes a_fields v_count (upd v_classes v_count.toNatClampNeg p1) (upd (upd (upd v_fields (v_count * 3).toNatClampNeg p2) ((v_count * 3) + 1).toNatClampNeg p3) ((v_count * 3) + 2).toNatClampNeg p4)) H := hP
  have hD : va_D A (cw_Indexes_addIndex G a_t a_classes a_fields v_count (upd v_classes v_count.toNatClampNeg p1) (upd (upd (upd v_fields (v_count * 3).toNatClampNeg p2) ((v_count * 3) + 1).toNatClampNeg p3) ((v_count * 3) + 2).toNatClampNeg p4)) := hD
  refine lv_aload_n hx hb d_Indexes_addIndex_51 rfl (lv_at hl 0 rfl) ?_
  refine lv_dup hx hb d_Indexes_addIndex_52 rfl ?_
  refine va_get (D := D) (ci := 2) (v := .int v_count) (C := "ObjectBase$Indexes") (T := TC_Indexes) (N := 3) hx hb hts inC_Indexes hown hK hP 0 rfl rfl 2 (by decide) (hts _ tw65) (fun _ h9 => h9) rfl d_Indexes_addIndex_53 ?_
  refine lv_iconst (v := 1) hx hb d_Indexes_addIndex_56 (by decide) ?_
  refine lv_iadd hx hb d_Indexes_addIndex_57 ?_
  refine va_put (D := D) (ci := 2) (v := .int (v_count + 1)) (ty := .int) (C := "ObjectBase$Indexes") (T := TC_Indexes) (N := 3) hx hb hts inC_Indexes tyC_Indexes tyC_Indexes_ok nmC_Indexes hown hK hP hD hS 0 rfl rfl 2 (by decide) (hts _ tw65) (fun _ h9 => h9) rfl (by decide +kernel) rfl rfl (Nat.le_of_ble_eq_true rfl) d_Indexes_addIndex_58 (fun H locs hP hD hS => ?_)
  have hP : va_P D vwCl (cw_Indexes_addIndex G a_t a_classes a_fields (v_count + 1) (upd v_classes v_count.toNatClampNeg p1) (upd (upd (upd v_fields (v_count * 3).toNatClampNeg p2) ((v_count * 3) + 1).toNatClampNeg p3) ((v_count * 3) + 2).toNatClampNeg p4)) H := hP
  have hD : va_D A (cw_Indexes_addIndex G a_t a_classes a_fields (v_count + 1) (upd v_classes v_count.toNatClampNeg p1) (upd (upd (upd v_fields (v_count * 3).toNatClampNeg p2) ((v_count * 3) + 1).toNatClampNeg p3) ((v_count * 3) + 2).toNatClampNeg p4)) := hD
  refine lv_aload_n hx hb d_Indexes_addIndex_61 rfl (lv_at hl 0 rfl) ?_
  refine va_get (D := D) (ci := 2) (v := .int (v_count + 1)) (C := "ObjectBase$Indexes") (T := TC_Indexes) (N := 3) hx hb hts inC_Indexes hown hK hP 0 rfl rfl 2 (by decide) (hts _ tw65) (fun _ h9 => h9) rfl d_Indexes_addIndex_62 ?_
  refine lv_iconst (v := 1) hx hb d_Indexes_addIndex_65 (by decide) ?_
  refine lv_isub hx hb d_Indexes_addIndex_66 ?_
  exact hret ((v_count + 1) - 1, v_count + 1, upd v_classes v_count.toNatClampNeg p1, upd (upd (upd v_fields (v_count * 3).toNatClampNeg p2) ((v_count * 3) + 1).toNatClampNeg p3) ((v_count * 3) + 2).toNatClampNeg p4) H locs _ ls hf hP hD hS rfl d_Indexes_addIndex_67
abbrev bc_Disk_init : ByteArray := prog_4_method_1_code
abbrev y_Disk_init : MethodName := ⟨"ObjectBase$Disk", "<init>", "()V"⟩
def ws_Disk_init : List Cond := .code y_Disk_init bc_Disk_init 1 none :: obW
theorem d_Disk_init_0 : decode bc_Disk_init 0 = .ok (.aload_n 0, 1) := by decide +kernel
theorem d_Disk_init_1 : decode bc_Disk_init 1 = .ok (.invokespecial 3, 3) := by decide +kernel
theorem d_Disk_init_4 : decode bc_Disk_init 4 = .ok (.aload_n 0, 1) := by decide +kernel
theorem d_Disk_init_5 : decode bc_Disk_init 5 = .ok (.iconst (-1), 1) := by decide +kernel
theorem d_Disk_init_6 : decode bc_Disk_init 6 = .ok (.putfield 9, 3) := by decide +kernel
theorem d_Disk_init_9 : decode bc_Disk_init 9 = .ok (.return_, 1) := by decide +kernel
def nw_Disk (G : Nat → ClassId) (a_t : Nat) : va_W := [(a_t, .inr (3, [.int 0, .int (-1), .int 0, .int 0, .int 0, .int 0]))]
set_option maxHeartbeats 4000000 in
set_option maxRecDepth 100000 in
theorem n_Disk (l : Launch) (D : va_G) (G : Nat → ClassId) (a_t : Nat) (sz : Nat) : Met l y_Disk_init ws_Disk_init ({ frames := 1, cells := 0, slots := 0, locals := 12 }) (ObPre D (obT G) [(a_t, .inr (3, [.int 0, .int 0, .int 0, .int 0, .int 0, .int 0]))] sz [.ref a_t]) (va_Qv (S := Unit) (fun _ => True) (fun u t => ObAt D (obT G) (nw_Disk G a_t) (va_A [(a_t, .inr (3, [.int 0, .int 0, .int 0, .int 0, .int 0, .int 0]))] sz) t) (va_A [(a_t, .inr (3, [.int 0, .int 0, .int 0, .int 0, .int 0, .int 0]))] sz)) 0 0 (va_A [(a_t, .inr (3, [.int 0, .int 0, .int 0, .int 0, .int 0, .int 0]))] sz) := by
  refine ob_of (cc := bc_Disk_init) (maxL := 1) (ret := none) (Qc := fun A => va_Qv (S := Unit) (fun _ => True) (fun u t => ObAt D (obT G) (nw_Disk G a_t) A t) A) (by decide) rfl (Nat.le_of_ble_eq_true rfl) ?_
  intro p e s m below meth c A ls H locs hx hb hr hml hts hown hlk hnm hZ hP hK hD hA hS hl
  have hin : meth.name = "<init>" := hnm
  have hl : lv_has ls 1 [(0, .ref a_t)] := hl
  refine lv_aload_n hx hb d_Disk_init_0 rfl (lv_at hl 0 rfl) ?_
  refine W.objInit hx hb hown (hts _ tw79) (hts _ tw21) (hts _ tw22) rfl (by rw [hml]; exact hl.1) rfl d_Disk_init_1 (Nat.le_of_ble_eq_true rfl) (Nat.le_of_ble_eq_true rfl) ?_
  refine W.eq (g2 := F0 m 4 ls []) rfl ?_
  refine lv_aload_n hx hb d_Disk_init_4 rfl (lv_at hl 0 rfl) ?_
  refine lv_iconst (v := (-1)) hx hb d_Disk_init_5 (by decide) ?_
  refine va_put (D := D) (ci := 3) (v := .int (-1)) (ty := .int) (C := "ObjectBase$Disk") (T := TC_Disk) (N := 6) hx hb hts inC_Disk tyC_Disk tyC_Disk_ok nmC_Disk hown hK hP hD hS 0 rfl rfl 1 (by decide) (hts _ tw82) (fun _ h9 => h9) rfl (by decide +kernel) rfl rfl (Nat.le_of_ble_eq_true rfl) d_Disk_init_6 (fun H locs hP hD hS => ?_)
  have hP : va_P D vwCl [(a_t, .inr (3, [.int 0, .int (-1), .int 0, .int 0, .int 0, .int 0]))] H := hP
  have hD : va_D A [(a_t, .inr (3, [.int 0, .int (-1), .int 0, .int 0, .int 0, .int 0]))] := hD
  exact W.vret hx hb hr (fun t ht hW => ⟨⟨(), rfl, trivial, by rw [ht]; exact hP, va_K.moved hW.alike hK, hD⟩, hS.F ht⟩) hS.2.2 d_Disk_init_9 hlk
abbrev bc_Disk_writeBlock : ByteArray := prog_4_method_2_code
abbrev y_Disk_writeBlock : MethodName := ⟨"ObjectBase$Disk", "writeBlock", "()Z"⟩
def ws_Disk_writeBlock : List Cond := .code y_Disk_writeBlock bc_Disk_writeBlock 1 (some .boolean) :: obW
theorem d_Disk_writeBlock_0 : decode bc_Disk_writeBlock 0 = .ok (.aload_n 0, 1) := by decide +kernel
theorem d_Disk_writeBlock_1 : decode bc_Disk_writeBlock 1 = .ok (.getfield 9, 3) := by decide +kernel
theorem d_Disk_writeBlock_4 : decode bc_Disk_writeBlock 4 = .ok (.ifCond .ne 5, 3) := by decide +kernel
theorem d_Disk_writeBlock_7 : decode bc_Disk_writeBlock 7 = .ok (.iconst 0, 1) := by decide +kernel
theorem d_Disk_writeBlock_8 : decode bc_Disk_writeBlock 8 = .ok (.ireturn, 1) := by decide +kernel
theorem d_Disk_writeBlock_9 : decode bc_Disk_writeBlock 9 = .ok (.aload_n 0, 1) := by decide +kernel
theorem d_Disk_writeBlock_10 : decode bc_Disk_writeBlock 10 = .ok (.getfield 9, 3) := by decide +kernel
theorem d_Disk_writeBlock_13 : decode bc_Disk_writeBlock 13 = .ok (.iconst (-1), 1) := by decide +kernel
theorem d_Disk_writeBlock_14 : decode bc_Disk_writeBlock 14 = .ok (.if_icmp .eq 13, 3) := by decide +kernel
theorem d_Disk_writeBlock_17 : decode bc_Disk_writeBlock 17 = .ok (.aload_n 0, 1) := by decide +kernel
theorem d_Disk_writeBlock_18 : decode bc_Disk_writeBlock 18 = .ok (.dup, 1) := by decide +kernel
theorem d_Disk_writeBlock_19 : decode bc_Disk_writeBlock 19 = .ok (.getfield 9, 3) := by decide +kernel
theorem d_Disk_writeBlock_22 : decode bc_Disk_writeBlock 22 = .ok (.iconst 1, 1) := by decide +kernel
theorem d_Disk_writeBlock_23 : decode bc_Disk_writeBlock 23 = .ok (.isub, 1) := by decide +kernel
theorem d_Disk_writeBlock_24 : decode bc_Disk_writeBlock 24 = .ok (.putfield 9, 3) := by decide +kernel
theorem d_Disk_writeBlock_27 : decode bc_Disk_writeBlock 27 = .ok (.aload_n 0, 1) := by decide +kernel
theorem d_Disk_writeBlock_28 : decode bc_Disk_writeBlock 28 = .ok (.dup, 1) := by decide +kernel
theorem d_Disk_writeBlock_29 : decode bc_Disk_writeBlock 29 = .ok (.getfield 15, 3) := by decide +kernel
theorem d_Disk_writeBlock_32 : decode bc_Disk_writeBlock 32 = .ok (.iconst 1, 1) := by decide +kernel
theorem d_Disk_writeBlock_33 : decode bc_Disk_writeBlock 33 = .ok (.iadd, 1) := by decide +kernel
theorem d_Disk_writeBlock_34 : decode bc_Disk_writeBlock 34 = .ok (.putfield 15, 3) := by decide +kernel
theorem d_Disk_writeBlock_37 : decode bc_Disk_writeBlock 37 = .ok (.iconst 1, 1) := by decide +kernel
theorem d_Disk_writeBlock_38 : decode bc_Disk_writeBlock 38 = .ok (.ireturn, 1) := by decide +kernel
def cw_Disk_writeBlock (G : Nat → ClassId) (a_t : Nat) (v_written : Int32) (v_armed : Int32) (v_half : Int32) (v_logged : Int32) (v_marked : Int32) (v_down : Int32) : va_W := [(a_t, .inr (3, [.int v_written, .int v_armed, .int v_half, .int v_logged, .int v_marked, .int v_down]))]
def f_Disk_writeBlock_J27 (v_written_27 : Int32) (v_armed_27 : Int32) : Option (Int32 × Int32 × Int32) := some (1, v_written_27 + 1, v_armed_27)
def f_Disk_writeBlock (v_written : Int32) (v_armed : Int32) : Option (Int32 × Int32 × Int32) := if v_armed = 0 then (some (0, v_written, v_armed)) else (if v_armed = (-1) then (f_Disk_writeBlock_J27 v_written v_armed) else (f_Disk_writeBlock_J27 v_written (v_armed - 1)))
set_option maxHeartbeats 4000000 in
set_option maxRecDepth 100000 in
theorem c_Disk_writeBlock (l : Launch) (D : va_G) (G : Nat → ClassId) (a_t : Nat) (v_written : Int32) (v_armed : Int32) (v_half : Int32) (v_logged : Int32) (v_marked : Int32) (v_down : Int32) (o : Int32 × Int32 × Int32) (hf : f_Disk_writeBlock v_written v_armed = some o) (sz : Nat) : MetI l y_Disk_writeBlock ws_Disk_writeBlock ({ frames := 0, cells := 0, slots := 0, locals := 0 }) D (obT G) (cw_Disk_writeBlock G a_t v_written v_armed v_half v_logged v_marked v_down) (cw_Disk_writeBlock G a_t o.2.1 o.2.2 v_half v_logged v_marked v_down) [.ref a_t] o.1 sz := by
  refine ob_of (cc := bc_Disk_writeBlock) (maxL := 1) (ret := (some .boolean)) (Qc := ObQi D (obT G) (cw_Disk_writeBlock G a_t o.2.1 o.2.2 v_half v_logged v_marked v_down) o.1) (by decide) rfl (Nat.le_of_ble_eq_true rfl) ?_
  intro p e s m below meth c A ls H locs hx hb hr hml hts hown hlk hnm hZ hP hK hD hA hS hl
  have hret : ∀ (o' : Int32 × Int32 × Int32) (H : Heap) (locs : List Loc) (pc : Nat) (ls : Array Slot), some o' = some o → va_P D vwCl (cw_Disk_writeBlock G a_t o'.2.1 o'.2.2 v_half v_logged v_marked v_down) H → va_D A (cw_Disk_writeBlock G a_t o'.2.1 o'.2.2 v_half v_logged v_marked v_down) → va_S A s.heap H locs → narrow .boolean (.int o'.1) = .int o'.1 → decode bc_Disk_writeBlock pc = .ok (.ireturn, 1) → W p l e { frames := 0, cells := 0, slots := 0, locals := 0 } s m ([.ref a_t] : List Value).toArray below meth c H locs 0 0 (MQ below (ObQi D (obT G) (cw_Disk_writeBlock G a_t o.2.1 o.2.2 v_half v_logged v_marked v_down) o.1 A) ([.ref a_t] : List Value).toArray s 0 0 A) (F0 m pc ls [.int o'.1]) := by
    intro o' H locs pc ls he hP hD hS hn hd
    obtain rfl := Option.some.inj he
    exact ob_iret hx hb hr hlk hK hP hD hS hn hd
  generalize MQ below (ObQi D (obT G) (cw_Disk_writeBlock G a_t o.2.1 o.2.2 v_half v_logged v_marked v_down) o.1 A) ([.ref a_t] : List Value).toArray s 0 0 A = Q at hret ⊢
  have hl : lv_has ls 1 [(0, .ref a_t)] := hl
  unfold f_Disk_writeBlock at hf
  have blk27 : ∀ (v_written_27 : Int32) (v_armed_27 : Int32) (ls : Array Slot) (H : Heap) (locs : List Loc), lv_has ls 1 [(0, .ref a_t)] → va_P D vwCl (cw_Disk_writeBlock G a_t v_written_27 v_armed_27 v_half v_logged v_marked v_down) H → va_D A (cw_Disk_writeBlock G a_t v_written_27 v_armed_27 v_half v_logged v_marked v_down) → va_S A s.heap H locs → f_Disk_writeBlock_J27 v_written_27 v_armed_27 = some o → W p l e ({ frames := 0, cells := 0, slots := 0, locals := 0 }) s m ([.ref a_t] : List Value).toArray below meth c H locs 0 0 Q (F0 m 27 ls []) := by
    intro v_written_27 v_armed_27 ls H locs hl hP hD hS hf
    unfold f_Disk_writeBlock_J27 at hf
    refine lv_aload_n hx hb d_Disk_writeBlock_27 rfl (lv_at hl 0 rfl) ?_
    refine lv_dup hx hb d_Disk_writeBlock_28 rfl ?_
    refine va_get (D := D) (ci := 3) (v := .int v_written_27) (C := "ObjectBase$Disk") (T := TC_Disk) (N := 6) hx hb hts inC_Disk hown hK hP 0 rfl rfl 0 (by decide) (hts _ tw80) (fun _ h9 => h9) rfl d_Disk_writeBlock_29 ?_
    refine lv_iconst (v := 1) hx hb d_Disk_writeBlock_32 (by decide) ?_
    refine lv_iadd hx hb d_Disk_writeBlock_33 ?_
    refine va_put (D := D) (ci := 3) (v := .int (v_written_27 + 1)) (ty := .int) (C := "ObjectBase$Disk") (T := TC_Disk) (N := 6) hx hb hts inC_Disk tyC_Disk tyC_Disk_ok nmC_Disk hown hK hP hD hS 0 rfl rfl 0 (by decide) (hts _ tw80) (fun _ h9 => h9) rfl (by decide +kernel) rfl rfl (Nat.le_of_ble_eq_true rfl) d_Disk_writeBlock_34 (fun H locs hP hD hS => ?_)
    have hP : va_P D vwCl (cw_Disk_writeBlock G a_t (v_written_27 + 1) v_armed_27 v_half v_logged v_marked v_down) H := hP
    have hD : va_D A (cw_Disk_writeBlock G a_t (v_written_27 + 1) v_armed_27 v_half v_logged v_marked v_down) := hD
    refine lv_iconst (v := 1) hx hb d_Disk_writeBlock_37 (by decide) ?_
    exact hret (1, v_written_27 + 1, v_armed_27) H locs _ ls hf hP hD hS narrow_b1 d_Disk_writeBlock_38
  refine lv_aload_n hx hb d_Disk_writeBlock_0 rfl (lv_at hl 0 rfl) ?_
  refine va_get (D := D) (ci := 3) (v := .int v_armed) (C := "ObjectBase$Disk") (T := TC_Disk) (N := 6) hx hb hts inC_Disk hown hK hP 0 rfl rfl 1 (by decide) (hts _ tw82) (fun _ h9 => h9) rfl d_Disk_writeBlock_1 ?_
  refine lv_if_ne (tgt := 9) hx hb d_Disk_writeBlock_4 (by decide) (fun hc4 => ?_) (fun hc4 => ?_)
  · have hf := ob_f hc4 hf
    refine lv_aload_n hx hb d_Disk_writeBlock_9 rfl (lv_at hl 0 rfl) ?_
    refine va_get (D := D) (ci := 3) (v := .int v_armed) (C := "ObjectBase$Disk") (T := TC_Disk) (N := 6) hx hb hts inC_Disk hown hK hP 0 rfl rfl 1 (by decide) (hts _ tw82) (fun _ h9 => h9) rfl d_Disk_writeBlock_10 ?_
    refine lv_iconst (v := (-1)) hx hb d_Disk_writeBlock_13 (by decide) ?_
    refine lv_icmp_eq (tgt := 27) hx hb d_Disk_writeBlock_14 (by decide) (fun hc14 => ?_) (fun hc14 => ?_)
    · have hf := ob_t hc14 hf
      exact blk27 v_written v_armed ls H locs (lv_sub hl [0] rfl) hP hD hS hf
    · have hf := ob_f hc14 hf
      refine lv_aload_n hx hb d_Disk_writeBlock_17 rfl (lv_at hl 0 rfl) ?_
      refine lv_dup hx hb d_Disk_writeBlock_18 rfl ?_
      refine va_get (D := D) (ci := 3) (v := .int v_armed) (C := "ObjectBase$Disk") (T := TC_Disk) (N := 6) hx hb hts inC_Disk hown hK hP 0 rfl rfl 1 (by decide) (hts _ tw82) (fun _ h9 => h9) rfl d_Disk_writeBlock_19 ?_
      refine lv_iconst (v := 1) hx hb d_Disk_writeBlock_22 (by decide) ?_
      refine lv_isub hx hb d_Disk_writeBlock_23 ?_
      refine va_put (D := D) (ci := 3) (v := .int (v_armed - 1)) (ty := .int) (C := "ObjectBase$Disk") (T := TC_Disk) (N := 6) hx hb hts inC_Disk tyC_Disk tyC_Disk_ok nmC_Disk hown hK hP hD hS 0 rfl rfl 1 (by decide) (hts _ tw82) (fun _ h9 => h9) rfl (by decide +kernel) rfl rfl (Nat.le_of_ble_eq_true rfl) d_Disk_writeBlock_24 (fun H locs hP hD hS => ?_)
      have hP : va_P D vwCl (cw_Disk_writeBlock G a_t v_written (v_armed - 1) v_half v_logged v_marked v_down) H := hP
      have hD : va_D A (cw_Disk_writeBlock G a_t v_written (v_armed - 1) v_half v_logged v_marked v_down) := hD
      exact blk27 v_written (v_armed - 1) ls H locs (lv_sub hl [0] rfl) hP hD hS hf
  · have hf := ob_t hc4 hf
    refine lv_iconst (v := 0) hx hb d_Disk_writeBlock_7 (by decide) ?_
    exact hret (0, v_written, v_armed) H locs _ ls hf hP hD hS narrow_b0 d_Disk_writeBlock_8
abbrev bc_Disk_writeBlocks : ByteArray := prog_4_method_3_code
abbrev y_Disk_writeBlocks : MethodName := ⟨"ObjectBase$Disk", "writeBlocks", "(I)Z"⟩
def ws_Disk_writeBlocks : List Cond := .code y_Disk_writeBlocks bc_Disk_writeBlocks 3 (some .boolean) :: obW
theorem d_Disk_writeBlocks_0 : decode bc_Disk_writeBlocks 0 = .ok (.iconst 0, 1) := by decide +kernel
theorem d_Disk_writeBlocks_1 : decode bc_Disk_writeBlocks 1 = .ok (.istore_n 2, 1) := by decide +kernel
theorem d_Disk_writeBlocks_2 : decode bc_Disk_writeBlocks 2 = .ok (.iload_n 2, 1) := by decide +kernel
theorem d_Disk_writeBlocks_3 : decode bc_Disk_writeBlocks 3 = .ok (.iload_n 1, 1) := by decide +kernel
theorem d_Disk_writeBlocks_4 : decode bc_Disk_writeBlocks 4 = .ok (.if_icmp .ge 18, 3) := by decide +kernel
theorem d_Disk_writeBlocks_7 : decode bc_Disk_writeBlocks 7 = .ok (.aload_n 0, 1) := by decide +kernel
theorem d_Disk_writeBlocks_8 : decode bc_Disk_writeBlocks 8 = .ok (.invokevirtual 18, 3) := by decide +kernel
theorem d_Disk_writeBlocks_11 : decode bc_Disk_writeBlocks 11 = .ok (.ifCond .ne 5, 3) := by decide +kernel
theorem d_Disk_writeBlocks_14 : decode bc_Disk_writeBlocks 14 = .ok (.iconst 0, 1) := by decide +kernel
theorem d_Disk_writeBlocks_15 : decode bc_Disk_writeBlocks 15 = .ok (.ireturn, 1) := by decide +kernel
theorem d_Disk_writeBlocks_16 : decode bc_Disk_writeBlocks 16 = .ok (.iinc 2 1, 3) := by decide +kernel
theorem d_Disk_writeBlocks_19 : decode bc_Disk_writeBlocks 19 = .ok (.goto (-17), 3) := by decide +kernel
theorem d_Disk_writeBlocks_22 : decode bc_Disk_writeBlocks 22 = .ok (.iconst 1, 1) := by decide +kernel
theorem d_Disk_writeBlocks_23 : decode bc_Disk_writeBlocks 23 = .ok (.ireturn, 1) := by decide +kernel
def cw_Disk_writeBlocks (G : Nat → ClassId) (a_t : Nat) (v_written : Int32) (v_armed : Int32) (v_half : Int32) (v_logged : Int32) (v_marked : Int32) (v_down : Int32) : va_W := [(a_t, .inr (3, [.int v_written, .int v_armed, .int v_half, .int v_logged, .int v_marked, .int v_down]))]
def f_Disk_writeBlocks_B2 (p1 : Int32) (k2 : Int32 → Int32 → Int32 → Option (Int32 × Int32 × Int32)) (x2_2 : Int32) (v_written_2 : Int32) (v_armed_2 : Int32) : Option (Int32 × Int32 × Int32) := if p1 ≤ x2_2 then (some (1, v_written_2, v_armed_2)) else ((f_Disk_writeBlock v_written_2 v_armed_2).bind fun o8 => (if o8.1 = 0 then (some (0, o8.2.1, o8.2.2)) else (k2 (x2_2 + 1) o8.2.1 o8.2.2)))
def f_Disk_writeBlocks_L2 (p1 : Int32) : Nat → Int32 → Int32 → Int32 → Option (Int32 × Int32 × Int32) := ob_lp3 (f_Disk_writeBlocks_B2 p1)
def f_Disk_writeBlocks (v_written : Int32) (v_armed : Int32) (p1 : Int32) : Option (Int32 × Int32 × Int32) := f_Disk_writeBlocks_L2 p1 1000 0 v_written v_armed
set_option maxHeartbeats 4000000 in
set_option maxRecDepth 100000 in
theorem c_Disk_writeBlocks (l : Launch) (D : va_G) (G : Nat → ClassId) (a_t : Nat) (v_written : Int32) (v_armed : Int32) (v_half : Int32) (v_logged : Int32) (v_marked : Int32) (v_down : Int32) (p1 : Int32) (o : Int32 × Int32 × Int32) (hf : f_Disk_writeBlocks v_written v_armed p1 = some o) (sz : Nat) : MetI l y_Disk_writeBlocks ws_Disk_writeBlocks ({ frames := 1, cells := 0, slots := 0, locals := 20 }) D (obT G) (cw_Disk_writeBlocks G a_t v_written v_armed v_half v_logged v_marked v_down) (cw_Disk_writeBlocks G a_t o.2.1 o.2.2 v_half v_logged v_marked v_down) [.ref a_t, .int p1] o.1 sz := by
  refine ob_of (cc := bc_Disk_writeBlocks) (maxL := 3) (ret := (some .boolean)) (Qc := ObQi D (obT G) (cw_Disk_writeBlocks G a_t o.2.1 o.2.2 v_half v_logged v_marked v_down) o.1) (by decide) rfl (Nat.le_of_ble_eq_true rfl) ?_
  intro p e s m below meth c A ls H locs hx hb hr hml hts hown hlk hnm hZ hP hK hD hA hS hl
  have hret : ∀ (o' : Int32 × Int32 × Int32) (H : Heap) (locs : List Loc) (pc : Nat) (ls : Array Slot), some o' = some o → va_P D vwCl (cw_Disk_writeBlocks G a_t o'.2.1 o'.2.2 v_half v_logged v_marked v_down) H → va_D A (cw_Disk_writeBlocks G a_t o'.2.1 o'.2.2 v_half v_logged v_marked v_down) → va_S A s.heap H locs → narrow .boolean (.int o'.1) = .int o'.1 → decode bc_Disk_writeBlocks pc = .ok (.ireturn, 1) → W p l e { frames := 1, cells := 0, slots := 0, locals := 20 } s m ([.ref a_t, .int p1] : List Value).toArray below meth c H locs 0 0 (MQ below (ObQi D (obT G) (cw_Disk_writeBlocks G a_t o.2.1 o.2.2 v_half v_logged v_marked v_down) o.1 A) ([.ref a_t, .int p1] : List Value).toArray s 0 0 A) (F0 m pc ls [.int o'.1]) := by
    intro o' H locs pc ls he hP hD hS hn hd
    obtain rfl := Option.some.inj he
    exact ob_iret hx hb hr hlk hK hP hD hS hn hd
  generalize MQ below (ObQi D (obT G) (cw_Disk_writeBlocks G a_t o.2.1 o.2.2 v_half v_logged v_marked v_down) o.1 A) ([.ref a_t, .int p1] : List Value).toArray s 0 0 A = Q at hret ⊢
  have hl : lv_has ls 3 [(0, .ref a_t), (1, .int p1)] := hl
  unfold f_Disk_writeBlocks at hf
  have loop2 : ∀ (n2 : Nat) (x2_2 : Int32) (v_written_2 : Int32) (v_armed_2 : Int32) (ls : Array Slot) (H : Heap) (locs : List Loc), lv_has ls 3 [(0, .ref a_t), (1, .int p1), (2, .int x2_2)] → va_P D vwCl (cw_Disk_writeBlocks G a_t v_written_2 v_armed_2 v_half v_logged v_marked v_down) H → va_D A (cw_Disk_writeBlocks G a_t v_written_2 v_armed_2 v_half v_logged v_marked v_down) → va_S A s.heap H locs → f_Disk_writeBlocks_L2 p1 n2 x2_2 v_written_2 v_armed_2 = some o → W p l e ({ frames := 1, cells := 0, slots := 0, locals := 20 }) s m ([.ref a_t, .int p1] : List Value).toArray below meth c H locs 0 0 Q (F0 m 2 ls []) := by
    intro n2
    induction n2 with
    | zero => intro x2_2 v_written_2 v_armed_2 ls H locs hl hP hD hS hf; exact ob_no hf
    | succ n2 ih2 =>
      intro x2_2 v_written_2 v_armed_2 ls H locs hl hP hD hS hf
      have hf : f_Disk_writeBlocks_B2 p1 (f_Disk_writeBlocks_L2 p1 n2) x2_2 v_written_2 v_armed_2 = some o := hf
      unfold f_Disk_writeBlocks_B2 at hf
      refine lv_iload_n hx hb d_Disk_writeBlocks_2 rfl (lv_at hl 2 rfl) ?_
      refine lv_iload_n hx hb d_Disk_writeBlocks_3 rfl (lv_at hl 1 rfl) ?_
      refine lv_icmp_ge (tgt := 22) hx hb d_Disk_writeBlocks_4 (by decide) (fun hc4 => ?_) (fun hc4 => ?_)
      · have hf := ob_t hc4 hf
        refine lv_iconst (v := 1) hx hb d_Disk_writeBlocks_22 (by decide) ?_
        exact hret (1, v_written_2, v_armed_2) H locs _ ls hf hP hD hS narrow_b1 d_Disk_writeBlocks_23
      · have hf := ob_f hc4 hf
        refine lv_aload_n hx hb d_Disk_writeBlocks_7 rfl (lv_at hl 0 rfl) ?_
        obtain ⟨o8, ho8, hf⟩ := ob_b hf
        refine ob_calli (w2 := (cw_Disk_writeBlocks G a_t o8.2.1 o8.2.2 v_half v_logged v_marked v_down)) (va_runV (As := []) (rest := []) ⟨hx, hb, hml, hown, hts⟩ (c_Disk_writeBlock l D G a_t v_written_2 v_armed_2 v_half v_logged v_marked v_down o8 ho8 H.size) (cwV 0 hts (gV tw425 tw426 tw427 tw4 tw428) rfl rfl rfl (by decide +kernel) ⟨Nat.le_of_ble_eq_true rfl, Nat.le_of_ble_eq_true rfl⟩) (ob_preV (q0 := 0) (ci := 3) hZ hK hP hD [0] rfl rfl rfl rfl rfl) rfl rfl hl.1 rfl (lv_room (Nat.le_of_ble_eq_true rfl)) d_Disk_writeBlocks_8 ⟨Nat.le_refl _, Nat.le_refl _⟩) hP hD hA hS [0] rfl rfl rfl rfl (fun H locs hP hD hS => ?_)
        refine lv_if_ne (tgt := 16) hx hb d_Disk_writeBlocks_11 (by decide) (fun hc11 => ?_) (fun hc11 => ?_)
        · have hf := ob_f hc11 hf
          refine lv_iinc (k := 2) (v := x2_2 + 1) (lv' := [(2, .int (x2_2 + 1)), (0, .ref a_t), (1, .int p1)]) hx hb d_Disk_writeBlocks_16 hl rfl (by rw [show Int32.ofInt 1 = (1 : Int32) from by decide]) (by decide) rfl (fun ls hl => ?_)
          refine lv_goto (tgt := 2) hx hb d_Disk_writeBlocks_19 (by decide) ?_
          exact ih2 (x2_2 + 1) o8.2.1 o8.2.2 ls H locs (lv_sub hl [1, 2, 0] rfl) hP hD hS hf
        · have hf := ob_t hc11 hf
          refine lv_iconst (v := 0) hx hb d_Disk_writeBlocks_14 (by decide) ?_
          exact hret (0, o8.2.1, o8.2.2) H locs _ ls hf hP hD hS narrow_b0 d_Disk_writeBlocks_15
  refine lv_iconst (v := 0) hx hb d_Disk_writeBlocks_0 (by decide) ?_
  refine lv_istore_n (lv' := [(2, .int 0), (0, .ref a_t), (1, .int p1)]) hx hb d_Disk_writeBlocks_1 rfl hl (by decide) rfl (fun ls hl => ?_)
  exact loop2 1000 0 v_written v_armed ls H locs (lv_sub hl [1, 2, 0] rfl) hP hD hS hf
abbrev bc_Disk_writeLog : ByteArray := prog_4_method_4_code
abbrev y_Disk_writeLog : MethodName := ⟨"ObjectBase$Disk", "writeLog", "(I)Z"⟩
def ws_Disk_writeLog : List Cond := .code y_Disk_writeLog bc_Disk_writeLog 3 (some .boolean) :: obW
theorem d_Disk_writeLog_0 : decode bc_Disk_writeLog 0 = .ok (.iconst 0, 1) := by decide +kernel
theorem d_Disk_writeLog_1 : decode bc_Disk_writeLog 1 = .ok (.istore_n 2, 1) := by decide +kernel
theorem d_Disk_writeLog_2 : decode bc_Disk_writeLog 2 = .ok (.iload_n 2, 1) := by decide +kernel
theorem d_Disk_writeLog_3 : decode bc_Disk_writeLog 3 = .ok (.iload_n 1, 1) := by decide +kernel
theorem d_Disk_writeLog_4 : decode bc_Disk_writeLog 4 = .ok (.if_icmp .ge 28, 3) := by decide +kernel
theorem d_Disk_writeLog_7 : decode bc_Disk_writeLog 7 = .ok (.aload_n 0, 1) := by decide +kernel
theorem d_Disk_writeLog_8 : decode bc_Disk_writeLog 8 = .ok (.invokevirtual 18, 3) := by decide +kernel
theorem d_Disk_writeLog_11 : decode bc_Disk_writeLog 11 = .ok (.ifCond .ne 5, 3) := by decide +kernel
theorem d_Disk_writeLog_14 : decode bc_Disk_writeLog 14 = .ok (.iconst 0, 1) := by decide +kernel
theorem d_Disk_writeLog_15 : decode bc_Disk_writeLog 15 = .ok (.ireturn, 1) := by decide +kernel
theorem d_Disk_writeLog_16 : decode bc_Disk_writeLog 16 = .ok (.aload_n 0, 1) := by decide +kernel
theorem d_Disk_writeLog_17 : decode bc_Disk_writeLog 17 = .ok (.dup, 1) := by decide +kernel
theorem d_Disk_writeLog_18 : decode bc_Disk_writeLog 18 = .ok (.getfield 22, 3) := by decide +kernel
theorem d_Disk_writeLog_21 : decode bc_Disk_writeLog 21 = .ok (.iconst 1, 1) := by decide +kernel
theorem d_Disk_writeLog_22 : decode bc_Disk_writeLog 22 = .ok (.iadd, 1) := by decide +kernel
theorem d_Disk_writeLog_23 : decode bc_Disk_writeLog 23 = .ok (.putfield 22, 3) := by decide +kernel
theorem d_Disk_writeLog_26 : decode bc_Disk_writeLog 26 = .ok (.iinc 2 1, 3) := by decide +kernel
theorem d_Disk_writeLog_29 : decode bc_Disk_writeLog 29 = .ok (.goto (-27), 3) := by decide +kernel
theorem d_Disk_writeLog_32 : decode bc_Disk_writeLog 32 = .ok (.aload_n 0, 1) := by decide +kernel
theorem d_Disk_writeLog_33 : decode bc_Disk_writeLog 33 = .ok (.aload_n 0, 1) := by decide +kernel
theorem d_Disk_writeLog_34 : decode bc_Disk_writeLog 34 = .ok (.invokevirtual 18, 3) := by decide +kernel
theorem d_Disk_writeLog_37 : decode bc_Disk_writeLog 37 = .ok (.putfield 25, 3) := by decide +kernel
theorem d_Disk_writeLog_40 : decode bc_Disk_writeLog 40 = .ok (.aload_n 0, 1) := by decide +kernel
theorem d_Disk_writeLog_41 : decode bc_Disk_writeLog 41 = .ok (.getfield 25, 3) := by decide +kernel
theorem d_Disk_writeLog_44 : decode bc_Disk_writeLog 44 = .ok (.ireturn, 1) := by decide +kernel
def cw_Disk_writeLog (G : Nat → ClassId) (a_t : Nat) (v_written : Int32) (v_armed : Int32) (v_half : Int32) (v_logged : Int32) (v_marked : Int32) (v_down : Int32) : va_W := [(a_t, .inr (3, [.int v_written, .int v_armed, .int v_half, .int v_logged, .int v_marked, .int v_down]))]
def f_Disk_writeLog_B2 (p1 : Int32) (k2 : Int32 → Int32 → Int32 → Int32 → Int32 → Option (Int32 × Int32 × Int32 × Int32 × Int32)) (x2_2 : Int32) (v_written_2 : Int32) (v_armed_2 : Int32) (v_logged_2 : Int32) (v_marked_2 : Int32) : Option (Int32 × Int32 × Int32 × Int32 × Int32) := if p1 ≤ x2_2 then ((f_Disk_writeBlock v_written_2 v_armed_2).bind fun o34 => (ob_nz o34.1 (ob_nz o34.1 (some (o34.1, o34.2.1, o34.2.2, v_logged_2, o34.1))))) else ((f_Disk_writeBlock v_written_2 v_armed_2).bind fun o8 => (if o8.1 = 0 then (some (0, o8.2.1, o8.2.2, v_logged_2, v_marked_2)) else (k2 (x2_2 + 1) o8.2.1 o8.2.2 (v_logged_2 + 1) v_marked_2)))
def f_Disk_writeLog_L2 (p1 : Int32) : Nat → Int32 → Int32 → Int32 → Int32 → Int32 → Option (Int32 × Int32 × Int32 × Int32 × Int32) := ob_lp5 (f_Disk_writeLog_B2 p1)
def f_Disk_writeLog (v_written : Int32) (v_armed : Int32) (v_logged : Int32) (v_marked : Int32) (p1 : Int32) : Option (Int32 × Int32 × Int32 × Int32 × Int32) := f_Disk_writeLog_L2 p1 1000 0 v_written v_armed v_logged v_marked
set_option maxHeartbeats 4000000 in
set_option maxRecDepth 100000 in
theorem c_Disk_writeLog (l : Launch) (D : va_G) (G : Nat → ClassId) (a_t : Nat) (v_written : Int32) (v_armed : Int32) (v_half : Int32) (v_logged : Int32) (v_marked : Int32) (v_down : Int32) (p1 : Int32) (o : Int32 × Int32 × Int32 × Int32 × Int32) (hf : f_Disk_writeLog v_written v_armed v_logged v_marked p1 = some o) (sz : Nat) : MetI l y_Disk_writeLog ws_Disk_writeLog ({ frames := 1, cells := 0, slots := 0, locals := 20 }) D (obT G) (cw_Disk_writeLog G a_t v_written v_armed v_half v_logged v_marked v_down) (cw_Disk_writeLog G a_t o.2.1 o.2.2.1 v_half o.2.2.2.1 o.2.2.2.2 v_down) [.ref a_t, .int p1] o.1 sz := by
  refine ob_of (cc := bc_Disk_writeLog) (maxL := 3) (ret := (some .boolean)) (Qc := ObQi D (obT G) (cw_Disk_writeLog G a_t o.2.1 o.2.2.1 v_half o.2.2.2.1 o.2.2.2.2 v_down) o.1) (by decide) rfl (Nat.le_of_ble_eq_true rfl) ?_
  intro p e s m below meth c A ls H locs hx hb hr hml hts hown hlk hnm hZ hP hK hD hA hS hl
  have hret : ∀ (o' : Int32 × Int32 × Int32 × Int32 × Int32) (H : Heap) (locs : List Loc) (pc : Nat) (ls : Array Slot), some o' = some o → va_P D vwCl (cw_Disk_writeLog G a_t o'.2.1 o'.2.2.1 v_half o'.2.2.2.1 o'.2.2.2.2 v_down) H → va_D A (cw_Disk_writeLog G a_t o'.2.1 o'.2.2.1 v_half o'.2.2.2.1 o'.2.2.2.2 v_down) → va_S A s.heap H locs → narrow .boolean (.int o'.1) = .int o'.1 → decode bc_Disk_writeLog pc = .ok (.ireturn, 1) → W p l e { frames := 1, cells := 0, slots := 0, locals := 20 } s m ([.ref a_t, .int p1] : List Value).toArray below meth c H locs 0 0 (MQ below (ObQi D (obT G) (cw_Disk_writeLog G a_t o.2.1 o.2.2.1 v_half o.2.2.2.1 o.2.2.2.2 v_down) o.1 A) ([.ref a_t, .int p1] : List Value).toArray s 0 0 A) (F0 m pc ls [.int o'.1]) := by
    intro o' H locs pc ls he hP hD hS hn hd
    obtain rfl := Option.some.inj he
    exact ob_iret hx hb hr hlk hK hP hD hS hn hd
  generalize MQ below (ObQi D (obT G) (cw_Disk_writeLog G a_t o.2.1 o.2.2.1 v_half o.2.2.2.1 o.2.2.2.2 v_down) o.1 A) ([.ref a_t, .int p1] : List Value).toArray s 0 0 A = Q at hret ⊢
  have hl : lv_has ls 3 [(0, .ref a_t), (1, .int p1)] := hl
  unfold f_Disk_writeLog at hf
  have loop2 : ∀ (n2 : Nat) (x2_2 : Int32) (v_written_2 : Int32) (v_armed_2 : Int32) (v_logged_2 : Int32) (v_marked_2 : Int32) (ls : Array Slot) (H : Heap) (locs : List Loc), lv_has ls 3 [(0, .ref a_t), (1, .int p1), (2, .int x2_2)] → va_P D vwCl (cw_Disk_writeLog G a_t v_written_2 v_armed_2 v_half v_logged_2 v_marked_2 v_down) H → va_D A (cw_Disk_writeLog G a_t v_written_2 v_armed_2 v_half v_logged_2 v_marked_2 v_down) → va_S A s.heap H locs → f_Disk_writeLog_L2 p1 n2 x2_2 v_written_2 v_armed_2 v_logged_2 v_marked_2 = some o → W p l e ({ frames := 1, cells := 0, slots := 0, locals := 20 }) s m ([.ref a_t, .int p1] : List Value).toArray below meth c H locs 0 0 Q (F0 m 2 ls []) := by
    intro n2
    induction n2 with
    | zero => intro x2_2 v_written_2 v_armed_2 v_logged_2 v_marked_2 ls H locs hl hP hD hS hf; exact ob_no hf
    | succ n2 ih2 =>
      intro x2_2 v_written_2 v_armed_2 v_logged_2 v_marked_2 ls H locs hl hP hD hS hf
      have hf : f_Disk_writeLog_B2 p1 (f_Disk_writeLog_L2 p1 n2) x2_2 v_written_2 v_armed_2 v_logged_2 v_marked_2 = some o := hf
      unfold f_Disk_writeLog_B2 at hf
      refine lv_iload_n hx hb d_Disk_writeLog_2 rfl (lv_at hl 2 rfl) ?_
      refine lv_iload_n hx hb d_Disk_writeLog_3 rfl (lv_at hl 1 rfl) ?_
      refine lv_icmp_ge (tgt := 32) hx hb d_Disk_writeLog_4 (by decide) (fun hc4 => ?_) (fun hc4 => ?_)
      · have hf := ob_t hc4 hf
        refine lv_aload_n hx hb d_Disk_writeLog_32 rfl (lv_at hl 0 rfl) ?_
        refine lv_aload_n hx hb d_Disk_writeLog_33 rfl (lv_at hl 0 rfl) ?_
        obtain ⟨o34, ho34, hf⟩ := ob_b hf
        refine ob_calli (w2 := (cw_Disk_writeLog G a_t o34.2.1 o34.2.2 v_half v_logged_2 v_marked_2 v_down)) (va_runV (As := []) (rest := [.ref a_t]) ⟨hx, hb, hml, hown, hts⟩ (c_Disk_writeBlock l D G a_t v_written_2 v_armed_2 v_half v_logged_2 v_marked_2 v_down o34 ho34 H.size) (cwV 0 hts (gV tw425 tw426 tw427 tw4 tw428) rfl rfl rfl (by decide +kernel) ⟨Nat.le_of_ble_eq_true rfl, Nat.le_of_ble_eq_true rfl⟩) (ob_preV (q0 := 0) (ci := 3) hZ hK hP hD [0] rfl rfl rfl rfl rfl) rfl rfl hl.1 rfl (lv_room (Nat.le_of_ble_eq_true rfl)) d_Disk_writeLog_34 ⟨Nat.le_refl _, Nat.le_refl _⟩) hP hD hA hS [0] rfl rfl rfl rfl (fun H locs hP hD hS => ?_)
        obtain ⟨hg37, hf⟩ := ob_nz_g hf
        refine va_put (D := D) (ci := 3) (v := .int o34.1) (ty := .boolean) (C := "ObjectBase$Disk") (T := TC_Disk) (N := 6) hx hb hts inC_Disk tyC_Disk tyC_Disk_ok nmC_Disk hown hK hP hD hS 0 rfl rfl 4 (by decide) (hts _ tw86) (fun _ h9 => h9) rfl (by decide +kernel) hg37.1 hg37.2 (Nat.le_of_ble_eq_true rfl) d_Disk_writeLog_37 (fun H locs hP hD hS => ?_)
        have hP : va_P D vwCl (cw_Disk_writeLog G a_t o34.2.1 o34.2.2 v_half v_logged_2 o34.1 v_down) H := hP
        have hD : va_D A (cw_Disk_writeLog G a_t o34.2.1 o34.2.2 v_half v_logged_2 o34.1 v_down) := hD
        refine lv_aload_n hx hb d_Disk_writeLog_40 rfl (lv_at hl 0 rfl) ?_
        refine va_get (D := D) (ci := 3) (v := .int o34.1) (C := "ObjectBase$Disk") (T := TC_Disk) (N := 6) hx hb hts inC_Disk hown hK hP 0 rfl rfl 4 (by decide) (hts _ tw86) (fun _ h9 => h9) rfl d_Disk_writeLog_41 ?_
        obtain ⟨hg44, hf⟩ := ob_nz_g hf
        exact hret (o34.1, o34.2.1, o34.2.2, v_logged_2, o34.1) H locs _ ls hf hP hD hS hg44.1 d_Disk_writeLog_44
      · have hf := ob_f hc4 hf
        refine lv_aload_n hx hb d_Disk_writeLog_7 rfl (lv_at hl 0 rfl) ?_
        obtain ⟨o8, ho8, hf⟩ := ob_b hf
        refine ob_calli (w2 := (cw_Disk_writeLog G a_t o8.2.1 o8.2.2 v_half v_logged_2 v_marked_2 v_down)) (va_runV (As := []) (rest := []) ⟨hx, hb, hml, hown, hts⟩ (c_Disk_writeBlock l D G a_t v_written_2 v_armed_2 v_half v_logged_2 v_marked_2 v_down o8 ho8 H.size) (cwV 0 hts (gV tw425 tw426 tw427 tw4 tw428) rfl rfl rfl (by decide +kernel) ⟨Nat.le_of_ble_eq_true rfl, Nat.le_of_ble_eq_true rfl⟩) (ob_preV (q0 := 0) (ci := 3) hZ hK hP hD [0] rfl rfl rfl rfl rfl) rfl rfl hl.1 rfl (lv_room (Nat.le_of_ble_eq_true rfl)) d_Disk_writeLog_8 ⟨Nat.le_refl _, Nat.le_refl _⟩) hP hD hA hS [0] rfl rfl rfl rfl (fun H locs hP hD hS => ?_)
        refine lv_if_ne (tgt := 16) hx hb d_Disk_writeLog_11 (by decide) (fun hc11 => ?_) (fun hc11 => ?_)
        · have hf := ob_f hc11 hf
          refine lv_aload_n hx hb d_Disk_writeLog_16 rfl (lv_at hl 0 rfl) ?_
          refine lv_dup hx hb d_Disk_writeLog_17 rfl ?_
          refine va_get (D := D) (ci := 3) (v := .int v_logged_2) (C := "ObjectBase$Disk") (T := TC_Disk) (N := 6) hx hb hts inC_Disk hown hK hP 0 rfl rfl 3 (by decide) (hts _ tw85) (fun _ h9 => h9) rfl d_Disk_writeLog_18 ?_
          refine lv_iconst (v := 1) hx hb d_Disk_writeLog_21 (by decide) ?_
          refine lv_iadd hx hb d_Disk_writeLog_22 ?_
          refine va_put (D := D) (ci := 3) (v := .int (v_logged_2 + 1)) (ty := .int) (C := "ObjectBase$Disk") (T := TC_Disk) (N := 6) hx hb hts inC_Disk tyC_Disk tyC_Disk_ok nmC_Disk hown hK hP hD hS 0 rfl rfl 3 (by decide) (hts _ tw85) (fun _ h9 => h9) rfl (by decide +kernel) rfl rfl (Nat.le_of_ble_eq_true rfl) d_Disk_writeLog_23 (fun H locs hP hD hS => ?_)
          have hP : va_P D vwCl (cw_Disk_writeLog G a_t o8.2.1 o8.2.2 v_half (v_logged_2 + 1) v_marked_2 v_down) H := hP
          have hD : va_D A (cw_Disk_writeLog G a_t o8.2.1 o8.2.2 v_half (v_logged_2 + 1) v_marked_2 v_down) := hD
          refine lv_iinc (k := 2) (v := x2_2 + 1) (lv' := [(2, .int (x2_2 + 1)), (0, .ref a_t), (1, .int p1)]) hx hb d_Disk_writeLog_26 hl rfl (by rw [show Int32.ofInt 1 = (1 : Int32) from by decide]) (by decide) rfl (fun ls hl => ?_)
          refine lv_goto (tgt := 2) hx hb d_Disk_writeLog_29 (by decide) ?_
          exact ih2 (x2_2 + 1) o8.2.1 o8.2.2 (v_logged_2 + 1) v_marked_2 ls H locs (lv_sub hl [1, 2, 0] rfl) hP hD hS hf
        · have hf := ob_t hc11 hf
          refine lv_iconst (v := 0) hx hb d_Disk_writeLog_14 (by decide) ?_
          exact hret (0, o8.2.1, o8.2.2, v_logged_2, v_marked_2) H locs _ ls hf hP hD hS narrow_b0 d_Disk_writeLog_15
  refine lv_iconst (v := 0) hx hb d_Disk_writeLog_0 (by decide) ?_
  refine lv_istore_n (lv' := [(2, .int 0), (0, .ref a_t), (1, .int p1)]) hx hb d_Disk_writeLog_1 rfl hl (by decide) rfl (fun ls hl => ?_)
  exact loop2 1000 0 v_written v_armed v_logged v_marked ls H locs (lv_sub hl [1, 2, 0] rfl) hP hD hS hf
abbrev bc_Disk_writeHome : ByteArray := prog_4_method_5_code
abbrev y_Disk_writeHome : MethodName := ⟨"ObjectBase$Disk", "writeHome", "()Z"⟩
def ws_Disk_writeHome : List Cond := .code y_Disk_writeHome bc_Disk_writeHome 1 (some .boolean) :: obW
theorem d_Disk_writeHome_0 : decode bc_Disk_writeHome 0 = .ok (.aload_n 0, 1) := by decide +kernel
theorem d_Disk_writeHome_1 : decode bc_Disk_writeHome 1 = .ok (.aload_n 0, 1) := by decide +kernel
theorem d_Disk_writeHome_2 : decode bc_Disk_writeHome 2 = .ok (.getfield 22, 3) := by decide +kernel
theorem d_Disk_writeHome_5 : decode bc_Disk_writeHome 5 = .ok (.invokevirtual 29, 3) := by decide +kernel
theorem d_Disk_writeHome_8 : decode bc_Disk_writeHome 8 = .ok (.ifCond .eq 10, 3) := by decide +kernel
theorem d_Disk_writeHome_11 : decode bc_Disk_writeHome 11 = .ok (.aload_n 0, 1) := by decide +kernel
theorem d_Disk_writeHome_12 : decode bc_Disk_writeHome 12 = .ok (.invokevirtual 18, 3) := by decide +kernel
theorem d_Disk_writeHome_15 : decode bc_Disk_writeHome 15 = .ok (.ifCond .ne 5, 3) := by decide +kernel
theorem d_Disk_writeHome_18 : decode bc_Disk_writeHome 18 = .ok (.iconst 0, 1) := by decide +kernel
theorem d_Disk_writeHome_19 : decode bc_Disk_writeHome 19 = .ok (.ireturn, 1) := by decide +kernel
theorem d_Disk_writeHome_20 : decode bc_Disk_writeHome 20 = .ok (.aload_n 0, 1) := by decide +kernel
theorem d_Disk_writeHome_21 : decode bc_Disk_writeHome 21 = .ok (.iconst 0, 1) := by decide +kernel
theorem d_Disk_writeHome_22 : decode bc_Disk_writeHome 22 = .ok (.putfield 22, 3) := by decide +kernel
theorem d_Disk_writeHome_25 : decode bc_Disk_writeHome 25 = .ok (.aload_n 0, 1) := by decide +kernel
theorem d_Disk_writeHome_26 : decode bc_Disk_writeHome 26 = .ok (.iconst 0, 1) := by decide +kernel
theorem d_Disk_writeHome_27 : decode bc_Disk_writeHome 27 = .ok (.putfield 25, 3) := by decide +kernel
theorem d_Disk_writeHome_30 : decode bc_Disk_writeHome 30 = .ok (.iconst 1, 1) := by decide +kernel
theorem d_Disk_writeHome_31 : decode bc_Disk_writeHome 31 = .ok (.ireturn, 1) := by decide +kernel
def cw_Disk_writeHome (G : Nat → ClassId) (a_t : Nat) (v_written : Int32) (v_armed : Int32) (v_half : Int32) (v_logged : Int32) (v_marked : Int32) (v_down : Int32) : va_W := [(a_t, .inr (3, [.int v_written, .int v_armed, .int v_half, .int v_logged, .int v_marked, .int v_down]))]
def f_Disk_writeHome (v_written : Int32) (v_armed : Int32) (v_logged : Int32) (v_marked : Int32) : Option (Int32 × Int32 × Int32 × Int32 × Int32) := (f_Disk_writeBlocks v_written v_armed v_logged).bind fun o5 => (if o5.1 = 0 then (some (0, o5.2.1, o5.2.2, v_logged, v_marked)) else ((f_Disk_writeBlock o5.2.1 o5.2.2).bind fun o12 => (if o12.1 = 0 then (some (0, o12.2.1, o12.2.2, v_logged, v_marked)) else (some (1, o12.2.1, o12.2.2, 0, 0)))))
set_option maxHeartbeats 4000000 in
set_option maxRecDepth 100000 in
theorem c_Disk_writeHome (l : Launch) (D : va_G) (G : Nat → ClassId) (a_t : Nat) (v_written : Int32) (v_armed : Int32) (v_half : Int32) (v_logged : Int32) (v_marked : Int32) (v_down : Int32) (o : Int32 × Int32 × Int32 × Int32 × Int32) (hf : f_Disk_writeHome v_written v_armed v_logged v_marked = some o) (sz : Nat) : MetI l y_Disk_writeHome ws_Disk_writeHome ({ frames := 2, cells := 0, slots := 0, locals := 42 }) D (obT G) (cw_Disk_writeHome G a_t v_written v_armed v_half v_logged v_marked v_down) (cw_Disk_writeHome G a_t o.2.1 o.2.2.1 v_half o.2.2.2.1 o.2.2.2.2 v_down) [.ref a_t] o.1 sz := by
  refine ob_of (cc := bc_Disk_writeHome) (maxL := 1) (ret := (some .boolean)) (Qc := ObQi D (obT G) (cw_Disk_writeHome G a_t o.2.1 o.2.2.1 v_half o.2.2.2.1 o.2.2.2.2 v_down) o.1) (by decide) rfl (Nat.le_of_ble_eq_true rfl) ?_
  intro p e s m below meth c A ls H locs hx hb hr hml hts hown hlk hnm hZ hP hK hD hA hS hl
  have hret : ∀ (o' : Int32 × Int32 × Int32 × Int32 × Int32) (H : Heap) (locs : List Loc) (pc : Nat) (ls : Array Slot), some o' = some o → va_P D vwCl (cw_Disk_writeHome G a_t o'.2.1 o'.2.2.1 v_half o'.2.2.2.1 o'.2.2.2.2 v_down) H → va_D A (cw_Disk_writeHome G a_t o'.2.1 o'.2.2.1 v_half o'.2.2.2.1 o'.2.2.2.2 v_down) → va_S A s.heap H locs → narrow .boolean (.int o'.1) = .int o'.1 → decode bc_Disk_writeHome pc = .ok (.ireturn, 1) → W p l e { frames := 2, cells := 0, slots := 0, locals := 42 } s m ([.ref a_t] : List Value).toArray below meth c H locs 0 0 (MQ below (ObQi D (obT G) (cw_Disk_writeHome G a_t o.2.1 o.2.2.1 v_half o.2.2.2.1 o.2.2.2.2 v_down) o.1 A) ([.ref a_t] : List Value).toArray s 0 0 A) (F0 m pc ls [.int o'.1]) := by
    intro o' H locs pc ls he hP hD hS hn hd
    obtain rfl := Option.some.inj he
    exact ob_iret hx hb hr hlk hK hP hD hS hn hd
  generalize MQ below (ObQi D (obT G) (cw_Disk_writeHome G a_t o.2.1 o.2.2.1 v_half o.2.2.2.1 o.2.2.2.2 v_down) o.1 A) ([.ref a_t] : List Value).toArray s 0 0 A = Q at hret ⊢
  have hl : lv_has ls 1 [(0, .ref a_t)] := hl
  unfold f_Disk_writeHome at hf
  refine lv_aload_n hx hb d_Disk_writeHome_0 rfl (lv_at hl 0 rfl) ?_
  refine lv_aload_n hx hb d_Disk_writeHome_1 rfl (lv_at hl 0 rfl) ?_
  refine va_get (D := D) (ci := 3) (v := .int v_logged) (C := "ObjectBase$Disk") (T := TC_Disk) (N := 6) hx hb hts inC_Disk hown hK hP 0 rfl rfl 3 (by decide) (hts _ tw85) (fun _ h9 => h9) rfl d_Disk_writeHome_2 ?_
  obtain ⟨o5, ho5, hf⟩ := ob_b hf
  refine ob_calli (w2 := (cw_Disk_writeHome G a_t o5.2.1 o5.2.2 v_half v_logged v_marked v_down)) (va_runV (As := [.int v_logged]) (rest := []) ⟨hx, hb, hml, hown, hts⟩ (c_Disk_writeBlocks l D G a_t v_written v_armed v_half v_logged v_marked v_down v_logged o5 ho5 H.size) (cwV 1 hts (gV tw446 tw447 tw448 tw4 tw449) rfl rfl rfl (by decide +kernel) ⟨Nat.le_of_ble_eq_true rfl, Nat.le_of_ble_eq_true rfl⟩) (ob_preV (q0 := 0) (ci := 3) hZ hK hP hD [0] rfl rfl rfl rfl rfl) rfl rfl hl.1 rfl (lv_room (Nat.le_of_ble_eq_true rfl)) d_Disk_writeHome_5 ⟨Nat.le_refl _, Nat.le_refl _⟩) hP hD hA hS [0] rfl rfl rfl rfl (fun H locs hP hD hS => ?_)
  refine lv_if_eq (tgt := 18) hx hb d_Disk_writeHome_8 (by decide) (fun hc8 => ?_) (fun hc8 => ?_)
  · have hf := ob_t hc8 hf
    refine lv_iconst (v := 0) hx hb d_Disk_writeHome_18 (by decide) ?_
    exact hret (0, o5.2.1, o5.2.2, v_logged, v_marked) H locs _ ls hf hP hD hS narrow_b0 d_Disk_writeHome_19
  · have hf := ob_f hc8 hf
    refine lv_aload_n hx hb d_Disk_writeHome_11 rfl (lv_at hl 0 rfl) ?_
    obtain ⟨o12, ho12, hf⟩ := ob_b hf
    refine ob_calli (w2 := (cw_Disk_writeHome G a_t o12.2.1 o12.2.2 v_half v_logged v_marked v_down)) (va_runV (As := []) (rest := []) ⟨hx, hb, hml, hown, hts⟩ (c_Disk_writeBlock l D G a_t o5.2.1 o5.2.2 v_half v_logged v_marked v_down o12 ho12 H.size) (cwV 0 hts (gV tw425 tw426 tw427 tw4 tw428) rfl rfl rfl (by decide +kernel) ⟨Nat.le_of_ble_eq_true rfl, Nat.le_of_ble_eq_true rfl⟩) (ob_preV (q0 := 0) (ci := 3) hZ hK hP hD [0] rfl rfl rfl rfl rfl) rfl rfl hl.1 rfl (lv_room (Nat.le_of_ble_eq_true rfl)) d_Disk_writeHome_12 ⟨Nat.le_refl _, Nat.le_refl _⟩) hP hD hA hS [0] rfl rfl rfl rfl (fun H locs hP hD hS => ?_)
    refine lv_if_ne (tgt := 20) hx hb d_Disk_writeHome_15 (by decide) (fun hc15 => ?_) (fun hc15 => ?_)
    · have hf := ob_f hc15 hf
      refine lv_aload_n hx hb d_Disk_writeHome_20 rfl (lv_at hl 0 rfl) ?_
      refine lv_iconst (v := 0) hx hb d_Disk_writeHome_21 (by decide) ?_
      refine va_put (D := D) (ci := 3) (v := .int 0) (ty := .int) (C := "ObjectBase$Disk") (T := TC_Disk) (N := 6) hx hb hts inC_Disk tyC_Disk tyC_Disk_ok nmC_Disk hown hK hP hD hS 0 rfl rfl 3 (by decide) (hts _ tw85) (fun _ h9 => h9) rfl (by decide +kernel) rfl rfl (Nat.le_of_ble_eq_true rfl) d_Disk_writeHome_22 (fun H locs hP hD hS => ?_)
      have hP : va_P D vwCl (cw_Disk_writeHome G a_t o12.2.1 o12.2.2 v_half 0 v_marked v_down) H := hP
      have hD : va_D A (cw_Disk_writeHome G a_t o12.2.1 o12.2.2 v_half 0 v_marked v_down) := hD
      refine lv_aload_n hx hb d_Disk_writeHome_25 rfl (lv_at hl 0 rfl) ?_
      refine lv_iconst (v := 0) hx hb d_Disk_writeHome_26 (by decide) ?_
      refine va_put (D := D) (ci := 3) (v := .int 0) (ty := .boolean) (C := "ObjectBase$Disk") (T := TC_Disk) (N := 6) hx hb hts inC_Disk tyC_Disk tyC_Disk_ok nmC_Disk hown hK hP hD hS 0 rfl rfl 4 (by decide) (hts _ tw86) (fun _ h9 => h9) rfl (by decide +kernel) rfl rfl (Nat.le_of_ble_eq_true rfl) d_Disk_writeHome_27 (fun H locs hP hD hS => ?_)
      have hP : va_P D vwCl (cw_Disk_writeHome G a_t o12.2.1 o12.2.2 v_half 0 0 v_down) H := hP
      have hD : va_D A (cw_Disk_writeHome G a_t o12.2.1 o12.2.2 v_half 0 0 v_down) := hD
      refine lv_iconst (v := 1) hx hb d_Disk_writeHome_30 (by decide) ?_
      exact hret (1, o12.2.1, o12.2.2, 0, 0) H locs _ ls hf hP hD hS narrow_b1 d_Disk_writeHome_31
    · have hf := ob_t hc15 hf
      refine lv_iconst (v := 0) hx hb d_Disk_writeHome_18 (by decide) ?_
      exact hret (0, o12.2.1, o12.2.2, v_logged, v_marked) H locs _ ls hf hP hD hS narrow_b0 d_Disk_writeHome_19
