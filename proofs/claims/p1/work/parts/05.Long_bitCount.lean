abbrev bc_Long_bitCount : ByteArray := prog_14_method_50_code
abbrev y_Long_bitCount : MethodName := ⟨"java/lang/Long", "bitCount", "(J)I"⟩
def ws_Long_bitCount : List Cond := .code y_Long_bitCount bc_Long_bitCount 2 (some .int) :: obW
theorem d_Long_bitCount_0 : decode bc_Long_bitCount 0 = .ok (.lload_n 0, 1) := by decide +kernel
theorem d_Long_bitCount_1 : decode bc_Long_bitCount 1 = .ok (.lload_n 0, 1) := by decide +kernel
theorem d_Long_bitCount_2 : decode bc_Long_bitCount 2 = .ok (.iconst 1, 1) := by decide +kernel
theorem d_Long_bitCount_3 : decode bc_Long_bitCount 3 = .ok (.lushr, 1) := by decide +kernel
theorem d_Long_bitCount_4 : decode bc_Long_bitCount 4 = .ok (.ldc2_w 314, 3) := by decide +kernel
theorem d_Long_bitCount_7 : decode bc_Long_bitCount 7 = .ok (.land, 1) := by decide +kernel
theorem d_Long_bitCount_8 : decode bc_Long_bitCount 8 = .ok (.lsub, 1) := by decide +kernel
theorem d_Long_bitCount_9 : decode bc_Long_bitCount 9 = .ok (.lstore_n 0, 1) := by decide +kernel
theorem d_Long_bitCount_10 : decode bc_Long_bitCount 10 = .ok (.lload_n 0, 1) := by decide +kernel
theorem d_Long_bitCount_11 : decode bc_Long_bitCount 11 = .ok (.ldc2_w 316, 3) := by decide +kernel
theorem d_Long_bitCount_14 : decode bc_Long_bitCount 14 = .ok (.land, 1) := by decide +kernel
theorem d_Long_bitCount_15 : decode bc_Long_bitCount 15 = .ok (.lload_n 0, 1) := by decide +kernel
theorem d_Long_bitCount_16 : decode bc_Long_bitCount 16 = .ok (.iconst 2, 1) := by decide +kernel
theorem d_Long_bitCount_17 : decode bc_Long_bitCount 17 = .ok (.lushr, 1) := by decide +kernel
theorem d_Long_bitCount_18 : decode bc_Long_bitCount 18 = .ok (.ldc2_w 316, 3) := by decide +kernel
theorem d_Long_bitCount_21 : decode bc_Long_bitCount 21 = .ok (.land, 1) := by decide +kernel
theorem d_Long_bitCount_22 : decode bc_Long_bitCount 22 = .ok (.ladd, 1) := by decide +kernel
theorem d_Long_bitCount_23 : decode bc_Long_bitCount 23 = .ok (.lstore_n 0, 1) := by decide +kernel
theorem d_Long_bitCount_24 : decode bc_Long_bitCount 24 = .ok (.lload_n 0, 1) := by decide +kernel
theorem d_Long_bitCount_25 : decode bc_Long_bitCount 25 = .ok (.lload_n 0, 1) := by decide +kernel
theorem d_Long_bitCount_26 : decode bc_Long_bitCount 26 = .ok (.iconst 4, 1) := by decide +kernel
theorem d_Long_bitCount_27 : decode bc_Long_bitCount 27 = .ok (.lushr, 1) := by decide +kernel
theorem d_Long_bitCount_28 : decode bc_Long_bitCount 28 = .ok (.ladd, 1) := by decide +kernel
theorem d_Long_bitCount_29 : decode bc_Long_bitCount 29 = .ok (.ldc2_w 318, 3) := by decide +kernel
theorem d_Long_bitCount_32 : decode bc_Long_bitCount 32 = .ok (.land, 1) := by decide +kernel
theorem d_Long_bitCount_33 : decode bc_Long_bitCount 33 = .ok (.lstore_n 0, 1) := by decide +kernel
theorem d_Long_bitCount_34 : decode bc_Long_bitCount 34 = .ok (.lload_n 0, 1) := by decide +kernel
theorem d_Long_bitCount_35 : decode bc_Long_bitCount 35 = .ok (.lload_n 0, 1) := by decide +kernel
theorem d_Long_bitCount_36 : decode bc_Long_bitCount 36 = .ok (.bipush 8, 2) := by decide +kernel
theorem d_Long_bitCount_38 : decode bc_Long_bitCount 38 = .ok (.lushr, 1) := by decide +kernel
theorem d_Long_bitCount_39 : decode bc_Long_bitCount 39 = .ok (.ladd, 1) := by decide +kernel
theorem d_Long_bitCount_40 : decode bc_Long_bitCount 40 = .ok (.lstore_n 0, 1) := by decide +kernel
theorem d_Long_bitCount_41 : decode bc_Long_bitCount 41 = .ok (.lload_n 0, 1) := by decide +kernel
theorem d_Long_bitCount_42 : decode bc_Long_bitCount 42 = .ok (.lload_n 0, 1) := by decide +kernel
theorem d_Long_bitCount_43 : decode bc_Long_bitCount 43 = .ok (.bipush 16, 2) := by decide +kernel
theorem d_Long_bitCount_45 : decode bc_Long_bitCount 45 = .ok (.lushr, 1) := by decide +kernel
theorem d_Long_bitCount_46 : decode bc_Long_bitCount 46 = .ok (.ladd, 1) := by decide +kernel
theorem d_Long_bitCount_47 : decode bc_Long_bitCount 47 = .ok (.lstore_n 0, 1) := by decide +kernel
theorem d_Long_bitCount_48 : decode bc_Long_bitCount 48 = .ok (.lload_n 0, 1) := by decide +kernel
theorem d_Long_bitCount_49 : decode bc_Long_bitCount 49 = .ok (.lload_n 0, 1) := by decide +kernel
theorem d_Long_bitCount_50 : decode bc_Long_bitCount 50 = .ok (.bipush 32, 2) := by decide +kernel
theorem d_Long_bitCount_52 : decode bc_Long_bitCount 52 = .ok (.lushr, 1) := by decide +kernel
theorem d_Long_bitCount_53 : decode bc_Long_bitCount 53 = .ok (.ladd, 1) := by decide +kernel
theorem d_Long_bitCount_54 : decode bc_Long_bitCount 54 = .ok (.lstore_n 0, 1) := by decide +kernel
theorem d_Long_bitCount_55 : decode bc_Long_bitCount 55 = .ok (.lload_n 0, 1) := by decide +kernel
theorem d_Long_bitCount_56 : decode bc_Long_bitCount 56 = .ok (.l2i, 1) := by decide +kernel
theorem d_Long_bitCount_57 : decode bc_Long_bitCount 57 = .ok (.bipush 127, 2) := by decide +kernel
theorem d_Long_bitCount_59 : decode bc_Long_bitCount 59 = .ok (.iand, 1) := by decide +kernel
theorem d_Long_bitCount_60 : decode bc_Long_bitCount 60 = .ok (.ireturn, 1) := by decide +kernel
def cw_Long_bitCount (G : Nat → ClassId) : va_W := []
def f_Long_bitCount (p0 : Int64) : Option (Int32) := some ((((((((((p0 - (((p0.toUInt64 >>> ((1 : Int32).toInt64.toUInt64 &&& Int64.toUInt64 63)).toInt64) &&& 6148914691236517205)) &&& 3689348814741910323) + ((((p0 - (((p0.toUInt64 >>> ((1 : Int32).toInt64.toUInt64 &&& Int64.toUInt64 63)).toInt64) &&& 6148914691236517205)).toUInt64 >>> ((2 : Int32).toInt64.toUInt64 &&& Int64.toUInt64 63)).toInt64) &&& 3689348814741910323)) + (((((p0 - (((p0.toUInt64 >>> ((1 : Int32).toInt64.toUInt64 &&& Int64.toUInt64 63)).toInt64) &&& 6148914691236517205)) &&& 3689348814741910323) + ((((p0 - (((p0.toUInt64 >>> ((1 : Int32).toInt64.toUInt64 &&& Int64.toUInt64 63)).toInt64) &&& 6148914691236517205)).toUInt64 >>> ((2 : Int32).toInt64.toUInt64 &&& Int64.toUInt64 63)).toInt64) &&& 3689348814741910323)).toUInt64 >>> ((4 : Int32).toInt64.toUInt64 &&& Int64.toUInt64 63)).toInt64)) &&& 1085102592571150095) + (((((((p0 - (((p0.toUInt64 >>> ((1 : Int32).toInt64.toUInt64 &&& Int64.toUInt64 63)).toInt64) &&& 6148914691236517205)) &&& 3689348814741910323) + ((((p0 - (((p0.toUInt64 >>> ((1 : Int32).toInt64.toUInt64 &&& Int64.toUInt64 63)).toInt64) &&& 6148914691236517205)).toUInt64 >>> ((2 : Int32).toInt64.toUInt64 &&& Int64.toUInt64 63)).toInt64) &&& 3689348814741910323)) + (((((p0 - (((p0.toUInt64 >>> ((1 : Int32).toInt64.toUInt64 &&& Int64.toUInt64 63)).toInt64) &&& 6148914691236517205)) &&& 3689348814741910323) + ((((p0 - (((p0.toUInt64 >>> ((1 : Int32).toInt64.toUInt64 &&& Int64.toUInt64 63)).toInt64) &&& 6148914691236517205)).toUInt64 >>> ((2 : Int32).toInt64.toUInt64 &&& Int64.toUInt64 63)).toInt64) &&& 3689348814741910323)).toUInt64 >>> ((4 : Int32).toInt64.toUInt64 &&& Int64.toUInt64 63)).toInt64)) &&& 1085102592571150095).toUInt64 >>> ((8 : Int32).toInt64.toUInt64 &&& Int64.toUInt64 63)).toInt64)) + ((((((((p0 - (((p0.toUInt64 >>> ((1 : Int32).toInt64.toUInt64 &&& Int64.toUInt64 63)).toInt64) &&& 6148914691236517205)) &&& 3689348814741910323) + ((((p0 - (((p0.toUInt64 >>> ((1 : Int32).toInt64.toUInt64 &&& Int64.toUInt64 63)).toInt64) &&& 6148914691236517205)).toUInt64 >>> ((2 : Int32).toInt64.toUInt64 &&& Int64.toUInt64 63)).toInt64) &&& 3689348814741910323)) + (((((p0 - (((p0.toUInt64 >>> ((1 : Int32).toInt64.toUInt64 &&& Int64.toUInt64 63)).toInt64) &&& 6148914691236517205)) &&& 3689348814741910323) + ((((p0 - (((p0.toUInt64 >>> ((1 : Int32).toInt64.toUInt64 &&& Int64.toUInt64 63)).toInt64) &&& 6148914691236517205)).toUInt64 >>> ((2 : Int32).toInt64.toUInt64 &&& Int64.toUInt64 63)).toInt64) &&& 3689348814741910323)).toUInt64 >>> ((4 : Int32).toInt64.toUInt64 &&& Int64.toUInt64 63)).toInt64)) &&& 1085102592571150095) + (((((((p0 - (((p0.toUInt64 >>> ((1 : Int32).toInt64.toUInt64 &&& Int64.toUInt64 63)).toInt64) &&& 6148914691236517205)) &&& 3689348814741910323) + ((((p0 - (((p0.toUInt64 >>> ((1 : Int32).toInt64.toUInt64 &&& Int64.toUInt64 63)).toInt64) &&& 6148914691236517205)).toUInt64 >>> ((2 : Int32).toInt64.toUInt64 &&& Int64.toUInt64 63)).toInt64) &&& 3689348814741910323)) + (((((p0 - (((p0.toUInt64 >>> ((1 : Int32).toInt64.toUInt64 &&& Int64.toUInt64 63)).toInt64) &&& 6148914691236517205)) &&& 3689348814741910323) + ((((p0 - (((p0.toUInt64 >>> ((1 : Int32).toInt64.toUInt64 &&& Int64.toUInt64 63)).toInt64) &&& 6148914691236517205)).toUInt64 >>> ((2 : Int32).toInt64.toUInt64 &&& Int64.toUInt64 63)).toInt64) &&& 3689348814741910323)).toUInt64 >>> ((4 : Int32).toInt64.toUInt64 &&& Int64.toUInt64 63)).toInt64)) &&& 1085102592571150095).toUInt64 >>> ((8 : Int32).toInt64.toUInt64 &&& Int64.toUInt64 63)).toInt64)).toUInt64 >>> ((16 : Int32).toInt64.toUInt64 &&& Int64.toUInt64 63)).toInt64)) + (((((((((p0 - (((p0.toUInt64 >>> ((1 : Int32).toInt64.toUInt64 &&& Int64.toUInt64 63)).toInt64) &&& 6148914691236517205)) &&& 3689348814741910323) + ((((p0 - (((p0.toUInt64 >>> ((1 : Int32).toInt64.toUInt64 &&& Int64.toUInt64 63)).toInt64) &&& 6148914691236517205)).toUInt64 >>> ((2 : Int32).toInt64.toUInt64 &&& Int64.toUInt64 63)).toInt64) &&& 3689348814741910323)) + (((((p0 - (((p0.toUInt64 >>> ((1 : Int32).toInt64.toUInt64 &&& Int64.toUInt64 63)).toInt64) &&& 6148914691236517205)) &&& 3689348814741910323) + ((((p0 - (((p0.toUInt64 >>> ((1 : Int32).toInt64.toUInt64 &&& Int64.toUInt64 63)).toInt64) &&& 6148914691236517205)).toUInt64 >>> ((2 : Int32).toInt64.toUInt64 &&& Int64.toUInt64 63)).toInt64) &&& 3689348814741910323)).toUInt64 >>> ((4 : Int32).toInt64.toUInt64 &&& Int64.toUInt64 63)).toInt64)) &&& 1085102592571150095) + (((((((p0 - (((p0.toUInt64 >>> ((1 : Int32).toInt64.toUInt64 &&& Int64.toUInt64 63)).toInt64) &&& 6148914691236517205)) &&& 3689348814741910323) + ((((p0 - (((p0.toUInt64 >>> ((1 : Int32).toInt64.toUInt64 &&& Int64.toUInt64 63)).toInt64) &&& 6148914691236517205)).toUInt64 >>> ((2 : Int32).toInt64.toUInt64 &&& Int64.toUInt64 63)).toInt64) &&& 3689348814741910323)) + (((((p0 - (((p0.toUInt64 >>> ((1 : Int32).toInt64.toUInt64 &&& Int64.toUInt64 63)).toInt64) &&& 6148914691236517205)) &&& 3689348814741910323) + ((((p0 - (((p0.toUInt64 >>> ((1 : Int32).toInt64.toUInt64 &&& Int64.toUInt64 63)).toInt64) &&& 6148914691236517205)).toUInt64 >>> ((2 : Int32).toInt64.toUInt64 &&& Int64.toUInt64 63)).toInt64) &&& 3689348814741910323)).toUInt64 >>> ((4 : Int32).toInt64.toUInt64 &&& Int64.toUInt64 63)).toInt64)) &&& 1085102592571150095).toUInt64 >>> ((8 : Int32).toInt64.toUInt64 &&& Int64.toUInt64 63)).toInt64)) + ((((((((p0 - (((p0.toUInt64 >>> ((1 : Int32).toInt64.toUInt64 &&& Int64.toUInt64 63)).toInt64) &&& 6148914691236517205)) &&& 3689348814741910323) + ((((p0 - (((p0.toUInt64 >>> ((1 : Int32).toInt64.toUInt64 &&& Int64.toUInt64 63)).toInt64) &&& 6148914691236517205)).toUInt64 >>> ((2 : Int32).toInt64.toUInt64 &&& Int64.toUInt64 63)).toInt64) &&& 3689348814741910323)) + (((((p0 - (((p0.toUInt64 >>> ((1 : Int32).toInt64.toUInt64 &&& Int64.toUInt64 63)).toInt64) &&& 6148914691236517205)) &&& 3689348814741910323) + ((((p0 - (((p0.toUInt64 >>> ((1 : Int32).toInt64.toUInt64 &&& Int64.toUInt64 63)).toInt64) &&& 6148914691236517205)).toUInt64 >>> ((2 : Int32).toInt64.toUInt64 &&& Int64.toUInt64 63)).toInt64) &&& 3689348814741910323)).toUInt64 >>> ((4 : Int32).toInt64.toUInt64 &&& Int64.toUInt64 63)).toInt64)) &&& 1085102592571150095) + (((((((p0 - (((p0.toUInt64 >>> ((1 : Int32).toInt64.toUInt64 &&& Int64.toUInt64 63)).toInt64) &&& 6148914691236517205)) &&& 3689348814741910323) + ((((p0 - (((p0.toUInt64 >>> ((1 : Int32).toInt64.toUInt64 &&& Int64.toUInt64 63)).toInt64) &&& 6148914691236517205)).toUInt64 >>> ((2 : Int32).toInt64.toUInt64 &&& Int64.toUInt64 63)).toInt64) &&& 3689348814741910323)) + (((((p0 - (((p0.toUInt64 >>> ((1 : Int32).toInt64.toUInt64 &&& Int64.toUInt64 63)).toInt64) &&& 6148914691236517205)) &&& 3689348814741910323) + ((((p0 - (((p0.toUInt64 >>> ((1 : Int32).toInt64.toUInt64 &&& Int64.toUInt64 63)).toInt64) &&& 6148914691236517205)).toUInt64 >>> ((2 : Int32).toInt64.toUInt64 &&& Int64.toUInt64 63)).toInt64) &&& 3689348814741910323)).toUInt64 >>> ((4 : Int32).toInt64.toUInt64 &&& Int64.toUInt64 63)).toInt64)) &&& 1085102592571150095).toUInt64 >>> ((8 : Int32).toInt64.toUInt64 &&& Int64.toUInt64 63)).toInt64)).toUInt64 >>> ((16 : Int32).toInt64.toUInt64 &&& Int64.toUInt64 63)).toInt64)).toUInt64 >>> ((32 : Int32).toInt64.toUInt64 &&& Int64.toUInt64 63)).toInt64)).toInt32) &&& 127)
set_option maxHeartbeats 4000000 in
set_option maxRecDepth 100000 in
theorem c_Long_bitCount (l : Launch) (D : va_G) (G : Nat → ClassId) (p0 : Int64) (o : Int32) (hf : f_Long_bitCount p0 = some o) (sz : Nat) : MetI l y_Long_bitCount ws_Long_bitCount ({ frames := 0, cells := 0, slots := 0, locals := 0 }) D (obT G) (cw_Long_bitCount G) (cw_Long_bitCount G) [.long p0] o sz := by
  refine ob_of (cc := bc_Long_bitCount) (maxL := 2) (ret := (some .int)) (Qc := ObQi D (obT G) (cw_Long_bitCount G) o) (by decide) rfl (Nat.le_of_ble_eq_true rfl) ?_
  intro p e s m below meth c A ls H locs hx hb hr hml hts hown hlk hnm hZ hP hK hD hA hS hl
  have hret : ∀ (o' : Int32) (H : Heap) (locs : List Loc) (pc : Nat) (ls : Array Slot), some o' = some o → va_P D vwCl (cw_Long_bitCount G) H → va_D A (cw_Long_bitCount G) → va_S A s.heap H locs → narrow .int (.int o') = .int o' → decode bc_Long_bitCount pc = .ok (.ireturn, 1) → W p l e { frames := 0, cells := 0, slots := 0, locals := 0 } s m ([.long p0] : List Value).toArray below meth c H locs 0 0 (MQ below (ObQi D (obT G) (cw_Long_bitCount G) o A) ([.long p0] : List Value).toArray s 0 0 A) (F0 m pc ls [.int o']) := by
    intro o' H locs pc ls he hP hD hS hn hd
    obtain rfl := Option.some.inj he
    exact ob_iret hx hb hr hlk hK hP hD hS hn hd
  generalize MQ below (ObQi D (obT G) (cw_Long_bitCount G) o A) ([.long p0] : List Value).toArray s 0 0 A = Q at hret ⊢
  have hl : lv_has ls 2 [(0, .long p0)] := hl
  unfold f_Long_bitCount at hf
  refine lv_lload_n hx hb d_Long_bitCount_0 rfl (lv_at hl 0 rfl) ?_
  refine lv_lload_n hx hb d_Long_bitCount_1 rfl (lv_at hl 0 rfl) ?_
  refine lv_iconst (v := 1) hx hb d_Long_bitCount_2 (by decide) ?_
  refine lv_lushr hx hb d_Long_bitCount_3 rfl ?_
  refine lv_ldc2 (v := 6148914691236517205) hx hb hown (hts _ tw418) d_Long_bitCount_4 ?_
  refine lv_land hx hb d_Long_bitCount_7 ?_
  refine lv_lsub hx hb d_Long_bitCount_8 ?_
  refine lv_lstore_n (lv' := [(0, .long (p0 - (((p0.toUInt64 >>> ((1 : Int32).toInt64.toUInt64 &&& Int64.toUInt64 63)).toInt64) &&& 6148914691236517205)))]) hx hb d_Long_bitCount_9 rfl hl (by decide) rfl (fun ls hl => ?_)
  refine lv_lload_n hx hb d_Long_bitCount_10 rfl (lv_at hl 0 rfl) ?_
  refine lv_ldc2 (v := 3689348814741910323) hx hb hown (hts _ tw419) d_Long_bitCount_11 ?_
  refine lv_land hx hb d_Long_bitCount_14 ?_
  refine lv_lload_n hx hb d_Long_bitCount_15 rfl (lv_at hl 0 rfl) ?_
  refine lv_iconst (v := 2) hx hb d_Long_bitCount_16 (by decide) ?_
  refine lv_lushr hx hb d_Long_bitCount_17 rfl ?_
  refine lv_ldc2 (v := 3689348814741910323) hx hb hown (hts _ tw419) d_Long_bitCount_18 ?_
  refine lv_land hx hb d_Long_bitCount_21 ?_
  refine lv_ladd hx hb d_Long_bitCount_22 ?_
  refine lv_lstore_n (lv' := [(0, .long (((p0 - (((p0.toUInt64 >>> ((1 : Int32).toInt64.toUInt64 &&& Int64.toUInt64 63)).toInt64) &&& 6148914691236517205)) &&& 3689348814741910323) + ((((p0 - (((p0.toUInt64 >>> ((1 : Int32).toInt64.toUInt64 &&& Int64.toUInt64 63)).toInt64) &&& 6148914691236517205)).toUInt64 >>> ((2 : Int32).toInt64.toUInt64 &&& Int64.toUInt64 63)).toInt64) &&& 3689348814741910323)))]) hx hb d_Long_bitCount_23 rfl hl (by decide) rfl (fun ls hl => ?_)
  refine lv_lload_n hx hb d_Long_bitCount_24 rfl (lv_at hl 0 rfl) ?_
  refine lv_lload_n hx hb d_Long_bitCount_25 rfl (lv_at hl 0 rfl) ?_
  refine lv_iconst (v := 4) hx hb d_Long_bitCount_26 (by decide) ?_
  refine lv_lushr hx hb d_Long_bitCount_27 rfl ?_
  refine lv_ladd hx hb d_Long_bitCount_28 ?_
  refine lv_ldc2 (v := 1085102592571150095) hx hb hown (hts _ tw420) d_Long_bitCount_29 ?_
  refine lv_land hx hb d_Long_bitCount_32 ?_
  refine lv_lstore_n (lv' := [(0, .long (((((p0 - (((p0.toUInt64 >>> ((1 : Int32).toInt64.toUInt64 &&& Int64.toUInt64 63)).toInt64) &&& 6148914691236517205)) &&& 3689348814741910323) + ((((p0 - (((p0.toUInt64 >>> ((1 : Int32).toInt64.toUInt64 &&& Int64.toUInt64 63)).toInt64) &&& 6148914691236517205)).toUInt64 >>> ((2 : Int32).toInt64.toUInt64 &&& Int64.toUInt64 63)).toInt64) &&& 3689348814741910323)) + (((((p0 - (((p0.toUInt64 >>> ((1 : Int32).toInt64.toUInt64 &&& Int64.toUInt64 63)).toInt64) &&& 6148914691236517205)) &&& 3689348814741910323) + ((((p0 - (((p0.toUInt64 >>> ((1 : Int32).toInt64.toUInt64 &&& Int64.toUInt64 63)).toInt64) &&& 6148914691236517205)).toUInt64 >>> ((2 : Int32).toInt64.toUInt64 &&& Int64.toUInt64 63)).toInt64) &&& 3689348814741910323)).toUInt64 >>> ((4 : Int32).toInt64.toUInt64 &&& Int64.toUInt64 63)).toInt64)) &&& 1085102592571150095))]) hx hb d_Long_bitCount_33 rfl hl (by decide) rfl (fun ls hl => ?_)
  refine lv_lload_n hx hb d_Long_bitCount_34 rfl (lv_at hl 0 rfl) ?_
  refine lv_lload_n hx hb d_Long_bitCount_35 rfl (lv_at hl 0 rfl) ?_
  refine lv_bipush (v := 8) hx hb d_Long_bitCount_36 (by decide) ?_
  refine lv_lushr hx hb d_Long_bitCount_38 rfl ?_
  refine lv_ladd hx hb d_Long_bitCount_39 ?_
  refine lv_lstore_n (lv' := [(0, .long ((((((p0 - (((p0.toUInt64 >>> ((1 : Int32).toInt64.toUInt64 &&& Int64.toUInt64 63)).toInt64) &&& 6148914691236517205)) &&& 3689348814741910323) + ((((p0 - (((p0.toUInt64 >>> ((1 : Int32).toInt64.toUInt64 &&& Int64.toUInt64 63)).toInt64) &&& 6148914691236517205)).toUInt64 >>> ((2 : Int32).toInt64.toUInt64 &&& Int64.toUInt64 63)).toInt64) &&& 3689348814741910323)) + (((((p0 - (((p0.toUInt64 >>> ((1 : Int32).toInt64.toUInt64 &&& Int64.toUInt64 63)).toInt64) &&& 6148914691236517205)) &&& 3689348814741910323) + ((((p0 - (((p0.toUInt64 >>> ((1 : Int32).toInt64.toUInt64 &&& Int64.toUInt64 63)).toInt64) &&& 6148914691236517205)).toUInt64 >>> ((2 : Int32).toInt64.toUInt64 &&& Int64.toUInt64 63)).toInt64) &&& 3689348814741910323)).toUInt64 >>> ((4 : Int32).toInt64.toUInt64 &&& Int64.toUInt64 63)).toInt64)) &&& 1085102592571150095) + (((((((p0 - (((p0.toUInt64 >>> ((1 : Int32).toInt64.toUInt64 &&& Int64.toUInt64 63)).toInt64) &&& 6148914691236517205)) &&& 3689348814741910323) + ((((p0 - (((p0.toUInt64 >>> ((1 : Int32).toInt64.toUInt64 &&& Int64.toUInt64 63)).toInt64) &&& 6148914691236517205)).toUInt64 >>> ((2 : Int32).toInt64.toUInt64 &&& Int64.toUInt64 63)).toInt64) &&& 3689348814741910323)) + (((((p0 - (((p0.toUInt64 >>> ((1 : Int32).toInt64.toUInt64 &&& Int64.toUInt64 63)).toInt64) &&& 6148914691236517205)) &&& 3689348814741910323) + ((((p0 - (((p0.toUInt64 >>> ((1 : Int32).toInt64.toUInt64 &&& Int64.toUInt64 63)).toInt64) &&& 6148914691236517205)).toUInt64 >>> ((2 : Int32).toInt64.toUInt64 &&& Int64.toUInt64 63)).toInt64) &&& 3689348814741910323)).toUInt64 >>> ((4 : Int32).toInt64.toUInt64 &&& Int64.toUInt64 63)).toInt64)) &&& 1085102592571150095).toUInt64 >>> ((8 : Int32).toInt64.toUInt64 &&& Int64.toUInt64 63)).toInt64)))]) hx hb d_Long_bitCount_40 rfl hl (by decide) rfl (fun ls hl => ?_)
  refine lv_lload_n hx hb d_Long_bitCount_41 rfl (lv_at hl 0 rfl) ?_
  refine lv_lload_n hx hb d_Long_bitCount_42 rfl (lv_at hl 0 rfl) ?_
  refine lv_bipush (v := 16) hx hb d_Long_bitCount_43 (by decide) ?_
  refine lv_lushr hx hb d_Long_bitCount_45 rfl ?_
  refine lv_ladd hx hb d_Long_bitCount_46 ?_
  refine lv_lstore_n (lv' := [(0, .long (((((((p0 - (((p0.toUInt64 >>> ((1 : Int32).toInt64.toUInt64 &&& Int64.toUInt64 63)).toInt64) &&& 6148914691236517205)) &&& 3689348814741910323) + ((((p0 - (((p0.toUInt64 >>> ((1 : Int32).toInt64.toUInt64 &&& Int64.toUInt64 63)).toInt64) &&& 6148914691236517205)).toUInt64 >>> ((2 : Int32).toInt64.toUInt64 &&& Int64.toUInt64 63)).toInt64) &&& 3689348814741910323)) + (((((p0 - (((p0.toUInt64 >>> ((1 : Int32).toInt64.toUInt64 &&& Int64.toUInt64 63)).toInt64) &&& 6148914691236517205)) &&& 3689348814741910323) + ((((p0 - (((p0.toUInt64 >>> ((1 : Int32).toInt64.toUInt64 &&& Int64.toUInt64 63)).toInt64) &&& 6148914691236517205)).toUInt64 >>> ((2 : Int32).toInt64.toUInt64 &&& Int64.toUInt64 63)).toInt64) &&& 3689348814741910323)).toUInt64 >>> ((4 : Int32).toInt64.toUInt64 &&& Int64.toUInt64 63)).toInt64)) &&& 1085102592571150095) + (((((((p0 - (((p0.toUInt64 >>> ((1 : Int32).toInt64.toUInt64 &&& Int64.toUInt64 63)).toInt64) &&& 6148914691236517205)) &&& 3689348814741910323) + ((((p0 - (((p0.toUInt64 >>> ((1 : Int32).toInt64.toUInt64 &&& Int64.toUInt64 63)).toInt64) &&& 6148914691236517205)).toUInt64 >>> ((2 : Int32).toInt64.toUInt64 &&& Int64.toUInt64 63)).toInt64) &&& 3689348814741910323)) + (((((p0 - (((p0.toUInt64 >>> ((1 : Int32).toInt64.toUInt64 &&& Int64.toUInt64 63)).toInt64) &&& 6148914691236517205)) &&& 3689348814741910323) + ((((p0 - (((p0.toUInt64 >>> ((1 : Int32).toInt64.toUInt64 &&& Int64.toUInt64 63)).toInt64) &&& 6148914691236517205)).toUInt64 >>> ((2 : Int32).toInt64.toUInt64 &&& Int64.toUInt64 63)).toInt64) &&& 3689348814741910323)).toUInt64 >>> ((4 : Int32).toInt64.toUInt64 &&& Int64.toUInt64 63)).toInt64)) &&& 1085102592571150095).toUInt64 >>> ((8 : Int32).toInt64.toUInt64 &&& Int64.toUInt64 63)).toInt64)) + ((((((((p0 - (((p0.toUInt64 >>> ((1 : Int32).toInt64.toUInt64 &&& Int64.toUInt64 63)).toInt64) &&& 6148914691236517205)) &&& 3689348814741910323) + ((((p0 - (((p0.toUInt64 >>> ((1 : Int32).toInt64.toUInt64 &&& Int64.toUInt64 63)).toInt64) &&& 6148914691236517205)).toUInt64 >>> ((2 : Int32).toInt64.toUInt64 &&& Int64.toUInt64 63)).toInt64) &&& 3689348814741910323)) + (((((p0 - (((p0.toUInt64 >>> ((1 : Int32).toInt64.toUInt64 &&& Int64.toUInt64 63)).toInt64) &&& 6148914691236517205)) &&& 3689348814741910323) + ((((p0 - (((p0.toUInt64 >>> ((1 : Int32).toInt64.toUInt64 &&& Int64.toUInt64 63)).toInt64) &&& 6148914691236517205)).toUInt64 >>> ((2 : Int32).toInt64.toUInt64 &&& Int64.toUInt64 63)).toInt64) &&& 3689348814741910323)).toUInt64 >>> ((4 : Int32).toInt64.toUInt64 &&& Int64.toUInt64 63)).toInt64)) &&& 1085102592571150095) + (((((((p0 - (((p0.toUInt64 >>> ((1 : Int32).toInt64.toUInt64 &&& Int64.toUInt64 63)).toInt64) &&& 6148914691236517205)) &&& 3689348814741910323) + ((((p0 - (((p0.toUInt64 >>> ((1 : Int32).toInt64.toUInt64 &&& Int64.toUInt64 63)).toInt64) &&& 6148914691236517205)).toUInt64 >>> ((2 : Int32).toInt64.toUInt64 &&& Int64.toUInt64 63)).toInt64) &&& 3689348814741910323)) + (((((p0 - (((p0.toUInt64 >>> ((1 : Int32).toInt64.toUInt64 &&& Int64.toUInt64 63)).toInt64) &&& 6148914691236517205)) &&& 3689348814741910323) + ((((p0 - (((p0.toUInt64 >>> ((1 : Int32).toInt64.toUInt64 &&& Int64.toUInt64 63)).toInt64) &&& 6148914691236517205)).toUInt64 >>> ((2 : Int32).toInt64.toUInt64 &&& Int64.toUInt64 63)).toInt64) &&& 3689348814741910323)).toUInt64 >>> ((4 : Int32).toInt64.toUInt64 &&& Int64.toUInt64 63)).toInt64)) &&& 1085102592571150095).toUInt64 >>> ((8 : Int32).toInt64.toUInt64 &&& Int64.toUInt64 63)).toInt64)).toUInt64 >>> ((16 : Int32).toInt64.toUInt64 &&& Int64.toUInt64 63)).toInt64)))]) hx hb d_Long_bitCount_47 rfl hl (by decide) rfl (fun ls hl => ?_)
  refine lv_lload_n hx hb d_Long_bitCount_48 rfl (lv_at hl 0 rfl) ?_
  refine lv_lload_n hx hb d_Long_bitCount_49 rfl (lv_at hl 0 rfl) ?_
  refine lv_bipush (v := 32) hx hb d_Long_bitCount_50 (by decide) ?_
  refine lv_lushr hx hb d_Long_bitCount_52 rfl ?_
  refine lv_ladd hx hb d_Long_bitCount_53 ?_
  refine lv_lstore_n (lv' := [(0, .long ((((((((p0 - (((p0.toUInt64 >>> ((1 : Int32).toInt64.toUInt64 &&& Int64.toUInt64 63)).toInt64) &&& 6148914691236517205)) &&& 3689348814741910323) + ((((p0 - (((p0.toUInt64 >>> ((1 : Int32).toInt64.toUInt64 &&& Int64.toUInt64 63)).toInt64) &&& 6148914691236517205)).toUInt64 >>> ((2 : Int32).toInt64.toUInt64 &&& Int64.toUInt64 63)).toInt64) &&& 3689348814741910323)) + (((((p0 - (((p0.toUInt64 >>> ((1 : Int32).toInt64.toUInt64 &&& Int64.toUInt64 63)).toInt64) &&& 6148914691236517205)) &&& 3689348814741910323) + ((((p0 - (((p0.toUInt64 >>> ((1 : Int32).toInt64.toUInt64 &&& Int64.toUInt64 63)).toInt64) &&& 6148914691236517205)).toUInt64 >>> ((2 : Int32).toInt64.toUInt64 &&& Int64.toUInt64 63)).toInt64) &&& 3689348814741910323)).toUInt64 >>> ((4 : Int32).toInt64.toUInt64 &&& Int64.toUInt64 63)).toInt64)) &&& 1085102592571150095) + (((((((p0 - (((p0.toUInt64 >>> ((1 : Int32).toInt64.toUInt64 &&& Int64.toUInt64 63)).toInt64) &&& 6148914691236517205)) &&& 3689348814741910323) + ((((p0 - (((p0.toUInt64 >>> ((1 : Int32).toInt64.toUInt64 &&& Int64.toUInt64 63)).toInt64) &&& 6148914691236517205)).toUInt64 >>> ((2 : Int32).toInt64.toUInt64 &&& Int64.toUInt64 63)).toInt64) &&& 3689348814741910323)) + (((((p0 - (((p0.toUInt64 >>> ((1 : Int32).toInt64.toUInt64 &&& Int64.toUInt64 63)).toInt64) &&& 6148914691236517205)) &&& 3689348814741910323) + ((((p0 - (((p0.toUInt64 >>> ((1 : Int32).toInt64.toUInt64 &&& Int64.toUInt64 63)).toInt64) &&& 6148914691236517205)).toUInt64 >>> ((2 : Int32).toInt64.toUInt64 &&& Int64.toUInt64 63)).toInt64) &&& 3689348814741910323)).toUInt64 >>> ((4 : Int32).toInt64.toUInt64 &&& Int64.toUInt64 63)).toInt64)) &&& 1085102592571150095).toUInt64 >>> ((8 : Int32).toInt64.toUInt64 &&& Int64.toUInt64 63)).toInt64)) + ((((((((p0 - (((p0.toUInt64 >>> ((1 : Int32).toInt64.toUInt64 &&& Int64.toUInt64 63)).toInt64) &&& 6148914691236517205)) &&& 3689348814741910323) + ((((p0 - (((p0.toUInt64 >>> ((1 : Int32).toInt64.toUInt64 &&& Int64.toUInt64 63)).toInt64) &&& 6148914691236517205)).toUInt64 >>> ((2 : Int32).toInt64.toUInt64 &&& Int64.toUInt64 63)).toInt64) &&& 3689348814741910323)) + (((((p0 - (((p0.toUInt64 >>> ((1 : Int32).toInt64.toUInt64 &&& Int64.toUInt64 63)).toInt64) &&& 6148914691236517205)) &&& 3689348814741910323) + ((((p0 - (((p0.toUInt64 >>> ((1 : Int32).toInt64.toUInt64 &&& Int64.toUInt64 63)).toInt64) &&& 6148914691236517205)).toUInt64 >>> ((2 : Int32).toInt64.toUInt64 &&& Int64.toUInt64 63)).toInt64) &&& 3689348814741910323)).toUInt64 >>> ((4 : Int32).toInt64.toUInt64 &&& Int64.toUInt64 63)).toInt64)) &&& 1085102592571150095) + (((((((p0 - (((p0.toUInt64 >>> ((1 : Int32).toInt64.toUInt64 &&& Int64.toUInt64 63)).toInt64) &&& 6148914691236517205)) &&& 3689348814741910323) + ((((p0 - (((p0.toUInt64 >>> ((1 : Int32).toInt64.toUInt64 &&& Int64.toUInt64 63)).toInt64) &&& 6148914691236517205)).toUInt64 >>> ((2 : Int32).toInt64.toUInt64 &&& Int64.toUInt64 63)).toInt64) &&& 3689348814741910323)) + (((((p0 - (((p0.toUInt64 >>> ((1 : Int32).toInt64.toUInt64 &&& Int64.toUInt64 63)).toInt64) &&& 6148914691236517205)) &&& 3689348814741910323) + ((((p0 - (((p0.toUInt64 >>> ((1 : Int32).toInt64.toUInt64 &&& Int64.toUInt64 63)).toInt64) &&& 6148914691236517205)).toUInt64 >>> ((2 : Int32).toInt64.toUInt64 &&& Int64.toUInt64 63)).toInt64) &&& 3689348814741910323)).toUInt64 >>> ((4 : Int32).toInt64.toUInt64 &&& Int64.toUInt64 63)).toInt64)) &&& 1085102592571150095).toUInt64 >>> ((8 : Int32).toInt64.toUInt64 &&& Int64.toUInt64 63)).toInt64)).toUInt64 >>> ((16 : Int32).toInt64.toUInt64 &&& Int64.toUInt64 63)).toInt64)) + (((((((((p0 - (((p0.toUInt64 >>> ((1 : Int32).toInt64.toUInt64 &&& Int64.toUInt64 63)).toInt64) &&& 6148914691236517205)) &&& 3689348814741910323) + ((((p0 - (((p0.toUInt64 >>> ((1 : Int32).toInt64.toUInt64 &&& Int64.toUInt64 63)).toInt64) &&& 6148914691236517205)).toUInt64 >>> ((2 : Int32).toInt64.toUInt64 &&& Int64.toUInt64 63)).toInt64) &&& 3689348814741910323)) + (((((p0 - (((p0.toUInt64 >>> ((1 : Int32).toInt64.toUInt64 &&& Int64.toUInt64 63)).toInt64) &&& 6148914691236517205)) &&& 3689348814741910323) + ((((p0 - (((p0.toUInt64 >>> ((1 : Int32).toInt64.toUInt64 &&& Int64.toUInt64 63)).toInt64) &&& 6148914691236517205)).toUInt64 >>> ((2 : Int32).toInt64.toUInt64 &&& Int64.toUInt64 63)).toInt64) &&& 3689348814741910323)).toUInt64 >>> ((4 : Int32).toInt64.toUInt64 &&& Int64.toUInt64 63)).toInt64)) &&& 1085102592571150095) + (((((((p0 - (((p0.toUInt64 >>> ((1 : Int32).toInt64.toUInt64 &&& Int64.toUInt64 63)).toInt64) &&& 6148914691236517205)) &&& 3689348814741910323) + ((((p0 - (((p0.toUInt64 >>> ((1 : Int32).toInt64.toUInt64 &&& Int64.toUInt64 63)).toInt64) &&& 6148914691236517205)).toUInt64 >>> ((2 : Int32).toInt64.toUInt64 &&& Int64.toUInt64 63)).toInt64) &&& 3689348814741910323)) + (((((p0 - (((p0.toUInt64 >>> ((1 : Int32).toInt64.toUInt64 &&& Int64.toUInt64 63)).toInt64) &&& 6148914691236517205)) &&& 3689348814741910323) + ((((p0 - (((p0.toUInt64 >>> ((1 : Int32).toInt64.toUInt64 &&& Int64.toUInt64 63)).toInt64) &&& 6148914691236517205)).toUInt64 >>> ((2 : Int32).toInt64.toUInt64 &&& Int64.toUInt64 63)).toInt64) &&& 3689348814741910323)).toUInt64 >>> ((4 : Int32).toInt64.toUInt64 &&& Int64.toUInt64 63)).toInt64)) &&& 1085102592571150095).toUInt64 >>> ((8 : Int32).toInt64.toUInt64 &&& Int64.toUInt64 63)).toInt64)) + ((((((((p0 - (((p0.toUInt64 >>> ((1 : Int32).toInt64.toUInt64 &&& Int64.toUInt64 63)).toInt64) &&& 6148914691236517205)) &&& 3689348814741910323) + ((((p0 - (((p0.toUInt64 >>> ((1 : Int32).toInt64.toUInt64 &&& Int64.toUInt64 63)).toInt64) &&& 6148914691236517205)).toUInt64 >>> ((2 : Int32).toInt64.toUInt64 &&& Int64.toUInt64 63)).toInt64) &&& 3689348814741910323)) + (((((p0 - (((p0.toUInt64 >>> ((1 : Int32).toInt64.toUInt64 &&& Int64.toUInt64 63)).toInt64) &&& 6148914691236517205)) &&& 3689348814741910323) + ((((p0 - (((p0.toUInt64 >>> ((1 : Int32).toInt64.toUInt64 &&& Int64.toUInt64 63)).toInt64) &&& 6148914691236517205)).toUInt64 >>> ((2 : Int32).toInt64.toUInt64 &&& Int64.toUInt64 63)).toInt64) &&& 3689348814741910323)).toUInt64 >>> ((4 : Int32).toInt64.toUInt64 &&& Int64.toUInt64 63)).toInt64)) &&& 1085102592571150095) + (((((((p0 - (((p0.toUInt64 >>> ((1 : Int32).toInt64.toUInt64 &&& Int64.toUInt64 63)).toInt64) &&& 6148914691236517205)) &&& 3689348814741910323) + ((((p0 - (((p0.toUInt64 >>> ((1 : Int32).toInt64.toUInt64 &&& Int64.toUInt64 63)).toInt64) &&& 6148914691236517205)).toUInt64 >>> ((2 : Int32).toInt64.toUInt64 &&& Int64.toUInt64 63)).toInt64) &&& 3689348814741910323)) + (((((p0 - (((p0.toUInt64 >>> ((1 : Int32).toInt64.toUInt64 &&& Int64.toUInt64 63)).toInt64) &&& 6148914691236517205)) &&& 3689348814741910323) + ((((p0 - (((p0.toUInt64 >>> ((1 : Int32).toInt64.toUInt64 &&& Int64.toUInt64 63)).toInt64) &&& 6148914691236517205)).toUInt64 >>> ((2 : Int32).toInt64.toUInt64 &&& Int64.toUInt64 63)).toInt64) &&& 3689348814741910323)).toUInt64 >>> ((4 : Int32).toInt64.toUInt64 &&& Int64.toUInt64 63)).toInt64)) &&& 1085102592571150095).toUInt64 >>> ((8 : Int32).toInt64.toUInt64 &&& Int64.toUInt64 63)).toInt64)).toUInt64 >>> ((16 : Int32).toInt64.toUInt64 &&& Int64.toUInt64 63)).toInt64)).toUInt64 >>> ((32 : Int32).toInt64.toUInt64 &&& Int64.toUInt64 63)).toInt64)))]) hx hb d_Long_bitCount_54 rfl hl (by decide) rfl (fun ls hl => ?_)
  refine lv_lload_n hx hb d_Long_bitCount_55 rfl (lv_at hl 0 rfl) ?_
  refine lv_l2i hx hb d_Long_bitCount_56 rfl ?_
  refine lv_bipush (v := 127) hx hb d_Long_bitCount_57 (by decide) ?_
  refine lv_iand hx hb d_Long_bitCount_59 ?_
  exact hret ((((((((((p0 - (((p0.toUInt64 >>> ((1 : Int32).toInt64.toUInt64 &&& Int64.toUInt64 63)).toInt64) &&& 6148914691236517205)) &&& 3689348814741910323) + ((((p0 - (((p0.toUInt64 >>> ((1 : Int32).toInt64.toUInt64 &&& Int64.toUInt64 63)).toInt64) &&& 6148914691236517205)).toUInt64 >>> ((2 : Int32).toInt64.toUInt64 &&& Int64.toUInt64 63)).toInt64) &&& 3689348814741910323)) + (((((p0 - (((p0.toUInt64 >>> ((1 : Int32).toInt64.toUInt64 &&& Int64.toUInt64 63)).toInt64) &&& 6148914691236517205)) &&& 3689348814741910323) + ((((p0 - (((p0.toUInt64 >>> ((1 : Int32).toInt64.toUInt64 &&& Int64.toUInt64 63)).toInt64) &&& 6148914691236517205)).toUInt64 >>> ((2 : Int32).toInt64.toUInt64 &&& Int64.toUInt64 63)).toInt64) &&& 3689348814741910323)).toUInt64 >>> ((4 : Int32).toInt64.toUInt64 &&& Int64.toUInt64 63)).toInt64)) &&& 1085102592571150095) + (((((((p0 - (((p0.toUInt64 >>> ((1 : Int32).toInt64.toUInt64 &&& Int64.toUInt64 63)).toInt64) &&& 6148914691236517205)) &&& 3689348814741910323) + ((((p0 - (((p0.toUInt64 >>> ((1 : Int32).toInt64.toUInt64 &&& Int64.toUInt64 63)).toInt64) &&& 6148914691236517205)).toUInt64 >>> ((2 : Int32).toInt64.toUInt64 &&& Int64.toUInt64 63)).toInt64) &&& 3689348814741910323)) + (((((p0 - (((p0.toUInt64 >>> ((1 : Int32).toInt64.toUInt64 &&& Int64.toUInt64 63)).toInt64) &&& 6148914691236517205)) &&& 3689348814741910323) + ((((p0 - (((p0.toUInt64 >>> ((1 : Int32).toInt64.toUInt64 &&& Int64.toUInt64 63)).toInt64) &&& 6148914691236517205)).toUInt64 >>> ((2 : Int32).toInt64.toUInt64 &&& Int64.toUInt64 63)).toInt64) &&& 3689348814741910323)).toUInt64 >>> ((4 : Int32).toInt64.toUInt64 &&& Int64.toUInt64 63)).toInt64)) &&& 1085102592571150095).toUInt64 >>> ((8 : Int32).toInt64.toUInt64 &&& Int64.toUInt64 63)).toInt64)) + ((((((((p0 - (((p0.toUInt64 >>> ((1 : Int32).toInt64.toUInt64 &&& Int64.toUInt64 63)).toInt64) &&& 6148914691236517205)) &&& 3689348814741910323) + ((((p0 - (((p0.toUInt64 >>> ((1 : Int32).toInt64.toUInt64 &&& Int64.toUInt64 63)).toInt64) &&& 6148914691236517205)).toUInt64 >>> ((2 : Int32).toInt64.toUInt64 &&& Int64.toUInt64 63)).toInt64) &&& 3689348814741910323)) + (((((p0 - (((p0.toUInt64 >>> ((1 : Int32).toInt64.toUInt64 &&& Int64.toUInt64 63)).toInt64) &&& 6148914691236517205)) &&& 3689348814741910323) + ((((p0 - (((p0.toUInt64 >>> ((1 : Int32).toInt64.toUInt64 &&& Int64.toUInt64 63)).toInt64) &&& 6148914691236517205)).toUInt64 >>> ((2 : Int32).toInt64.toUInt64 &&& Int64.toUInt64 63)).toInt64) &&& 3689348814741910323)).toUInt64 >>> ((4 : Int32).toInt64.toUInt64 &&& Int64.toUInt64 63)).toInt64)) &&& 1085102592571150095) + (((((((p0 - (((p0.toUInt64 >>> ((1 : Int32).toInt64.toUInt64 &&& Int64.toUInt64 63)).toInt64) &&& 6148914691236517205)) &&& 3689348814741910323) + ((((p0 - (((p0.toUInt64 >>> ((1 : Int32).toInt64.toUInt64 &&& Int64.toUInt64 63)).toInt64) &&& 6148914691236517205)).toUInt64 >>> ((2 : Int32).toInt64.toUInt64 &&& Int64.toUInt64 63)).toInt64) &&& 3689348814741910323)) + (((((p0 - (((p0.toUInt64 >>> ((1 : Int32).toInt64.toUInt64 &&& Int64.toUInt64 63)).toInt64) &&& 6148914691236517205)) &&& 3689348814741910323) + ((((p0 - (((p0.toUInt64 >>> ((1 : Int32).toInt64.toUInt64 &&& Int64.toUInt64 63)).toInt64) &&& 6148914691236517205)).toUInt64 >>> ((2 : Int32).toInt64.toUInt64 &&& Int64.toUInt64 63)).toInt64) &&& 3689348814741910323)).toUInt64 >>> ((4 : Int32).toInt64.toUInt64 &&& Int64.toUInt64 63)).toInt64)) &&& 1085102592571150095).toUInt64 >>> ((8 : Int32).toInt64.toUInt64 &&& Int64.toUInt64 63)).toInt64)).toUInt64 >>> ((16 : Int32).toInt64.toUInt64 &&& Int64.toUInt64 63)).toInt64)) + (((((((((p0 - (((p0.toUInt64 >>> ((1 : Int32).toInt64.toUInt64 &&& Int64.toUInt64 63)).toInt64) &&& 6148914691236517205)) &&& 3689348814741910323) + ((((p0 - (((p0.toUInt64 >>> ((1 : Int32).toInt64.toUInt64 &&& Int64.toUInt64 63)).toInt64) &&& 6148914691236517205)).toUInt64 >>> ((2 : Int32).toInt64.toUInt64 &&& Int64.toUInt64 63)).toInt64) &&& 3689348814741910323)) + (((((p0 - (((p0.toUInt64 >>> ((1 : Int32).toInt64.toUInt64 &&& Int64.toUInt64 63)).toInt64) &&& 6148914691236517205)) &&& 3689348814741910323) + ((((p0 - (((p0.toUInt64 >>> ((1 : Int32).toInt64.toUInt64 &&& Int64.toUInt64 63)).toInt64) &&& 6148914691236517205)).toUInt64 >>> ((2 : Int32).toInt64.toUInt64 &&& Int64.toUInt64 63)).toInt64) &&& 3689348814741910323)).toUInt64 >>> ((4 : Int32).toInt64.toUInt64 &&& Int64.toUInt64 63)).toInt64)) &&& 1085102592571150095) + (((((((p0 - (((p0.toUInt64 >>> ((1 : Int32).toInt64.toUInt64 &&& Int64.toUInt64 63)).toInt64) &&& 6148914691236517205)) &&& 3689348814741910323) + ((((p0 - (((p0.toUInt64 >>> ((1 : Int32).toInt64.toUInt64 &&& Int64.toUInt64 63)).toInt64) &&& 6148914691236517205)).toUInt64 >>> ((2 : Int32).toInt64.toUInt64 &&& Int64.toUInt64 63)).toInt64) &&& 3689348814741910323)) + (((((p0 - (((p0.toUInt64 >>> ((1 : Int32).toInt64.toUInt64 &&& Int64.toUInt64 63)).toInt64) &&& 6148914691236517205)) &&& 3689348814741910323) + ((((p0 - (((p0.toUInt64 >>> ((1 : Int32).toInt64.toUInt64 &&& Int64.toUInt64 63)).toInt64) &&& 6148914691236517205)).toUInt64 >>> ((2 : Int32).toInt64.toUInt64 &&& Int64.toUInt64 63)).toInt64) &&& 3689348814741910323)).toUInt64 >>> ((4 : Int32).toInt64.toUInt64 &&& Int64.toUInt64 63)).toInt64)) &&& 1085102592571150095).toUInt64 >>> ((8 : Int32).toInt64.toUInt64 &&& Int64.toUInt64 63)).toInt64)) + ((((((((p0 - (((p0.toUInt64 >>> ((1 : Int32).toInt64.toUInt64 &&& Int64.toUInt64 63)).toInt64) &&& 6148914691236517205)) &&& 3689348814741910323) + ((((p0 - (((p0.toUInt64 >>> ((1 : Int32).toInt64.toUInt64 &&& Int64.toUInt64 63)).toInt64) &&& 6148914691236517205)).toUInt64 >>> ((2 : Int32).toInt64.toUInt64 &&& Int64.toUInt64 63)).toInt64) &&& 3689348814741910323)) + (((((p0 - (((p0.toUInt64 >>> ((1 : Int32).toInt64.toUInt64 &&& Int64.toUInt64 63)).toInt64) &&& 6148914691236517205)) &&& 3689348814741910323) + ((((p0 - (((p0.toUInt64 >>> ((1 : Int32).toInt64.toUInt64 &&& Int64.toUInt64 63)).toInt64) &&& 6148914691236517205)).toUInt64 >>> ((2 : Int32).toInt64.toUInt64 &&& Int64.toUInt64 63)).toInt64) &&& 3689348814741910323)).toUInt64 >>> ((4 : Int32).toInt64.toUInt64 &&& Int64.toUInt64 63)).toInt64)) &&& 1085102592571150095) + (((((((p0 - (((p0.toUInt64 >>> ((1 : Int32).toInt64.toUInt64 &&& Int64.toUInt64 63)).toInt64) &&& 6148914691236517205)) &&& 3689348814741910323) + ((((p0 - (((p0.toUInt64 >>> ((1 : Int32).toInt64.toUInt64 &&& Int64.toUInt64 63)).toInt64) &&& 6148914691236517205)).toUInt64 >>> ((2 : Int32).toInt64.toUInt64 &&& Int64.toUInt64 63)).toInt64) &&& 3689348814741910323)) + (((((p0 - (((p0.toUInt64 >>> ((1 : Int32).toInt64.toUInt64 &&& Int64.toUInt64 63)).toInt64) &&& 6148914691236517205)) &&& 3689348814741910323) + ((((p0 - (((p0.toUInt64 >>> ((1 : Int32).toInt64.toUInt64 &&& Int64.toUInt64 63)).toInt64) &&& 6148914691236517205)).toUInt64 >>> ((2 : Int32).toInt64.toUInt64 &&& Int64.toUInt64 63)).toInt64) &&& 3689348814741910323)).toUInt64 >>> ((4 : Int32).toInt64.toUInt64 &&& Int64.toUInt64 63)).toInt64)) &&& 1085102592571150095).toUInt64 >>> ((8 : Int32).toInt64.toUInt64 &&& Int64.toUInt64 63)).toInt64)).toUInt64 >>> ((16 : Int32).toInt64.toUInt64 &&& Int64.toUInt64 63)).toInt64)).toUInt64 >>> ((32 : Int32).toInt64.toUInt64 &&& Int64.toUInt64 63)).toInt64)).toInt32) &&& 127) H locs _ ls hf hP hD hS rfl d_Long_bitCount_60
abbrev bc_OB_abort : ByteArray := prog_1_method_12_code
abbrev y_OB_abort : MethodName := ⟨"ObjectBase", "abort", "()Z"⟩
def ws_OB_abort : List Cond := .code y_OB_abort bc_OB_abort 1 (some .boolean) :: obW
theorem d_OB_abort_0 : decode bc_OB_abort 0 = .ok (.aload_n 0, 1) := by decide +kernel
theorem d_OB_abort_1 : decode bc_OB_abort 1 = .ok (.getfield 28, 3) := by decide +kernel
theorem d_OB_abort_4 : decode bc_OB_abort 4 = .ok (.getfield 84, 3) := by decide +kernel
theorem d_OB_abort_7 : decode bc_OB_abort 7 = .ok (.ifCond .ne 13, 3) := by decide +kernel
theorem d_OB_abort_10 : decode bc_OB_abort 10 = .ok (.aload_n 0, 1) := by decide +kernel
theorem d_OB_abort_11 : decode bc_OB_abort 11 = .ok (.getfield 42, 3) := by decide +kernel
theorem d_OB_abort_14 : decode bc_OB_abort 14 = .ok (.getfield 110, 3) := by decide +kernel
theorem d_OB_abort_17 : decode bc_OB_abort 17 = .ok (.ifCond .ne 5, 3) := by decide +kernel
theorem d_OB_abort_20 : decode bc_OB_abort 20 = .ok (.iconst 0, 1) := by decide +kernel
theorem d_OB_abort_21 : decode bc_OB_abort 21 = .ok (.ireturn, 1) := by decide +kernel
theorem d_OB_abort_22 : decode bc_OB_abort 22 = .ok (.aload_n 0, 1) := by decide +kernel
theorem d_OB_abort_23 : decode bc_OB_abort 23 = .ok (.getfield 42, 3) := by decide +kernel
theorem d_OB_abort_26 : decode bc_OB_abort 26 = .ok (.iconst 0, 1) := by decide +kernel
theorem d_OB_abort_27 : decode bc_OB_abort 27 = .ok (.putfield 110, 3) := by decide +kernel
theorem d_OB_abort_30 : decode bc_OB_abort 30 = .ok (.iconst 1, 1) := by decide +kernel
theorem d_OB_abort_31 : decode bc_OB_abort 31 = .ok (.ireturn, 1) := by decide +kernel
def cw_OB_abort (G : Nat → ClassId) (a_t a_disk a_batch a_schema a_indexes a_kept a_draftText a_questions a_reader a_judge a_latest a_batch_image : Nat) (v_questionCount : Int32) (v_idsGiven : Int32) (v_everBegun : Int32) (v_disk_written : Int32) (v_disk_armed : Int32) (v_disk_half : Int32) (v_disk_logged : Int32) (v_disk_marked : Int32) (v_disk_down : Int32) (v_batch_known : Int64) (v_batch_touched : Int64) (v_batch_namesTouched : Int32) (v_batch_open : Int32) : va_W := [(a_t, .inr (0, [.ref a_schema, .ref a_indexes, .ref a_disk, .ref a_kept, .ref a_batch, .ref a_draftText, .ref a_questions, .ref a_reader, .ref a_judge, .ref a_latest, .int v_questionCount, .int v_idsGiven, .int v_everBegun])), (a_disk, .inr (3, [.int v_disk_written, .int v_disk_armed, .int v_disk_half, .int v_disk_logged, .int v_disk_marked, .int v_disk_down])), (a_batch, .inr (5, [.ref a_batch_image, .long v_batch_known, .long v_batch_touched, .int v_batch_namesTouched, .int v_batch_open]))]
def f_OB_abort (v_disk_down : Int32) (v_batch_open : Int32) : Option (Int32 × Int32) := if v_disk_down = 0 then (if v_batch_open = 0 then (some (0, v_batch_open)) else (some (1, 0))) else (some (0, v_batch_open))
set_option maxHeartbeats 4000000 in
set_option maxRecDepth 100000 in
theorem c_OB_abort (l : Launch) (D : va_G) (G : Nat → ClassId) (a_t a_disk a_batch a_schema a_indexes a_kept a_draftText a_questions a_reader a_judge a_latest a_batch_image : Nat) (v_questionCount : Int32) (v_idsGiven : Int32) (v_everBegun : Int32) (v_disk_written : Int32) (v_disk_armed : Int32) (v_disk_half : Int32) (v_disk_logged : Int32) (v_disk_marked : Int32) (v_disk_down : Int32) (v_batch_known : Int64) (v_batch_touched : Int64) (v_batch_namesTouched : Int32) (v_batch_open : Int32) (o : Int32 × Int32) (hf : f_OB_abort v_disk_down v_batch_open = some o) (sz : Nat) : MetI l y_OB_abort ws_OB_abort ({ frames := 0, cells := 0, slots := 0, locals := 0 }) D (obT G) (cw_OB_abort G a_t a_disk a_batch a_schema a_indexes a_kept a_draftText a_questions a_reader a_judge a_latest a_batch_image v_questionCount v_idsGiven v_everBegun v_disk_written v_disk_armed v_disk_half v_disk_logged v_disk_marked v_disk_down v_batch_known v_batch_touched v_batch_namesTouched v_batch_open) (cw_OB_abort G a_t a_disk a_batch a_schema a_indexes a_kept a_draftText a_questions a_reader a_judge a_latest a_batch_image v_questionCount v_idsGiven v_everBegun v_disk_written v_disk_armed v_disk_half v_disk_logged v_disk_marked v_disk_down v_batch_known v_batch_touched v_batch_namesTouched o.2) [.ref a_t] o.1 sz := by
  refine ob_of (cc := bc_OB_abort) (maxL := 1) (ret := (some .boolean)) (Qc := ObQi D (obT G) (cw_OB_abort G a_t a_disk a_batch a_schema a_indexes a_kept a_draftText a_questions a_reader a_judge a_latest a_batch_image v_questionCount v_idsGiven v_everBegun v_disk_written v_disk_armed v_disk_half v_disk_logged v_disk_marked v_disk_down v_batch_known v_batch_touched v_batch_namesTouched o.2) o.1) (by decide) rfl (Nat.le_of_ble_eq_true rfl) ?_
  intro p e s m below meth c A ls H locs hx hb hr hml hts hown hlk hnm hZ hP hK hD hA hS hl
  have hret : ∀ (o' : Int32 × Int32) (H : Heap) (locs : List Loc) (pc : Nat) (ls : Array Slot), some o' = some o → va_P D vwCl (cw_OB_abort G a_t a_disk a_batch a_schema a_indexes a_kept a_draftText a_questions a_reader a_judge a_latest a_batch_image v_questionCount v_idsGiven v_everBegun v_disk_written v_disk_armed v_disk_half v_disk_logged v_disk_marked v_disk_down v_batch_known v_batch_touched v_batch_namesTouched o'.2) H → va_D A (cw_OB_abort G a_t a_disk a_batch a_schema a_indexes a_kept a_draftText a_questions a_reader a_judge a_latest a_batch_image v_questionCount v_idsGiven v_everBegun v_disk_written v_disk_armed v_disk_half v_disk_logged v_disk_marked v_disk_down v_batch_known v_batch_touched v_batch_namesTouched o'.2) → va_S A s.heap H locs → narrow .boolean (.int o'.1) = .int o'.1 → decode bc_OB_abort pc = .ok (.ireturn, 1) → W p l e { frames := 0, cells := 0, slots := 0, locals := 0 } s m ([.ref a_t] : List Value).toArray below meth c H locs 0 0 (MQ below (ObQi D (obT G) (cw_OB_abort G a_t a_disk a_batch a_schema a_indexes a_kept a_draftText a_questions a_reader a_judge a_latest a_batch_image v_questionCount v_idsGiven v_everBegun v_disk_written v_disk_armed v_disk_half v_disk_logged v_disk_marked v_disk_down v_batch_known v_batch_touched v_batch_namesTouched o.2) o.1 A) ([.ref a_t] : List Value).toArray s 0 0 A) (F0 m pc ls [.int o'.1]) := by
    intro o' H locs pc ls he hP hD hS hn hd
    obtain rfl := Option.some.inj he
    exact ob_iret hx hb hr hlk hK hP hD hS hn hd
  generalize MQ below (ObQi D (obT G) (cw_OB_abort G a_t a_disk a_batch a_schema a_indexes a_kept a_draftText a_questions a_reader a_judge a_latest a_batch_image v_questionCount v_idsGiven v_everBegun v_disk_written v_disk_armed v_disk_half v_disk_logged v_disk_marked v_disk_down v_batch_known v_batch_touched v_batch_namesTouched o.2) o.1 A) ([.ref a_t] : List Value).toArray s 0 0 A = Q at hret ⊢
  have hl : lv_has ls 1 [(0, .ref a_t)] := hl
  unfold f_OB_abort at hf
  refine lv_aload_n hx hb d_OB_abort_0 rfl (lv_at hl 0 rfl) ?_
  refine va_get (D := D) (ci := 0) (v := .ref a_disk) (C := "ObjectBase") (T := TC_OB) (N := 13) hx hb hts inC_OB hown hK hP 0 rfl rfl 2 (by decide) (hts _ tw234) (fun _ h9 => h9) rfl d_OB_abort_1 ?_
  refine va_get (D := D) (ci := 3) (v := .int v_disk_down) (C := "ObjectBase$Disk") (T := TC_Disk) (N := 6) hx hb hts inC_Disk hown hK hP 1 rfl rfl 5 (by decide) (hts _ tw87) (fun _ h9 => h9) rfl d_OB_abort_4 ?_
  refine lv_if_ne (tgt := 20) hx hb d_OB_abort_7 (by decide) (fun hc7 => ?_) (fun hc7 => ?_)
  · have hf := ob_f hc7 hf
    refine lv_iconst (v := 0) hx hb d_OB_abort_20 (by decide) ?_
    exact hret (0, v_batch_open) H locs _ ls hf hP hD hS narrow_b0 d_OB_abort_21
  · have hf := ob_t hc7 hf
    refine lv_aload_n hx hb d_OB_abort_10 rfl (lv_at hl 0 rfl) ?_
    refine va_get (D := D) (ci := 0) (v := .ref a_batch) (C := "ObjectBase") (T := TC_OB) (N := 13) hx hb hts inC_OB hown hK hP 0 rfl rfl 4 (by decide) (hts _ tw236) (fun _ h9 => h9) rfl d_OB_abort_11 ?_
    refine va_get (D := D) (ci := 5) (v := .int v_batch_open) (C := "ObjectBase$Batch") (T := TC_Batch) (N := 5) hx hb hts inC_Batch hown hK hP 2 rfl rfl 4 (by decide) (hts _ tw138) (fun _ h9 => h9) rfl d_OB_abort_14 ?_
    refine lv_if_ne (tgt := 22) hx hb d_OB_abort_17 (by decide) (fun hc17 => ?_) (fun hc17 => ?_)
    · have hf := ob_f hc17 hf
      refine lv_aload_n hx hb d_OB_abort_22 rfl (lv_at hl 0 rfl) ?_
      refine va_get (D := D) (ci := 0) (v := .ref a_batch) (C := "ObjectBase") (T := TC_OB) (N := 13) hx hb hts inC_OB hown hK hP 0 rfl rfl 4 (by decide) (hts _ tw236) (fun _ h9 => h9) rfl d_OB_abort_23 ?_
      refine lv_iconst (v := 0) hx hb d_OB_abort_26 (by decide) ?_
      refine va_put (D := D) (ci := 5) (v := .int 0) (ty := .boolean) (C := "ObjectBase$Batch") (T := TC_Batch) (N := 5) hx hb hts inC_Batch tyC_Batch tyC_Batch_ok nmC_Batch hown hK hP hD hS 2 rfl rfl 4 (by decide) (hts _ tw138) (fun _ h9 => h9) rfl (by decide +kernel) rfl rfl (Nat.le_of_ble_eq_true rfl) d_OB_abort_27 (fun H locs hP hD hS => ?_)
      have hP : va_P D vwCl (cw_OB_abort G a_t a_disk a_batch a_schema a_indexes a_kept a_draftText a_questions a_reader a_judge a_latest a_batch_image v_questionCount v_idsGiven v_everBegun v_disk_written v_disk_armed v_disk_half v_disk_logged v_disk_marked v_disk_down v_batch_known v_batch_touched v_batch_namesTouched 0) H := hP
      have hD : va_D A (cw_OB_abort G a_t a_disk a_batch a_schema a_indexes a_kept a_draftText a_questions a_reader a_judge a_latest a_batch_image v_questionCount v_idsGiven v_everBegun v_disk_written v_disk_armed v_disk_half v_disk_logged v_disk_marked v_disk_down v_batch_known v_batch_touched v_batch_namesTouched 0) := hD
      refine lv_iconst (v := 1) hx hb d_OB_abort_30 (by decide) ?_
      exact hret (1, 0) H locs _ ls hf hP hD hS narrow_b1 d_OB_abort_31
    · have hf := ob_t hc17 hf
      refine lv_iconst (v := 0) hx hb d_OB_abort_20 (by decide) ?_
      exact hret (0, v_batch_open) H locs _ ls hf hP hD hS narrow_b0 d_OB_abort_21
abbrev bc_OB_arm : ByteArray := prog_1_method_14_code
abbrev y_OB_arm : MethodName := ⟨"ObjectBase", "arm", "(I)Z"⟩
def ws_OB_arm : List Cond := .code y_OB_arm bc_OB_arm 2 (some .boolean) :: obW
theorem d_OB_arm_0 : decode bc_OB_arm 0 = .ok (.aload_n 0, 1) := by decide +kernel
theorem d_OB_arm_1 : decode bc_OB_arm 1 = .ok (.getfield 28, 3) := by decide +kernel
theorem d_OB_arm_4 : decode bc_OB_arm 4 = .ok (.getfield 84, 3) := by decide +kernel
theorem d_OB_arm_7 : decode bc_OB_arm 7 = .ok (.ifCond .ne 14, 3) := by decide +kernel
theorem d_OB_arm_10 : decode bc_OB_arm 10 = .ok (.iload_n 1, 1) := by decide +kernel
theorem d_OB_arm_11 : decode bc_OB_arm 11 = .ok (.ifCond .lt 10, 3) := by decide +kernel
theorem d_OB_arm_14 : decode bc_OB_arm 14 = .ok (.iload_n 1, 1) := by decide +kernel
theorem d_OB_arm_15 : decode bc_OB_arm 15 = .ok (.sipush 1000, 3) := by decide +kernel
theorem d_OB_arm_18 : decode bc_OB_arm 18 = .ok (.if_icmp .le 5, 3) := by decide +kernel
theorem d_OB_arm_21 : decode bc_OB_arm 21 = .ok (.iconst 0, 1) := by decide +kernel
theorem d_OB_arm_22 : decode bc_OB_arm 22 = .ok (.ireturn, 1) := by decide +kernel
theorem d_OB_arm_23 : decode bc_OB_arm 23 = .ok (.aload_n 0, 1) := by decide +kernel
theorem d_OB_arm_24 : decode bc_OB_arm 24 = .ok (.getfield 28, 3) := by decide +kernel
theorem d_OB_arm_27 : decode bc_OB_arm 27 = .ok (.iload_n 1, 1) := by decide +kernel
theorem d_OB_arm_28 : decode bc_OB_arm 28 = .ok (.putfield 212, 3) := by decide +kernel
theorem d_OB_arm_31 : decode bc_OB_arm 31 = .ok (.iconst 1, 1) := by decide +kernel
theorem d_OB_arm_32 : decode bc_OB_arm 32 = .ok (.ireturn, 1) := by decide +kernel
def cw_OB_arm (G : Nat → ClassId) (a_t a_disk a_schema a_indexes a_kept a_batch a_draftText a_questions a_reader a_judge a_latest : Nat) (v_questionCount : Int32) (v_idsGiven : Int32) (v_everBegun : Int32) (v_disk_written : Int32) (v_disk_armed : Int32) (v_disk_half : Int32) (v_disk_logged : Int32) (v_disk_marked : Int32) (v_disk_down : Int32) : va_W := [(a_t, .inr (0, [.ref a_schema, .ref a_indexes, .ref a_disk, .ref a_kept, .ref a_batch, .ref a_draftText, .ref a_questions, .ref a_reader, .ref a_judge, .ref a_latest, .int v_questionCount, .int v_idsGiven, .int v_everBegun])), (a_disk, .inr (3, [.int v_disk_written, .int v_disk_armed, .int v_disk_half, .int v_disk_logged, .int v_disk_marked, .int v_disk_down]))]
def f_OB_arm (v_disk_armed : Int32) (v_disk_down : Int32) (p1 : Int32) : Option (Int32 × Int32) := if v_disk_down = 0 then (if p1 < 0 then (some (0, v_disk_armed)) else (if p1 ≤ 1000 then (some (1, p1)) else (some (0, v_disk_armed)))) else (some (0, v_disk_armed))
set_option maxHeartbeats 4000000 in
set_option maxRecDepth 100000 in
theorem c_OB_arm (l : Launch) (D : va_G) (G : Nat → ClassId) (a_t a_disk a_schema a_indexes a_kept a_batch a_draftText a_questions a_reader a_judge a_latest : Nat) (v_questionCount : Int32) (v_idsGiven : Int32) (v_everBegun : Int32) (v_disk_written : Int32) (v_disk_armed : Int32) (v_disk_half : Int32) (v_disk_logged : Int32) (v_disk_marked : Int32) (v_disk_down : Int32) (p1 : Int32) (o : Int32 × Int32) (hf : f_OB_arm v_disk_armed v_disk_down p1 = some o) (sz : Nat) : MetI l y_OB_arm ws_OB_arm ({ frames := 0, cells := 0, slots := 0, locals := 0 }) D (obT G) (cw_OB_arm G a_t a_disk a_schema a_indexes a_kept a_batch a_draftText a_questions a_reader a_judge a_latest v_questionCount v_idsGiven v_everBegun v_disk_written v_disk_armed v_disk_half v_disk_logged v_disk_marked v_disk_down) (cw_OB_arm G a_t a_disk a_schema a_indexes a_kept a_batch a_draftText a_questions a_reader a_judge a_latest v_questionCount v_idsGiven v_everBegun v_disk_written o.2 v_disk_half v_disk_logged v_disk_marked v_disk_down) [.ref a_t, .int p1] o.1 sz := by
  refine ob_of (cc := bc_OB_arm) (maxL := 2) (ret := (some .boolean)) (Qc := ObQi D (obT G) (cw_OB_arm G a_t a_disk a_schema a_indexes a_kept a_batch a_draftText a_questions a_reader a_judge a_latest v_questionCount v_idsGiven v_everBegun v_disk_written o.2 v_disk_half v_disk_logged v_disk_marked v_disk_down) o.1) (by decide) rfl (Nat.le_of_ble_eq_true rfl) ?_
  intro p e s m below meth c A ls H locs hx hb hr hml hts hown hlk hnm hZ hP hK hD hA hS hl
  have hret : ∀ (o' : Int32 × Int32) (H : Heap) (locs : List Loc) (pc : Nat) (ls : Array Slot), some o' = some o → va_P D vwCl (cw_OB_arm G a_t a_disk a_schema a_indexes a_kept a_batch a_draftText a_questions a_reader a_judge a_latest v_questionCount v_idsGiven v_everBegun v_disk_written o'.2 v_disk_half v_disk_logged v_disk_marked v_disk_down) H → va_D A (cw_OB_arm G a_t a_disk a_schema a_indexes a_kept a_batch a_draftText a_questions a_reader a_judge a_latest v_questionCount v_idsGiven v_everBegun v_disk_written o'.2 v_disk_half v_disk_logged v_disk_marked v_disk_down) → va_S A s.heap H locs → narrow .boolean (.int o'.1) = .int o'.1 → decode bc_OB_arm pc = .ok (.ireturn, 1) → W p l e { frames := 0, cells := 0, slots := 0, locals := 0 } s m ([.ref a_t, .int p1] : List Value).toArray below meth c H locs 0 0 (MQ below (ObQi D (obT G) (cw_OB_arm G a_t a_disk a_schema a_indexes a_kept a_batch a_draftText a_questions a_reader a_judge a_latest v_questionCount v_idsGiven v_everBegun v_disk_written o.2 v_disk_half v_disk_logged v_disk_marked v_disk_down) o.1 A) ([.ref a_t, .int p1] : List Value).toArray s 0 0 A) (F0 m pc ls [.int o'.1]) := by
    intro o' H locs pc ls he hP hD hS hn hd
    obtain rfl := Option.some.inj he
    exact ob_iret hx hb hr hlk hK hP hD hS hn hd
  generalize MQ below (ObQi D (obT G) (cw_OB_arm G a_t a_disk a_schema a_indexes a_kept a_batch a_draftText a_questions a_reader a_judge a_latest v_questionCount v_idsGiven v_everBegun v_disk_written o.2 v_disk_half v_disk_logged v_disk_marked v_disk_down) o.1 A) ([.ref a_t, .int p1] : List Value).toArray s 0 0 A = Q at hret ⊢
  have hl : lv_has ls 2 [(0, .ref a_t), (1, .int p1)] := hl
  unfold f_OB_arm at hf
  refine lv_aload_n hx hb d_OB_arm_0 rfl (lv_at hl 0 rfl) ?_
  refine va_get (D := D) (ci := 0) (v := .ref a_disk) (C := "ObjectBase") (T := TC_OB) (N := 13) hx hb hts inC_OB hown hK hP 0 rfl rfl 2 (by decide) (hts _ tw234) (fun _ h9 => h9) rfl d_OB_arm_1 ?_
  refine va_get (D := D) (ci := 3) (v := .int v_disk_down) (C := "ObjectBase$Disk") (T := TC_Disk) (N := 6) hx hb hts inC_Disk hown hK hP 1 rfl rfl 5 (by decide) (hts _ tw87) (fun _ h9 => h9) rfl d_OB_arm_4 ?_
  refine lv_if_ne (tgt := 21) hx hb d_OB_arm_7 (by decide) (fun hc7 => ?_) (fun hc7 => ?_)
  · have hf := ob_f hc7 hf
    refine lv_iconst (v := 0) hx hb d_OB_arm_21 (by decide) ?_
    exact hret (0, v_disk_armed) H locs _ ls hf hP hD hS narrow_b0 d_OB_arm_22
  · have hf := ob_t hc7 hf
    refine lv_iload_n hx hb d_OB_arm_10 rfl (lv_at hl 1 rfl) ?_
    refine lv_if_lt (tgt := 21) hx hb d_OB_arm_11 (by decide) (fun hc11 => ?_) (fun hc11 => ?_)
    · have hf := ob_t hc11 hf
      refine lv_iconst (v := 0) hx hb d_OB_arm_21 (by decide) ?_
      exact hret (0, v_disk_armed) H locs _ ls hf hP hD hS narrow_b0 d_OB_arm_22
    · have hf := ob_f hc11 hf
      refine lv_iload_n hx hb d_OB_arm_14 rfl (lv_at hl 1 rfl) ?_
      refine lv_sipush (v := 1000) hx hb d_OB_arm_15 (by decide) ?_
      refine lv_icmp_le (tgt := 23) hx hb d_OB_arm_18 (by decide) (fun hc18 => ?_) (fun hc18 => ?_)
      · have hf := ob_t hc18 hf
        refine lv_aload_n hx hb d_OB_arm_23 rfl (lv_at hl 0 rfl) ?_
        refine va_get (D := D) (ci := 0) (v := .ref a_disk) (C := "ObjectBase") (T := TC_OB) (N := 13) hx hb hts inC_OB hown hK hP 0 rfl rfl 2 (by decide) (hts _ tw234) (fun _ h9 => h9) rfl d_OB_arm_24 ?_
        refine lv_iload_n hx hb d_OB_arm_27 rfl (lv_at hl 1 rfl) ?_
        refine va_put (D := D) (ci := 3) (v := .int p1) (ty := .int) (C := "ObjectBase$Disk") (T := TC_Disk) (N := 6) hx hb hts inC_Disk tyC_Disk tyC_Disk_ok nmC_Disk hown hK hP hD hS 1 rfl rfl 1 (by decide) (hts _ tw83) (fun _ h9 => h9) rfl (by decide +kernel) rfl rfl (Nat.le_of_ble_eq_true rfl) d_OB_arm_28 (fun H locs hP hD hS => ?_)
        have hP : va_P D vwCl (cw_OB_arm G a_t a_disk a_schema a_indexes a_kept a_batch a_draftText a_questions a_reader a_judge a_latest v_questionCount v_idsGiven v_everBegun v_disk_written p1 v_disk_half v_disk_logged v_disk_marked v_disk_down) H := hP
        have hD : va_D A (cw_OB_arm G a_t a_disk a_schema a_indexes a_kept a_batch a_draftText a_questions a_reader a_judge a_latest v_questionCount v_idsGiven v_everBegun v_disk_written p1 v_disk_half v_disk_logged v_disk_marked v_disk_down) := hD
        refine lv_iconst (v := 1) hx hb d_OB_arm_31 (by decide) ?_
        exact hret (1, p1) H locs _ ls hf hP hD hS narrow_b1 d_OB_arm_32
      · have hf := ob_f hc18 hf
        refine lv_iconst (v := 0) hx hb d_OB_arm_21 (by decide) ?_
        exact hret (0, v_disk_armed) H locs _ ls hf hP hD hS narrow_b0 d_OB_arm_22
abbrev bc_OB_ask : ByteArray := prog_1_method_24_code
abbrev y_OB_ask : MethodName := ⟨"ObjectBase", "ask", "(I)I"⟩
def ws_OB_ask : List Cond := .code y_OB_ask bc_OB_ask 2 (some .int) :: obW
theorem d_OB_ask_0 : decode bc_OB_ask 0 = .ok (.aload_n 0, 1) := by decide +kernel
theorem d_OB_ask_1 : decode bc_OB_ask 1 = .ok (.getfield 28, 3) := by decide +kernel
theorem d_OB_ask_4 : decode bc_OB_ask 4 = .ok (.getfield 84, 3) := by decide +kernel
theorem d_OB_ask_7 : decode bc_OB_ask 7 = .ok (.ifCond .eq 6, 3) := by decide +kernel
theorem d_OB_ask_10 : decode bc_OB_ask 10 = .ok (.bipush (-4), 2) := by decide +kernel
theorem d_OB_ask_12 : decode bc_OB_ask 12 = .ok (.ireturn, 1) := by decide +kernel
theorem d_OB_ask_13 : decode bc_OB_ask 13 = .ok (.aload_n 0, 1) := by decide +kernel
theorem d_OB_ask_14 : decode bc_OB_ask 14 = .ok (.getfield 42, 3) := by decide +kernel
theorem d_OB_ask_17 : decode bc_OB_ask 17 = .ok (.getfield 110, 3) := by decide +kernel
theorem d_OB_ask_20 : decode bc_OB_ask 20 = .ok (.ifCond .ne 15, 3) := by decide +kernel
theorem d_OB_ask_23 : decode bc_OB_ask 23 = .ok (.iload_n 1, 1) := by decide +kernel
theorem d_OB_ask_24 : decode bc_OB_ask 24 = .ok (.ifCond .lt 11, 3) := by decide +kernel
theorem d_OB_ask_27 : decode bc_OB_ask 27 = .ok (.iload_n 1, 1) := by decide +kernel
theorem d_OB_ask_28 : decode bc_OB_ask 28 = .ok (.aload_n 0, 1) := by decide +kernel
theorem d_OB_ask_29 : decode bc_OB_ask 29 = .ok (.getfield 259, 3) := by decide +kernel
theorem d_OB_ask_32 : decode bc_OB_ask 32 = .ok (.if_icmp .lt 5, 3) := by decide +kernel
theorem d_OB_ask_35 : decode bc_OB_ask 35 = .ok (.iconst (-1), 1) := by decide +kernel
theorem d_OB_ask_36 : decode bc_OB_ask 36 = .ok (.ireturn, 1) := by decide +kernel
theorem d_OB_ask_37 : decode bc_OB_ask 37 = .ok (.aload_n 0, 1) := by decide +kernel
theorem d_OB_ask_38 : decode bc_OB_ask 38 = .ok (.aload_n 0, 1) := by decide +kernel
theorem d_OB_ask_39 : decode bc_OB_ask 39 = .ok (.getfield 55, 3) := by decide +kernel
theorem d_OB_ask_42 : decode bc_OB_ask 42 = .ok (.iload_n 1, 1) := by decide +kernel
theorem d_OB_ask_43 : decode bc_OB_ask 43 = .ok (.aaload, 1) := by decide +kernel
theorem d_OB_ask_44 : decode bc_OB_ask 44 = .ok (.invokevirtual 262, 3) := by decide +kernel
theorem d_OB_ask_47 : decode bc_OB_ask 47 = .ok (.aload_n 0, 1) := by decide +kernel
theorem d_OB_ask_48 : decode bc_OB_ask 48 = .ok (.getfield 80, 3) := by decide +kernel
theorem d_OB_ask_51 : decode bc_OB_ask 51 = .ok (.invokevirtual 266, 3) := by decide +kernel
theorem d_OB_ask_54 : decode bc_OB_ask 54 = .ok (.ireturn, 1) := by decide +kernel
def cw_OB_ask0 (G : Nat → ClassId) (a_t a_disk a_batch a_questions a_schema a_indexes a_kept a_draftText a_reader a_judge a_latest a_batch_image : Nat) (v_questionCount : Int32) (v_idsGiven : Int32) (v_everBegun : Int32) (v_disk_written : Int32) (v_disk_armed : Int32) (v_disk_half : Int32) (v_disk_logged : Int32) (v_disk_marked : Int32) (v_disk_down : Int32) (v_batch_known : Int64) (v_batch_touched : Int64) (v_batch_namesTouched : Int32) (v_batch_open : Int32) (v_questions : Nat → Option Nat) : va_W := [(a_t, .inr (0, [.ref a_schema, .ref a_indexes, .ref a_disk, .ref a_kept, .ref a_batch, .ref a_draftText, .ref a_questions, .ref a_reader, .ref a_judge, .ref a_latest, .int v_questionCount, .int v_idsGiven, .int v_everBegun])), (a_disk, .inr (3, [.int v_disk_written, .int v_disk_armed, .int v_disk_half, .int v_disk_logged, .int v_disk_marked, .int v_disk_down])), (a_batch, .inr (5, [.ref a_batch_image, .long v_batch_known, .long v_batch_touched, .int v_batch_namesTouched, .int v_batch_open])), (a_questions, .inl (G 4, 13, .inr (.inr (.inr (.inr v_questions)))))]
def f_OB_ask0 (v_questionCount : Int32) (v_disk_down : Int32) (v_batch_open : Int32) (p1 : Int32) : Option (Int32) := if v_disk_down = 0 then (if v_batch_open = 0 then (if p1 < 0 then (some (-1)) else (if p1 < v_questionCount then (none) else (some (-1)))) else (some (-1))) else (some (-4))
set_option maxHeartbeats 4000000 in
set_option maxRecDepth 100000 in
theorem c_OB_ask0 (l : Launch) (D : va_G) (G : Nat → ClassId) (a_t a_disk a_batch a_questions a_schema a_indexes a_kept a_draftText a_reader a_judge a_latest a_batch_image : Nat) (v_questionCount : Int32) (v_idsGiven : Int32) (v_everBegun : Int32) (v_disk_written : Int32) (v_disk_armed : Int32) (v_disk_half : Int32) (v_disk_logged : Int32) (v_disk_marked : Int32) (v_disk_down : Int32) (v_batch_known : Int64) (v_batch_touched : Int64) (v_batch_namesTouched : Int32) (v_batch_open : Int32) (v_questions : Nat → Option Nat) (p1 : Int32) (o : Int32) (hf : f_OB_ask0 v_questionCount v_disk_down v_batch_open p1 = some o) (sz : Nat) : MetI l y_OB_ask ws_OB_ask ({ frames := 0, cells := 0, slots := 0, locals := 0 }) D (obT G) (cw_OB_ask0 G a_t a_disk a_batch a_questions a_schema a_indexes a_kept a_draftText a_reader a_judge a_latest a_batch_image v_questionCount v_idsGiven v_everBegun v_disk_written v_disk_armed v_disk_half v_disk_logged v_disk_marked v_disk_down v_batch_known v_batch_touched v_batch_namesTouched v_batch_open v_questions) (cw_OB_ask0 G a_t a_disk a_batch a_questions a_schema a_indexes a_kept a_draftText a_reader a_judge a_latest a_batch_image v_questionCount v_idsGiven v_everBegun v_disk_written v_disk_armed v_disk_half v_disk_logged v_disk_marked v_disk_down v_batch_known v_batch_touched v_batch_namesTouched v_batch_open v_questions) [.ref a_t, .int p1] o sz := by
  refine ob_of (cc := bc_OB_ask) (maxL := 2) (ret := (some .int)) (Qc := ObQi D (obT G) (cw_OB_ask0 G a_t a_disk a_batch a_questions a_schema a_indexes a_kept a_draftText a_reader a_judge a_latest a_batch_image v_questionCount v_idsGiven v_everBegun v_disk_written v_disk_armed v_disk_half v_disk_logged v_disk_marked v_disk_down v_batch_known v_batch_touched v_batch_namesTouched v_batch_open v_questions) o) (by decide) rfl (Nat.le_of_ble_eq_true rfl) ?_
  intro p e s m below meth c A ls H locs hx hb hr hml hts hown hlk hnm hZ hP hK hD hA hS hl
  have hret : ∀ (o' : Int32) (H : Heap) (locs : List Loc) (pc : Nat) (ls : Array Slot), some o' = some o → va_P D vwCl (cw_OB_ask0 G a_t a_disk a_batch a_questions a_schema a_indexes a_kept a_draftText a_reader a_judge a_latest a_batch_image v_questionCount v_idsGiven v_everBegun v_disk_written v_disk_armed v_disk_half v_disk_logged v_disk_marked v_disk_down v_batch_known v_batch_touched v_batch_namesTouched v_batch_open v_questions) H → va_D A (cw_OB_ask0 G a_t a_disk a_batch a_questions a_schema a_indexes a_kept a_draftText a_reader a_judge a_latest a_batch_image v_questionCount v_idsGiven v_everBegun v_disk_written v_disk_armed v_disk_half v_disk_logged v_disk_marked v_disk_down v_batch_known v_batch_touched v_batch_namesTouched v_batch_open v_questions) → va_S A s.heap H locs → narrow .int (.int o') = .int o' → decode bc_OB_ask pc = .ok (.ireturn, 1) → W p l e { frames := 0, cells := 0, slots := 0, locals := 0 } s m ([.ref a_t, .int p1] : List Value).toArray below meth c H locs 0 0 (MQ below (ObQi D (obT G) (cw_OB_ask0 G a_t a_disk a_batch a_questions a_schema a_indexes a_kept a_draftText a_reader a_judge a_latest a_batch_image v_questionCount v_idsGiven v_everBegun v_disk_written v_disk_armed v_disk_half v_disk_logged v_disk_marked v_disk_down v_batch_known v_batch_touched v_batch_namesTouched v_batch_open v_questions) o A) ([.ref a_t, .int p1] : List Value).toArray s 0 0 A) (F0 m pc ls [.int o']) := by
    intro o' H locs pc ls he hP hD hS hn hd
    obtain rfl := Option.some.inj he
    exact ob_iret hx hb hr hlk hK hP hD hS hn hd
  generalize MQ below (ObQi D (obT G) (cw_OB_ask0 G a_t a_disk a_batch a_questions a_schema a_indexes a_kept a_draftText a_reader a_judge a_latest a_batch_image v_questionCount v_idsGiven v_everBegun v_disk_written v_disk_armed v_disk_half v_disk_logged v_disk_marked v_disk_down v_batch_known v_batch_touched v_batch_namesTouched v_batch_open v_questions) o A) ([.ref a_t, .int p1] : List Value).toArray s 0 0 A = Q at hret ⊢
  have hl : lv_has ls 2 [(0, .ref a_t), (1, .int p1)] := hl
  unfold f_OB_ask0 at hf
  refine lv_aload_n hx hb d_OB_ask_0 rfl (lv_at hl 0 rfl) ?_
  refine va_get (D := D) (ci := 0) (v := .ref a_disk) (C := "ObjectBase") (T := TC_OB) (N := 13) hx hb hts inC_OB hown hK hP 0 rfl rfl 2 (by decide) (hts _ tw234) (fun _ h9 => h9) rfl d_OB_ask_1 ?_
  refine va_get (D := D) (ci := 3) (v := .int v_disk_down) (C := "ObjectBase$Disk") (T := TC_Disk) (N := 6) hx hb hts inC_Disk hown hK hP 1 rfl rfl 5 (by decide) (hts _ tw87) (fun _ h9 => h9) rfl d_OB_ask_4 ?_
  refine lv_if_eq (tgt := 13) hx hb d_OB_ask_7 (by decide) (fun hc7 => ?_) (fun hc7 => ?_)
  · have hf := ob_t hc7 hf
    refine lv_aload_n hx hb d_OB_ask_13 rfl (lv_at hl 0 rfl) ?_
    refine va_get (D := D) (ci := 0) (v := .ref a_batch) (C := "ObjectBase") (T := TC_OB) (N := 13) hx hb hts inC_OB hown hK hP 0 rfl rfl 4 (by decide) (hts _ tw236) (fun _ h9 => h9) rfl d_OB_ask_14 ?_
    refine va_get (D := D) (ci := 5) (v := .int v_batch_open) (C := "ObjectBase$Batch") (T := TC_Batch) (N := 5) hx hb hts inC_Batch hown hK hP 2 rfl rfl 4 (by decide) (hts _ tw138) (fun _ h9 => h9) rfl d_OB_ask_17 ?_
    refine lv_if_ne (tgt := 35) hx hb d_OB_ask_20 (by decide) (fun hc20 => ?_) (fun hc20 => ?_)
    · have hf := ob_f hc20 hf
      refine lv_iconst (v := (-1)) hx hb d_OB_ask_35 (by decide) ?_
      exact hret (-1) H locs _ ls hf hP hD hS rfl d_OB_ask_36
    · have hf := ob_t hc20 hf
      refine lv_iload_n hx hb d_OB_ask_23 rfl (lv_at hl 1 rfl) ?_
      refine lv_if_lt (tgt := 35) hx hb d_OB_ask_24 (by decide) (fun hc24 => ?_) (fun hc24 => ?_)
      · have hf := ob_t hc24 hf
        refine lv_iconst (v := (-1)) hx hb d_OB_ask_35 (by decide) ?_
        exact hret (-1) H locs _ ls hf hP hD hS rfl d_OB_ask_36
      · have hf := ob_f hc24 hf
        refine lv_iload_n hx hb d_OB_ask_27 rfl (lv_at hl 1 rfl) ?_
        refine lv_aload_n hx hb d_OB_ask_28 rfl (lv_at hl 0 rfl) ?_
        refine va_get (D := D) (ci := 0) (v := .int v_questionCount) (C := "ObjectBase") (T := TC_OB) (N := 13) hx hb hts inC_OB hown hK hP 0 rfl rfl 10 (by decide) (hts _ tw242) (fun _ h9 => h9) rfl d_OB_ask_29 ?_
        refine lv_icmp_lt (tgt := 37) hx hb d_OB_ask_32 (by decide) (fun hc32 => ?_) (fun hc32 => ?_)
        · have hf := ob_t hc32 hf
          refine lv_aload_n hx hb d_OB_ask_37 rfl (lv_at hl 0 rfl) ?_
          refine lv_aload_n hx hb d_OB_ask_38 rfl (lv_at hl 0 rfl) ?_
          refine va_get (D := D) (ci := 0) (v := .ref a_questions) (C := "ObjectBase") (T := TC_OB) (N := 13) hx hb hts inC_OB hown hK hP 0 rfl rfl 6 (by decide) (hts _ tw238) (fun _ h9 => h9) rfl d_OB_ask_39 ?_
          refine lv_iload_n hx hb d_OB_ask_42 rfl (lv_at hl 1 rfl) ?_
          exact ob_no hf
        · have hf := ob_f hc32 hf
          refine lv_iconst (v := (-1)) hx hb d_OB_ask_35 (by decide) ?_
          exact hret (-1) H locs _ ls hf hP hD hS rfl d_OB_ask_36
  · have hf := ob_f hc7 hf
    refine lv_bipush (v := (-4)) hx hb d_OB_ask_10 (by decide) ?_
    exact hret (-4) H locs _ ls hf hP hD hS rfl d_OB_ask_12
abbrev bc_OB_sum : ByteArray := prog_1_method_25_code
abbrev y_OB_sum : MethodName := ⟨"ObjectBase", "sum", "()J"⟩
def ws_OB_sum : List Cond := .code y_OB_sum bc_OB_sum 1 (some .long) :: obW
theorem d_OB_sum_0 : decode bc_OB_sum 0 = .ok (.aload_n 0, 1) := by decide +kernel
theorem d_OB_sum_1 : decode bc_OB_sum 1 = .ok (.getfield 28, 3) := by decide +kernel
theorem d_OB_sum_4 : decode bc_OB_sum 4 = .ok (.getfield 84, 3) := by decide +kernel
theorem d_OB_sum_7 : decode bc_OB_sum 7 = .ok (.ifCond .eq 7, 3) := by decide +kernel
theorem d_OB_sum_10 : decode bc_OB_sum 10 = .ok (.lconst 0, 1) := by decide +kernel
theorem d_OB_sum_11 : decode bc_OB_sum 11 = .ok (.goto 10, 3) := by decide +kernel
theorem d_OB_sum_14 : decode bc_OB_sum 14 = .ok (.aload_n 0, 1) := by decide +kernel
theorem d_OB_sum_15 : decode bc_OB_sum 15 = .ok (.getfield 80, 3) := by decide +kernel
theorem d_OB_sum_18 : decode bc_OB_sum 18 = .ok (.getfield 268, 3) := by decide +kernel
theorem d_OB_sum_21 : decode bc_OB_sum 21 = .ok (.lreturn, 1) := by decide +kernel
def cw_OB_sum (G : Nat → ClassId) (a_t a_disk a_latest a_schema a_indexes a_kept a_batch a_draftText a_questions a_reader a_judge : Nat) (v_questionCount : Int32) (v_idsGiven : Int32) (v_everBegun : Int32) (v_disk_written : Int32) (v_disk_armed : Int32) (v_disk_half : Int32) (v_disk_logged : Int32) (v_disk_marked : Int32) (v_disk_down : Int32) (v_latest_mode : Int32) (v_latest_fitting : Int64) (v_latest_total : Int64) (v_latest_looked : Int32) : va_W := [(a_t, .inr (0, [.ref a_schema, .ref a_indexes, .ref a_disk, .ref a_kept, .ref a_batch, .ref a_draftText, .ref a_questions, .ref a_reader, .ref a_judge, .ref a_latest, .int v_questionCount, .int v_idsGiven, .int v_everBegun])), (a_disk, .inr (3, [.int v_disk_written, .int v_disk_armed, .int v_disk_half, .int v_disk_logged, .int v_disk_marked, .int v_disk_down])), (a_latest, .inr (10, [.int v_latest_mode, .long v_latest_fitting, .long v_latest_total, .int v_latest_looked]))]
def f_OB_sum (v_disk_down : Int32) (v_latest_total : Int64) : Option (Int64) := if v_disk_down = 0 then (some v_latest_total) else (some 0)
set_option maxHeartbeats 4000000 in
set_option maxRecDepth 100000 in
theorem c_OB_sum (l : Launch) (D : va_G) (G : Nat → ClassId) (a_t a_disk a_latest a_schema a_indexes a_kept a_batch a_draftText a_questions a_reader a_judge : Nat) (v_questionCount : Int32) (v_idsGiven : Int32) (v_everBegun : Int32) (v_disk_written : Int32) (v_disk_armed : Int32) (v_disk_half : Int32) (v_disk_logged : Int32) (v_disk_marked : Int32) (v_disk_down : Int32) (v_latest_mode : Int32) (v_latest_fitting : Int64) (v_latest_total : Int64) (v_latest_looked : Int32) (o : Int64) (hf : f_OB_sum v_disk_down v_latest_total = some o) (sz : Nat) : MetL l y_OB_sum ws_OB_sum ({ frames := 0, cells := 0, slots := 0, locals := 0 }) D (obT G) (cw_OB_sum G a_t a_disk a_latest a_schema a_indexes a_kept a_batch a_draftText a_questions a_reader a_judge v_questionCount v_idsGiven v_everBegun v_disk_written v_disk_armed v_disk_half v_disk_logged v_disk_marked v_disk_down v_latest_mode v_latest_fitting v_latest_total v_latest_looked) (cw_OB_sum G a_t a_disk a_latest a_schema a_indexes a_kept a_batch a_draftText a_questions a_reader a_judge v_questionCount v_idsGiven v_everBegun v_disk_written v_disk_armed v_disk_half v_disk_logged v_disk_marked v_disk_down v_latest_mode v_latest_fitting v_latest_total v_latest_looked) [.ref a_t] o sz := by
  refine ob_of (cc := bc_OB_sum) (maxL := 1) (ret := (some .long)) (Qc := ObQl D (obT G) (cw_OB_sum G a_t a_disk a_latest a_schema a_indexes a_kept a_batch a_draftText a_questions a_reader a_judge v_questionCount v_idsGiven v_everBegun v_disk_written v_disk_armed v_disk_half v_disk_logged v_disk_marked v_disk_down v_latest_mode v_latest_fitting v_latest_total v_latest_looked) o) (by decide) rfl (Nat.le_of_ble_eq_true rfl) ?_
  intro p e s m below meth c A ls H locs hx hb hr hml hts hown hlk hnm hZ hP hK hD hA hS hl
  have hret : ∀ (o' : Int64) (H : Heap) (locs : List Loc) (pc : Nat) (ls : Array Slot), some o' = some o → va_P D vwCl (cw_OB_sum G a_t a_disk a_latest a_schema a_indexes a_kept a_batch a_draftText a_questions a_reader a_judge v_questionCount v_idsGiven v_everBegun v_disk_written v_disk_armed v_disk_half v_disk_logged v_disk_marked v_disk_down v_latest_mode v_latest_fitting v_latest_total v_latest_looked) H → va_D A (cw_OB_sum G a_t a_disk a_latest a_schema a_indexes a_kept a_batch a_draftText a_questions a_reader a_judge v_questionCount v_idsGiven v_everBegun v_disk_written v_disk_armed v_disk_half v_disk_logged v_disk_marked v_disk_down v_latest_mode v_latest_fitting v_latest_total v_latest_looked) → va_S A s.heap H locs → decode bc_OB_sum pc = .ok (.lreturn, 1) → W p l e { frames := 0, cells := 0, slots := 0, locals := 0 } s m ([.ref a_t] : List Value).toArray below meth c H locs 0 0 (MQ below (ObQl D (obT G) (cw_OB_sum G a_t a_disk a_latest a_schema a_indexes a_kept a_batch a_draftText a_questions a_reader a_judge v_questionCount v_idsGiven v_everBegun v_disk_written v_disk_armed v_disk_half v_disk_logged v_disk_marked v_disk_down v_latest_mode v_latest_fitting v_latest_total v_latest_looked) o A) ([.ref a_t] : List Value).toArray s 0 0 A) (F0 m pc ls [.long o']) := by
    intro o' H locs pc ls he hP hD hS hd
    obtain rfl := Option.some.inj he
    exact ob_lret hx hb hr hlk hK hP hD hS hd
  generalize MQ below (ObQl D (obT G) (cw_OB_sum G a_t a_disk a_latest a_schema a_indexes a_kept a_batch a_draftText a_questions a_reader a_judge v_questionCount v_idsGiven v_everBegun v_disk_written v_disk_armed v_disk_half v_disk_logged v_disk_marked v_disk_down v_latest_mode v_latest_fitting v_latest_total v_latest_looked) o A) ([.ref a_t] : List Value).toArray s 0 0 A = Q at hret ⊢
  have hl : lv_has ls 1 [(0, .ref a_t)] := hl
  unfold f_OB_sum at hf
  refine lv_aload_n hx hb d_OB_sum_0 rfl (lv_at hl 0 rfl) ?_
  refine va_get (D := D) (ci := 0) (v := .ref a_disk) (C := "ObjectBase") (T := TC_OB) (N := 13) hx hb hts inC_OB hown hK hP 0 rfl rfl 2 (by decide) (hts _ tw234) (fun _ h9 => h9) rfl d_OB_sum_1 ?_
  refine va_get (D := D) (ci := 3) (v := .int v_disk_down) (C := "ObjectBase$Disk") (T := TC_Disk) (N := 6) hx hb hts inC_Disk hown hK hP 1 rfl rfl 5 (by decide) (hts _ tw87) (fun _ h9 => h9) rfl d_OB_sum_4 ?_
  refine lv_if_eq (tgt := 14) hx hb d_OB_sum_7 (by decide) (fun hc7 => ?_) (fun hc7 => ?_)
  · have hf := ob_t hc7 hf
    refine lv_aload_n hx hb d_OB_sum_14 rfl (lv_at hl 0 rfl) ?_
    refine va_get (D := D) (ci := 0) (v := .ref a_latest) (C := "ObjectBase") (T := TC_OB) (N := 13) hx hb hts inC_OB hown hK hP 0 rfl rfl 9 (by decide) (hts _ tw241) (fun _ h9 => h9) rfl d_OB_sum_15 ?_
    refine va_get (D := D) (ci := 10) (v := .long v_latest_total) (C := "ObjectBase$Answer") (T := TC_Answer) (N := 4) hx hb hts inC_Answer hown hK hP 2 rfl rfl 2 (by decide) (hts _ tw220) (fun _ h9 => h9) rfl d_OB_sum_18 ?_
    exact hret v_latest_total H locs _ ls hf hP hD hS d_OB_sum_21
  · have hf := ob_f hc7 hf
    refine lv_lconst (v := 0) hx hb d_OB_sum_10 (by decide) ?_
    refine lv_goto (tgt := 21) hx hb d_OB_sum_11 (by decide) ?_
    exact hret 0 H locs _ ls hf hP hD hS d_OB_sum_21
abbrev bc_OB_setOf : ByteArray := prog_1_method_28_code
abbrev y_OB_setOf : MethodName := ⟨"ObjectBase", "setOf", "(I)J"⟩
def ws_OB_setOf : List Cond := .code y_OB_setOf bc_OB_setOf 1 (some .long) :: obW
theorem d_OB_setOf_0 : decode bc_OB_setOf 0 = .ok (.iload_n 0, 1) := by decide +kernel
theorem d_OB_setOf_1 : decode bc_OB_setOf 1 = .ok (.ifCond .ne 7, 3) := by decide +kernel
theorem d_OB_setOf_4 : decode bc_OB_setOf 4 = .ok (.lconst 0, 1) := by decide +kernel
theorem d_OB_setOf_5 : decode bc_OB_setOf 5 = .ok (.goto 6, 3) := by decide +kernel
theorem d_OB_setOf_8 : decode bc_OB_setOf 8 = .ok (.lconst 1, 1) := by decide +kernel
theorem d_OB_setOf_9 : decode bc_OB_setOf 9 = .ok (.iload_n 0, 1) := by decide +kernel
theorem d_OB_setOf_10 : decode bc_OB_setOf 10 = .ok (.lshl, 1) := by decide +kernel
theorem d_OB_setOf_11 : decode bc_OB_setOf 11 = .ok (.lreturn, 1) := by decide +kernel
def cw_OB_setOf (G : Nat → ClassId) : va_W := []
def f_OB_setOf (p0 : Int32) : Option (Int64) := if p0 = 0 then (some 0) else (some (1 <<< (p0.toInt64 &&& 63)))
set_option maxHeartbeats 4000000 in
set_option maxRecDepth 100000 in
theorem c_OB_setOf (l : Launch) (D : va_G) (G : Nat → ClassId) (p0 : Int32) (o : Int64) (hf : f_OB_setOf p0 = some o) (sz : Nat) : MetL l y_OB_setOf ws_OB_setOf ({ frames := 0, cells := 0, slots := 0, locals := 0 }) D (obT G) (cw_OB_setOf G) (cw_OB_setOf G) [.int p0] o sz := by
  refine ob_of (cc := bc_OB_setOf) (maxL := 1) (ret := (some .long)) (Qc := ObQl D (obT G) (cw_OB_setOf G) o) (by decide) rfl (Nat.le_of_ble_eq_true rfl) ?_
  intro p e s m below meth c A ls H locs hx hb hr hml hts hown hlk hnm hZ hP hK hD hA hS hl
  have hret : ∀ (o' : Int64) (H : Heap) (locs : List Loc) (pc : Nat) (ls : Array Slot), some o' = some o → va_P D vwCl (cw_OB_setOf G) H → va_D A (cw_OB_setOf G) → va_S A s.heap H locs → decode bc_OB_setOf pc = .ok (.lreturn, 1) → W p l e { frames := 0, cells := 0, slots := 0, locals := 0 } s m ([.int p0] : List Value).toArray below meth c H locs 0 0 (MQ below (ObQl D (obT G) (cw_OB_setOf G) o A) ([.int p0] : List Value).toArray s 0 0 A) (F0 m pc ls [.long o']) := by
    intro o' H locs pc ls he hP hD hS hd
    obtain rfl := Option.some.inj he
    exact ob_lret hx hb hr hlk hK hP hD hS hd
  generalize MQ below (ObQl D (obT G) (cw_OB_setOf G) o A) ([.int p0] : List Value).toArray s 0 0 A = Q at hret ⊢
  have hl : lv_has ls 1 [(0, .int p0)] := hl
  unfold f_OB_setOf at hf
  refine lv_iload_n hx hb d_OB_setOf_0 rfl (lv_at hl 0 rfl) ?_
  refine lv_if_ne (tgt := 8) hx hb d_OB_setOf_1 (by decide) (fun hc1 => ?_) (fun hc1 => ?_)
  · have hf := ob_f hc1 hf
    refine lv_lconst (v := 1) hx hb d_OB_setOf_8 (by decide) ?_
    refine lv_iload_n hx hb d_OB_setOf_9 rfl (lv_at hl 0 rfl) ?_
    refine lv_lshl hx hb d_OB_setOf_10 rfl ?_
    exact hret (1 <<< (p0.toInt64 &&& 63)) H locs _ ls hf hP hD hS d_OB_setOf_11
  · have hf := ob_t hc1 hf
    refine lv_lconst (v := 0) hx hb d_OB_setOf_4 (by decide) ?_
    refine lv_goto (tgt := 11) hx hb d_OB_setOf_5 (by decide) ?_
    exact hret 0 H locs _ ls hf hP hD hS d_OB_setOf_11
abbrev bc_OB_contains : ByteArray := prog_1_method_29_code
abbrev y_OB_contains : MethodName := ⟨"ObjectBase", "contains", "(JI)Z"⟩
def ws_OB_contains : List Cond := .code y_OB_contains bc_OB_contains 3 (some .boolean) :: obW
theorem d_OB_contains_0 : decode bc_OB_contains 0 = .ok (.iload_n 2, 1) := by decide +kernel
theorem d_OB_contains_1 : decode bc_OB_contains 1 = .ok (.iconst 1, 1) := by decide +kernel
theorem d_OB_contains_2 : decode bc_OB_contains 2 = .ok (.if_icmp .lt 23, 3) := by decide +kernel
theorem d_OB_contains_5 : decode bc_OB_contains 5 = .ok (.iload_n 2, 1) := by decide +kernel
theorem d_OB_contains_6 : decode bc_OB_contains 6 = .ok (.bipush 62, 2) := by decide +kernel
theorem d_OB_contains_8 : decode bc_OB_contains 8 = .ok (.if_icmp .gt 17, 3) := by decide +kernel
theorem d_OB_contains_11 : decode bc_OB_contains 11 = .ok (.lload_n 0, 1) := by decide +kernel
theorem d_OB_contains_12 : decode bc_OB_contains 12 = .ok (.iload_n 2, 1) := by decide +kernel
theorem d_OB_contains_13 : decode bc_OB_contains 13 = .ok (.lushr, 1) := by decide +kernel
theorem d_OB_contains_14 : decode bc_OB_contains 14 = .ok (.lconst 1, 1) := by decide +kernel
theorem d_OB_contains_15 : decode bc_OB_contains 15 = .ok (.land, 1) := by decide +kernel
theorem d_OB_contains_16 : decode bc_OB_contains 16 = .ok (.lconst 0, 1) := by decide +kernel
theorem d_OB_contains_17 : decode bc_OB_contains 17 = .ok (.lcmp, 1) := by decide +kernel
theorem d_OB_contains_18 : decode bc_OB_contains 18 = .ok (.ifCond .eq 7, 3) := by decide +kernel
theorem d_OB_contains_21 : decode bc_OB_contains 21 = .ok (.iconst 1, 1) := by decide +kernel
theorem d_OB_contains_22 : decode bc_OB_contains 22 = .ok (.goto 4, 3) := by decide +kernel
theorem d_OB_contains_25 : decode bc_OB_contains 25 = .ok (.iconst 0, 1) := by decide +kernel
theorem d_OB_contains_26 : decode bc_OB_contains 26 = .ok (.ireturn, 1) := by decide +kernel
def cw_OB_contains (G : Nat → ClassId) : va_W := []
def f_OB_contains (p0 : Int64) (p1 : Int32) : Option (Int32) := if p1 < 1 then (some 0) else (if 62 < p1 then (some 0) else (if (lg_cmp (((p0.toUInt64 >>> (p1.toInt64.toUInt64 &&& Int64.toUInt64 63)).toInt64) &&& 1) 0) = 0 then (some 0) else (some 1)))
set_option maxHeartbeats 4000000 in
set_option maxRecDepth 100000 in
theorem c_OB_contains (l : Launch) (D : va_G) (G : Nat → ClassId) (p0 : Int64) (p1 : Int32) (o : Int32) (hf : f_OB_contains p0 p1 = some o) (sz : Nat) : MetI l y_OB_contains ws_OB_contains ({ frames := 0, cells := 0, slots := 0, locals := 0 }) D (obT G) (cw_OB_contains G) (cw_OB_contains G) [.long p0, .int p1] o sz := by
  refine ob_of (cc := bc_OB_contains) (maxL := 3) (ret := (some .boolean)) (Qc := ObQi D (obT G) (cw_OB_contains G) o) (by decide) rfl (Nat.le_of_ble_eq_true rfl) ?_
  intro p e s m below meth c A ls H locs hx hb hr hml hts hown hlk hnm hZ hP hK hD hA hS hl
  have hret : ∀ (o' : Int32) (H : Heap) (locs : List Loc) (pc : Nat) (ls : Array Slot), some o' = some o → va_P D vwCl (cw_OB_contains G) H → va_D A (cw_OB_contains G) → va_S A s.heap H locs → narrow .boolean (.int o') = .int o' → decode bc_OB_contains pc = .ok (.ireturn, 1) → W p l e { frames := 0, cells := 0, slots := 0, locals := 0 } s m ([.long p0, .int p1] : List Value).toArray below meth c H locs 0 0 (MQ below (ObQi D (obT G) (cw_OB_contains G) o A) ([.long p0, .int p1] : List Value).toArray s 0 0 A) (F0 m pc ls [.int o']) := by
    intro o' H locs pc ls he hP hD hS hn hd
    obtain rfl := Option.some.inj he
    exact ob_iret hx hb hr hlk hK hP hD hS hn hd
  generalize MQ below (ObQi D (obT G) (cw_OB_contains G) o A) ([.long p0, .int p1] : List Value).toArray s 0 0 A = Q at hret ⊢
  have hl : lv_has ls 3 [(0, .long p0), (2, .int p1)] := hl
  unfold f_OB_contains at hf
  refine lv_iload_n hx hb d_OB_contains_0 rfl (lv_at hl 1 rfl) ?_
  refine lv_iconst (v := 1) hx hb d_OB_contains_1 (by decide) ?_
  refine lv_icmp_lt (tgt := 25) hx hb d_OB_contains_2 (by decide) (fun hc2 => ?_) (fun hc2 => ?_)
  · have hf := ob_t hc2 hf
    refine lv_iconst (v := 0) hx hb d_OB_contains_25 (by decide) ?_
    exact hret 0 H locs _ ls hf hP hD hS narrow_b0 d_OB_contains_26
  · have hf := ob_f hc2 hf
    refine lv_iload_n hx hb d_OB_contains_5 rfl (lv_at hl 1 rfl) ?_
    refine lv_bipush (v := 62) hx hb d_OB_contains_6 (by decide) ?_
    refine lv_icmp_gt (tgt := 25) hx hb d_OB_contains_8 (by decide) (fun hc8 => ?_) (fun hc8 => ?_)
    · have hf := ob_t hc8 hf
      refine lv_iconst (v := 0) hx hb d_OB_contains_25 (by decide) ?_
      exact hret 0 H locs _ ls hf hP hD hS narrow_b0 d_OB_contains_26
    · have hf := ob_f hc8 hf
      refine lv_lload_n hx hb d_OB_contains_11 rfl (lv_at hl 0 rfl) ?_
      refine lv_iload_n hx hb d_OB_contains_12 rfl (lv_at hl 1 rfl) ?_
      refine lv_lushr hx hb d_OB_contains_13 rfl ?_
      refine lv_lconst (v := 1) hx hb d_OB_contains_14 (by decide) ?_
      refine lv_land hx hb d_OB_contains_15 ?_
      refine lv_lconst (v := 0) hx hb d_OB_contains_16 (by decide) ?_
      refine W.lcmp hx hb d_OB_contains_17 ?_
      refine lv_if_eq (tgt := 25) hx hb d_OB_contains_18 (by decide) (fun hc18 => ?_) (fun hc18 => ?_)
      · have hf := ob_t hc18 hf
        refine lv_iconst (v := 0) hx hb d_OB_contains_25 (by decide) ?_
        exact hret 0 H locs _ ls hf hP hD hS narrow_b0 d_OB_contains_26
      · have hf := ob_f hc18 hf
        refine lv_iconst (v := 1) hx hb d_OB_contains_21 (by decide) ?_
        refine lv_goto (tgt := 26) hx hb d_OB_contains_22 (by decide) ?_
        exact hret 1 H locs _ ls hf hP hD hS narrow_b1 d_OB_contains_26
abbrev bc_OB_isDigit : ByteArray := prog_1_method_30_code
abbrev y_OB_isDigit : MethodName := ⟨"ObjectBase", "isDigit", "(C)Z"⟩
def ws_OB_isDigit : List Cond := .code y_OB_isDigit bc_OB_isDigit 1 (some .boolean) :: obW
theorem d_OB_isDigit_0 : decode bc_OB_isDigit 0 = .ok (.iload_n 0, 1) := by decide +kernel
theorem d_OB_isDigit_1 : decode bc_OB_isDigit 1 = .ok (.bipush 48, 2) := by decide +kernel
theorem d_OB_isDigit_3 : decode bc_OB_isDigit 3 = .ok (.if_icmp .lt 13, 3) := by decide +kernel
theorem d_OB_isDigit_6 : decode bc_OB_isDigit 6 = .ok (.iload_n 0, 1) := by decide +kernel
theorem d_OB_isDigit_7 : decode bc_OB_isDigit 7 = .ok (.bipush 57, 2) := by decide +kernel
theorem d_OB_isDigit_9 : decode bc_OB_isDigit 9 = .ok (.if_icmp .gt 7, 3) := by decide +kernel
theorem d_OB_isDigit_12 : decode bc_OB_isDigit 12 = .ok (.iconst 1, 1) := by decide +kernel
theorem d_OB_isDigit_13 : decode bc_OB_isDigit 13 = .ok (.goto 4, 3) := by decide +kernel
theorem d_OB_isDigit_16 : decode bc_OB_isDigit 16 = .ok (.iconst 0, 1) := by decide +kernel
theorem d_OB_isDigit_17 : decode bc_OB_isDigit 17 = .ok (.ireturn, 1) := by decide +kernel
def cw_OB_isDigit (G : Nat → ClassId) : va_W := []
def f_OB_isDigit (p0 : Int32) : Option (Int32) := if p0 < 48 then (some 0) else (if 57 < p0 then (some 0) else (some 1))
set_option maxHeartbeats 4000000 in
set_option maxRecDepth 100000 in
theorem c_OB_isDigit (l : Launch) (D : va_G) (G : Nat → ClassId) (p0 : Int32) (o : Int32) (hf : f_OB_isDigit p0 = some o) (sz : Nat) : MetI l y_OB_isDigit ws_OB_isDigit ({ frames := 0, cells := 0, slots := 0, locals := 0 }) D (obT G) (cw_OB_isDigit G) (cw_OB_isDigit G) [.int p0] o sz := by
  refine ob_of (cc := bc_OB_isDigit) (maxL := 1) (ret := (some .boolean)) (Qc := ObQi D (obT G) (cw_OB_isDigit G) o) (by decide) rfl (Nat.le_of_ble_eq_true rfl) ?_
  intro p e s m below meth c A ls H locs hx hb hr hml hts hown hlk hnm hZ hP hK hD hA hS hl
  have hret : ∀ (o' : Int32) (H : Heap) (locs : List Loc) (pc : Nat) (ls : Array Slot), some o' = some o → va_P D vwCl (cw_OB_isDigit G) H → va_D A (cw_OB_isDigit G) → va_S A s.heap H locs → narrow .boolean (.int o') = .int o' → decode bc_OB_isDigit pc = .ok (.ireturn, 1) → W p l e { frames := 0, cells := 0, slots := 0, locals := 0 } s m ([.int p0] : List Value).toArray below meth c H locs 0 0 (MQ below (ObQi D (obT G) (cw_OB_isDigit G) o A) ([.int p0] : List Value).toArray s 0 0 A) (F0 m pc ls [.int o']) := by
    intro o' H locs pc ls he hP hD hS hn hd
    obtain rfl := Option.some.inj he
    exact ob_iret hx hb hr hlk hK hP hD hS hn hd
  generalize MQ below (ObQi D (obT G) (cw_OB_isDigit G) o A) ([.int p0] : List Value).toArray s 0 0 A = Q at hret ⊢
  have hl : lv_has ls 1 [(0, .int p0)] := hl
  unfold f_OB_isDigit at hf
  refine lv_iload_n hx hb d_OB_isDigit_0 rfl (lv_at hl 0 rfl) ?_
  refine lv_bipush (v := 48) hx hb d_OB_isDigit_1 (by decide) ?_
  refine lv_icmp_lt (tgt := 16) hx hb d_OB_isDigit_3 (by decide) (fun hc3 => ?_) (fun hc3 => ?_)
  · have hf := ob_t hc3 hf
    refine lv_iconst (v := 0) hx hb d_OB_isDigit_16 (by decide) ?_
    exact hret 0 H locs _ ls hf hP hD hS narrow_b0 d_OB_isDigit_17
  · have hf := ob_f hc3 hf
    refine lv_iload_n hx hb d_OB_isDigit_6 rfl (lv_at hl 0 rfl) ?_
    refine lv_bipush (v := 57) hx hb d_OB_isDigit_7 (by decide) ?_
    refine lv_icmp_gt (tgt := 16) hx hb d_OB_isDigit_9 (by decide) (fun hc9 => ?_) (fun hc9 => ?_)
    · have hf := ob_t hc9 hf
      refine lv_iconst (v := 0) hx hb d_OB_isDigit_16 (by decide) ?_
      exact hret 0 H locs _ ls hf hP hD hS narrow_b0 d_OB_isDigit_17
    · have hf := ob_f hc9 hf
      refine lv_iconst (v := 1) hx hb d_OB_isDigit_12 (by decide) ?_
      refine lv_goto (tgt := 17) hx hb d_OB_isDigit_13 (by decide) ?_
      exact hret 1 H locs _ ls hf hP hD hS narrow_b1 d_OB_isDigit_17
