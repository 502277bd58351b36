abbrev bc_M_in : ByteArray := prog_13_method_9_code
abbrev y_M_in : MethodName := ⟨"ObjectBaseModel", "in", "(JI)Z"⟩
def ws_M_in : List Cond := .code y_M_in bc_M_in 3 (some .boolean) :: obW
theorem d_M_in_0 : decode bc_M_in 0 = .ok (.iload_n 2, 1) := by decide +kernel
theorem d_M_in_1 : decode bc_M_in 1 = .ok (.ifCond .le 23, 3) := by decide +kernel
theorem d_M_in_4 : decode bc_M_in 4 = .ok (.iload_n 2, 1) := by decide +kernel
theorem d_M_in_5 : decode bc_M_in 5 = .ok (.bipush 63, 2) := by decide +kernel
theorem d_M_in_7 : decode bc_M_in 7 = .ok (.if_icmp .ge 17, 3) := by decide +kernel
theorem d_M_in_10 : decode bc_M_in 10 = .ok (.lload_n 0, 1) := by decide +kernel
theorem d_M_in_11 : decode bc_M_in 11 = .ok (.iload_n 2, 1) := by decide +kernel
theorem d_M_in_12 : decode bc_M_in 12 = .ok (.lushr, 1) := by decide +kernel
theorem d_M_in_13 : decode bc_M_in 13 = .ok (.lconst 1, 1) := by decide +kernel
theorem d_M_in_14 : decode bc_M_in 14 = .ok (.land, 1) := by decide +kernel
theorem d_M_in_15 : decode bc_M_in 15 = .ok (.lconst 1, 1) := by decide +kernel
theorem d_M_in_16 : decode bc_M_in 16 = .ok (.lcmp, 1) := by decide +kernel
theorem d_M_in_17 : decode bc_M_in 17 = .ok (.ifCond .ne 7, 3) := by decide +kernel
theorem d_M_in_20 : decode bc_M_in 20 = .ok (.iconst 1, 1) := by decide +kernel
theorem d_M_in_21 : decode bc_M_in 21 = .ok (.goto 4, 3) := by decide +kernel
theorem d_M_in_24 : decode bc_M_in 24 = .ok (.iconst 0, 1) := by decide +kernel
theorem d_M_in_25 : decode bc_M_in 25 = .ok (.ireturn, 1) := by decide +kernel
def cw_M_in (G : Nat → ClassId) : va_W := []
def f_M_in (p0 : Int64) (p1 : Int32) : Option (Int32) := if p1 ≤ 0 then (some 0) else (if 63 ≤ p1 then (some 0) else (if (lg_cmp (((p0.toUInt64 >>> (p1.toInt64.toUInt64 &&& Int64.toUInt64 63)).toInt64) &&& 1) 1) = 0 then (some 1) else (some 0)))
set_option maxHeartbeats 4000000 in
set_option maxRecDepth 100000 in
theorem c_M_in (l : Launch) (D : va_G) (G : Nat → ClassId) (p0 : Int64) (p1 : Int32) (o : Int32) (hf : f_M_in p0 p1 = some o) (sz : Nat) : MetI l y_M_in ws_M_in ({ frames := 0, cells := 0, slots := 0, locals := 0 }) D (obT G) (cw_M_in G) (cw_M_in G) [.long p0, .int p1] o sz := by
  refine ob_of (cc := bc_M_in) (maxL := 3) (ret := (some .boolean)) (Qc := ObQi D (obT G) (cw_M_in G) o) (by decide) rfl (Nat.le_of_ble_eq_true rfl) ?_
  intro p e s m below meth c A ls H locs hx hb hr hml hts hown hlk hnm hZ hP hK hD hA hS hl
  have hret : ∀ (o' : Int32) (H : Heap) (locs : List Loc) (pc : Nat) (ls : Array Slot), some o' = some o → va_P D vwCl (cw_M_in G) H → va_D A (cw_M_in G) → va_S A s.heap H locs → narrow .boolean (.int o') = .int o' → decode bc_M_in pc = .ok (.ireturn, 1) → W p l e { frames := 0, cells := 0, slots := 0, locals := 0 } s m ([.long p0, .int p1] : List Value).toArray below meth c H locs 0 0 (MQ below (ObQi D (obT G) (cw_M_in G) o A) ([.long p0, .int p1] : List Value).toArray s 0 0 A) (F0 m pc ls [.int o']) := by
    intro o' H locs pc ls he hP hD hS hn hd
    obtain rfl := Option.some.inj he
    exact ob_iret hx hb hr hlk hK hP hD hS hn hd
  generalize MQ below (ObQi D (obT G) (cw_M_in G) o A) ([.long p0, .int p1] : List Value).toArray s 0 0 A = Q at hret ⊢
  have hl : lv_has ls 3 [(0, .long p0), (2, .int p1)] := hl
  unfold f_M_in at hf
  refine lv_iload_n hx hb d_M_in_0 rfl (lv_at hl 1 rfl) ?_
  refine lv_if_le (tgt := 24) hx hb d_M_in_1 (by decide) (fun hc1 => ?_) (fun hc1 => ?_)
  · have hf := ob_t hc1 hf
    refine lv_iconst (v := 0) hx hb d_M_in_24 (by decide) ?_
    exact hret 0 H locs _ ls hf hP hD hS narrow_b0 d_M_in_25
  · have hf := ob_f hc1 hf
    refine lv_iload_n hx hb d_M_in_4 rfl (lv_at hl 1 rfl) ?_
    refine lv_bipush (v := 63) hx hb d_M_in_5 (by decide) ?_
    refine lv_icmp_ge (tgt := 24) hx hb d_M_in_7 (by decide) (fun hc7 => ?_) (fun hc7 => ?_)
    · have hf := ob_t hc7 hf
      refine lv_iconst (v := 0) hx hb d_M_in_24 (by decide) ?_
      exact hret 0 H locs _ ls hf hP hD hS narrow_b0 d_M_in_25
    · have hf := ob_f hc7 hf
      refine lv_lload_n hx hb d_M_in_10 rfl (lv_at hl 0 rfl) ?_
      refine lv_iload_n hx hb d_M_in_11 rfl (lv_at hl 1 rfl) ?_
      refine lv_lushr hx hb d_M_in_12 rfl ?_
      refine lv_lconst (v := 1) hx hb d_M_in_13 (by decide) ?_
      refine lv_land hx hb d_M_in_14 ?_
      refine lv_lconst (v := 1) hx hb d_M_in_15 (by decide) ?_
      refine W.lcmp hx hb d_M_in_16 ?_
      refine lv_if_ne (tgt := 24) hx hb d_M_in_17 (by decide) (fun hc17 => ?_) (fun hc17 => ?_)
      · have hf := ob_f hc17 hf
        refine lv_iconst (v := 0) hx hb d_M_in_24 (by decide) ?_
        exact hret 0 H locs _ ls hf hP hD hS narrow_b0 d_M_in_25
      · have hf := ob_t hc17 hf
        refine lv_iconst (v := 1) hx hb d_M_in_20 (by decide) ?_
        refine lv_goto (tgt := 25) hx hb d_M_in_21 (by decide) ?_
        exact hret 1 H locs _ ls hf hP hD hS narrow_b1 d_M_in_25
abbrev bc_M_count : ByteArray := prog_13_method_10_code
abbrev y_M_count : MethodName := ⟨"ObjectBaseModel", "count", "(J)I"⟩
def ws_M_count : List Cond := .code y_M_count bc_M_count 4 (some .int) :: obW
theorem d_M_count_0 : decode bc_M_count 0 = .ok (.iconst 0, 1) := by decide +kernel
theorem d_M_count_1 : decode bc_M_count 1 = .ok (.istore_n 2, 1) := by decide +kernel
theorem d_M_count_2 : decode bc_M_count 2 = .ok (.iconst 0, 1) := by decide +kernel
theorem d_M_count_3 : decode bc_M_count 3 = .ok (.istore_n 3, 1) := by decide +kernel
theorem d_M_count_4 : decode bc_M_count 4 = .ok (.iload_n 3, 1) := by decide +kernel
theorem d_M_count_5 : decode bc_M_count 5 = .ok (.bipush 63, 2) := by decide +kernel
theorem d_M_count_7 : decode bc_M_count 7 = .ok (.if_icmp .ge 18, 3) := by decide +kernel
theorem d_M_count_10 : decode bc_M_count 10 = .ok (.iload_n 2, 1) := by decide +kernel
theorem d_M_count_11 : decode bc_M_count 11 = .ok (.lload_n 0, 1) := by decide +kernel
theorem d_M_count_12 : decode bc_M_count 12 = .ok (.iload_n 3, 1) := by decide +kernel
theorem d_M_count_13 : decode bc_M_count 13 = .ok (.lushr, 1) := by decide +kernel
theorem d_M_count_14 : decode bc_M_count 14 = .ok (.lconst 1, 1) := by decide +kernel
theorem d_M_count_15 : decode bc_M_count 15 = .ok (.land, 1) := by decide +kernel
theorem d_M_count_16 : decode bc_M_count 16 = .ok (.l2i, 1) := by decide +kernel
theorem d_M_count_17 : decode bc_M_count 17 = .ok (.iadd, 1) := by decide +kernel
theorem d_M_count_18 : decode bc_M_count 18 = .ok (.istore_n 2, 1) := by decide +kernel
theorem d_M_count_19 : decode bc_M_count 19 = .ok (.iinc 3 1, 3) := by decide +kernel
theorem d_M_count_22 : decode bc_M_count 22 = .ok (.goto (-18), 3) := by decide +kernel
theorem d_M_count_25 : decode bc_M_count 25 = .ok (.iload_n 2, 1) := by decide +kernel
theorem d_M_count_26 : decode bc_M_count 26 = .ok (.ireturn, 1) := by decide +kernel
def cw_M_count (G : Nat → ClassId) : va_W := []
def f_M_count_B4 (p0 : Int64) (k4 : Int32 → Int32 → Option (Int32)) (x4_2 : Int32) (x4_3 : Int32) : Option (Int32) := if 63 ≤ x4_3 then (some x4_2) else (k4 (x4_2 + ((((p0.toUInt64 >>> (x4_3.toInt64.toUInt64 &&& Int64.toUInt64 63)).toInt64) &&& 1).toInt32)) (x4_3 + 1))
def f_M_count_L4 (p0 : Int64) : Nat → Int32 → Int32 → Option (Int32) := ob_lp2 (f_M_count_B4 p0)
def f_M_count (p0 : Int64) : Option (Int32) := f_M_count_L4 p0 1000 0 0
set_option maxHeartbeats 4000000 in
set_option maxRecDepth 100000 in
theorem c_M_count (l : Launch) (D : va_G) (G : Nat → ClassId) (p0 : Int64) (o : Int32) (hf : f_M_count p0 = some o) (sz : Nat) : MetI l y_M_count ws_M_count ({ frames := 0, cells := 0, slots := 0, locals := 0 }) D (obT G) (cw_M_count G) (cw_M_count G) [.long p0] o sz := by
  refine ob_of (cc := bc_M_count) (maxL := 4) (ret := (some .int)) (Qc := ObQi D (obT G) (cw_M_count G) o) (by decide) rfl (Nat.le_of_ble_eq_true rfl) ?_
  intro p e s m below meth c A ls H locs hx hb hr hml hts hown hlk hnm hZ hP hK hD hA hS hl
  have hret : ∀ (o' : Int32) (H : Heap) (locs : List Loc) (pc : Nat) (ls : Array Slot), some o' = some o → va_P D vwCl (cw_M_count G) H → va_D A (cw_M_count G) → va_S A s.heap H locs → narrow .int (.int o') = .int o' → decode bc_M_count pc = .ok (.ireturn, 1) → W p l e { frames := 0, cells := 0, slots := 0, locals := 0 } s m ([.long p0] : List Value).toArray below meth c H locs 0 0 (MQ below (ObQi D (obT G) (cw_M_count G) o A) ([.long p0] : List Value).toArray s 0 0 A) (F0 m pc ls [.int o']) := by
    intro o' H locs pc ls he hP hD hS hn hd
    obtain rfl := Option.some.inj he
    exact ob_iret hx hb hr hlk hK hP hD hS hn hd
  generalize MQ below (ObQi D (obT G) (cw_M_count G) o A) ([.long p0] : List Value).toArray s 0 0 A = Q at hret ⊢
  have hl : lv_has ls 4 [(0, .long p0)] := hl
  unfold f_M_count at hf
  have loop4 : ∀ (n4 : Nat) (x4_2 : Int32) (x4_3 : Int32) (ls : Array Slot) (H : Heap) (locs : List Loc), lv_has ls 4 [(0, .long p0), (2, .int x4_2), (3, .int x4_3)] → va_P D vwCl (cw_M_count G) H → va_D A (cw_M_count G) → va_S A s.heap H locs → f_M_count_L4 p0 n4 x4_2 x4_3 = some o → W p l e ({ frames := 0, cells := 0, slots := 0, locals := 0 }) s m ([.long p0] : List Value).toArray below meth c H locs 0 0 Q (F0 m 4 ls []) := by
    intro n4
    induction n4 with
    | zero => intro x4_2 x4_3 ls H locs hl hP hD hS hf; exact ob_no hf
    | succ n4 ih4 =>
      intro x4_2 x4_3 ls H locs hl hP hD hS hf
      have hf : f_M_count_B4 p0 (f_M_count_L4 p0 n4) x4_2 x4_3 = some o := hf
      unfold f_M_count_B4 at hf
      refine lv_iload_n hx hb d_M_count_4 rfl (lv_at hl 2 rfl) ?_
      refine lv_bipush (v := 63) hx hb d_M_count_5 (by decide) ?_
      refine lv_icmp_ge (tgt := 25) hx hb d_M_count_7 (by decide) (fun hc7 => ?_) (fun hc7 => ?_)
      · have hf := ob_t hc7 hf
        refine lv_iload_n hx hb d_M_count_25 rfl (lv_at hl 1 rfl) ?_
        exact hret x4_2 H locs _ ls hf hP hD hS rfl d_M_count_26
      · have hf := ob_f hc7 hf
        refine lv_iload_n hx hb d_M_count_10 rfl (lv_at hl 1 rfl) ?_
        refine lv_lload_n hx hb d_M_count_11 rfl (lv_at hl 0 rfl) ?_
        refine lv_iload_n hx hb d_M_count_12 rfl (lv_at hl 2 rfl) ?_
        refine lv_lushr hx hb d_M_count_13 rfl ?_
        refine lv_lconst (v := 1) hx hb d_M_count_14 (by decide) ?_
        refine lv_land hx hb d_M_count_15 ?_
        refine lv_l2i hx hb d_M_count_16 rfl ?_
        refine lv_iadd hx hb d_M_count_17 ?_
        refine lv_istore_n (lv' := [(2, .int (x4_2 + ((((p0.toUInt64 >>> (x4_3.toInt64.toUInt64 &&& Int64.toUInt64 63)).toInt64) &&& 1).toInt32))), (0, .long p0), (3, .int x4_3)]) hx hb d_M_count_18 rfl hl (by decide) rfl (fun ls hl => ?_)
        refine lv_iinc (k := 2) (v := x4_3 + 1) (lv' := [(3, .int (x4_3 + 1)), (2, .int (x4_2 + ((((p0.toUInt64 >>> (x4_3.toInt64.toUInt64 &&& Int64.toUInt64 63)).toInt64) &&& 1).toInt32))), (0, .long p0)]) hx hb d_M_count_19 hl rfl (by rw [show Int32.ofInt 1 = (1 : Int32) from by decide]) (by decide) rfl (fun ls hl => ?_)
        refine lv_goto (tgt := 4) hx hb d_M_count_22 (by decide) ?_
        exact ih4 (x4_2 + ((((p0.toUInt64 >>> (x4_3.toInt64.toUInt64 &&& Int64.toUInt64 63)).toInt64) &&& 1).toInt32)) (x4_3 + 1) ls H locs (lv_sub hl [2, 1, 0] rfl) hP hD hS hf
  refine lv_iconst (v := 0) hx hb d_M_count_0 (by decide) ?_
  refine lv_istore_n (lv' := [(2, .int 0), (0, .long p0)]) hx hb d_M_count_1 rfl hl (by decide) rfl (fun ls hl => ?_)
  refine lv_iconst (v := 0) hx hb d_M_count_2 (by decide) ?_
  refine lv_istore_n (lv' := [(3, .int 0), (2, .int 0), (0, .long p0)]) hx hb d_M_count_3 rfl hl (by decide) rfl (fun ls hl => ?_)
  exact loop4 1000 0 0 ls H locs (lv_sub hl [2, 1, 0] rfl) hP hD hS hf
abbrev bc_M_from : ByteArray := prog_13_method_11_code
abbrev y_M_from : MethodName := ⟨"ObjectBaseModel", "from", "(IZ)J"⟩
def ws_M_from : List Cond := .code y_M_from bc_M_from 7 (some .long) :: obW
theorem d_M_from_0 : decode bc_M_from 0 = .ok (.lconst 0, 1) := by decide +kernel
theorem d_M_from_1 : decode bc_M_from 1 = .ok (.lstore_n 3, 1) := by decide +kernel
theorem d_M_from_2 : decode bc_M_from 2 = .ok (.iconst 0, 1) := by decide +kernel
theorem d_M_from_3 : decode bc_M_from 3 = .ok (.istore 5, 2) := by decide +kernel
theorem d_M_from_5 : decode bc_M_from 5 = .ok (.iload 5, 2) := by decide +kernel
theorem d_M_from_7 : decode bc_M_from 7 = .ok (.aload_n 0, 1) := by decide +kernel
theorem d_M_from_8 : decode bc_M_from 8 = .ok (.getfield 123, 3) := by decide +kernel
theorem d_M_from_11 : decode bc_M_from 11 = .ok (.if_icmp .ge 101, 3) := by decide +kernel
theorem d_M_from_14 : decode bc_M_from 14 = .ok (.bipush 8, 2) := by decide +kernel
theorem d_M_from_16 : decode bc_M_from 16 = .ok (.iload_n 1, 1) := by decide +kernel
theorem d_M_from_17 : decode bc_M_from 17 = .ok (.imul, 1) := by decide +kernel
theorem d_M_from_18 : decode bc_M_from 18 = .ok (.iload 5, 2) := by decide +kernel
theorem d_M_from_20 : decode bc_M_from 20 = .ok (.iadd, 1) := by decide +kernel
theorem d_M_from_21 : decode bc_M_from 21 = .ok (.istore 6, 2) := by decide +kernel
theorem d_M_from_23 : decode bc_M_from 23 = .ok (.aload_n 0, 1) := by decide +kernel
theorem d_M_from_24 : decode bc_M_from 24 = .ok (.aload_n 0, 1) := by decide +kernel
theorem d_M_from_25 : decode bc_M_from 25 = .ok (.getfield 28, 3) := by decide +kernel
theorem d_M_from_28 : decode bc_M_from 28 = .ok (.iload_n 1, 1) := by decide +kernel
theorem d_M_from_29 : decode bc_M_from 29 = .ok (.iaload, 1) := by decide +kernel
theorem d_M_from_30 : decode bc_M_from 30 = .ok (.iload 5, 2) := by decide +kernel
theorem d_M_from_32 : decode bc_M_from 32 = .ok (.iconst 1, 1) := by decide +kernel
theorem d_M_from_33 : decode bc_M_from 33 = .ok (.invokevirtual 136, 3) := by decide +kernel
theorem d_M_from_36 : decode bc_M_from 36 = .ok (.ifCond .eq 30, 3) := by decide +kernel
theorem d_M_from_39 : decode bc_M_from 39 = .ok (.lload_n 3, 1) := by decide +kernel
theorem d_M_from_40 : decode bc_M_from 40 = .ok (.iload_n 2, 1) := by decide +kernel
theorem d_M_from_41 : decode bc_M_from 41 = .ok (.ifCond .eq 13, 3) := by decide +kernel
theorem d_M_from_44 : decode bc_M_from 44 = .ok (.aload_n 0, 1) := by decide +kernel
theorem d_M_from_45 : decode bc_M_from 45 = .ok (.getfield 31, 3) := by decide +kernel
theorem d_M_from_48 : decode bc_M_from 48 = .ok (.iload 6, 2) := by decide +kernel
theorem d_M_from_50 : decode bc_M_from 50 = .ok (.iaload, 1) := by decide +kernel
theorem d_M_from_51 : decode bc_M_from 51 = .ok (.goto 10, 3) := by decide +kernel
theorem d_M_from_54 : decode bc_M_from 54 = .ok (.aload_n 0, 1) := by decide +kernel
theorem d_M_from_55 : decode bc_M_from 55 = .ok (.getfield 41, 3) := by decide +kernel
theorem d_M_from_58 : decode bc_M_from 58 = .ok (.iload 6, 2) := by decide +kernel
theorem d_M_from_60 : decode bc_M_from 60 = .ok (.iaload, 1) := by decide +kernel
theorem d_M_from_61 : decode bc_M_from 61 = .ok (.invokestatic 140, 3) := by decide +kernel
theorem d_M_from_64 : decode bc_M_from 64 = .ok (.lor, 1) := by decide +kernel
theorem d_M_from_65 : decode bc_M_from 65 = .ok (.lstore_n 3, 1) := by decide +kernel
theorem d_M_from_66 : decode bc_M_from 66 = .ok (.aload_n 0, 1) := by decide +kernel
theorem d_M_from_67 : decode bc_M_from 67 = .ok (.aload_n 0, 1) := by decide +kernel
theorem d_M_from_68 : decode bc_M_from 68 = .ok (.getfield 28, 3) := by decide +kernel
theorem d_M_from_71 : decode bc_M_from 71 = .ok (.iload_n 1, 1) := by decide +kernel
theorem d_M_from_72 : decode bc_M_from 72 = .ok (.iaload, 1) := by decide +kernel
theorem d_M_from_73 : decode bc_M_from 73 = .ok (.iload 5, 2) := by decide +kernel
theorem d_M_from_75 : decode bc_M_from 75 = .ok (.iconst 2, 1) := by decide +kernel
theorem d_M_from_76 : decode bc_M_from 76 = .ok (.invokevirtual 136, 3) := by decide +kernel
theorem d_M_from_79 : decode bc_M_from 79 = .ok (.ifCond .eq 27, 3) := by decide +kernel
theorem d_M_from_82 : decode bc_M_from 82 = .ok (.lload_n 3, 1) := by decide +kernel
theorem d_M_from_83 : decode bc_M_from 83 = .ok (.iload_n 2, 1) := by decide +kernel
theorem d_M_from_84 : decode bc_M_from 84 = .ok (.ifCond .eq 13, 3) := by decide +kernel
theorem d_M_from_87 : decode bc_M_from 87 = .ok (.aload_n 0, 1) := by decide +kernel
theorem d_M_from_88 : decode bc_M_from 88 = .ok (.getfield 34, 3) := by decide +kernel
theorem d_M_from_91 : decode bc_M_from 91 = .ok (.iload 6, 2) := by decide +kernel
theorem d_M_from_93 : decode bc_M_from 93 = .ok (.laload, 1) := by decide +kernel
theorem d_M_from_94 : decode bc_M_from 94 = .ok (.goto 10, 3) := by decide +kernel
theorem d_M_from_97 : decode bc_M_from 97 = .ok (.aload_n 0, 1) := by decide +kernel
theorem d_M_from_98 : decode bc_M_from 98 = .ok (.getfield 44, 3) := by decide +kernel
theorem d_M_from_101 : decode bc_M_from 101 = .ok (.iload 6, 2) := by decide +kernel
theorem d_M_from_103 : decode bc_M_from 103 = .ok (.laload, 1) := by decide +kernel
theorem d_M_from_104 : decode bc_M_from 104 = .ok (.lor, 1) := by decide +kernel
theorem d_M_from_105 : decode bc_M_from 105 = .ok (.lstore_n 3, 1) := by decide +kernel
theorem d_M_from_106 : decode bc_M_from 106 = .ok (.iinc 5 1, 3) := by decide +kernel
theorem d_M_from_109 : decode bc_M_from 109 = .ok (.goto (-104), 3) := by decide +kernel
theorem d_M_from_112 : decode bc_M_from 112 = .ok (.lload_n 3, 1) := by decide +kernel
theorem d_M_from_113 : decode bc_M_from 113 = .ok (.lreturn, 1) := by decide +kernel
def cw_M_from (G : Nat → ClassId) (a_t a_classes1 a_owner a_parent a_sort a_sets a_dSets a_values a_dValues a_aim a_indexClass a_indexPath a_dNames a_names a_draft a_lengths a_text a_classOfQuestion a_split a_steps a_what a_one a_two a_opened a_openedAt a_stands a_variable a_truth a_rest a_loopAt a_loopFound a_hits : Nat) (v_classes : Int32) (v_fields : Int32) (v_begun : Int32) (v_indexes : Int32) (v_made : Int32) (v_slotted : Int64) (v_half : Int32) (v_open : Int32) (v_known : Int64) (v_fresh : Int64) (v_changed : Int64) (v_renamed : Int32) (v_down : Int32) (v_armed : Int32) (v_written : Int32) (v_logged : Int32) (v_marked : Int32) (v_logSize : Int32) (v_drafted : Int32) (v_questions : Int32) (v_now : Int32) (v_at : Int32) (v_bad : Int32) (v_opens : Int32) (v_deep : Int32) (v_aimed : Int32) (v_truths : Int32) (v_loops : Int32) (v_valued : Int32) (v_value : Int32) (v_set : Int64) (v_latest : Int32) (v_fits : Int32) (v_total : Int64) (v_looked : Int32) (v_classes1 : Nat → Int32) (v_owner : Nat → Int32) (v_parent : Nat → Int32) (v_sort : Nat → Int32) (v_sets : Nat → Int64) (v_dSets : Nat → Int64) (v_values : Nat → Int32) (v_dValues : Nat → Int32) : va_W := [(a_t, .inr (11, [.int v_classes, .ref a_parent, .int v_fields, .ref a_owner, .ref a_sort, .ref a_aim, .int v_begun, .int v_indexes, .ref a_indexClass, .ref a_indexPath, .int v_made, .ref a_classes1, .ref a_dValues, .ref a_dSets, .ref a_dNames, .ref a_values, .ref a_sets, .ref a_names, .long v_slotted, .int v_half, .int v_open, .long v_known, .long v_fresh, .long v_changed, .int v_renamed, .int v_down, .int v_armed, .int v_written, .int v_logged, .int v_marked, .int v_logSize, .int v_drafted, .ref a_draft, .int v_questions, .ref a_lengths, .ref a_text, .ref a_classOfQuestion, .ref a_split, .ref a_steps, .ref a_what, .ref a_one, .ref a_two, .int v_now, .int v_at, .int v_bad, .int v_opens, .ref a_opened, .ref a_openedAt, .int v_deep, .int v_aimed, .ref a_stands, .ref a_variable, .int v_truths, .ref a_truth, .int v_loops, .ref a_rest, .ref a_loopAt, .ref a_loopFound, .int v_valued, .int v_value, .long v_set, .int v_latest, .int v_fits, .ref a_hits, .long v_total, .int v_looked])), (a_classes1, .inl (G 0, 63, .inl v_classes1)), (a_owner, .inl (G 0, 8, .inl v_owner)), (a_parent, .inl (G 0, 6, .inl v_parent)), (a_sort, .inl (G 0, 8, .inl v_sort)), (a_sets, .inl (G 1, 504, .inr (.inl v_sets))), (a_dSets, .inl (G 1, 504, .inr (.inl v_dSets))), (a_values, .inl (G 0, 504, .inl v_values)), (a_dValues, .inl (G 0, 504, .inl v_dValues))]
def f_M_from_J66 (p1 : Int32) (v_fields : Int32) (v_owner : Nat → Int32) (v_parent : Nat → Int32) (v_sort : Nat → Int32) (v_classes1 : Nat → Int32) (k5 : Int64 → Int32 → Option (Int64)) (p2 : Int32) (v_sets : Nat → Int64) (v_dSets : Nat → Int64) (x66_3 : Int64) (x66_5 : Int32) (x66_6 : Int32) : Option (Int64) := ob_iv p1 63 ((f_M_has v_fields v_owner v_parent v_sort (v_classes1 p1.toNatClampNeg) x66_5 2).bind fun o76 => (if o76 = 0 then (k5 x66_3 (x66_5 + 1)) else (if p2 = 0 then (ob_iv x66_6 504 (k5 (x66_3 ||| (v_sets x66_6.toNatClampNeg)) (x66_5 + 1))) else (ob_iv x66_6 504 (k5 (x66_3 ||| (v_dSets x66_6.toNatClampNeg)) (x66_5 + 1))))))
def f_M_from_J61 (p1 : Int32) (v_fields : Int32) (v_owner : Nat → Int32) (v_parent : Nat → Int32) (v_sort : Nat → Int32) (v_classes1 : Nat → Int32) (k5 : Int64 → Int32 → Option (Int64)) (p2 : Int32) (v_sets : Nat → Int64) (v_dSets : Nat → Int64) (x61_5 : Int32) (x61_6 : Int32) (y61_0 : Int32) (y61_1 : Int64) : Option (Int64) := (f_M_bit y61_0).bind fun o61 => (f_M_from_J66 p1 v_fields v_owner v_parent v_sort v_classes1 k5 p2 v_sets v_dSets (y61_1 ||| o61) x61_5 x61_6)
def f_M_from_B5 (v_fields : Int32) (p1 : Int32) (v_owner : Nat → Int32) (v_parent : Nat → Int32) (v_sort : Nat → Int32) (v_classes1 : Nat → Int32) (p2 : Int32) (v_sets : Nat → Int64) (v_dSets : Nat → Int64) (v_values : Nat → Int32) (v_dValues : Nat → Int32) (k5 : Int64 → Int32 → Option (Int64)) (x5_3 : Int64) (x5_5 : Int32) : Option (Int64) := if v_fields ≤ x5_5 then (some x5_3) else (ob_iv p1 63 ((f_M_has v_fields v_owner v_parent v_sort (v_classes1 p1.toNatClampNeg) x5_5 1).bind fun o33 => (if o33 = 0 then (f_M_from_J66 p1 v_fields v_owner v_parent v_sort v_classes1 k5 p2 v_sets v_dSets x5_3 x5_5 ((8 * p1) + x5_5)) else (if p2 = 0 then (ob_iv ((8 * p1) + x5_5) 504 (f_M_from_J61 p1 v_fields v_owner v_parent v_sort v_classes1 k5 p2 v_sets v_dSets x5_5 ((8 * p1) + x5_5) (v_values ((8 * p1) + x5_5).toNatClampNeg) x5_3)) else (ob_iv ((8 * p1) + x5_5) 504 (f_M_from_J61 p1 v_fields v_owner v_parent v_sort v_classes1 k5 p2 v_sets v_dSets x5_5 ((8 * p1) + x5_5) (v_dValues ((8 * p1) + x5_5).toNatClampNeg) x5_3))))))
def f_M_from_L5 (v_fields : Int32) (p1 : Int32) (v_owner : Nat → Int32) (v_parent : Nat → Int32) (v_sort : Nat → Int32) (v_classes1 : Nat → Int32) (p2 : Int32) (v_sets : Nat → Int64) (v_dSets : Nat → Int64) (v_values : Nat → Int32) (v_dValues : Nat → Int32) : Nat → Int64 → Int32 → Option (Int64) := ob_lp2 (f_M_from_B5 v_fields p1 v_owner v_parent v_sort v_classes1 p2 v_sets v_dSets v_values v_dValues)
def f_M_from (v_fields : Int32) (v_classes1 : Nat → Int32) (v_owner : Nat → Int32) (v_parent : Nat → Int32) (v_sort : Nat → Int32) (v_sets : Nat → Int64) (v_dSets : Nat → Int64) (v_values : Nat → Int32) (v_dValues : Nat → Int32) (p1 : Int32) (p2 : Int32) : Option (Int64) := f_M_from_L5 v_fields p1 v_owner v_parent v_sort v_classes1 p2 v_sets v_dSets v_values v_dValues 1000 0 0
set_option maxHeartbeats 4000000 in
set_option maxRecDepth 100000 in
theorem c_M_from (l : Launch) (D : va_G) (G : Nat → ClassId) (a_t a_classes1 a_owner a_parent a_sort a_sets a_dSets a_values a_dValues a_aim a_indexClass a_indexPath a_dNames a_names a_draft a_lengths a_text a_classOfQuestion a_split a_steps a_what a_one a_two a_opened a_openedAt a_stands a_variable a_truth a_rest a_loopAt a_loopFound a_hits : Nat) (v_classes : Int32) (v_fields : Int32) (v_begun : Int32) (v_indexes : Int32) (v_made : Int32) (v_slotted : Int64) (v_half : Int32) (v_open : Int32) (v_known : Int64) (v_fresh : Int64) (v_changed : Int64) (v_renamed : Int32) (v_down : Int32) (v_armed : Int32) (v_written : Int32) (v_logged : Int32) (v_marked : Int32) (v_logSize : Int32) (v_drafted : Int32) (v_questions : Int32) (v_now : Int32) (v_at : Int32) (v_bad : Int32) (v_opens : Int32) (v_deep : Int32) (v_aimed : Int32) (v_truths : Int32) (v_loops : Int32) (v_valued : Int32) (v_value : Int32) (v_set : Int64) (v_latest : Int32) (v_fits : Int32) (v_total : Int64) (v_looked : Int32) (v_classes1 : Nat → Int32) (v_owner : Nat → Int32) (v_parent : Nat → Int32) (v_sort : Nat → Int32) (v_sets : Nat → Int64) (v_dSets : Nat → Int64) (v_values : Nat → Int32) (v_dValues : Nat → Int32) (p1 : Int32) (p2 : Int32) (o : Int64) (hf : f_M_from v_fields v_classes1 v_owner v_parent v_sort v_sets v_dSets v_values v_dValues p1 p2 = some o) (sz : Nat) : MetL l y_M_from ws_M_from ({ frames := 2, cells := 0, slots := 0, locals := 47 }) D (obT G) (cw_M_from G a_t a_classes1 a_owner a_parent a_sort a_sets a_dSets a_values a_dValues a_aim a_indexClass a_indexPath a_dNames a_names a_draft a_lengths a_text a_classOfQuestion a_split a_steps a_what a_one a_two a_opened a_openedAt a_stands a_variable a_truth a_rest a_loopAt a_loopFound a_hits v_classes v_fields v_begun v_indexes v_made v_slotted v_half v_open v_known v_fresh v_changed v_renamed v_down v_armed v_written v_logged v_marked v_logSize v_drafted v_questions v_now v_at v_bad v_opens v_deep v_aimed v_truths v_loops v_valued v_value v_set v_latest v_fits v_total v_looked v_classes1 v_owner v_parent v_sort v_sets v_dSets v_values v_dValues) (cw_M_from G a_t a_classes1 a_owner a_parent a_sort a_sets a_dSets a_values a_dValues a_aim a_indexClass a_indexPath a_dNames a_names a_draft a_lengths a_text a_classOfQuestion a_split a_steps a_what a_one a_two a_opened a_openedAt a_stands a_variable a_truth a_rest a_loopAt a_loopFound a_hits v_classes v_fields v_begun v_indexes v_made v_slotted v_half v_open v_known v_fresh v_changed v_renamed v_down v_armed v_written v_logged v_marked v_logSize v_drafted v_questions v_now v_at v_bad v_opens v_deep v_aimed v_truths v_loops v_valued v_value v_set v_latest v_fits v_total v_looked v_classes1 v_owner v_parent v_sort v_sets v_dSets v_values v_dValues) [.ref a_t, .int p1, .int p2] o sz := by
  refine ob_of (cc := bc_M_from) (maxL := 7) (ret := (some .long)) (Qc := ObQl D (obT G) (cw_M_from G a_t a_classes1 a_owner a_parent a_sort a_sets a_dSets a_values a_dValues a_aim a_indexClass a_indexPath a_dNames a_names a_draft a_lengths a_text a_classOfQuestion a_split a_steps a_what a_one a_two a_opened a_openedAt a_stands a_variable a_truth a_rest a_loopAt a_loopFound a_hits v_classes v_fields v_begun v_indexes v_made v_slotted v_half v_open v_known v_fresh v_changed v_renamed v_down v_armed v_written v_logged v_marked v_logSize v_drafted v_questions v_now v_at v_bad v_opens v_deep v_aimed v_truths v_loops v_valued v_value v_set v_latest v_fits v_total v_looked v_classes1 v_owner v_parent v_sort v_sets v_dSets v_values v_dValues) o) (by decide) rfl (Nat.le_of_ble_eq_true rfl) ?_
  intro p e s m below meth c A ls H locs hx hb hr hml hts hown hlk hnm hZ hP hK hD hA hS hl
  have hret : ∀ (o' : Int64) (H : Heap) (locs : List Loc) (pc : Nat) (ls : Array Slot), some o' = some o → va_P D vwCl (cw_M_from G a_t a_classes1 a_owner a_parent a_sort a_sets a_dSets a_values a_dValues a_aim a_indexClass a_indexPath a_dNames a_names a_draft a_lengths a_text a_classOfQuestion a_split a_steps a_what a_one a_two a_opened a_openedAt a_stands a_variable a_truth a_rest a_loopAt a_loopFound a_hits v_classes v_fields v_begun v_indexes v_made v_slotted v_half v_open v_known v_fresh v_changed v_renamed v_down v_armed v_written v_logged v_marked v_logSize v_drafted v_questions v_now v_at v_bad v_opens v_deep v_aimed v_truths v_loops v_valued v_value v_set v_latest v_fits v_total v_looked v_classes1 v_owner v_parent v_sort v_sets v_dSets v_values v_dValues) H → va_D A (cw_M_from G a_t a_classes1 a_owner a_parent a_sort a_sets a_dSets a_values a_dValues a_aim a_indexClass a_indexPath a_dNames a_names a_draft a_lengths a_text a_classOfQuestion a_split a_steps a_what a_one a_two a_opened a_openedAt a_stands a_variable a_truth a_rest a_loopAt a_loopFound a_hits v_classes v_fields v_begun v_indexes v_made v_slotted v_half v_open v_known v_fresh v_changed v_renamed v_down v_armed v_written v_logged v_marked v_logSize v_drafted v_questions v_now v_at v_bad v_opens v_deep v_aimed v_truths v_loops v_valued v_value v_set v_latest v_fits v_total v_looked v_classes1 v_owner v_parent v_sort v_sets v_dSets v_values v_dValues) → va_S A s.heap H locs → decode bc_M_from pc = .ok (.lreturn, 1) → W p l e { frames := 2, cells := 0, slots := 0, locals := 47 } s m ([.ref a_t, .int p1, .int p2] : List Value).toArray below meth c H locs 0 0 (MQ below (ObQl D (obT G) (cw_M_from G a_t a_classes1 a_owner a_parent a_sort a_sets a_dSets a_values a_dValues a_aim a_indexClass a_indexPath a_dNames a_names a_draft a_lengths a_text a_classOfQuestion a_split a_steps a_what a_one a_two a_opened a_openedAt a_stands a_variable a_truth a_rest a_loopAt a_loopFound a_hits v_classes v_fields v_begun v_indexes v_made v_slotted v_half v_open v_known v_fresh v_changed v_renamed v_down v_armed v_written v_logged v_marked v_logSize v_drafted v_questions v_now v_at v_bad v_opens v_deep v_aimed v_truths v_loops v_valued v_value v_set v_latest v_fits v_total v_looked v_classes1 v_owner v_parent v_sort v_sets v_dSets v_values v_dValues) o A) ([.ref a_t, .int p1, .int p2] : List Value).toArray s 0 0 A) (F0 m pc ls [.long o']) := by
    intro o' H locs pc ls he hP hD hS hd
    obtain rfl := Option.some.inj he
    exact ob_lret hx hb hr hlk hK hP hD hS hd
  generalize MQ below (ObQl D (obT G) (cw_M_from G a_t a_classes1 a_owner a_parent a_sort a_sets a_dSets a_values a_dValues a_aim a_indexClass a_indexPath a_dNames a_names a_draft a_lengths a_text a_classOfQuestion a_split a_steps a_what a_one a_two a_opened a_openedAt a_stands a_variable a_truth a_rest a_loopAt a_loopFound a_hits v_classes v_fields v_begun v_indexes v_made v_slotted v_half v_open v_known v_fresh v_changed v_renamed v_down v_armed v_written v_logged v_marked v_logSize v_drafted v_questions v_now v_at v_bad v_opens v_deep v_aimed v_truths v_loops v_valued v_value v_set v_latest v_fits v_total v_looked v_classes1 v_owner v_parent v_sort v_sets v_dSets v_values v_dValues) o A) ([.ref a_t, .int p1, .int p2] : List Value).toArray s 0 0 A = Q at hret ⊢
  have hl : lv_has ls 7 [(0, .ref a_t), (1, .int p1), (2, .int p2)] := hl
  unfold f_M_from at hf
  have loop5 : ∀ (n5 : Nat) (x5_3 : Int64) (x5_5 : Int32) (ls : Array Slot) (H : Heap) (locs : List Loc), lv_has ls 7 [(0, .ref a_t), (1, .int p1), (2, .int p2), (3, .long x5_3), (5, .int x5_5)] → va_P D vwCl (cw_M_from G a_t a_classes1 a_owner a_parent a_sort a_sets a_dSets a_values a_dValues a_aim a_indexClass a_indexPath a_dNames a_names a_draft a_lengths a_text a_classOfQuestion a_split a_steps a_what a_one a_two a_opened a_openedAt a_stands a_variable a_truth a_rest a_loopAt a_loopFound a_hits v_classes v_fields v_begun v_indexes v_made v_slotted v_half v_open v_known v_fresh v_changed v_renamed v_down v_armed v_written v_logged v_marked v_logSize v_drafted v_questions v_now v_at v_bad v_opens v_deep v_aimed v_truths v_loops v_valued v_value v_set v_latest v_fits v_total v_looked v_classes1 v_owner v_parent v_sort v_sets v_dSets v_values v_dValues) H → va_D A (cw_M_from G a_t a_classes1 a_owner a_parent a_sort a_sets a_dSets a_values a_dValues a_aim a_indexClass a_indexPath a_dNames a_names a_draft a_lengths a_text a_classOfQuestion a_split a_steps a_what a_one a_two a_opened a_openedAt a_stands a_variable a_truth a_rest a_loopAt a_loopFound a_hits v_classes v_fields v_begun v_indexes v_made v_slotted v_half v_open v_known v_fresh v_changed v_renamed v_down v_armed v_written v_logged v_marked v_logSize v_drafted v_questions v_now v_at v_bad v_opens v_deep v_aimed v_truths v_loops v_valued v_value v_set v_latest v_fits v_total v_looked v_classes1 v_owner v_parent v_sort v_sets v_dSets v_values v_dValues) → va_S A s.heap H locs → f_M_from_L5 v_fields p1 v_owner v_parent v_sort v_classes1 p2 v_sets v_dSets v_values v_dValues n5 x5_3 x5_5 = some o → W p l e ({ frames := 2, cells := 0, slots := 0, locals := 47 }) s m ([.ref a_t, .int p1, .int p2] : List Value).toArray below meth c H locs 0 0 Q (F0 m 5 ls []) := by
    intro n5
    induction n5 with
    | zero => intro x5_3 x5_5 ls H locs hl hP hD hS hf; exact ob_no hf
    | succ n5 ih5 =>
      intro x5_3 x5_5 ls H locs hl hP hD hS hf
      have hf : f_M_from_B5 v_fields p1 v_owner v_parent v_sort v_classes1 p2 v_sets v_dSets v_values v_dValues (f_M_from_L5 v_fields p1 v_owner v_parent v_sort v_classes1 p2 v_sets v_dSets v_values v_dValues n5) x5_3 x5_5 = some o := hf
      unfold f_M_from_B5 at hf
      have blk66 : ∀ (x66_3 : Int64) (x66_5 : Int32) (x66_6 : Int32) (ls : Array Slot) (H : Heap) (locs : List Loc), lv_has ls 7 [(0, .ref a_t), (1, .int p1), (2, .int p2), (3, .long x66_3), (5, .int x66_5), (6, .int x66_6)] → va_P D vwCl (cw_M_from G a_t a_classes1 a_owner a_parent a_sort a_sets a_dSets a_values a_dValues a_aim a_indexClass a_indexPath a_dNames a_names a_draft a_lengths a_text a_classOfQuestion a_split a_steps a_what a_one a_two a_opened a_openedAt a_stands a_variable a_truth a_rest a_loopAt a_loopFound a_hits v_classes v_fields v_begun v_indexes v_made v_slotted v_half v_open v_known v_fresh v_changed v_renamed v_down v_armed v_written v_logged v_marked v_logSize v_drafted v_questions v_now v_at v_bad v_opens v_deep v_aimed v_truths v_loops v_valued v_value v_set v_latest v_fits v_total v_looked v_classes1 v_owner v_parent v_sort v_sets v_dSets v_values v_dValues) H → va_D A (cw_M_from G a_t a_classes1 a_owner a_parent a_sort a_sets a_dSets a_values a_dValues a_aim a_indexClass a_indexPath a_dNames a_names a_draft a_lengths a_text a_classOfQuestion a_split a_steps a_what a_one a_two a_opened a_openedAt a_stands a_variable a_truth a_rest a_loopAt a_loopFound a_hits v_classes v_fields v_begun v_indexes v_made v_slotted v_half v_open v_known v_fresh v_changed v_renamed v_down v_armed v_written v_logged v_marked v_logSize v_drafted v_questions v_now v_at v_bad v_opens v_deep v_aimed v_truths v_loops v_valued v_value v_set v_latest v_fits v_total v_looked v_classes1 v_owner v_parent v_sort v_sets v_dSets v_values v_dValues) → va_S A s.heap H locs → f_M_from_J66 p1 v_fields v_owner v_parent v_sort v_classes1 (f_M_from_L5 v_fields p1 v_owner v_parent v_sort v_classes1 p2 v_sets v_dSets v_values v_dValues n5) p2 v_sets v_dSets x66_3 x66_5 x66_6 = some o → W p l e ({ frames := 2, cells := 0, slots := 0, locals := 47 }) s m ([.ref a_t, .int p1, .int p2] : List Value).toArray below meth c H locs 0 0 Q (F0 m 66 ls []) := by
        intro x66_3 x66_5 x66_6 ls H locs hl hP hD hS hf
        unfold f_M_from_J66 at hf
        refine lv_aload_n hx hb d_M_from_66 rfl (lv_at hl 0 rfl) ?_
        refine lv_aload_n hx hb d_M_from_67 rfl (lv_at hl 0 rfl) ?_
        refine va_get (D := D) (ci := 11) (v := .ref a_classes1) (C := "ObjectBaseModel") (T := TC_M) (N := 66) hx hb hts inC_M hown hK hP 0 rfl rfl 11 (by decide) (hts _ tw798) (fun _ h9 => h9) rfl d_M_from_68 ?_
        refine lv_iload_n hx hb d_M_from_71 rfl (lv_at hl 1 rfl) ?_
        obtain ⟨hg72, hf⟩ := ob_iv_g hf
        refine va_iald hx hb hK hP 1 0 rfl rfl hg72 d_M_from_72 ?_
        refine lv_iload hx hb d_M_from_73 (lv_at hl 4 rfl) ?_
        refine lv_iconst (v := 2) hx hb d_M_from_75 (by decide) ?_
        obtain ⟨o76, ho76, hf⟩ := ob_b hf
        refine ob_calli (w2 := (cw_M_from G a_t a_classes1 a_owner a_parent a_sort a_sets a_dSets a_values a_dValues a_aim a_indexClass a_indexPath a_dNames a_names a_draft a_lengths a_text a_classOfQuestion a_split a_steps a_what a_one a_two a_opened a_openedAt a_stands a_variable a_truth a_rest a_loopAt a_loopFound a_hits v_classes v_fields v_begun v_indexes v_made v_slotted v_half v_open v_known v_fresh v_changed v_renamed v_down v_armed v_written v_logged v_marked v_logSize v_drafted v_questions v_now v_at v_bad v_opens v_deep v_aimed v_truths v_loops v_valued v_value v_set v_latest v_fits v_total v_looked v_classes1 v_owner v_parent v_sort v_sets v_dSets v_values v_dValues)) (va_runV (As := [.int (v_classes1 p1.toNatClampNeg), .int x66_5, .int 2]) (rest := []) ⟨hx, hb, hml, hown, hts⟩ (c_M_has l D G a_t a_owner a_parent a_sort a_aim a_indexClass a_indexPath a_classes1 a_dValues a_dSets a_dNames a_values a_sets a_names a_draft a_lengths a_text a_classOfQuestion a_split a_steps a_what a_one a_two a_opened a_openedAt a_stands a_variable a_truth a_rest a_loopAt a_loopFound a_hits v_classes v_fields v_begun v_indexes v_made v_slotted v_half v_open v_known v_fresh v_changed v_renamed v_down v_armed v_written v_logged v_marked v_logSize v_drafted v_questions v_now v_at v_bad v_opens v_deep v_aimed v_truths v_loops v_valued v_value v_set v_latest v_fits v_total v_looked v_owner v_parent v_sort (v_classes1 p1.toNatClampNeg) x66_5 2 o76 ho76 H.size) (cwV 3 hts (gV tw1003 tw1005 tp29 tw11 tw1006) rfl rfl rfl (by decide +kernel) ⟨Nat.le_of_ble_eq_true rfl, Nat.le_of_ble_eq_true rfl⟩) (ob_preV (q0 := 0) (ci := 11) hZ hK hP hD [0, 2, 3, 4] rfl rfl rfl rfl rfl) rfl rfl hl.1 rfl (lv_room (Nat.le_of_ble_eq_true rfl)) d_M_from_76 ⟨Nat.le_refl _, Nat.le_refl _⟩) hP hD hA hS [0, 2, 3, 4] rfl rfl rfl rfl (fun H locs hP hD hS => ?_)
        refine lv_if_eq (tgt := 106) hx hb d_M_from_79 (by decide) (fun hc79 => ?_) (fun hc79 => ?_)
        · have hf := ob_t hc79 hf
          refine lv_iinc (k := 4) (v := x66_5 + 1) (lv' := [(5, .int (x66_5 + 1)), (0, .ref a_t), (1, .int p1), (2, .int p2), (3, .long x66_3), (6, .int x66_6)]) hx hb d_M_from_106 hl rfl (by rw [show Int32.ofInt 1 = (1 : Int32) from by decide]) (by decide) rfl (fun ls hl => ?_)
          refine lv_goto (tgt := 5) hx hb d_M_from_109 (by decide) ?_
          exact ih5 x66_3 (x66_5 + 1) ls H locs (lv_sub hl [1, 2, 3, 4, 0] rfl) hP hD hS hf
        · have hf := ob_f hc79 hf
          refine lv_lload_n hx hb d_M_from_82 rfl (lv_at hl 3 rfl) ?_
          refine lv_iload_n hx hb d_M_from_83 rfl (lv_at hl 2 rfl) ?_
          refine lv_if_eq (tgt := 97) hx hb d_M_from_84 (by decide) (fun hc84 => ?_) (fun hc84 => ?_)
          · have hf := ob_t hc84 hf
            refine lv_aload_n hx hb d_M_from_97 rfl (lv_at hl 0 rfl) ?_
            refine va_get (D := D) (ci := 11) (v := .ref a_sets) (C := "ObjectBaseModel") (T := TC_M) (N := 66) hx hb hts inC_M hown hK hP 0 rfl rfl 16 (by decide) (hts _ tw803) (fun _ h9 => h9) rfl d_M_from_98 ?_
            refine lv_iload hx hb d_M_from_101 (lv_at hl 5 rfl) ?_
            obtain ⟨hg103, hf⟩ := ob_iv_g hf
            refine va_lald hx hb hK hP 5 1 rfl rfl hg103 d_M_from_103 ?_
            refine lv_lor hx hb d_M_from_104 ?_
            refine lv_lstore_n (lv' := [(3, .long (x66_3 ||| (v_sets x66_6.toNatClampNeg))), (0, .ref a_t), (1, .int p1), (2, .int p2), (5, .int x66_5), (6, .int x66_6)]) hx hb d_M_from_105 rfl hl (by decide) rfl (fun ls hl => ?_)
            refine lv_iinc (k := 4) (v := x66_5 + 1) (lv' := [(5, .int (x66_5 + 1)), (3, .long (x66_3 ||| (v_sets x66_6.toNatClampNeg))), (0, .ref a_t), (1, .int p1), (2, .int p2), (6, .int x66_6)]) hx hb d_M_from_106 hl rfl (by rw [show Int32.ofInt 1 = (1 : Int32) from by decide]) (by decide) rfl (fun ls hl => ?_)
            refine lv_goto (tgt := 5) hx hb d_M_from_109 (by decide) ?_
            exact ih5 (x66_3 ||| (v_sets x66_6.toNatClampNeg)) (x66_5 + 1) ls H locs (lv_sub hl [2, 3, 4, 1, 0] rfl) hP hD hS hf
          · have hf := ob_f hc84 hf
            refine lv_aload_n hx hb d_M_from_87 rfl (lv_at hl 0 rfl) ?_
            refine va_get (D := D) (ci := 11) (v := .ref a_dSets) (C := "ObjectBaseModel") (T := TC_M) (N := 66) hx hb hts inC_M hown hK hP 0 rfl rfl 13 (by decide) (hts _ tw800) (fun _ h9 => h9) rfl d_M_from_88 ?_
            refine lv_iload hx hb d_M_from_91 (lv_at hl 5 rfl) ?_
            obtain ⟨hg93, hf⟩ := ob_iv_g hf
            refine va_lald hx hb hK hP 6 1 rfl rfl hg93 d_M_from_93 ?_
            refine lv_goto (tgt := 104) hx hb d_M_from_94 (by decide) ?_
            refine lv_lor hx hb d_M_from_104 ?_
            refine lv_lstore_n (lv' := [(3, .long (x66_3 ||| (v_dSets x66_6.toNatClampNeg))), (0, .ref a_t), (1, .int p1), (2, .int p2), (5, .int x66_5), (6, .int x66_6)]) hx hb d_M_from_105 rfl hl (by decide) rfl (fun ls hl => ?_)
            refine lv_iinc (k := 4) (v := x66_5 + 1) (lv' := [(5, .int (x66_5 + 1)), (3, .long (x66_3 ||| (v_dSets x66_6.toNatClampNeg))), (0, .ref a_t), (1, .int p1), (2, .int p2), (6, .int x66_6)]) hx hb d_M_from_106 hl rfl (by rw [show Int32.ofInt 1 = (1 : Int32) from by decide]) (by decide) rfl (fun ls hl => ?_)
            refine lv_goto (tgt := 5) hx hb d_M_from_109 (by decide) ?_
            exact ih5 (x66_3 ||| (v_dSets x66_6.toNatClampNeg)) (x66_5 + 1) ls H locs (lv_sub hl [2, 3, 4, 1, 0] rfl) hP hD hS hf
      have blk61 : ∀ (x61_5 : Int32) (x61_6 : Int32) (y61_0 : Int32) (y61_1 : Int64) (ls : Array Slot) (H : Heap) (locs : List Loc), lv_has ls 7 [(0, .ref a_t), (1, .int p1), (2, .int p2), (5, .int x61_5), (6, .int x61_6)] → va_P D vwCl (cw_M_from G a_t a_classes1 a_owner a_parent a_sort a_sets a_dSets a_values a_dValues a_aim a_indexClass a_indexPath a_dNames a_names a_draft a_lengths a_text a_classOfQuestion a_split a_steps a_what a_one a_two a_opened a_openedAt a_stands a_variable a_truth a_rest a_loopAt a_loopFound a_hits v_classes v_fields v_begun v_indexes v_made v_slotted v_half v_open v_known v_fresh v_changed v_renamed v_down v_armed v_written v_logged v_marked v_logSize v_drafted v_questions v_now v_at v_bad v_opens v_deep v_aimed v_truths v_loops v_valued v_value v_set v_latest v_fits v_total v_looked v_classes1 v_owner v_parent v_sort v_sets v_dSets v_values v_dValues) H → va_D A (cw_M_from G a_t a_classes1 a_owner a_parent a_sort a_sets a_dSets a_values a_dValues a_aim a_indexClass a_indexPath a_dNames a_names a_draft a_lengths a_text a_classOfQuestion a_split a_steps a_what a_one a_two a_opened a_openedAt a_stands a_variable a_truth a_rest a_loopAt a_loopFound a_hits v_classes v_fields v_begun v_indexes v_made v_slotted v_half v_open v_known v_fresh v_changed v_renamed v_down v_armed v_written v_logged v_marked v_logSize v_drafted v_questions v_now v_at v_bad v_opens v_deep v_aimed v_truths v_loops v_valued v_value v_set v_latest v_fits v_total v_looked v_classes1 v_owner v_parent v_sort v_sets v_dSets v_values v_dValues) → va_S A s.heap H locs → f_M_from_J61 p1 v_fields v_owner v_parent v_sort v_classes1 (f_M_from_L5 v_fields p1 v_owner v_parent v_sort v_classes1 p2 v_sets v_dSets v_values v_dValues n5) p2 v_sets v_dSets x61_5 x61_6 y61_0 y61_1 = some o → W p l e ({ frames := 2, cells := 0, slots := 0, locals := 47 }) s m ([.ref a_t, .int p1, .int p2] : List Value).toArray below meth c H locs 0 0 Q (F0 m 61 ls [.int y61_0, .long y61_1]) := by
        intro x61_5 x61_6 y61_0 y61_1 ls H locs hl hP hD hS hf
        unfold f_M_from_J61 at hf
        obtain ⟨o61, ho61, hf⟩ := ob_b hf
        refine ob_calll (w2 := (cw_M_from G a_t a_classes1 a_owner a_parent a_sort a_sets a_dSets a_values a_dValues a_aim a_indexClass a_indexPath a_dNames a_names a_draft a_lengths a_text a_classOfQuestion a_split a_steps a_what a_one a_two a_opened a_openedAt a_stands a_variable a_truth a_rest a_loopAt a_loopFound a_hits v_classes v_fields v_begun v_indexes v_made v_slotted v_half v_open v_known v_fresh v_changed v_renamed v_down v_armed v_written v_logged v_marked v_logSize v_drafted v_questions v_now v_at v_bad v_opens v_deep v_aimed v_truths v_loops v_valued v_value v_set v_latest v_fits v_total v_looked v_classes1 v_owner v_parent v_sort v_sets v_dSets v_values v_dValues)) (va_runS (As := [.int y61_0]) (rest := [.long y61_1]) ⟨hx, hb, hml, hown, hts⟩ (c_M_bit l D G  y61_0 o61 ho61 H.size) (va_cwS 1 hts (gS tw1019 tw1020 tw11 tw1021) rfl rfl rfl (by decide +kernel) ⟨Nat.le_of_ble_eq_true rfl, Nat.le_of_ble_eq_true rfl⟩) (ob_preS hZ hK hP hD [] rfl rfl) rfl rfl hl.1 rfl (lv_room (Nat.le_of_ble_eq_true rfl)) d_M_from_61 ⟨Nat.le_refl _, Nat.le_refl _⟩) hP hD hA hS [] rfl rfl rfl rfl (fun H locs hP hD hS => ?_)
        refine lv_lor hx hb d_M_from_64 ?_
        refine lv_lstore_n (lv' := [(3, .long (y61_1 ||| o61)), (0, .ref a_t), (1, .int p1), (2, .int p2), (5, .int x61_5), (6, .int x61_6)]) hx hb d_M_from_65 rfl hl (by decide) rfl (fun ls hl => ?_)
        exact blk66 (y61_1 ||| o61) x61_5 x61_6 ls H locs (lv_sub hl [1, 2, 3, 0, 4, 5] rfl) hP hD hS hf
      refine lv_iload hx hb d_M_from_5 (lv_at hl 4 rfl) ?_
      refine lv_aload_n hx hb d_M_from_7 rfl (lv_at hl 0 rfl) ?_
      refine va_get (D := D) (ci := 11) (v := .int v_fields) (C := "ObjectBaseModel") (T := TC_M) (N := 66) hx hb hts inC_M hown hK hP 0 rfl rfl 2 (by decide) (hts _ tw789) (fun _ h9 => h9) rfl d_M_from_8 ?_
      refine lv_icmp_ge (tgt := 112) hx hb d_M_from_11 (by decide) (fun hc11 => ?_) (fun hc11 => ?_)
      · have hf := ob_t hc11 hf
        refine lv_lload_n hx hb d_M_from_112 rfl (lv_at hl 3 rfl) ?_
        exact hret x5_3 H locs _ ls hf hP hD hS d_M_from_113
      · have hf := ob_f hc11 hf
        refine lv_bipush (v := 8) hx hb d_M_from_14 (by decide) ?_
        refine lv_iload_n hx hb d_M_from_16 rfl (lv_at hl 1 rfl) ?_
        refine lv_imul hx hb d_M_from_17 ?_
        refine lv_iload hx hb d_M_from_18 (lv_at hl 4 rfl) ?_
        refine lv_iadd hx hb d_M_from_20 ?_
        refine lv_istore (lv' := [(6, .int ((8 * p1) + x5_5)), (0, .ref a_t), (1, .int p1), (2, .int p2), (3, .long x5_3), (5, .int x5_5)]) hx hb d_M_from_21 hl (by decide) rfl (fun ls hl => ?_)
        refine lv_aload_n hx hb d_M_from_23 rfl (lv_at hl 1 rfl) ?_
        refine lv_aload_n hx hb d_M_from_24 rfl (lv_at hl 1 rfl) ?_
        refine va_get (D := D) (ci := 11) (v := .ref a_classes1) (C := "ObjectBaseModel") (T := TC_M) (N := 66) hx hb hts inC_M hown hK hP 0 rfl rfl 11 (by decide) (hts _ tw798) (fun _ h9 => h9) rfl d_M_from_25 ?_
        refine lv_iload_n hx hb d_M_from_28 rfl (lv_at hl 2 rfl) ?_
        obtain ⟨hg29, hf⟩ := ob_iv_g hf
        refine va_iald hx hb hK hP 1 0 rfl rfl hg29 d_M_from_29 ?_
        refine lv_iload hx hb d_M_from_30 (lv_at hl 5 rfl) ?_
        refine lv_iconst (v := 1) hx hb d_M_from_32 (by decide) ?_
        obtain ⟨o33, ho33, hf⟩ := ob_b hf
        refine ob_calli (w2 := (cw_M_from G a_t a_classes1 a_owner a_parent a_sort a_sets a_dSets a_values a_dValues a_aim a_indexClass a_indexPath a_dNames a_names a_draft a_lengths a_text a_classOfQuestion a_split a_steps a_what a_one a_two a_opened a_openedAt a_stands a_variable a_truth a_rest a_loopAt a_loopFound a_hits v_classes v_fields v_begun v_indexes v_made v_slotted v_half v_open v_known v_fresh v_changed v_renamed v_down v_armed v_written v_logged v_marked v_logSize v_drafted v_questions v_now v_at v_bad v_opens v_deep v_aimed v_truths v_loops v_valued v_value v_set v_latest v_fits v_total v_looked v_classes1 v_owner v_parent v_sort v_sets v_dSets v_values v_dValues)) (va_runV (As := [.int (v_classes1 p1.toNatClampNeg), .int x5_5, .int 1]) (rest := []) ⟨hx, hb, hml, hown, hts⟩ (c_M_has l D G a_t a_owner a_parent a_sort a_aim a_indexClass a_indexPath a_classes1 a_dValues a_dSets a_dNames a_values a_sets a_names a_draft a_lengths a_text a_classOfQuestion a_split a_steps a_what a_one a_two a_opened a_openedAt a_stands a_variable a_truth a_rest a_loopAt a_loopFound a_hits v_classes v_fields v_begun v_indexes v_made v_slotted v_half v_open v_known v_fresh v_changed v_renamed v_down v_armed v_written v_logged v_marked v_logSize v_drafted v_questions v_now v_at v_bad v_opens v_deep v_aimed v_truths v_loops v_valued v_value v_set v_latest v_fits v_total v_looked v_owner v_parent v_sort (v_classes1 p1.toNatClampNeg) x5_5 1 o33 ho33 H.size) (cwV 3 hts (gV tw1003 tw1005 tp29 tw11 tw1006) rfl rfl rfl (by decide +kernel) ⟨Nat.le_of_ble_eq_true rfl, Nat.le_of_ble_eq_true rfl⟩) (ob_preV (q0 := 0) (ci := 11) hZ hK hP hD [0, 2, 3, 4] rfl rfl rfl rfl rfl) rfl rfl hl.1 rfl (lv_room (Nat.le_of_ble_eq_true rfl)) d_M_from_33 ⟨Nat.le_refl _, Nat.le_refl _⟩) hP hD hA hS [0, 2, 3, 4] rfl rfl rfl rfl (fun H locs hP hD hS => ?_)
        refine lv_if_eq (tgt := 66) hx hb d_M_from_36 (by decide) (fun hc36 => ?_) (fun hc36 => ?_)
        · have hf := ob_t hc36 hf
          exact blk66 x5_3 x5_5 ((8 * p1) + x5_5) ls H locs (lv_sub hl [1, 2, 3, 4, 5, 0] rfl) hP hD hS hf
        · have hf := ob_f hc36 hf
          refine lv_lload_n hx hb d_M_from_39 rfl (lv_at hl 4 rfl) ?_
          refine lv_iload_n hx hb d_M_from_40 rfl (lv_at hl 3 rfl) ?_
          refine lv_if_eq (tgt := 54) hx hb d_M_from_41 (by decide) (fun hc41 => ?_) (fun hc41 => ?_)
          · have hf := ob_t hc41 hf
            refine lv_aload_n hx hb d_M_from_54 rfl (lv_at hl 1 rfl) ?_
            refine va_get (D := D) (ci := 11) (v := .ref a_values) (C := "ObjectBaseModel") (T := TC_M) (N := 66) hx hb hts inC_M hown hK hP 0 rfl rfl 15 (by decide) (hts _ tw802) (fun _ h9 => h9) rfl d_M_from_55 ?_
            refine lv_iload hx hb d_M_from_58 (lv_at hl 0 rfl) ?_
            obtain ⟨hg60, hf⟩ := ob_iv_g hf
            refine va_iald hx hb hK hP 7 0 rfl rfl hg60 d_M_from_60 ?_
            exact blk61 x5_5 ((8 * p1) + x5_5) (v_values ((8 * p1) + x5_5).toNatClampNeg) x5_3 ls H locs (lv_sub hl [1, 2, 3, 5, 0] rfl) hP hD hS hf
          · have hf := ob_f hc41 hf
            refine lv_aload_n hx hb d_M_from_44 rfl (lv_at hl 1 rfl) ?_
            refine va_get (D := D) (ci := 11) (v := .ref a_dValues) (C := "ObjectBaseModel") (T := TC_M) (N := 66) hx hb hts inC_M hown hK hP 0 rfl rfl 12 (by decide) (hts _ tw799) (fun _ h9 => h9) rfl d_M_from_45 ?_
            refine lv_iload hx hb d_M_from_48 (lv_at hl 0 rfl) ?_
            obtain ⟨hg50, hf⟩ := ob_iv_g hf
            refine va_iald hx hb hK hP 8 0 rfl rfl hg50 d_M_from_50 ?_
            refine lv_goto (tgt := 61) hx hb d_M_from_51 (by decide) ?_
            exact blk61 x5_5 ((8 * p1) + x5_5) (v_dValues ((8 * p1) + x5_5).toNatClampNeg) x5_3 ls H locs (lv_sub hl [1, 2, 3, 5, 0] rfl) hP hD hS hf
  refine lv_lconst (v := 0) hx hb d_M_from_0 (by decide) ?_
  refine lv_lstore_n (lv' := [(3, .long 0), (0, .ref a_t), (1, .int p1), (2, .int p2)]) hx hb d_M_from_1 rfl hl (by decide) rfl (fun ls hl => ?_)
  refine lv_iconst (v := 0) hx hb d_M_from_2 (by decide) ?_
  refine lv_istore (lv' := [(5, .int 0), (3, .long 0), (0, .ref a_t), (1, .int p1), (2, .int p2)]) hx hb d_M_from_3 hl (by decide) rfl (fun ls hl => ?_)
  exact loop5 1000 0 0 ls H locs (lv_sub hl [2, 3, 4, 1, 0] rfl) hP hD hS hf
