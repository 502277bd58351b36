set_option maxHeartbeats 1000000 in
set_option maxRecDepth 100000 in
theorem law_0 {p : Program} {e : Env} {s : State} {m : MethodId} {below : List Frame} {meth : Method} {c : Code} {b : Nat} {xs : Nat → Int32} {D : va_G} {G : Nat → ClassId} {A : Nat → Prop} {a_x x0 x1 x2 x3 x4 x5 x6 x7 x8 x9 x10 x11 x12 x13 x14 x15 x16 x17 x18 x19 x20 x21 x22 x23 x24 x25 a_m m0 m1 m2 m3 m4 m5 m6 m7 m8 m9 m10 m11 m12 m13 m14 m15 m16 m17 m18 m19 m20 m21 m22 m23 m24 m25 m26 m27 m28 m29 m30 : Nat} {ls : Array Slot} {H : Heap} {locs : List Loc} (l : Launch) (hx : p.tables.exec = Jvm.exec) (hb : c.code = code) (hml : c.maxLocals = 4) (hown : s.vm.findClass "ObjectBaseLaw" = some m.cls) (hts : ∀ w ∈ obW, w.before #[Value.ref b] s = true) (hZ : obZ s) (hK : va_K D vwCl (obT G) s) (hA : ∀ q, s.heap.size ≤ q → A q) (hX : va_X b 5 xs s s.heap) (hbl : b < s.heap.size) (hbA : ¬ A b) (hP : va_P D vwCl (lw_w G a_x x0 x1 x2 x3 x4 x5 x6 x7 x8 x9 x10 x11 x12 x13 x14 x15 x16 x17 x18 x19 x20 x21 x22 x23 x24 x25 a_m m0 m1 m2 m3 m4 m5 m6 m7 m8 m9 m10 m11 m12 m13 m14 m15 m16 m17 m18 m19 m20 m21 m22 m23 m24 m25 m26 m27 m28 m29 m30) H) (hD : va_D A (lw_w G a_x x0 x1 x2 x3 x4 x5 x6 x7 x8 x9 x10 x11 x12 x13 x14 x15 x16 x17 x18 x19 x20 x21 x22 x23 x24 x25 a_m m0 m1 m2 m3 m4 m5 m6 m7 m8 m9 m10 m11 m12 m13 m14 m15 m16 m17 m18 m19 m20 m21 m22 m23 m24 m25 m26 m27 m28 m29 m30)) (hS : va_S A s.heap H locs) (hl : lv_has ls 4 [(3, .int 0), (2, .ref a_m), (1, .ref a_x), (0, .ref b)])
    (tailN : ∀ (ls : Array Slot) (H : Heap) (locs : List Loc) (cells slots : Nat), cells ≤ 600000 → slots ≤ 7302250 → lv_has ls 4 [(3, .int 0), (0, .ref b)] → va_S A s.heap H locs → W p l e room_1 s m #[Value.ref b] below meth c H locs cells slots (lw_Z below #[Value.ref b] s) (F0 m 877 ls [])) :
    W p l e room_1 s m #[Value.ref b] below meth c H locs 59 7221 (lw_Z below #[Value.ref b] s) (F0 m 152 ls []) := by
  refine lv_aload_n hx hb dL_152 rfl (lv_at hl 2 rfl) ?_
  refine lv_aload_n hx hb dL_153 rfl (lv_at hl 3 rfl) ?_
  refine lv_iload_n hx hb dL_154 rfl (lv_at hl 0 rfl) ?_
  refine lv_iconst (v := 1) hx hb dL_155 (by decide) ?_
  refine lv_iadd hx hb dL_156 ?_
  refine va_sld hx hb hX hbl hbA hS (vp_in_iff.mpr (by decide)) dL_157 ?_
  refine W.eq (g2 := F0 m 158 ls [.int (xs 1), .ref a_x]) (by rw [show ((0 : Int32) + 1).toNatClampNeg = 1 from by decide]) ?_
  obtain ⟨o1, o2, h1, h2, he⟩ := P_type (xs 1)
  have hRun := va_runV (R := room_1) (locs := locs) (H := H) (l := l) (e := e) (below := below) (meth := meth) (cells := 59) (slots := 7221) (g := F0 m 158 ls [.int (xs 1), .ref a_x]) (As := [.int (xs 1)]) (rest := []) ⟨hx, hb, hml, hown, hts⟩ (c_OB_type l D G a_x x8 x0 x1 x5 x9 x13 x18 x20 x21 x23 x25 x2 x3 x4 0 0 0 0 (-1) 0 0 0 0 0 0 (fun _ => 0) (xs 1) o1 h1 H.size) (cwV 1 hts (gV tw272 tw273 tw274 tw1 tw275) rfl rfl rfl (by decide +kernel) ⟨Nat.le_of_ble_eq_true rfl, Nat.le_of_ble_eq_true rfl⟩) (ob_preV (q0 := 0) (ci := 0) hZ hK hP hD [0, 9, 1, 2] rfl rfl rfl rfl rfl) rfl rfl hl.1 rfl (lv_room (Nat.le_of_ble_eq_true rfl)) dL_158 ⟨Nat.le_of_ble_eq_true rfl, Nat.le_of_ble_eq_true rfl⟩
  refine ob_dropi (wc := (cw_OB_type G a_x x8 x0 x1 x5 x9 x13 x18 x20 x21 x23 x25 x2 x3 x4 0 0 0 0 (-1) 0 0 0 0 0 0 (fun _ => 0))) (wc1 := (cw_OB_type G a_x x8 x0 x1 x5 x9 x13 x18 x20 x21 x23 x25 x2 x3 x4 0 0 0 0 (-1) 0 0 0 0 o1.2.1 0 o1.2.2)) (r := o1.1) (wr := (lw_m G a_m m0 m1 m2 m3 m4 m5 m6 m7 m8 m9 m10 m11 m12 m13 m14 m15 m16 m17 m18 m19 m20 m21 m22 m23 m24 m25 m26 m27 m28 m29 m30)) hRun hP hD hA hS [0, 9, 1, 2] [27, 28, 29, 30, 31, 32, 33, 34, 35, 36, 37, 38, 39, 40, 41, 42, 43, 44, 45, 46, 47, 48, 49, 50, 51, 52, 53, 54, 55, 56, 57, 58] rfl rfl rfl (by decide) (fun H locs hP hD hS => ?_)
  clear hRun
  refine lv_aload_n hx hb dL_161 rfl (lv_at hl 1 rfl) ?_
  refine lv_aload_n hx hb dL_162 rfl (lv_at hl 3 rfl) ?_
  refine lv_iload_n hx hb dL_163 rfl (lv_at hl 0 rfl) ?_
  refine lv_iconst (v := 1) hx hb dL_164 (by decide) ?_
  refine lv_iadd hx hb dL_165 ?_
  refine va_sld hx hb hX hbl hbA hS (vp_in_iff.mpr (by decide)) dL_166 ?_
  refine W.eq (g2 := F0 m 167 ls [.int (xs 1), .ref a_m, .int o1.1]) (by rw [show ((0 : Int32) + 1).toNatClampNeg = 1 from by decide]) ?_
  have hRun := va_runV (R := room_1) (locs := locs) (H := H) (l := l) (e := e) (below := below) (meth := meth) (cells := 59) (slots := 7221) (g := F0 m 167 ls [.int (xs 1), .ref a_m, .int o1.1]) (As := [.int (xs 1)]) (rest := [.int o1.1]) ⟨hx, hb, hml, hown, hts⟩ (c_M_type l D G a_m m0 m1 m2 m3 m4 m5 m6 m7 m8 m9 m10 m11 m12 m13 m14 m15 m16 m17 m18 m19 m20 m21 m22 m23 m24 m25 m26 m27 m28 m29 m30 0 0 0 0 0 0 0 0 0 0 0 0 0 (-1) 0 0 0 0 0 0 0 0 0 0 0 0 0 0 0 0 0 0 0 0 0 (fun _ => 0) (xs 1) o2 h2 H.size) (cwV 1 hts (gV tw987 tw988 tw989 tw11 tw990) rfl rfl rfl (by decide +kernel) ⟨Nat.le_of_ble_eq_true rfl, Nat.le_of_ble_eq_true rfl⟩) (ob_preV (q0 := 0) (ci := 11) hZ hK hP hD [0, 1] rfl rfl rfl rfl rfl) rfl rfl hl.1 rfl (lv_room (Nat.le_of_ble_eq_true rfl)) dL_167 ⟨Nat.le_of_ble_eq_true rfl, Nat.le_of_ble_eq_true rfl⟩
  refine ob_calli (wc := (cw_M_type G a_m m0 m1 m2 m3 m4 m5 m6 m7 m8 m9 m10 m11 m12 m13 m14 m15 m16 m17 m18 m19 m20 m21 m22 m23 m24 m25 m26 m27 m28 m29 m30 0 0 0 0 0 0 0 0 0 0 0 0 0 (-1) 0 0 0 0 0 0 0 0 0 0 0 0 0 0 0 0 0 0 0 0 0 (fun _ => 0))) (wc1 := (cw_M_type G a_m m0 m1 m2 m3 m4 m5 m6 m7 m8 m9 m10 m11 m12 m13 m14 m15 m16 m17 m18 m19 m20 m21 m22 m23 m24 m25 m26 m27 m28 m29 m30 o2.2.1 0 0 0 0 0 0 0 0 0 0 0 0 (-1) 0 0 0 0 0 0 0 0 0 0 0 0 0 0 0 0 0 0 0 0 0 o2.2.2)) (r := o2.1) hRun hP hD hA hS [0, 1] rfl rfl rfl rfl (fun H locs hP hD hS => ?_)
  clear hRun
  refine lv_icmp_eq (tgt := 877) hx hb dL_170 (by decide) (fun _ => ?_) (fun hc => absurd he hc)
  exact tailN ls H locs _ _ (Nat.le_of_ble_eq_true rfl) (Nat.le_of_ble_eq_true rfl) (lv_sub hl [0, 3] rfl) hS
set_option maxHeartbeats 1000000 in
set_option maxRecDepth 100000 in
theorem law_1 {p : Program} {e : Env} {s : State} {m : MethodId} {below : List Frame} {meth : Method} {c : Code} {b : Nat} {xs : Nat → Int32} {D : va_G} {G : Nat → ClassId} {A : Nat → Prop} {a_x x0 x1 x2 x3 x4 x5 x6 x7 x8 x9 x10 x11 x12 x13 x14 x15 x16 x17 x18 x19 x20 x21 x22 x23 x24 x25 a_m m0 m1 m2 m3 m4 m5 m6 m7 m8 m9 m10 m11 m12 m13 m14 m15 m16 m17 m18 m19 m20 m21 m22 m23 m24 m25 m26 m27 m28 m29 m30 : Nat} {ls : Array Slot} {H : Heap} {locs : List Loc} (l : Launch) (hx : p.tables.exec = Jvm.exec) (hb : c.code = code) (hml : c.maxLocals = 4) (hown : s.vm.findClass "ObjectBaseLaw" = some m.cls) (hts : ∀ w ∈ obW, w.before #[Value.ref b] s = true) (hZ : obZ s) (hK : va_K D vwCl (obT G) s) (hA : ∀ q, s.heap.size ≤ q → A q) (hX : va_X b 5 xs s s.heap) (hbl : b < s.heap.size) (hbA : ¬ A b) (hP : va_P D vwCl (lw_w G a_x x0 x1 x2 x3 x4 x5 x6 x7 x8 x9 x10 x11 x12 x13 x14 x15 x16 x17 x18 x19 x20 x21 x22 x23 x24 x25 a_m m0 m1 m2 m3 m4 m5 m6 m7 m8 m9 m10 m11 m12 m13 m14 m15 m16 m17 m18 m19 m20 m21 m22 m23 m24 m25 m26 m27 m28 m29 m30) H) (hD : va_D A (lw_w G a_x x0 x1 x2 x3 x4 x5 x6 x7 x8 x9 x10 x11 x12 x13 x14 x15 x16 x17 x18 x19 x20 x21 x22 x23 x24 x25 a_m m0 m1 m2 m3 m4 m5 m6 m7 m8 m9 m10 m11 m12 m13 m14 m15 m16 m17 m18 m19 m20 m21 m22 m23 m24 m25 m26 m27 m28 m29 m30)) (hS : va_S A s.heap H locs) (hl : lv_has ls 4 [(3, .int 0), (2, .ref a_m), (1, .ref a_x), (0, .ref b)])
    (tailN : ∀ (ls : Array Slot) (H : Heap) (locs : List Loc) (cells slots : Nat), cells ≤ 600000 → slots ≤ 7302250 → lv_has ls 4 [(3, .int 0), (0, .ref b)] → va_S A s.heap H locs → W p l e room_1 s m #[Value.ref b] below meth c H locs cells slots (lw_Z below #[Value.ref b] s) (F0 m 877 ls [])) :
    W p l e room_1 s m #[Value.ref b] below meth c H locs 59 7221 (lw_Z below #[Value.ref b] s) (F0 m 175 ls []) := by
  refine lv_aload_n hx hb dL_175 rfl (lv_at hl 2 rfl) ?_
  refine lv_aload_n hx hb dL_176 rfl (lv_at hl 3 rfl) ?_
  refine lv_iload_n hx hb dL_177 rfl (lv_at hl 0 rfl) ?_
  refine lv_iconst (v := 1) hx hb dL_178 (by decide) ?_
  refine lv_iadd hx hb dL_179 ?_
  refine va_sld hx hb hX hbl hbA hS (vp_in_iff.mpr (by decide)) dL_180 ?_
  refine W.eq (g2 := F0 m 181 ls [.int (xs 1), .ref a_x]) (by rw [show ((0 : Int32) + 1).toNatClampNeg = 1 from by decide]) ?_
  refine lv_aload_n hx hb dL_181 rfl (lv_at hl 3 rfl) ?_
  refine lv_iload_n hx hb dL_182 rfl (lv_at hl 0 rfl) ?_
  refine lv_iconst (v := 2) hx hb dL_183 (by decide) ?_
  refine lv_iadd hx hb dL_184 ?_
  refine va_sld hx hb hX hbl hbA hS (vp_in_iff.mpr (by decide)) dL_185 ?_
  refine W.eq (g2 := F0 m 186 ls [.int (xs 2), .int (xs 1), .ref a_x]) (by rw [show ((0 : Int32) + 2).toNatClampNeg = 2 from by decide]) ?_
  refine lv_aload_n hx hb dL_186 rfl (lv_at hl 3 rfl) ?_
  refine lv_iload_n hx hb dL_187 rfl (lv_at hl 0 rfl) ?_
  refine lv_iconst (v := 3) hx hb dL_188 (by decide) ?_
  refine lv_iadd hx hb dL_189 ?_
  refine va_sld hx hb hX hbl hbA hS (vp_in_iff.mpr (by decide)) dL_190 ?_
  refine W.eq (g2 := F0 m 191 ls [.int (xs 3), .int (xs 2), .int (xs 1), .ref a_x]) (by rw [show ((0 : Int32) + 3).toNatClampNeg = 3 from by decide]) ?_
  obtain ⟨o1, o2, h1, h2, he⟩ := P_field (xs 1) (xs 2) (xs 3)
  have hRun := va_runV (R := room_1) (locs := locs) (H := H) (l := l) (e := e) (below := below) (meth := meth) (cells := 59) (slots := 7221) (g := F0 m 191 ls [.int (xs 3), .int (xs 2), .int (xs 1), .ref a_x]) (As := [.int (xs 1), .int (xs 2), .int (xs 3)]) (rest := []) ⟨hx, hb, hml, hown, hts⟩ (c_OB_field l D G a_x x8 x0 x2 x3 x4 x5 x9 x13 x18 x20 x21 x23 x25 x1 0 0 0 0 (-1) 0 0 0 0 0 0 (fun _ => 0) (fun _ => 0) (fun _ => 0) (xs 1) (xs 2) (xs 3) o1 h1 H.size) (cwV 3 hts (gV tw284 tw285 tw286 tw1 tw287) rfl rfl rfl (by decide +kernel) ⟨Nat.le_of_ble_eq_true rfl, Nat.le_of_ble_eq_true rfl⟩) (ob_preV (q0 := 0) (ci := 0) hZ hK hP hD [0, 9, 1, 3, 4, 5] rfl rfl rfl rfl rfl) rfl rfl hl.1 rfl (lv_room (Nat.le_of_ble_eq_true rfl)) dL_191 ⟨Nat.le_of_ble_eq_true rfl, Nat.le_of_ble_eq_true rfl⟩
  refine ob_dropi (wc := (cw_OB_field G a_x x8 x0 x2 x3 x4 x5 x9 x13 x18 x20 x21 x23 x25 x1 0 0 0 0 (-1) 0 0 0 0 0 0 (fun _ => 0) (fun _ => 0) (fun _ => 0))) (wc1 := (cw_OB_field G a_x x8 x0 x2 x3 x4 x5 x9 x13 x18 x20 x21 x23 x25 x1 0 0 0 0 (-1) 0 0 0 0 0 o1.2.1 o1.2.2.1 o1.2.2.2.1 o1.2.2.2.2)) (r := o1.1) (wr := (lw_m G a_m m0 m1 m2 m3 m4 m5 m6 m7 m8 m9 m10 m11 m12 m13 m14 m15 m16 m17 m18 m19 m20 m21 m22 m23 m24 m25 m26 m27 m28 m29 m30)) hRun hP hD hA hS [0, 9, 1, 3, 4, 5] [27, 28, 29, 30, 31, 32, 33, 34, 35, 36, 37, 38, 39, 40, 41, 42, 43, 44, 45, 46, 47, 48, 49, 50, 51, 52, 53, 54, 55, 56, 57, 58] rfl rfl rfl (by decide) (fun H locs hP hD hS => ?_)
  clear hRun
  refine lv_aload_n hx hb dL_194 rfl (lv_at hl 1 rfl) ?_
  refine lv_aload_n hx hb dL_195 rfl (lv_at hl 3 rfl) ?_
  refine lv_iload_n hx hb dL_196 rfl (lv_at hl 0 rfl) ?_
  refine lv_iconst (v := 1) hx hb dL_197 (by decide) ?_
  refine lv_iadd hx hb dL_198 ?_
  refine va_sld hx hb hX hbl hbA hS (vp_in_iff.mpr (by decide)) dL_199 ?_
  refine W.eq (g2 := F0 m 200 ls [.int (xs 1), .ref a_m, .int o1.1]) (by rw [show ((0 : Int32) + 1).toNatClampNeg = 1 from by decide]) ?_
  refine lv_aload_n hx hb dL_200 rfl (lv_at hl 3 rfl) ?_
  refine lv_iload_n hx hb dL_201 rfl (lv_at hl 0 rfl) ?_
  refine lv_iconst (v := 2) hx hb dL_202 (by decide) ?_
  refine lv_iadd hx hb dL_203 ?_
  refine va_sld hx hb hX hbl hbA hS (vp_in_iff.mpr (by decide)) dL_204 ?_
  refine W.eq (g2 := F0 m 205 ls [.int (xs 2), .int (xs 1), .ref a_m, .int o1.1]) (by rw [show ((0 : Int32) + 2).toNatClampNeg = 2 from by decide]) ?_
  refine lv_aload_n hx hb dL_205 rfl (lv_at hl 3 rfl) ?_
  refine lv_iload_n hx hb dL_206 rfl (lv_at hl 0 rfl) ?_
  refine lv_iconst (v := 3) hx hb dL_207 (by decide) ?_
  refine lv_iadd hx hb dL_208 ?_
  refine va_sld hx hb hX hbl hbA hS (vp_in_iff.mpr (by decide)) dL_209 ?_
  refine W.eq (g2 := F0 m 210 ls [.int (xs 3), .int (xs 2), .int (xs 1), .ref a_m, .int o1.1]) (by rw [show ((0 : Int32) + 3).toNatClampNeg = 3 from by decide]) ?_
  have hRun := va_runV (R := room_1) (locs := locs) (H := H) (l := l) (e := e) (below := below) (meth := meth) (cells := 59) (slots := 7221) (g := F0 m 210 ls [.int (xs 3), .int (xs 2), .int (xs 1), .ref a_m, .int o1.1]) (As := [.int (xs 1), .int (xs 2), .int (xs 3)]) (rest := [.int o1.1]) ⟨hx, hb, hml, hown, hts⟩ (c_M_field l D G a_m m1 m2 m3 m0 m4 m5 m6 m7 m8 m9 m10 m11 m12 m13 m14 m15 m16 m17 m18 m19 m20 m21 m22 m23 m24 m25 m26 m27 m28 m29 m30 0 0 0 0 0 0 0 0 0 0 0 0 0 (-1) 0 0 0 0 0 0 0 0 0 0 0 0 0 0 0 0 0 0 0 0 0 (fun _ => 0) (fun _ => 0) (fun _ => 0) (xs 1) (xs 2) (xs 3) o2 h2 H.size) (cwV 3 hts (gV tw991 tw992 tw993 tw11 tw994) rfl rfl rfl (by decide +kernel) ⟨Nat.le_of_ble_eq_true rfl, Nat.le_of_ble_eq_true rfl⟩) (ob_preV (q0 := 0) (ci := 11) hZ hK hP hD [0, 2, 3, 4] rfl rfl rfl rfl rfl) rfl rfl hl.1 rfl (lv_room (Nat.le_of_ble_eq_true rfl)) dL_210 ⟨Nat.le_of_ble_eq_true rfl, Nat.le_of_ble_eq_true rfl⟩
  refine ob_calli (wc := (cw_M_field G a_m m1 m2 m3 m0 m4 m5 m6 m7 m8 m9 m10 m11 m12 m13 m14 m15 m16 m17 m18 m19 m20 m21 m22 m23 m24 m25 m26 m27 m28 m29 m30 0 0 0 0 0 0 0 0 0 0 0 0 0 (-1) 0 0 0 0 0 0 0 0 0 0 0 0 0 0 0 0 0 0 0 0 0 (fun _ => 0) (fun _ => 0) (fun _ => 0))) (wc1 := (cw_M_field G a_m m1 m2 m3 m0 m4 m5 m6 m7 m8 m9 m10 m11 m12 m13 m14 m15 m16 m17 m18 m19 m20 m21 m22 m23 m24 m25 m26 m27 m28 m29 m30 0 o2.2.1 0 0 0 0 0 0 0 0 0 0 0 (-1) 0 0 0 0 0 0 0 0 0 0 0 0 0 0 0 0 0 0 0 0 0 o2.2.2.1 o2.2.2.2.1 o2.2.2.2.2)) (r := o2.1) hRun hP hD hA hS [0, 2, 3, 4] rfl rfl rfl rfl (fun H locs hP hD hS => ?_)
  clear hRun
  refine lv_icmp_eq (tgt := 877) hx hb dL_213 (by decide) (fun _ => ?_) (fun hc => absurd he hc)
  exact tailN ls H locs _ _ (Nat.le_of_ble_eq_true rfl) (Nat.le_of_ble_eq_true rfl) (lv_sub hl [0, 3] rfl) hS
set_option maxHeartbeats 1000000 in
set_option maxRecDepth 100000 in
theorem law_2 {p : Program} {e : Env} {s : State} {m : MethodId} {below : List Frame} {meth : Method} {c : Code} {b : Nat} {xs : Nat → Int32} {D : va_G} {G : Nat → ClassId} {A : Nat → Prop} {a_x x0 x1 x2 x3 x4 x5 x6 x7 x8 x9 x10 x11 x12 x13 x14 x15 x16 x17 x18 x19 x20 x21 x22 x23 x24 x25 a_m m0 m1 m2 m3 m4 m5 m6 m7 m8 m9 m10 m11 m12 m13 m14 m15 m16 m17 m18 m19 m20 m21 m22 m23 m24 m25 m26 m27 m28 m29 m30 : Nat} {ls : Array Slot} {H : Heap} {locs : List Loc} (l : Launch) (hx : p.tables.exec = Jvm.exec) (hb : c.code = code) (hml : c.maxLocals = 4) (hown : s.vm.findClass "ObjectBaseLaw" = some m.cls) (hts : ∀ w ∈ obW, w.before #[Value.ref b] s = true) (hZ : obZ s) (hK : va_K D vwCl (obT G) s) (hA : ∀ q, s.heap.size ≤ q → A q) (hX : va_X b 5 xs s s.heap) (hbl : b < s.heap.size) (hbA : ¬ A b) (hP : va_P D vwCl (lw_w G a_x x0 x1 x2 x3 x4 x5 x6 x7 x8 x9 x10 x11 x12 x13 x14 x15 x16 x17 x18 x19 x20 x21 x22 x23 x24 x25 a_m m0 m1 m2 m3 m4 m5 m6 m7 m8 m9 m10 m11 m12 m13 m14 m15 m16 m17 m18 m19 m20 m21 m22 m23 m24 m25 m26 m27 m28 m29 m30) H) (hD : va_D A (lw_w G a_x x0 x1 x2 x3 x4 x5 x6 x7 x8 x9 x10 x11 x12 x13 x14 x15 x16 x17 x18 x19 x20 x21 x22 x23 x24 x25 a_m m0 m1 m2 m3 m4 m5 m6 m7 m8 m9 m10 m11 m12 m13 m14 m15 m16 m17 m18 m19 m20 m21 m22 m23 m24 m25 m26 m27 m28 m29 m30)) (hS : va_S A s.heap H locs) (hl : lv_has ls 4 [(3, .int 0), (2, .ref a_m), (1, .ref a_x), (0, .ref b)])
    (tailN : ∀ (ls : Array Slot) (H : Heap) (locs : List Loc) (cells slots : Nat), cells ≤ 600000 → slots ≤ 7302250 → lv_has ls 4 [(3, .int 0), (0, .ref b)] → va_S A s.heap H locs → W p l e room_1 s m #[Value.ref b] below meth c H locs cells slots (lw_Z below #[Value.ref b] s) (F0 m 877 ls [])) :
    W p l e room_1 s m #[Value.ref b] below meth c H locs 59 7221 (lw_Z below #[Value.ref b] s) (F0 m 218 ls []) := by
  refine lv_aload_n hx hb dL_218 rfl (lv_at hl 2 rfl) ?_
  refine lv_aload_n hx hb dL_219 rfl (lv_at hl 3 rfl) ?_
  refine lv_iload_n hx hb dL_220 rfl (lv_at hl 0 rfl) ?_
  refine lv_iconst (v := 1) hx hb dL_221 (by decide) ?_
  refine lv_iadd hx hb dL_222 ?_
  refine va_sld hx hb hX hbl hbA hS (vp_in_iff.mpr (by decide)) dL_223 ?_
  refine W.eq (g2 := F0 m 224 ls [.int (xs 1), .ref a_x]) (by rw [show ((0 : Int32) + 1).toNatClampNeg = 1 from by decide]) ?_
  refine lv_aload_n hx hb dL_224 rfl (lv_at hl 3 rfl) ?_
  refine lv_iload_n hx hb dL_225 rfl (lv_at hl 0 rfl) ?_
  refine lv_iconst (v := 2) hx hb dL_226 (by decide) ?_
  refine lv_iadd hx hb dL_227 ?_
  refine va_sld hx hb hX hbl hbA hS (vp_in_iff.mpr (by decide)) dL_228 ?_
  refine W.eq (g2 := F0 m 229 ls [.int (xs 2), .int (xs 1), .ref a_x]) (by rw [show ((0 : Int32) + 2).toNatClampNeg = 2 from by decide]) ?_
  refine lv_aload_n hx hb dL_229 rfl (lv_at hl 3 rfl) ?_
  refine lv_iload_n hx hb dL_230 rfl (lv_at hl 0 rfl) ?_
  refine lv_iconst (v := 3) hx hb dL_231 (by decide) ?_
  refine lv_iadd hx hb dL_232 ?_
  refine va_sld hx hb hX hbl hbA hS (vp_in_iff.mpr (by decide)) dL_233 ?_
  refine W.eq (g2 := F0 m 234 ls [.int (xs 3), .int (xs 2), .int (xs 1), .ref a_x]) (by rw [show ((0 : Int32) + 3).toNatClampNeg = 3 from by decide]) ?_
  refine lv_aload_n hx hb dL_234 rfl (lv_at hl 3 rfl) ?_
  refine lv_iload_n hx hb dL_235 rfl (lv_at hl 0 rfl) ?_
  refine lv_iconst (v := 4) hx hb dL_236 (by decide) ?_
  refine lv_iadd hx hb dL_237 ?_
  refine va_sld hx hb hX hbl hbA hS (vp_in_iff.mpr (by decide)) dL_238 ?_
  refine W.eq (g2 := F0 m 239 ls [.int (xs 4), .int (xs 3), .int (xs 2), .int (xs 1), .ref a_x]) (by rw [show ((0 : Int32) + 4).toNatClampNeg = 4 from by decide]) ?_
  obtain ⟨o1, o2, h1, h2, he⟩ := P_index (xs 1) (xs 2) (xs 3) (xs 4)
  have hRun := va_runV (R := room_1) (locs := locs) (H := H) (l := l) (e := e) (below := below) (meth := meth) (cells := 59) (slots := 7221) (g := F0 m 239 ls [.int (xs 4), .int (xs 3), .int (xs 2), .int (xs 1), .ref a_x]) (As := [.int (xs 1), .int (xs 2), .int (xs 3), .int (xs 4)]) (rest := []) ⟨hx, hb, hml, hown, hts⟩ (c_OB_index l D G a_x x8 x13 x5 x0 x1 x2 x3 x4 x6 x7 x9 x18 x20 x21 x23 x25 x14 0 0 0 0 (-1) 0 0 0 0 0 0 0 0 0 0 0 (fun _ => 0) (fun _ => 0) (fun _ => 0) (fun _ => 0) (fun _ => 0) (fun _ => 0) (xs 1) (xs 2) (xs 3) (xs 4) o1 h1 H.size) (cwV 4 hts (gV tw292 tw293 tw294 tw1 tw295) rfl rfl rfl (by decide +kernel) ⟨Nat.le_of_ble_eq_true rfl, Nat.le_of_ble_eq_true rfl⟩) (ob_preV (q0 := 0) (ci := 0) hZ hK hP hD [0, 9, 14, 6, 1, 2, 3, 4, 5, 7, 8] rfl rfl rfl rfl rfl) rfl rfl hl.1 rfl (lv_room (Nat.le_of_ble_eq_true rfl)) dL_239 ⟨Nat.le_of_ble_eq_true rfl, Nat.le_of_ble_eq_true rfl⟩
  refine ob_dropi (wc := (cw_OB_index G a_x x8 x13 x5 x0 x1 x2 x3 x4 x6 x7 x9 x18 x20 x21 x23 x25 x14 0 0 0 0 (-1) 0 0 0 0 0 0 0 0 0 0 0 (fun _ => 0) (fun _ => 0) (fun _ => 0) (fun _ => 0) (fun _ => 0) (fun _ => 0))) (wc1 := (cw_OB_index G a_x x8 x13 x5 x0 x1 x2 x3 x4 x6 x7 x9 x18 x20 x21 x23 x25 x14 0 0 0 0 (-1) 0 0 0 0 0 0 0 0 o1.2.1 0 0 (fun _ => 0) (fun _ => 0) (fun _ => 0) (fun _ => 0) o1.2.2.1 o1.2.2.2)) (r := o1.1) (wr := (lw_m G a_m m0 m1 m2 m3 m4 m5 m6 m7 m8 m9 m10 m11 m12 m13 m14 m15 m16 m17 m18 m19 m20 m21 m22 m23 m24 m25 m26 m27 m28 m29 m30)) hRun hP hD hA hS [0, 9, 14, 6, 1, 2, 3, 4, 5, 7, 8] [27, 28, 29, 30, 31, 32, 33, 34, 35, 36, 37, 38, 39, 40, 41, 42, 43, 44, 45, 46, 47, 48, 49, 50, 51, 52, 53, 54, 55, 56, 57, 58] rfl rfl rfl (by decide) (fun H locs hP hD hS => ?_)
  clear hRun
  refine lv_aload_n hx hb dL_242 rfl (lv_at hl 1 rfl) ?_
  refine lv_aload_n hx hb dL_243 rfl (lv_at hl 3 rfl) ?_
  refine lv_iload_n hx hb dL_244 rfl (lv_at hl 0 rfl) ?_
  refine lv_iconst (v := 1) hx hb dL_245 (by decide) ?_
  refine lv_iadd hx hb dL_246 ?_
  refine va_sld hx hb hX hbl hbA hS (vp_in_iff.mpr (by decide)) dL_247 ?_
  refine W.eq (g2 := F0 m 248 ls [.int (xs 1), .ref a_m, .int o1.1]) (by rw [show ((0 : Int32) + 1).toNatClampNeg = 1 from by decide]) ?_
  refine lv_aload_n hx hb dL_248 rfl (lv_at hl 3 rfl) ?_
  refine lv_iload_n hx hb dL_249 rfl (lv_at hl 0 rfl) ?_
  refine lv_iconst (v := 2) hx hb dL_250 (by decide) ?_
  refine lv_iadd hx hb dL_251 ?_
  refine va_sld hx hb hX hbl hbA hS (vp_in_iff.mpr (by decide)) dL_252 ?_
  refine W.eq (g2 := F0 m 253 ls [.int (xs 2), .int (xs 1), .ref a_m, .int o1.1]) (by rw [show ((0 : Int32) + 2).toNatClampNeg = 2 from by decide]) ?_
  refine lv_aload_n hx hb dL_253 rfl (lv_at hl 3 rfl) ?_
  refine lv_iload_n hx hb dL_254 rfl (lv_at hl 0 rfl) ?_
  refine lv_iconst (v := 3) hx hb dL_255 (by decide) ?_
  refine lv_iadd hx hb dL_256 ?_
  refine va_sld hx hb hX hbl hbA hS (vp_in_iff.mpr (by decide)) dL_257 ?_
  refine W.eq (g2 := F0 m 258 ls [.int (xs 3), .int (xs 2), .int (xs 1), .ref a_m, .int o1.1]) (by rw [show ((0 : Int32) + 3).toNatClampNeg = 3 from by decide]) ?_
  refine lv_aload_n hx hb dL_258 rfl (lv_at hl 3 rfl) ?_
  refine lv_iload_n hx hb dL_259 rfl (lv_at hl 0 rfl) ?_
  refine lv_iconst (v := 4) hx hb dL_260 (by decide) ?_
  refine lv_iadd hx hb dL_261 ?_
  refine va_sld hx hb hX hbl hbA hS (vp_in_iff.mpr (by decide)) dL_262 ?_
  refine W.eq (g2 := F0 m 263 ls [.int (xs 4), .int (xs 3), .int (xs 2), .int (xs 1), .ref a_m, .int o1.1]) (by rw [show ((0 : Int32) + 4).toNatClampNeg = 4 from by decide]) ?_
  have hRun := va_runV (R := room_1) (locs := locs) (H := H) (l := l) (e := e) (below := below) (meth := meth) (cells := 59) (slots := 7221) (g := F0 m 263 ls [.int (xs 4), .int (xs 3), .int (xs 2), .int (xs 1), .ref a_m, .int o1.1]) (As := [.int (xs 1), .int (xs 2), .int (xs 3), .int (xs 4)]) (rest := [.int o1.1]) ⟨hx, hb, hml, hown, hts⟩ (c_M_index l D G a_m m1 m0 m2 m4 m5 m3 m6 m7 m8 m9 m10 m11 m12 m13 m14 m15 m16 m17 m18 m19 m20 m21 m22 m23 m24 m25 m26 m27 m28 m29 m30 0 0 0 0 0 0 0 0 0 0 0 0 0 (-1) 0 0 0 0 0 0 0 0 0 0 0 0 0 0 0 0 0 0 0 0 0 (fun _ => 0) (fun _ => 0) (fun _ => 0) (fun _ => 0) (fun _ => 0) (fun _ => 0) (xs 1) (xs 2) (xs 3) (xs 4) o2 h2 H.size) (cwV 4 hts (gV tw999 tw1000 tw1001 tw11 tw1002) rfl rfl rfl (by decide +kernel) ⟨Nat.le_of_ble_eq_true rfl, Nat.le_of_ble_eq_true rfl⟩) (ob_preV (q0 := 0) (ci := 11) hZ hK hP hD [0, 2, 1, 3, 5, 6, 4] rfl rfl rfl rfl rfl) rfl rfl hl.1 rfl (lv_room (Nat.le_of_ble_eq_true rfl)) dL_263 ⟨Nat.le_of_ble_eq_true rfl, Nat.le_of_ble_eq_true rfl⟩
  refine ob_calli (wc := (cw_M_index G a_m m1 m0 m2 m4 m5 m3 m6 m7 m8 m9 m10 m11 m12 m13 m14 m15 m16 m17 m18 m19 m20 m21 m22 m23 m24 m25 m26 m27 m28 m29 m30 0 0 0 0 0 0 0 0 0 0 0 0 0 (-1) 0 0 0 0 0 0 0 0 0 0 0 0 0 0 0 0 0 0 0 0 0 (fun _ => 0) (fun _ => 0) (fun _ => 0) (fun _ => 0) (fun _ => 0) (fun _ => 0))) (wc1 := (cw_M_index G a_m m1 m0 m2 m4 m5 m3 m6 m7 m8 m9 m10 m11 m12 m13 m14 m15 m16 m17 m18 m19 m20 m21 m22 m23 m24 m25 m26 m27 m28 m29 m30 0 0 0 o2.2.1 0 0 0 0 0 0 0 0 0 (-1) 0 0 0 0 0 0 0 0 0 0 0 0 0 0 0 0 0 0 0 0 0 (fun _ => 0) (fun _ => 0) (fun _ => 0) o2.2.2.1 o2.2.2.2 (fun _ => 0))) (r := o2.1) hRun hP hD hA hS [0, 2, 1, 3, 5, 6, 4] rfl rfl rfl rfl (fun H locs hP hD hS => ?_)
  clear hRun
  refine lv_icmp_eq (tgt := 877) hx hb dL_266 (by decide) (fun _ => ?_) (fun hc => absurd he hc)
  exact tailN ls H locs _ _ (Nat.le_of_ble_eq_true rfl) (Nat.le_of_ble_eq_true rfl) (lv_sub hl [0, 3] rfl) hS
set_option maxHeartbeats 1000000 in
set_option maxRecDepth 100000 in
theorem law_3 {p : Program} {e : Env} {s : State} {m : MethodId} {below : List Frame} {meth : Method} {c : Code} {b : Nat} {xs : Nat → Int32} {D : va_G} {G : Nat → ClassId} {A : Nat → Prop} {a_x x0 x1 x2 x3 x4 x5 x6 x7 x8 x9 x10 x11 x12 x13 x14 x15 x16 x17 x18 x19 x20 x21 x22 x23 x24 x25 a_m m0 m1 m2 m3 m4 m5 m6 m7 m8 m9 m10 m11 m12 m13 m14 m15 m16 m17 m18 m19 m20 m21 m22 m23 m24 m25 m26 m27 m28 m29 m30 : Nat} {ls : Array Slot} {H : Heap} {locs : List Loc} (l : Launch) (hx : p.tables.exec = Jvm.exec) (hb : c.code = code) (hml : c.maxLocals = 4) (hown : s.vm.findClass "ObjectBaseLaw" = some m.cls) (hts : ∀ w ∈ obW, w.before #[Value.ref b] s = true) (hZ : obZ s) (hK : va_K D vwCl (obT G) s) (hA : ∀ q, s.heap.size ≤ q → A q) (hX : va_X b 5 xs s s.heap) (hbl : b < s.heap.size) (hbA : ¬ A b) (hP : va_P D vwCl (lw_w G a_x x0 x1 x2 x3 x4 x5 x6 x7 x8 x9 x10 x11 x12 x13 x14 x15 x16 x17 x18 x19 x20 x21 x22 x23 x24 x25 a_m m0 m1 m2 m3 m4 m5 m6 m7 m8 m9 m10 m11 m12 m13 m14 m15 m16 m17 m18 m19 m20 m21 m22 m23 m24 m25 m26 m27 m28 m29 m30) H) (hD : va_D A (lw_w G a_x x0 x1 x2 x3 x4 x5 x6 x7 x8 x9 x10 x11 x12 x13 x14 x15 x16 x17 x18 x19 x20 x21 x22 x23 x24 x25 a_m m0 m1 m2 m3 m4 m5 m6 m7 m8 m9 m10 m11 m12 m13 m14 m15 m16 m17 m18 m19 m20 m21 m22 m23 m24 m25 m26 m27 m28 m29 m30)) (hS : va_S A s.heap H locs) (hl : lv_has ls 4 [(3, .int 0), (2, .ref a_m), (1, .ref a_x), (0, .ref b)])
    (tailN : ∀ (ls : Array Slot) (H : Heap) (locs : List Loc) (cells slots : Nat), cells ≤ 600000 → slots ≤ 7302250 → lv_has ls 4 [(3, .int 0), (0, .ref b)] → va_S A s.heap H locs → W p l e room_1 s m #[Value.ref b] below meth c H locs cells slots (lw_Z below #[Value.ref b] s) (F0 m 877 ls [])) :
    W p l e room_1 s m #[Value.ref b] below meth c H locs 59 7221 (lw_Z below #[Value.ref b] s) (F0 m 271 ls []) := by
  refine lv_aload_n hx hb dL_271 rfl (lv_at hl 2 rfl) ?_
  obtain ⟨o1, o2, h1, h2, he⟩ := P_begin
  have hRun := va_runV (R := room_1) (locs := locs) (H := H) (l := l) (e := e) (below := below) (meth := meth) (cells := 59) (slots := 7221) (g := F0 m 272 ls [.ref a_x]) (As := []) (rest := []) ⟨hx, hb, hml, hown, hts⟩ (c_OB_begin l D G a_x x8 x13 x9 x0 x11 x3 x12 x14 x15 x10 x16 x17 x5 x18 x20 x21 x23 x25 x1 x2 x4 0 0 0 0 (-1) 0 0 0 0 0 0 0 0 0 0 (fun _ => 0) (fun _ => 0) (fun _ => 0) (fun _ => 0) (fun _ => 0) (fun _ => 0) (fun _ => 0) o1 h1 H.size) (cwV 0 hts (gV tw312 tw313 tw314 tw1 tw315) rfl rfl rfl (by decide +kernel) ⟨Nat.le_of_ble_eq_true rfl, Nat.le_of_ble_eq_true rfl⟩) (ob_preV (q0 := 0) (ci := 0) hZ hK hP hD [0, 9, 14, 10, 1, 12, 4, 13, 15, 16, 11, 17, 18] rfl rfl rfl rfl rfl) rfl rfl hl.1 rfl (lv_room (Nat.le_of_ble_eq_true rfl)) dL_272 ⟨Nat.le_of_ble_eq_true rfl, Nat.le_of_ble_eq_true rfl⟩
  refine ob_dropi (wc := (cw_OB_begin G a_x x8 x13 x9 x0 x11 x3 x12 x14 x15 x10 x16 x17 x5 x18 x20 x21 x23 x25 x1 x2 x4 0 0 0 0 (-1) 0 0 0 0 0 0 0 0 0 0 (fun _ => 0) (fun _ => 0) (fun _ => 0) (fun _ => 0) (fun _ => 0) (fun _ => 0) (fun _ => 0))) (wc1 := (cw_OB_begin G a_x x8 x13 x9 x0 x11 x3 x12 x14 x15 x10 x16 x17 x5 x18 x20 x21 x23 x25 x1 x2 x4 0 0 o1.2.1 0 (-1) 0 0 0 0 o1.2.2.1 o1.2.2.2.1 o1.2.2.2.2.1 o1.2.2.2.2.2.1 0 0 (fun _ => 0) (fun _ => 0) (fun _ => 0) o1.2.2.2.2.2.2.1 (fun _ => 0) o1.2.2.2.2.2.2.2.1 o1.2.2.2.2.2.2.2.2)) (r := o1.1) (wr := (lw_m G a_m m0 m1 m2 m3 m4 m5 m6 m7 m8 m9 m10 m11 m12 m13 m14 m15 m16 m17 m18 m19 m20 m21 m22 m23 m24 m25 m26 m27 m28 m29 m30)) hRun hP hD hA hS [0, 9, 14, 10, 1, 12, 4, 13, 15, 16, 11, 17, 18] [27, 28, 29, 30, 31, 32, 33, 34, 35, 36, 37, 38, 39, 40, 41, 42, 43, 44, 45, 46, 47, 48, 49, 50, 51, 52, 53, 54, 55, 56, 57, 58] rfl rfl rfl (by decide) (fun H locs hP hD hS => ?_)
  clear hRun
  refine lv_aload_n hx hb dL_275 rfl (lv_at hl 1 rfl) ?_
  have hRun := va_runV (R := room_1) (locs := locs) (H := H) (l := l) (e := e) (below := below) (meth := meth) (cells := 59) (slots := 7221) (g := F0 m 276 ls [.ref a_m, .int o1.1]) (As := []) (rest := [.int o1.1]) ⟨hx, hb, hml, hown, hts⟩ (c_M_begin l D G a_m m6 m1 m0 m2 m11 m8 m10 m7 m12 m9 m3 m4 m5 m13 m14 m15 m16 m17 m18 m19 m20 m21 m22 m23 m24 m25 m26 m27 m28 m29 m30 0 0 0 0 0 0 0 0 0 0 0 0 0 (-1) 0 0 0 0 0 0 0 0 0 0 0 0 0 0 0 0 0 0 0 0 0 (fun _ => 0) (fun _ => 0) (fun _ => 0) (fun _ => 0) (fun _ => 0) (fun _ => 0) (fun _ => 0) (fun _ => 0) (fun _ => 0) (fun _ => 0) o2 h2 H.size) (cwV 0 hts (gV tw1011 tw1012 tw1013 tw11 tw1014) rfl rfl rfl (by decide +kernel) ⟨Nat.le_of_ble_eq_true rfl, Nat.le_of_ble_eq_true rfl⟩) (ob_preV (q0 := 0) (ci := 11) hZ hK hP hD [0, 7, 2, 1, 3, 12, 9, 11, 8, 13, 10] rfl rfl rfl rfl rfl) rfl rfl hl.1 rfl (lv_room (Nat.le_of_ble_eq_true rfl)) dL_276 ⟨Nat.le_of_ble_eq_true rfl, Nat.le_of_ble_eq_true rfl⟩
  refine ob_calli (wc := (cw_M_begin G a_m m6 m1 m0 m2 m11 m8 m10 m7 m12 m9 m3 m4 m5 m13 m14 m15 m16 m17 m18 m19 m20 m21 m22 m23 m24 m25 m26 m27 m28 m29 m30 0 0 0 0 0 0 0 0 0 0 0 0 0 (-1) 0 0 0 0 0 0 0 0 0 0 0 0 0 0 0 0 0 0 0 0 0 (fun _ => 0) (fun _ => 0) (fun _ => 0) (fun _ => 0) (fun _ => 0) (fun _ => 0) (fun _ => 0) (fun _ => 0) (fun _ => 0) (fun _ => 0))) (wc1 := (cw_M_begin G a_m m6 m1 m0 m2 m11 m8 m10 m7 m12 m9 m3 m4 m5 m13 m14 m15 m16 m17 m18 m19 m20 m21 m22 m23 m24 m25 m26 m27 m28 m29 m30 0 0 o2.2.1 0 0 0 0 o2.2.2.1 o2.2.2.2.1 o2.2.2.2.2.1 o2.2.2.2.2.2.1 o2.2.2.2.2.2.2 0 (-1) 0 0 0 0 0 0 0 0 0 0 0 0 0 0 0 0 0 0 0 0 0 (fun _ => 0) (fun _ => 0) (fun _ => 0) (fun _ => 0) (fun _ => 0) (fun _ => 0) (fun _ => 0) (fun _ => 0) (fun _ => 0) (fun _ => 0))) (r := o2.1) hRun hP hD hA hS [0, 7, 2, 1, 3, 12, 9, 11, 8, 13, 10] rfl rfl rfl rfl (fun H locs hP hD hS => ?_)
  clear hRun
  refine lv_icmp_eq (tgt := 877) hx hb dL_279 (by decide) (fun _ => ?_) (fun hc => absurd he hc)
  exact tailN ls H locs _ _ (Nat.le_of_ble_eq_true rfl) (Nat.le_of_ble_eq_true rfl) (lv_sub hl [0, 3] rfl) hS
set_option maxHeartbeats 1000000 in
set_option maxRecDepth 100000 in
theorem law_4 {p : Program} {e : Env} {s : State} {m : MethodId} {below : List Frame} {meth : Method} {c : Code} {b : Nat} {xs : Nat → Int32} {D : va_G} {G : Nat → ClassId} {A : Nat → Prop} {a_x x0 x1 x2 x3 x4 x5 x6 x7 x8 x9 x10 x11 x12 x13 x14 x15 x16 x17 x18 x19 x20 x21 x22 x23 x24 x25 a_m m0 m1 m2 m3 m4 m5 m6 m7 m8 m9 m10 m11 m12 m13 m14 m15 m16 m17 m18 m19 m20 m21 m22 m23 m24 m25 m26 m27 m28 m29 m30 : Nat} {ls : Array Slot} {H : Heap} {locs : List Loc} (l : Launch) (hx : p.tables.exec = Jvm.exec) (hb : c.code = code) (hml : c.maxLocals = 4) (hown : s.vm.findClass "ObjectBaseLaw" = some m.cls) (hts : ∀ w ∈ obW, w.before #[Value.ref b] s = true) (hZ : obZ s) (hK : va_K D vwCl (obT G) s) (hA : ∀ q, s.heap.size ≤ q → A q) (hX : va_X b 5 xs s s.heap) (hbl : b < s.heap.size) (hbA : ¬ A b) (hP : va_P D vwCl (lw_w G a_x x0 x1 x2 x3 x4 x5 x6 x7 x8 x9 x10 x11 x12 x13 x14 x15 x16 x17 x18 x19 x20 x21 x22 x23 x24 x25 a_m m0 m1 m2 m3 m4 m5 m6 m7 m8 m9 m10 m11 m12 m13 m14 m15 m16 m17 m18 m19 m20 m21 m22 m23 m24 m25 m26 m27 m28 m29 m30) H) (hD : va_D A (lw_w G a_x x0 x1 x2 x3 x4 x5 x6 x7 x8 x9 x10 x11 x12 x13 x14 x15 x16 x17 x18 x19 x20 x21 x22 x23 x24 x25 a_m m0 m1 m2 m3 m4 m5 m6 m7 m8 m9 m10 m11 m12 m13 m14 m15 m16 m17 m18 m19 m20 m21 m22 m23 m24 m25 m26 m27 m28 m29 m30)) (hS : va_S A s.heap H locs) (hl : lv_has ls 4 [(3, .int 0), (2, .ref a_m), (1, .ref a_x), (0, .ref b)])
    (tailN : ∀ (ls : Array Slot) (H : Heap) (locs : List Loc) (cells slots : Nat), cells ≤ 600000 → slots ≤ 7302250 → lv_has ls 4 [(3, .int 0), (0, .ref b)] → va_S A s.heap H locs → W p l e room_1 s m #[Value.ref b] below meth c H locs cells slots (lw_Z below #[Value.ref b] s) (F0 m 877 ls [])) :
    W p l e room_1 s m #[Value.ref b] below meth c H locs 59 7221 (lw_Z below #[Value.ref b] s) (F0 m 284 ls []) := by
  refine lv_aload_n hx hb dL_284 rfl (lv_at hl 2 rfl) ?_
  refine lv_aload_n hx hb dL_285 rfl (lv_at hl 3 rfl) ?_
  refine lv_iload_n hx hb dL_286 rfl (lv_at hl 0 rfl) ?_
  refine lv_iconst (v := 1) hx hb dL_287 (by decide) ?_
  refine lv_iadd hx hb dL_288 ?_
  refine va_sld hx hb hX hbl hbA hS (vp_in_iff.mpr (by decide)) dL_289 ?_
  refine W.eq (g2 := F0 m 290 ls [.int (xs 1), .ref a_x]) (by rw [show ((0 : Int32) + 1).toNatClampNeg = 1 from by decide]) ?_
  obtain ⟨o1, o2, h1, h2, he⟩ := P_make (xs 1)
  have hRun := va_runV (R := room_1) (locs := locs) (H := H) (l := l) (e := e) (below := below) (meth := meth) (cells := 59) (slots := 7221) (g := F0 m 290 ls [.int (xs 1), .ref a_x]) (As := [.int (xs 1)]) (rest := []) ⟨hx, hb, hml, hown, hts⟩ (c_OB_make l D G a_x x8 x13 x0 x14 x15 x5 x9 x18 x20 x21 x23 x25 x1 x2 x3 x4 x16 x17 0 0 0 0 (-1) 0 0 0 0 0 0 0 0 0 0 (fun _ => 0) (xs 1) o1 h1 H.size) (cwV 1 hts (gV tw346 tw347 tw348 tw1 tw349) rfl rfl rfl (by decide +kernel) ⟨Nat.le_of_ble_eq_true rfl, Nat.le_of_ble_eq_true rfl⟩) (ob_preV (q0 := 0) (ci := 0) hZ hK hP hD [0, 9, 14, 1, 15, 16] rfl rfl rfl rfl rfl) rfl rfl hl.1 rfl (lv_room (Nat.le_of_ble_eq_true rfl)) dL_290 ⟨Nat.le_of_ble_eq_true rfl, Nat.le_of_ble_eq_true rfl⟩
  refine ob_dropi (wc := (cw_OB_make G a_x x8 x13 x0 x14 x15 x5 x9 x18 x20 x21 x23 x25 x1 x2 x3 x4 x16 x17 0 0 0 0 (-1) 0 0 0 0 0 0 0 0 0 0 (fun _ => 0))) (wc1 := (cw_OB_make G a_x x8 x13 x0 x14 x15 x5 x9 x18 x20 x21 x23 x25 x1 x2 x3 x4 x16 x17 0 o1.2.1 0 0 (-1) 0 0 0 0 o1.2.2.1 o1.2.2.2.1 0 0 0 0 o1.2.2.2.2)) (r := o1.1) (wr := (lw_m G a_m m0 m1 m2 m3 m4 m5 m6 m7 m8 m9 m10 m11 m12 m13 m14 m15 m16 m17 m18 m19 m20 m21 m22 m23 m24 m25 m26 m27 m28 m29 m30)) hRun hP hD hA hS [0, 9, 14, 1, 15, 16] [27, 28, 29, 30, 31, 32, 33, 34, 35, 36, 37, 38, 39, 40, 41, 42, 43, 44, 45, 46, 47, 48, 49, 50, 51, 52, 53, 54, 55, 56, 57, 58] rfl rfl rfl (by decide) (fun H locs hP hD hS => ?_)
  clear hRun
  refine lv_aload_n hx hb dL_293 rfl (lv_at hl 1 rfl) ?_
  refine lv_aload_n hx hb dL_294 rfl (lv_at hl 3 rfl) ?_
  refine lv_iload_n hx hb dL_295 rfl (lv_at hl 0 rfl) ?_
  refine lv_iconst (v := 1) hx hb dL_296 (by decide) ?_
  refine lv_iadd hx hb dL_297 ?_
  refine va_sld hx hb hX hbl hbA hS (vp_in_iff.mpr (by decide)) dL_298 ?_
  refine W.eq (g2 := F0 m 299 ls [.int (xs 1), .ref a_m, .int o1.1]) (by rw [show ((0 : Int32) + 1).toNatClampNeg = 1 from by decide]) ?_
  have hRun := va_runV (R := room_1) (locs := locs) (H := H) (l := l) (e := e) (below := below) (meth := meth) (cells := 59) (slots := 7221) (g := F0 m 299 ls [.int (xs 1), .ref a_m, .int o1.1]) (As := [.int (xs 1)]) (rest := [.int o1.1]) ⟨hx, hb, hml, hown, hts⟩ (c_M_make l D G a_m m6 m0 m1 m2 m3 m4 m5 m7 m8 m9 m10 m11 m12 m13 m14 m15 m16 m17 m18 m19 m20 m21 m22 m23 m24 m25 m26 m27 m28 m29 m30 0 0 0 0 0 0 0 0 0 0 0 0 0 (-1) 0 0 0 0 0 0 0 0 0 0 0 0 0 0 0 0 0 0 0 0 0 (fun _ => 0) (xs 1) o2 h2 H.size) (cwV 1 hts (gV tw1029 tw1030 tw1031 tw11 tw1032) rfl rfl rfl (by decide +kernel) ⟨Nat.le_of_ble_eq_true rfl, Nat.le_of_ble_eq_true rfl⟩) (ob_preV (q0 := 0) (ci := 11) hZ hK hP hD [0, 7] rfl rfl rfl rfl rfl) rfl rfl hl.1 rfl (lv_room (Nat.le_of_ble_eq_true rfl)) dL_299 ⟨Nat.le_of_ble_eq_true rfl, Nat.le_of_ble_eq_true rfl⟩
  refine ob_calli (wc := (cw_M_make G a_m m6 m0 m1 m2 m3 m4 m5 m7 m8 m9 m10 m11 m12 m13 m14 m15 m16 m17 m18 m19 m20 m21 m22 m23 m24 m25 m26 m27 m28 m29 m30 0 0 0 0 0 0 0 0 0 0 0 0 0 (-1) 0 0 0 0 0 0 0 0 0 0 0 0 0 0 0 0 0 0 0 0 0 (fun _ => 0))) (wc1 := (cw_M_make G a_m m6 m0 m1 m2 m3 m4 m5 m7 m8 m9 m10 m11 m12 m13 m14 m15 m16 m17 m18 m19 m20 m21 m22 m23 m24 m25 m26 m27 m28 m29 m30 0 0 0 0 o2.2.1 0 0 0 o2.2.2.1 o2.2.2.2.1 o2.2.2.2.2.1 0 0 (-1) 0 0 0 0 0 0 0 0 0 0 0 0 0 0 0 0 0 0 0 0 0 o2.2.2.2.2.2)) (r := o2.1) hRun hP hD hA hS [0, 7] rfl rfl rfl rfl (fun H locs hP hD hS => ?_)
  clear hRun
  refine lv_icmp_eq (tgt := 877) hx hb dL_302 (by decide) (fun _ => ?_) (fun hc => absurd he hc)
  exact tailN ls H locs _ _ (Nat.le_of_ble_eq_true rfl) (Nat.le_of_ble_eq_true rfl) (lv_sub hl [0, 3] rfl) hS
set_option maxHeartbeats 1000000 in
set_option maxRecDepth 100000 in
theorem law_5 {p : Program} {e : Env} {s : State} {m : MethodId} {below : List Frame} {meth : Method} {c : Code} {b : Nat} {xs : Nat → Int32} {D : va_G} {G : Nat → ClassId} {A : Nat → Prop} {a_x x0 x1 x2 x3 x4 x5 x6 x7 x8 x9 x10 x11 x12 x13 x14 x15 x16 x17 x18 x19 x20 x21 x22 x23 x24 x25 a_m m0 m1 m2 m3 m4 m5 m6 m7 m8 m9 m10 m11 m12 m13 m14 m15 m16 m17 m18 m19 m20 m21 m22 m23 m24 m25 m26 m27 m28 m29 m30 : Nat} {ls : Array Slot} {H : Heap} {locs : List Loc} (l : Launch) (hx : p.tables.exec = Jvm.exec) (hb : c.code = code) (hml : c.maxLocals = 4) (hown : s.vm.findClass "ObjectBaseLaw" = some m.cls) (hts : ∀ w ∈ obW, w.before #[Value.ref b] s = true) (hZ : obZ s) (hK : va_K D vwCl (obT G) s) (hA : ∀ q, s.heap.size ≤ q → A q) (hX : va_X b 5 xs s s.heap) (hbl : b < s.heap.size) (hbA : ¬ A b) (hP : va_P D vwCl (lw_w G a_x x0 x1 x2 x3 x4 x5 x6 x7 x8 x9 x10 x11 x12 x13 x14 x15 x16 x17 x18 x19 x20 x21 x22 x23 x24 x25 a_m m0 m1 m2 m3 m4 m5 m6 m7 m8 m9 m10 m11 m12 m13 m14 m15 m16 m17 m18 m19 m20 m21 m22 m23 m24 m25 m26 m27 m28 m29 m30) H) (hD : va_D A (lw_w G a_x x0 x1 x2 x3 x4 x5 x6 x7 x8 x9 x10 x11 x12 x13 x14 x15 x16 x17 x18 x19 x20 x21 x22 x23 x24 x25 a_m m0 m1 m2 m3 m4 m5 m6 m7 m8 m9 m10 m11 m12 m13 m14 m15 m16 m17 m18 m19 m20 m21 m22 m23 m24 m25 m26 m27 m28 m29 m30)) (hS : va_S A s.heap H locs) (hl : lv_has ls 4 [(3, .int 0), (2, .ref a_m), (1, .ref a_x), (0, .ref b)])
    (tailN : ∀ (ls : Array Slot) (H : Heap) (locs : List Loc) (cells slots : Nat), cells ≤ 600000 → slots ≤ 7302250 → lv_has ls 4 [(3, .int 0), (0, .ref b)] → va_S A s.heap H locs → W p l e room_1 s m #[Value.ref b] below meth c H locs cells slots (lw_Z below #[Value.ref b] s) (F0 m 877 ls [])) :
    W p l e room_1 s m #[Value.ref b] below meth c H locs 59 7221 (lw_Z below #[Value.ref b] s) (F0 m 307 ls []) := by
  refine lv_aload_n hx hb dL_307 rfl (lv_at hl 2 rfl) ?_
  refine lv_aload_n hx hb dL_308 rfl (lv_at hl 3 rfl) ?_
  refine lv_iload_n hx hb dL_309 rfl (lv_at hl 0 rfl) ?_
  refine lv_iconst (v := 1) hx hb dL_310 (by decide) ?_
  refine lv_iadd hx hb dL_311 ?_
  refine va_sld hx hb hX hbl hbA hS (vp_in_iff.mpr (by decide)) dL_312 ?_
  refine W.eq (g2 := F0 m 313 ls [.int (xs 1), .ref a_x]) (by rw [show ((0 : Int32) + 1).toNatClampNeg = 1 from by decide]) ?_
  refine lv_aload_n hx hb dL_313 rfl (lv_at hl 3 rfl) ?_
  refine lv_iload_n hx hb dL_314 rfl (lv_at hl 0 rfl) ?_
  refine lv_iconst (v := 2) hx hb dL_315 (by decide) ?_
  refine lv_iadd hx hb dL_316 ?_
  refine va_sld hx hb hX hbl hbA hS (vp_in_iff.mpr (by decide)) dL_317 ?_
  refine W.eq (g2 := F0 m 318 ls [.int (xs 2), .int (xs 1), .ref a_x]) (by rw [show ((0 : Int32) + 2).toNatClampNeg = 2 from by decide]) ?_
  refine lv_aload_n hx hb dL_318 rfl (lv_at hl 3 rfl) ?_
  refine lv_iload_n hx hb dL_319 rfl (lv_at hl 0 rfl) ?_
  refine lv_iconst (v := 3) hx hb dL_320 (by decide) ?_
  refine lv_iadd hx hb dL_321 ?_
  refine va_sld hx hb hX hbl hbA hS (vp_in_iff.mpr (by decide)) dL_322 ?_
  refine W.eq (g2 := F0 m 323 ls [.int (xs 3), .int (xs 2), .int (xs 1), .ref a_x]) (by rw [show ((0 : Int32) + 3).toNatClampNeg = 3 from by decide]) ?_
  obtain ⟨o1, o2, h1, h2, he⟩ := P_put (xs 1) (xs 2) (xs 3)
  have hRun := va_runV (R := room_1) (locs := locs) (H := H) (l := l) (e := e) (below := below) (meth := meth) (cells := 59) (slots := 7221) (g := F0 m 323 ls [.int (xs 3), .int (xs 2), .int (xs 1), .ref a_x]) (As := [.int (xs 1), .int (xs 2), .int (xs 3)]) (rest := []) ⟨hx, hb, hml, hown, hts⟩ (c_OB_put l D G a_x x13 x0 x14 x8 x15 x1 x2 x3 x16 x5 x9 x18 x20 x21 x23 x25 x4 x17 0 0 0 0 0 0 0 0 0 0 (-1) 0 0 0 0 (fun _ => 0) (fun _ => 0) (fun _ => 0) (fun _ => 0) (fun _ => 0) (xs 1) (xs 2) (xs 3) o1 h1 H.size) (cwV 3 hts (gV tw355 tw356 tw357 tw1 tw358) rfl rfl rfl (by decide +kernel) ⟨Nat.le_of_ble_eq_true rfl, Nat.le_of_ble_eq_true rfl⟩) (ob_preV (q0 := 0) (ci := 0) hZ hK hP hD [0, 14, 1, 15, 9, 16, 2, 3, 4, 17] rfl rfl rfl rfl rfl) rfl rfl hl.1 rfl (lv_room (Nat.le_of_ble_eq_true rfl)) dL_323 ⟨Nat.le_of_ble_eq_true rfl, Nat.le_of_ble_eq_true rfl⟩
  refine ob_dropi (wc := (cw_OB_put G a_x x13 x0 x14 x8 x15 x1 x2 x3 x16 x5 x9 x18 x20 x21 x23 x25 x4 x17 0 0 0 0 0 0 0 0 0 0 (-1) 0 0 0 0 (fun _ => 0) (fun _ => 0) (fun _ => 0) (fun _ => 0) (fun _ => 0))) (wc1 := (cw_OB_put G a_x x13 x0 x14 x8 x15 x1 x2 x3 x16 x5 x9 x18 x20 x21 x23 x25 x4 x17 0 0 0 0 o1.2.1 0 0 0 0 0 (-1) 0 0 0 0 (fun _ => 0) (fun _ => 0) (fun _ => 0) (fun _ => 0) o1.2.2)) (r := o1.1) (wr := (lw_m G a_m m0 m1 m2 m3 m4 m5 m6 m7 m8 m9 m10 m11 m12 m13 m14 m15 m16 m17 m18 m19 m20 m21 m22 m23 m24 m25 m26 m27 m28 m29 m30)) hRun hP hD hA hS [0, 14, 1, 15, 9, 16, 2, 3, 4, 17] [27, 28, 29, 30, 31, 32, 33, 34, 35, 36, 37, 38, 39, 40, 41, 42, 43, 44, 45, 46, 47, 48, 49, 50, 51, 52, 53, 54, 55, 56, 57, 58] rfl rfl rfl (by decide) (fun H locs hP hD hS => ?_)
  clear hRun
  refine lv_aload_n hx hb dL_326 rfl (lv_at hl 1 rfl) ?_
  refine lv_aload_n hx hb dL_327 rfl (lv_at hl 3 rfl) ?_
  refine lv_iload_n hx hb dL_328 rfl (lv_at hl 0 rfl) ?_
  refine lv_iconst (v := 1) hx hb dL_329 (by decide) ?_
  refine lv_iadd hx hb dL_330 ?_
  refine va_sld hx hb hX hbl hbA hS (vp_in_iff.mpr (by decide)) dL_331 ?_
  refine W.eq (g2 := F0 m 332 ls [.int (xs 1), .ref a_m, .int o1.1]) (by rw [show ((0 : Int32) + 1).toNatClampNeg = 1 from by decide]) ?_
  refine lv_aload_n hx hb dL_332 rfl (lv_at hl 3 rfl) ?_
  refine lv_iload_n hx hb dL_333 rfl (lv_at hl 0 rfl) ?_
  refine lv_iconst (v := 2) hx hb dL_334 (by decide) ?_
  refine lv_iadd hx hb dL_335 ?_
  refine va_sld hx hb hX hbl hbA hS (vp_in_iff.mpr (by decide)) dL_336 ?_
  refine W.eq (g2 := F0 m 337 ls [.int (xs 2), .int (xs 1), .ref a_m, .int o1.1]) (by rw [show ((0 : Int32) + 2).toNatClampNeg = 2 from by decide]) ?_
  refine lv_aload_n hx hb dL_337 rfl (lv_at hl 3 rfl) ?_
  refine lv_iload_n hx hb dL_338 rfl (lv_at hl 0 rfl) ?_
  refine lv_iconst (v := 3) hx hb dL_339 (by decide) ?_
  refine lv_iadd hx hb dL_340 ?_
  refine va_sld hx hb hX hbl hbA hS (vp_in_iff.mpr (by decide)) dL_341 ?_
  refine W.eq (g2 := F0 m 342 ls [.int (xs 3), .int (xs 2), .int (xs 1), .ref a_m, .int o1.1]) (by rw [show ((0 : Int32) + 3).toNatClampNeg = 3 from by decide]) ?_
  have hRun := va_runV (R := room_1) (locs := locs) (H := H) (l := l) (e := e) (below := below) (meth := meth) (cells := 59) (slots := 7221) (g := F0 m 342 ls [.int (xs 3), .int (xs 2), .int (xs 1), .ref a_m, .int o1.1]) (As := [.int (xs 1), .int (xs 2), .int (xs 3)]) (rest := [.int o1.1]) ⟨hx, hb, hml, hown, hts⟩ (c_M_put l D G a_m m6 m1 m0 m2 m10 m3 m4 m5 m7 m8 m9 m11 m12 m13 m14 m15 m16 m17 m18 m19 m20 m21 m22 m23 m24 m25 m26 m27 m28 m29 m30 0 0 0 0 0 0 0 0 0 0 0 0 0 (-1) 0 0 0 0 0 0 0 0 0 0 0 0 0 0 0 0 0 0 0 0 0 (fun _ => 0) (fun _ => 0) (fun _ => 0) (fun _ => 0) (fun _ => 0) (xs 1) (xs 2) (xs 3) o2 h2 H.size) (cwV 3 hts (gV tw1033 tw1034 tw1035 tw11 tw1036) rfl rfl rfl (by decide +kernel) ⟨Nat.le_of_ble_eq_true rfl, Nat.le_of_ble_eq_true rfl⟩) (ob_preV (q0 := 0) (ci := 11) hZ hK hP hD [0, 7, 2, 1, 3, 11] rfl rfl rfl rfl rfl) rfl rfl hl.1 rfl (lv_room (Nat.le_of_ble_eq_true rfl)) dL_342 ⟨Nat.le_of_ble_eq_true rfl, Nat.le_of_ble_eq_true rfl⟩
  refine ob_calli (wc := (cw_M_put G a_m m6 m1 m0 m2 m10 m3 m4 m5 m7 m8 m9 m11 m12 m13 m14 m15 m16 m17 m18 m19 m20 m21 m22 m23 m24 m25 m26 m27 m28 m29 m30 0 0 0 0 0 0 0 0 0 0 0 0 0 (-1) 0 0 0 0 0 0 0 0 0 0 0 0 0 0 0 0 0 0 0 0 0 (fun _ => 0) (fun _ => 0) (fun _ => 0) (fun _ => 0) (fun _ => 0))) (wc1 := (cw_M_put G a_m m6 m1 m0 m2 m10 m3 m4 m5 m7 m8 m9 m11 m12 m13 m14 m15 m16 m17 m18 m19 m20 m21 m22 m23 m24 m25 m26 m27 m28 m29 m30 0 0 0 0 0 0 0 0 0 0 o2.2.1 0 0 (-1) 0 0 0 0 0 0 0 0 0 0 0 0 0 0 0 0 0 0 0 0 0 (fun _ => 0) (fun _ => 0) (fun _ => 0) (fun _ => 0) o2.2.2)) (r := o2.1) hRun hP hD hA hS [0, 7, 2, 1, 3, 11] rfl rfl rfl rfl (fun H locs hP hD hS => ?_)
  clear hRun
  refine lv_icmp_eq (tgt := 877) hx hb dL_345 (by decide) (fun _ => ?_) (fun hc => absurd he hc)
  exact tailN ls H locs _ _ (Nat.le_of_ble_eq_true rfl) (Nat.le_of_ble_eq_true rfl) (lv_sub hl [0, 3] rfl) hS
set_option maxHeartbeats 1000000 in
set_option maxRecDepth 100000 in
theorem law_6 {p : Program} {e : Env} {s : State} {m : MethodId} {below : List Frame} {meth : Method} {c : Code} {b : Nat} {xs : Nat → Int32} {D : va_G} {G : Nat → ClassId} {A : Nat → Prop} {a_x x0 x1 x2 x3 x4 x5 x6 x7 x8 x9 x10 x11 x12 x13 x14 x15 x16 x17 x18 x19 x20 x21 x22 x23 x24 x25 a_m m0 m1 m2 m3 m4 m5 m6 m7 m8 m9 m10 m11 m12 m13 m14 m15 m16 m17 m18 m19 m20 m21 m22 m23 m24 m25 m26 m27 m28 m29 m30 : Nat} {ls : Array Slot} {H : Heap} {locs : List Loc} (l : Launch) (hx : p.tables.exec = Jvm.exec) (hb : c.code = code) (hml : c.maxLocals = 4) (hown : s.vm.findClass "ObjectBaseLaw" = some m.cls) (hts : ∀ w ∈ obW, w.before #[Value.ref b] s = true) (hZ : obZ s) (hK : va_K D vwCl (obT G) s) (hA : ∀ q, s.heap.size ≤ q → A q) (hX : va_X b 5 xs s s.heap) (hbl : b < s.heap.size) (hbA : ¬ A b) (hP : va_P D vwCl (lw_w G a_x x0 x1 x2 x3 x4 x5 x6 x7 x8 x9 x10 x11 x12 x13 x14 x15 x16 x17 x18 x19 x20 x21 x22 x23 x24 x25 a_m m0 m1 m2 m3 m4 m5 m6 m7 m8 m9 m10 m11 m12 m13 m14 m15 m16 m17 m18 m19 m20 m21 m22 m23 m24 m25 m26 m27 m28 m29 m30) H) (hD : va_D A (lw_w G a_x x0 x1 x2 x3 x4 x5 x6 x7 x8 x9 x10 x11 x12 x13 x14 x15 x16 x17 x18 x19 x20 x21 x22 x23 x24 x25 a_m m0 m1 m2 m3 m4 m5 m6 m7 m8 m9 m10 m11 m12 m13 m14 m15 m16 m17 m18 m19 m20 m21 m22 m23 m24 m25 m26 m27 m28 m29 m30)) (hS : va_S A s.heap H locs) (hl : lv_has ls 4 [(3, .int 0), (2, .ref a_m), (1, .ref a_x), (0, .ref b)])
    (tailN : ∀ (ls : Array Slot) (H : Heap) (locs : List Loc) (cells slots : Nat), cells ≤ 600000 → slots ≤ 7302250 → lv_has ls 4 [(3, .int 0), (0, .ref b)] → va_S A s.heap H locs → W p l e room_1 s m #[Value.ref b] below meth c H locs cells slots (lw_Z below #[Value.ref b] s) (F0 m 877 ls [])) :
    W p l e room_1 s m #[Value.ref b] below meth c H locs 59 7221 (lw_Z below #[Value.ref b] s) (F0 m 350 ls []) := by
  refine lv_aload_n hx hb dL_350 rfl (lv_at hl 2 rfl) ?_
  refine lv_aload_n hx hb dL_351 rfl (lv_at hl 3 rfl) ?_
  refine lv_iload_n hx hb dL_352 rfl (lv_at hl 0 rfl) ?_
  refine lv_iconst (v := 1) hx hb dL_353 (by decide) ?_
  refine lv_iadd hx hb dL_354 ?_
  refine va_sld hx hb hX hbl hbA hS (vp_in_iff.mpr (by decide)) dL_355 ?_
  refine W.eq (g2 := F0 m 356 ls [.int (xs 1), .ref a_x]) (by rw [show ((0 : Int32) + 1).toNatClampNeg = 1 from by decide]) ?_
  refine lv_aload_n hx hb dL_356 rfl (lv_at hl 3 rfl) ?_
  refine lv_iload_n hx hb dL_357 rfl (lv_at hl 0 rfl) ?_
  refine lv_iconst (v := 2) hx hb dL_358 (by decide) ?_
  refine lv_iadd hx hb dL_359 ?_
  refine va_sld hx hb hX hbl hbA hS (vp_in_iff.mpr (by decide)) dL_360 ?_
  refine W.eq (g2 := F0 m 361 ls [.int (xs 2), .int (xs 1), .ref a_x]) (by rw [show ((0 : Int32) + 2).toNatClampNeg = 2 from by decide]) ?_
  refine lv_aload_n hx hb dL_361 rfl (lv_at hl 3 rfl) ?_
  refine lv_iload_n hx hb dL_362 rfl (lv_at hl 0 rfl) ?_
  refine lv_iconst (v := 3) hx hb dL_363 (by decide) ?_
  refine lv_iadd hx hb dL_364 ?_
  refine va_sld hx hb hX hbl hbA hS (vp_in_iff.mpr (by decide)) dL_365 ?_
  refine W.eq (g2 := F0 m 366 ls [.int (xs 3), .int (xs 2), .int (xs 1), .ref a_x]) (by rw [show ((0 : Int32) + 3).toNatClampNeg = 3 from by decide]) ?_
  obtain ⟨o1, o2, h1, h2, he⟩ := P_point (xs 1) (xs 2) (xs 3)
  have hRun := va_runV (R := room_1) (locs := locs) (H := H) (l := l) (e := e) (below := below) (meth := meth) (cells := 59) (slots := 7221) (g := F0 m 366 ls [.int (xs 3), .int (xs 2), .int (xs 1), .ref a_x]) (As := [.int (xs 1), .int (xs 2), .int (xs 3)]) (rest := []) ⟨hx, hb, hml, hown, hts⟩ (c_OB_point l D G a_x x13 x0 x14 x8 x15 x1 x2 x3 x16 x4 x5 x9 x18 x20 x21 x23 x25 x17 0 0 0 0 0 0 0 0 0 0 (-1) 0 0 0 0 (fun _ => 0) (fun _ => 0) (fun _ => 0) (fun _ => 0) (fun _ => 0) (fun _ => 0) (xs 1) (xs 2) (xs 3) o1 h1 H.size) (cwV 3 hts (gV tw373 tw374 tw375 tw1 tw376) rfl rfl rfl (by decide +kernel) ⟨Nat.le_of_ble_eq_true rfl, Nat.le_of_ble_eq_true rfl⟩) (ob_preV (q0 := 0) (ci := 0) hZ hK hP hD [0, 14, 1, 15, 9, 16, 2, 3, 4, 17, 5] rfl rfl rfl rfl rfl) rfl rfl hl.1 rfl (lv_room (Nat.le_of_ble_eq_true rfl)) dL_366 ⟨Nat.le_of_ble_eq_true rfl, Nat.le_of_ble_eq_true rfl⟩
  refine ob_dropi (wc := (cw_OB_point G a_x x13 x0 x14 x8 x15 x1 x2 x3 x16 x4 x5 x9 x18 x20 x21 x23 x25 x17 0 0 0 0 0 0 0 0 0 0 (-1) 0 0 0 0 (fun _ => 0) (fun _ => 0) (fun _ => 0) (fun _ => 0) (fun _ => 0) (fun _ => 0))) (wc1 := (cw_OB_point G a_x x13 x0 x14 x8 x15 x1 x2 x3 x16 x4 x5 x9 x18 x20 x21 x23 x25 x17 0 0 0 0 o1.2.1 0 0 0 0 0 (-1) 0 0 0 0 (fun _ => 0) (fun _ => 0) (fun _ => 0) (fun _ => 0) o1.2.2 (fun _ => 0))) (r := o1.1) (wr := (lw_m G a_m m0 m1 m2 m3 m4 m5 m6 m7 m8 m9 m10 m11 m12 m13 m14 m15 m16 m17 m18 m19 m20 m21 m22 m23 m24 m25 m26 m27 m28 m29 m30)) hRun hP hD hA hS [0, 14, 1, 15, 9, 16, 2, 3, 4, 17, 5] [27, 28, 29, 30, 31, 32, 33, 34, 35, 36, 37, 38, 39, 40, 41, 42, 43, 44, 45, 46, 47, 48, 49, 50, 51, 52, 53, 54, 55, 56, 57, 58] rfl rfl rfl (by decide) (fun H locs hP hD hS => ?_)
  clear hRun
  refine lv_aload_n hx hb dL_369 rfl (lv_at hl 1 rfl) ?_
  refine lv_aload_n hx hb dL_370 rfl (lv_at hl 3 rfl) ?_
  refine lv_iload_n hx hb dL_371 rfl (lv_at hl 0 rfl) ?_
  refine lv_iconst (v := 1) hx hb dL_372 (by decide) ?_
  refine lv_iadd hx hb dL_373 ?_
  refine va_sld hx hb hX hbl hbA hS (vp_in_iff.mpr (by decide)) dL_374 ?_
  refine W.eq (g2 := F0 m 375 ls [.int (xs 1), .ref a_m, .int o1.1]) (by rw [show ((0 : Int32) + 1).toNatClampNeg = 1 from by decide]) ?_
  refine lv_aload_n hx hb dL_375 rfl (lv_at hl 3 rfl) ?_
  refine lv_iload_n hx hb dL_376 rfl (lv_at hl 0 rfl) ?_
  refine lv_iconst (v := 2) hx hb dL_377 (by decide) ?_
  refine lv_iadd hx hb dL_378 ?_
  refine va_sld hx hb hX hbl hbA hS (vp_in_iff.mpr (by decide)) dL_379 ?_
  refine W.eq (g2 := F0 m 380 ls [.int (xs 2), .int (xs 1), .ref a_m, .int o1.1]) (by rw [show ((0 : Int32) + 2).toNatClampNeg = 2 from by decide]) ?_
  refine lv_aload_n hx hb dL_380 rfl (lv_at hl 3 rfl) ?_
  refine lv_iload_n hx hb dL_381 rfl (lv_at hl 0 rfl) ?_
  refine lv_iconst (v := 3) hx hb dL_382 (by decide) ?_
  refine lv_iadd hx hb dL_383 ?_
  refine va_sld hx hb hX hbl hbA hS (vp_in_iff.mpr (by decide)) dL_384 ?_
  refine W.eq (g2 := F0 m 385 ls [.int (xs 3), .int (xs 2), .int (xs 1), .ref a_m, .int o1.1]) (by rw [show ((0 : Int32) + 3).toNatClampNeg = 3 from by decide]) ?_
  have hRun := va_runV (R := room_1) (locs := locs) (H := H) (l := l) (e := e) (below := below) (meth := meth) (cells := 59) (slots := 7221) (g := F0 m 385 ls [.int (xs 3), .int (xs 2), .int (xs 1), .ref a_m, .int o1.1]) (As := [.int (xs 1), .int (xs 2), .int (xs 3)]) (rest := [.int o1.1]) ⟨hx, hb, hml, hown, hts⟩ (c_M_point l D G a_m m6 m1 m0 m2 m10 m3 m4 m5 m7 m8 m9 m11 m12 m13 m14 m15 m16 m17 m18 m19 m20 m21 m22 m23 m24 m25 m26 m27 m28 m29 m30 0 0 0 0 0 0 0 0 0 0 0 0 0 (-1) 0 0 0 0 0 0 0 0 0 0 0 0 0 0 0 0 0 0 0 0 0 (fun _ => 0) (fun _ => 0) (fun _ => 0) (fun _ => 0) (fun _ => 0) (fun _ => 0) (xs 1) (xs 2) (xs 3) o2 h2 H.size) (cwV 3 hts (gV tw1041 tw1042 tw1043 tw11 tw1044) rfl rfl rfl (by decide +kernel) ⟨Nat.le_of_ble_eq_true rfl, Nat.le_of_ble_eq_true rfl⟩) (ob_preV (q0 := 0) (ci := 11) hZ hK hP hD [0, 7, 2, 1, 3, 11, 4] rfl rfl rfl rfl rfl) rfl rfl hl.1 rfl (lv_room (Nat.le_of_ble_eq_true rfl)) dL_385 ⟨Nat.le_of_ble_eq_true rfl, Nat.le_of_ble_eq_true rfl⟩
  refine ob_calli (wc := (cw_M_point G a_m m6 m1 m0 m2 m10 m3 m4 m5 m7 m8 m9 m11 m12 m13 m14 m15 m16 m17 m18 m19 m20 m21 m22 m23 m24 m25 m26 m27 m28 m29 m30 0 0 0 0 0 0 0 0 0 0 0 0 0 (-1) 0 0 0 0 0 0 0 0 0 0 0 0 0 0 0 0 0 0 0 0 0 (fun _ => 0) (fun _ => 0) (fun _ => 0) (fun _ => 0) (fun _ => 0) (fun _ => 0))) (wc1 := (cw_M_point G a_m m6 m1 m0 m2 m10 m3 m4 m5 m7 m8 m9 m11 m12 m13 m14 m15 m16 m17 m18 m19 m20 m21 m22 m23 m24 m25 m26 m27 m28 m29 m30 0 0 0 0 0 0 0 0 0 0 o2.2.1 0 0 (-1) 0 0 0 0 0 0 0 0 0 0 0 0 0 0 0 0 0 0 0 0 0 (fun _ => 0) (fun _ => 0) (fun _ => 0) (fun _ => 0) o2.2.2 (fun _ => 0))) (r := o2.1) hRun hP hD hA hS [0, 7, 2, 1, 3, 11, 4] rfl rfl rfl rfl (fun H locs hP hD hS => ?_)
  clear hRun
  refine lv_icmp_eq (tgt := 877) hx hb dL_388 (by decide) (fun _ => ?_) (fun hc => absurd he hc)
  exact tailN ls H locs _ _ (Nat.le_of_ble_eq_true rfl) (Nat.le_of_ble_eq_true rfl) (lv_sub hl [0, 3] rfl) hS
set_option maxHeartbeats 1000000 in
set_option maxRecDepth 100000 in
theorem law_7 {p : Program} {e : Env} {s : State} {m : MethodId} {below : List Frame} {meth : Method} {c : Code} {b : Nat} {xs : Nat → Int32} {D : va_G} {G : Nat → ClassId} {A : Nat → Prop} {a_x x0 x1 x2 x3 x4 x5 x6 x7 x8 x9 x10 x11 x12 x13 x14 x15 x16 x17 x18 x19 x20 x21 x22 x23 x24 x25 a_m m0 m1 m2 m3 m4 m5 m6 m7 m8 m9 m10 m11 m12 m13 m14 m15 m16 m17 m18 m19 m20 m21 m22 m23 m24 m25 m26 m27 m28 m29 m30 : Nat} {ls : Array Slot} {H : Heap} {locs : List Loc} (l : Launch) (hx : p.tables.exec = Jvm.exec) (hb : c.code = code) (hml : c.maxLocals = 4) (hown : s.vm.findClass "ObjectBaseLaw" = some m.cls) (hts : ∀ w ∈ obW, w.before #[Value.ref b] s = true) (hZ : obZ s) (hK : va_K D vwCl (obT G) s) (hA : ∀ q, s.heap.size ≤ q → A q) (hX : va_X b 5 xs s s.heap) (hbl : b < s.heap.size) (hbA : ¬ A b) (hP : va_P D vwCl (lw_w G a_x x0 x1 x2 x3 x4 x5 x6 x7 x8 x9 x10 x11 x12 x13 x14 x15 x16 x17 x18 x19 x20 x21 x22 x23 x24 x25 a_m m0 m1 m2 m3 m4 m5 m6 m7 m8 m9 m10 m11 m12 m13 m14 m15 m16 m17 m18 m19 m20 m21 m22 m23 m24 m25 m26 m27 m28 m29 m30) H) (hD : va_D A (lw_w G a_x x0 x1 x2 x3 x4 x5 x6 x7 x8 x9 x10 x11 x12 x13 x14 x15 x16 x17 x18 x19 x20 x21 x22 x23 x24 x25 a_m m0 m1 m2 m3 m4 m5 m6 m7 m8 m9 m10 m11 m12 m13 m14 m15 m16 m17 m18 m19 m20 m21 m22 m23 m24 m25 m26 m27 m28 m29 m30)) (hS : va_S A s.heap H locs) (hl : lv_has ls 4 [(3, .int 0), (2, .ref a_m), (1, .ref a_x), (0, .ref b)])
    (tailN : ∀ (ls : Array Slot) (H : Heap) (locs : List Loc) (cells slots : Nat), cells ≤ 600000 → slots ≤ 7302250 → lv_has ls 4 [(3, .int 0), (0, .ref b)] → va_S A s.heap H locs → W p l e room_1 s m #[Value.ref b] below meth c H locs cells slots (lw_Z below #[Value.ref b] s) (F0 m 877 ls [])) :
    W p l e room_1 s m #[Value.ref b] below meth c H locs 59 7221 (lw_Z below #[Value.ref b] s) (F0 m 393 ls []) := by
  refine lv_aload_n hx hb dL_393 rfl (lv_at hl 2 rfl) ?_
  refine lv_aload_n hx hb dL_394 rfl (lv_at hl 3 rfl) ?_
  refine lv_iload_n hx hb dL_395 rfl (lv_at hl 0 rfl) ?_
  refine lv_iconst (v := 1) hx hb dL_396 (by decide) ?_
  refine lv_iadd hx hb dL_397 ?_
  refine va_sld hx hb hX hbl hbA hS (vp_in_iff.mpr (by decide)) dL_398 ?_
  refine W.eq (g2 := F0 m 399 ls [.int (xs 1), .ref a_x]) (by rw [show ((0 : Int32) + 1).toNatClampNeg = 1 from by decide]) ?_
  refine lv_aload_n hx hb dL_399 rfl (lv_at hl 3 rfl) ?_
  refine lv_iload_n hx hb dL_400 rfl (lv_at hl 0 rfl) ?_
  refine lv_iconst (v := 2) hx hb dL_401 (by decide) ?_
  refine lv_iadd hx hb dL_402 ?_
  refine va_sld hx hb hX hbl hbA hS (vp_in_iff.mpr (by decide)) dL_403 ?_
  refine W.eq (g2 := F0 m 404 ls [.int (xs 2), .int (xs 1), .ref a_x]) (by rw [show ((0 : Int32) + 2).toNatClampNeg = 2 from by decide]) ?_
  refine lv_aload_n hx hb dL_404 rfl (lv_at hl 3 rfl) ?_
  refine lv_iload_n hx hb dL_405 rfl (lv_at hl 0 rfl) ?_
  refine lv_iconst (v := 3) hx hb dL_406 (by decide) ?_
  refine lv_iadd hx hb dL_407 ?_
  refine va_sld hx hb hX hbl hbA hS (vp_in_iff.mpr (by decide)) dL_408 ?_
  refine W.eq (g2 := F0 m 409 ls [.int (xs 3), .int (xs 2), .int (xs 1), .ref a_x]) (by rw [show ((0 : Int32) + 3).toNatClampNeg = 3 from by decide]) ?_
  refine lv_aload_n hx hb dL_409 rfl (lv_at hl 3 rfl) ?_
  refine lv_iload_n hx hb dL_410 rfl (lv_at hl 0 rfl) ?_
  refine lv_iconst (v := 4) hx hb dL_411 (by decide) ?_
  refine lv_iadd hx hb dL_412 ?_
  refine va_sld hx hb hX hbl hbA hS (vp_in_iff.mpr (by decide)) dL_413 ?_
  refine W.eq (g2 := F0 m 414 ls [.int (xs 4), .int (xs 3), .int (xs 2), .int (xs 1), .ref a_x]) (by rw [show ((0 : Int32) + 4).toNatClampNeg = 4 from by decide]) ?_
  refine lv_if_eq (tgt := 421) hx hb dL_414 (by decide) (fun hk => ?_) (fun hk => ?_)
  · skip
    refine lv_iconst (v := 0) hx hb dL_421 (by decide) ?_
    obtain ⟨o1, o2, h1, h2, he⟩ := P_join (xs 1) (xs 2) (xs 3) 0
    have hRun := va_runV (R := room_1) (locs := locs) (H := H) (l := l) (e := e) (below := below) (meth := meth) (cells := 59) (slots := 7221) (g := F0 m 422 ls [.int 0, .int (xs 3), .int (xs 2), .int (xs 1), .ref a_x]) (As := [.int (xs 1), .int (xs 2), .int (xs 3), .int 0]) (rest := []) ⟨hx, hb, hml, hown, hts⟩ (c_OB_join l D G a_x x13 x0 x14 x8 x15 x1 x2 x3 x4 x16 x5 x9 x18 x20 x21 x23 x25 x17 0 0 0 0 0 0 0 0 0 0 (-1) 0 0 0 0 (fun _ => 0) (fun _ => 0) (fun _ => 0) (fun _ => 0) (fun _ => 0) (fun _ => 0) (xs 1) (xs 2) (xs 3) 0 o1 h1 H.size) (cwV 4 hts (gV tw385 tw386 tw387 tw1 tw388) rfl rfl rfl (by decide +kernel) ⟨Nat.le_of_ble_eq_true rfl, Nat.le_of_ble_eq_true rfl⟩) (ob_preV (q0 := 0) (ci := 0) hZ hK hP hD [0, 14, 1, 15, 9, 16, 2, 3, 4, 5, 17] rfl rfl rfl rfl rfl) rfl rfl hl.1 rfl (lv_room (Nat.le_of_ble_eq_true rfl)) dL_422 ⟨Nat.le_of_ble_eq_true rfl, Nat.le_of_ble_eq_true rfl⟩
    refine ob_dropi (wc := (cw_OB_join G a_x x13 x0 x14 x8 x15 x1 x2 x3 x4 x16 x5 x9 x18 x20 x21 x23 x25 x17 0 0 0 0 0 0 0 0 0 0 (-1) 0 0 0 0 (fun _ => 0) (fun _ => 0) (fun _ => 0) (fun _ => 0) (fun _ => 0) (fun _ => 0))) (wc1 := (cw_OB_join G a_x x13 x0 x14 x8 x15 x1 x2 x3 x4 x16 x5 x9 x18 x20 x21 x23 x25 x17 0 0 0 0 o1.2.1 0 0 0 0 0 (-1) 0 0 0 0 (fun _ => 0) (fun _ => 0) (fun _ => 0) (fun _ => 0) (fun _ => 0) o1.2.2)) (r := o1.1) (wr := (lw_m G a_m m0 m1 m2 m3 m4 m5 m6 m7 m8 m9 m10 m11 m12 m13 m14 m15 m16 m17 m18 m19 m20 m21 m22 m23 m24 m25 m26 m27 m28 m29 m30)) hRun hP hD hA hS [0, 14, 1, 15, 9, 16, 2, 3, 4, 5, 17] [27, 28, 29, 30, 31, 32, 33, 34, 35, 36, 37, 38, 39, 40, 41, 42, 43, 44, 45, 46, 47, 48, 49, 50, 51, 52, 53, 54, 55, 56, 57, 58] rfl rfl rfl (by decide) (fun H locs hP hD hS => ?_)
    clear hRun
    refine lv_aload_n hx hb dL_425 rfl (lv_at hl 1 rfl) ?_
    refine lv_aload_n hx hb dL_426 rfl (lv_at hl 3 rfl) ?_
    refine lv_iload_n hx hb dL_427 rfl (lv_at hl 0 rfl) ?_
    refine lv_iconst (v := 1) hx hb dL_428 (by decide) ?_
    refine lv_iadd hx hb dL_429 ?_
    refine va_sld hx hb hX hbl hbA hS (vp_in_iff.mpr (by decide)) dL_430 ?_
    refine W.eq (g2 := F0 m 431 ls [.int (xs 1), .ref a_m, .int o1.1]) (by rw [show ((0 : Int32) + 1).toNatClampNeg = 1 from by decide]) ?_
    refine lv_aload_n hx hb dL_431 rfl (lv_at hl 3 rfl) ?_
    refine lv_iload_n hx hb dL_432 rfl (lv_at hl 0 rfl) ?_
    refine lv_iconst (v := 2) hx hb dL_433 (by decide) ?_
    refine lv_iadd hx hb dL_434 ?_
    refine va_sld hx hb hX hbl hbA hS (vp_in_iff.mpr (by decide)) dL_435 ?_
    refine W.eq (g2 := F0 m 436 ls [.int (xs 2), .int (xs 1), .ref a_m, .int o1.1]) (by rw [show ((0 : Int32) + 2).toNatClampNeg = 2 from by decide]) ?_
    refine lv_aload_n hx hb dL_436 rfl (lv_at hl 3 rfl) ?_
    refine lv_iload_n hx hb dL_437 rfl (lv_at hl 0 rfl) ?_
    refine lv_iconst (v := 3) hx hb dL_438 (by decide) ?_
    refine lv_iadd hx hb dL_439 ?_
    refine va_sld hx hb hX hbl hbA hS (vp_in_iff.mpr (by decide)) dL_440 ?_
    refine W.eq (g2 := F0 m 441 ls [.int (xs 3), .int (xs 2), .int (xs 1), .ref a_m, .int o1.1]) (by rw [show ((0 : Int32) + 3).toNatClampNeg = 3 from by decide]) ?_
    refine lv_aload_n hx hb dL_441 rfl (lv_at hl 3 rfl) ?_
    refine lv_iload_n hx hb dL_442 rfl (lv_at hl 0 rfl) ?_
    refine lv_iconst (v := 4) hx hb dL_443 (by decide) ?_
    refine lv_iadd hx hb dL_444 ?_
    refine va_sld hx hb hX hbl hbA hS (vp_in_iff.mpr (by decide)) dL_445 ?_
    refine W.eq (g2 := F0 m 446 ls [.int (xs 4), .int (xs 3), .int (xs 2), .int (xs 1), .ref a_m, .int o1.1]) (by rw [show ((0 : Int32) + 4).toNatClampNeg = 4 from by decide]) ?_
    refine lv_if_eq (tgt := 453) hx hb dL_446 (by decide) (fun _ => ?_) (fun h => absurd hk h)
    refine lv_iconst (v := 0) hx hb dL_453 (by decide) ?_
    have hRun := va_runV (R := room_1) (locs := locs) (H := H) (l := l) (e := e) (below := below) (meth := meth) (cells := 59) (slots := 7221) (g := F0 m 454 ls [.int 0, .int (xs 3), .int (xs 2), .int (xs 1), .ref a_m, .int o1.1]) (As := [.int (xs 1), .int (xs 2), .int (xs 3), .int 0]) (rest := [.int o1.1]) ⟨hx, hb, hml, hown, hts⟩ (c_M_join l D G a_m m6 m1 m0 m2 m3 m11 m4 m5 m7 m8 m9 m10 m12 m13 m14 m15 m16 m17 m18 m19 m20 m21 m22 m23 m24 m25 m26 m27 m28 m29 m30 0 0 0 0 0 0 0 0 0 0 0 0 0 (-1) 0 0 0 0 0 0 0 0 0 0 0 0 0 0 0 0 0 0 0 0 0 (fun _ => 0) (fun _ => 0) (fun _ => 0) (fun _ => 0) (fun _ => 0) (fun _ => 0) (xs 1) (xs 2) (xs 3) 0 o2 h2 H.size) (cwV 4 hts (gV tw1049 tw1050 tw1051 tw11 tw1052) rfl rfl rfl (by decide +kernel) ⟨Nat.le_of_ble_eq_true rfl, Nat.le_of_ble_eq_true rfl⟩) (ob_preV (q0 := 0) (ci := 11) hZ hK hP hD [0, 7, 2, 1, 3, 4, 12] rfl rfl rfl rfl rfl) rfl rfl hl.1 rfl (lv_room (Nat.le_of_ble_eq_true rfl)) dL_454 ⟨Nat.le_of_ble_eq_true rfl, Nat.le_of_ble_eq_true rfl⟩
    refine ob_calli (wc := (cw_M_join G a_m m6 m1 m0 m2 m3 m11 m4 m5 m7 m8 m9 m10 m12 m13 m14 m15 m16 m17 m18 m19 m20 m21 m22 m23 m24 m25 m26 m27 m28 m29 m30 0 0 0 0 0 0 0 0 0 0 0 0 0 (-1) 0 0 0 0 0 0 0 0 0 0 0 0 0 0 0 0 0 0 0 0 0 (fun _ => 0) (fun _ => 0) (fun _ => 0) (fun _ => 0) (fun _ => 0) (fun _ => 0))) (wc1 := (cw_M_join G a_m m6 m1 m0 m2 m3 m11 m4 m5 m7 m8 m9 m10 m12 m13 m14 m15 m16 m17 m18 m19 m20 m21 m22 m23 m24 m25 m26 m27 m28 m29 m30 0 0 0 0 0 0 0 0 0 0 o2.2.1 0 0 (-1) 0 0 0 0 0 0 0 0 0 0 0 0 0 0 0 0 0 0 0 0 0 (fun _ => 0) (fun _ => 0) (fun _ => 0) (fun _ => 0) (fun _ => 0) o2.2.2)) (r := o2.1) hRun hP hD hA hS [0, 7, 2, 1, 3, 4, 12] rfl rfl rfl rfl (fun H locs hP hD hS => ?_)
    clear hRun
    refine lv_icmp_eq (tgt := 877) hx hb dL_457 (by decide) (fun _ => ?_) (fun hc => absurd he hc)
    exact tailN ls H locs _ _ (Nat.le_of_ble_eq_true rfl) (Nat.le_of_ble_eq_true rfl) (lv_sub hl [0, 3] rfl) hS
  · skip
    refine lv_iconst (v := 1) hx hb dL_417 (by decide) ?_
    refine lv_goto (tgt := 422) hx hb dL_418 (by decide) ?_
    obtain ⟨o1, o2, h1, h2, he⟩ := P_join (xs 1) (xs 2) (xs 3) 1
    have hRun := va_runV (R := room_1) (locs := locs) (H := H) (l := l) (e := e) (below := below) (meth := meth) (cells := 59) (slots := 7221) (g := F0 m 422 ls [.int 1, .int (xs 3), .int (xs 2), .int (xs 1), .ref a_x]) (As := [.int (xs 1), .int (xs 2), .int (xs 3), .int 1]) (rest := []) ⟨hx, hb, hml, hown, hts⟩ (c_OB_join l D G a_x x13 x0 x14 x8 x15 x1 x2 x3 x4 x16 x5 x9 x18 x20 x21 x23 x25 x17 0 0 0 0 0 0 0 0 0 0 (-1) 0 0 0 0 (fun _ => 0) (fun _ => 0) (fun _ => 0) (fun _ => 0) (fun _ => 0) (fun _ => 0) (xs 1) (xs 2) (xs 3) 1 o1 h1 H.size) (cwV 4 hts (gV tw385 tw386 tw387 tw1 tw388) rfl rfl rfl (by decide +kernel) ⟨Nat.le_of_ble_eq_true rfl, Nat.le_of_ble_eq_true rfl⟩) (ob_preV (q0 := 0) (ci := 0) hZ hK hP hD [0, 14, 1, 15, 9, 16, 2, 3, 4, 5, 17] rfl rfl rfl rfl rfl) rfl rfl hl.1 rfl (lv_room (Nat.le_of_ble_eq_true rfl)) dL_422 ⟨Nat.le_of_ble_eq_true rfl, Nat.le_of_ble_eq_true rfl⟩
    refine ob_dropi (wc := (cw_OB_join G a_x x13 x0 x14 x8 x15 x1 x2 x3 x4 x16 x5 x9 x18 x20 x21 x23 x25 x17 0 0 0 0 0 0 0 0 0 0 (-1) 0 0 0 0 (fun _ => 0) (fun _ => 0) (fun _ => 0) (fun _ => 0) (fun _ => 0) (fun _ => 0))) (wc1 := (cw_OB_join G a_x x13 x0 x14 x8 x15 x1 x2 x3 x4 x16 x5 x9 x18 x20 x21 x23 x25 x17 0 0 0 0 o1.2.1 0 0 0 0 0 (-1) 0 0 0 0 (fun _ => 0) (fun _ => 0) (fun _ => 0) (fun _ => 0) (fun _ => 0) o1.2.2)) (r := o1.1) (wr := (lw_m G a_m m0 m1 m2 m3 m4 m5 m6 m7 m8 m9 m10 m11 m12 m13 m14 m15 m16 m17 m18 m19 m20 m21 m22 m23 m24 m25 m26 m27 m28 m29 m30)) hRun hP hD hA hS [0, 14, 1, 15, 9, 16, 2, 3, 4, 5, 17] [27, 28, 29, 30, 31, 32, 33, 34, 35, 36, 37, 38, 39, 40, 41, 42, 43, 44, 45, 46, 47, 48, 49, 50, 51, 52, 53, 54, 55, 56, 57, 58] rfl rfl rfl (by decide) (fun H locs hP hD hS => ?_)
    clear hRun
    refine lv_aload_n hx hb dL_425 rfl (lv_at hl 1 rfl) ?_
    refine lv_aload_n hx hb dL_426 rfl (lv_at hl 3 rfl) ?_
    refine lv_iload_n hx hb dL_427 rfl (lv_at hl 0 rfl) ?_
    refine lv_iconst (v := 1) hx hb dL_428 (by decide) ?_
    refine lv_iadd hx hb dL_429 ?_
    refine va_sld hx hb hX hbl hbA hS (vp_in_iff.mpr (by decide)) dL_430 ?_
    refine W.eq (g2 := F0 m 431 ls [.int (xs 1), .ref a_m, .int o1.1]) (by rw [show ((0 : Int32) + 1).toNatClampNeg = 1 from by decide]) ?_
    refine lv_aload_n hx hb dL_431 rfl (lv_at hl 3 rfl) ?_
    refine lv_iload_n hx hb dL_432 rfl (lv_at hl 0 rfl) ?_
    refine lv_iconst (v := 2) hx hb dL_433 (by decide) ?_
    refine lv_iadd hx hb dL_434 ?_
    refine va_sld hx hb hX hbl hbA hS (vp_in_iff.mpr (by decide)) dL_435 ?_
    refine W.eq (g2 := F0 m 436 ls [.int (xs 2), .int (xs 1), .ref a_m, .int o1.1]) (by rw [show ((0 : Int32) + 2).toNatClampNeg = 2 from by decide]) ?_
    refine lv_aload_n hx hb dL_436 rfl (lv_at hl 3 rfl) ?_
    refine lv_iload_n hx hb dL_437 rfl (lv_at hl 0 rfl) ?_
    refine lv_iconst (v := 3) hx hb dL_438 (by decide) ?_
    refine lv_iadd hx hb dL_439 ?_
    refine va_sld hx hb hX hbl hbA hS (vp_in_iff.mpr (by decide)) dL_440 ?_
    refine W.eq (g2 := F0 m 441 ls [.int (xs 3), .int (xs 2), .int (xs 1), .ref a_m, .int o1.1]) (by rw [show ((0 : Int32) + 3).toNatClampNeg = 3 from by decide]) ?_
    refine lv_aload_n hx hb dL_441 rfl (lv_at hl 3 rfl) ?_
    refine lv_iload_n hx hb dL_442 rfl (lv_at hl 0 rfl) ?_
    refine lv_iconst (v := 4) hx hb dL_443 (by decide) ?_
    refine lv_iadd hx hb dL_444 ?_
    refine va_sld hx hb hX hbl hbA hS (vp_in_iff.mpr (by decide)) dL_445 ?_
    refine W.eq (g2 := F0 m 446 ls [.int (xs 4), .int (xs 3), .int (xs 2), .int (xs 1), .ref a_m, .int o1.1]) (by rw [show ((0 : Int32) + 4).toNatClampNeg = 4 from by decide]) ?_
    refine lv_if_eq (tgt := 453) hx hb dL_446 (by decide) (fun h => absurd h hk) (fun _ => ?_)
    refine lv_iconst (v := 1) hx hb dL_449 (by decide) ?_
    refine lv_goto (tgt := 454) hx hb dL_450 (by decide) ?_
    have hRun := va_runV (R := room_1) (locs := locs) (H := H) (l := l) (e := e) (below := below) (meth := meth) (cells := 59) (slots := 7221) (g := F0 m 454 ls [.int 1, .int (xs 3), .int (xs 2), .int (xs 1), .ref a_m, .int o1.1]) (As := [.int (xs 1), .int (xs 2), .int (xs 3), .int 1]) (rest := [.int o1.1]) ⟨hx, hb, hml, hown, hts⟩ (c_M_join l D G a_m m6 m1 m0 m2 m3 m11 m4 m5 m7 m8 m9 m10 m12 m13 m14 m15 m16 m17 m18 m19 m20 m21 m22 m23 m24 m25 m26 m27 m28 m29 m30 0 0 0 0 0 0 0 0 0 0 0 0 0 (-1) 0 0 0 0 0 0 0 0 0 0 0 0 0 0 0 0 0 0 0 0 0 (fun _ => 0) (fun _ => 0) (fun _ => 0) (fun _ => 0) (fun _ => 0) (fun _ => 0) (xs 1) (xs 2) (xs 3) 1 o2 h2 H.size) (cwV 4 hts (gV tw1049 tw1050 tw1051 tw11 tw1052) rfl rfl rfl (by decide +kernel) ⟨Nat.le_of_ble_eq_true rfl, Nat.le_of_ble_eq_true rfl⟩) (ob_preV (q0 := 0) (ci := 11) hZ hK hP hD [0, 7, 2, 1, 3, 4, 12] rfl rfl rfl rfl rfl) rfl rfl hl.1 rfl (lv_room (Nat.le_of_ble_eq_true rfl)) dL_454 ⟨Nat.le_of_ble_eq_true rfl, Nat.le_of_ble_eq_true rfl⟩
    refine ob_calli (wc := (cw_M_join G a_m m6 m1 m0 m2 m3 m11 m4 m5 m7 m8 m9 m10 m12 m13 m14 m15 m16 m17 m18 m19 m20 m21 m22 m23 m24 m25 m26 m27 m28 m29 m30 0 0 0 0 0 0 0 0 0 0 0 0 0 (-1) 0 0 0 0 0 0 0 0 0 0 0 0 0 0 0 0 0 0 0 0 0 (fun _ => 0) (fun _ => 0) (fun _ => 0) (fun _ => 0) (fun _ => 0) (fun _ => 0))) (wc1 := (cw_M_join G a_m m6 m1 m0 m2 m3 m11 m4 m5 m7 m8 m9 m10 m12 m13 m14 m15 m16 m17 m18 m19 m20 m21 m22 m23 m24 m25 m26 m27 m28 m29 m30 0 0 0 0 0 0 0 0 0 0 o2.2.1 0 0 (-1) 0 0 0 0 0 0 0 0 0 0 0 0 0 0 0 0 0 0 0 0 0 (fun _ => 0) (fun _ => 0) (fun _ => 0) (fun _ => 0) (fun _ => 0) o2.2.2)) (r := o2.1) hRun hP hD hA hS [0, 7, 2, 1, 3, 4, 12] rfl rfl rfl rfl (fun H locs hP hD hS => ?_)
    clear hRun
    refine lv_icmp_eq (tgt := 877) hx hb dL_457 (by decide) (fun _ => ?_) (fun hc => absurd he hc)
    exact tailN ls H locs _ _ (Nat.le_of_ble_eq_true rfl) (Nat.le_of_ble_eq_true rfl) (lv_sub hl [0, 3] rfl) hS
set_option maxHeartbeats 1000000 in
set_option maxRecDepth 100000 in
theorem law_8 {p : Program} {e : Env} {s : State} {m : MethodId} {below : List Frame} {meth : Method} {c : Code} {b : Nat} {xs : Nat → Int32} {D : va_G} {G : Nat → ClassId} {A : Nat → Prop} {a_x x0 x1 x2 x3 x4 x5 x6 x7 x8 x9 x10 x11 x12 x13 x14 x15 x16 x17 x18 x19 x20 x21 x22 x23 x24 x25 a_m m0 m1 m2 m3 m4 m5 m6 m7 m8 m9 m10 m11 m12 m13 m14 m15 m16 m17 m18 m19 m20 m21 m22 m23 m24 m25 m26 m27 m28 m29 m30 : Nat} {ls : Array Slot} {H : Heap} {locs : List Loc} (l : Launch) (hx : p.tables.exec = Jvm.exec) (hb : c.code = code) (hml : c.maxLocals = 4) (hown : s.vm.findClass "ObjectBaseLaw" = some m.cls) (hts : ∀ w ∈ obW, w.before #[Value.ref b] s = true) (hZ : obZ s) (hK : va_K D vwCl (obT G) s) (hA : ∀ q, s.heap.size ≤ q → A q) (hX : va_X b 5 xs s s.heap) (hbl : b < s.heap.size) (hbA : ¬ A b) (hP : va_P D vwCl (lw_w G a_x x0 x1 x2 x3 x4 x5 x6 x7 x8 x9 x10 x11 x12 x13 x14 x15 x16 x17 x18 x19 x20 x21 x22 x23 x24 x25 a_m m0 m1 m2 m3 m4 m5 m6 m7 m8 m9 m10 m11 m12 m13 m14 m15 m16 m17 m18 m19 m20 m21 m22 m23 m24 m25 m26 m27 m28 m29 m30) H) (hD : va_D A (lw_w G a_x x0 x1 x2 x3 x4 x5 x6 x7 x8 x9 x10 x11 x12 x13 x14 x15 x16 x17 x18 x19 x20 x21 x22 x23 x24 x25 a_m m0 m1 m2 m3 m4 m5 m6 m7 m8 m9 m10 m11 m12 m13 m14 m15 m16 m17 m18 m19 m20 m21 m22 m23 m24 m25 m26 m27 m28 m29 m30)) (hS : va_S A s.heap H locs) (hl : lv_has ls 4 [(3, .int 0), (2, .ref a_m), (1, .ref a_x), (0, .ref b)])
    (tailN : ∀ (ls : Array Slot) (H : Heap) (locs : List Loc) (cells slots : Nat), cells ≤ 600000 → slots ≤ 7302250 → lv_has ls 4 [(3, .int 0), (0, .ref b)] → va_S A s.heap H locs → W p l e room_1 s m #[Value.ref b] below meth c H locs cells slots (lw_Z below #[Value.ref b] s) (F0 m 877 ls [])) :
    W p l e room_1 s m #[Value.ref b] below meth c H locs 59 7221 (lw_Z below #[Value.ref b] s) (F0 m 462 ls []) := by
  refine lv_aload_n hx hb dL_462 rfl (lv_at hl 2 rfl) ?_
  refine lv_aload_n hx hb dL_463 rfl (lv_at hl 3 rfl) ?_
  refine lv_iload_n hx hb dL_464 rfl (lv_at hl 0 rfl) ?_
  refine lv_iconst (v := 1) hx hb dL_465 (by decide) ?_
  refine lv_iadd hx hb dL_466 ?_
  refine va_sld hx hb hX hbl hbA hS (vp_in_iff.mpr (by decide)) dL_467 ?_
  refine W.eq (g2 := F0 m 468 ls [.int (xs 1), .ref a_x]) (by rw [show ((0 : Int32) + 1).toNatClampNeg = 1 from by decide]) ?_
  refine lv_aload_n hx hb dL_468 rfl (lv_at hl 3 rfl) ?_
  refine lv_iload_n hx hb dL_469 rfl (lv_at hl 0 rfl) ?_
  refine lv_iconst (v := 2) hx hb dL_470 (by decide) ?_
  refine lv_iadd hx hb dL_471 ?_
  refine va_sld hx hb hX hbl hbA hS (vp_in_iff.mpr (by decide)) dL_472 ?_
  refine W.eq (g2 := F0 m 473 ls [.int (xs 2), .int (xs 1), .ref a_x]) (by rw [show ((0 : Int32) + 2).toNatClampNeg = 2 from by decide]) ?_
  obtain ⟨o1, o2, h1, h2, he⟩ := P_name (xs 1) (xs 2)
  have hRun := va_runV (R := room_1) (locs := locs) (H := H) (l := l) (e := e) (below := below) (meth := meth) (cells := 59) (slots := 7221) (g := F0 m 473 ls [.int (xs 2), .int (xs 1), .ref a_x]) (As := [.int (xs 1), .int (xs 2)]) (rest := []) ⟨hx, hb, hml, hown, hts⟩ (c_OB_name l D G a_x x8 x13 x14 x17 x0 x5 x9 x18 x20 x21 x23 x25 x15 x16 0 0 0 0 (-1) 0 0 0 0 0 0 0 0 (fun _ => 0) (xs 1) (xs 2) o1 h1 H.size) (cwV 2 hts (gV tw392 tw393 tw394 tw1 tw395) rfl rfl rfl (by decide +kernel) ⟨Nat.le_of_ble_eq_true rfl, Nat.le_of_ble_eq_true rfl⟩) (ob_preV (q0 := 0) (ci := 0) hZ hK hP hD [0, 9, 14, 15, 18] rfl rfl rfl rfl rfl) rfl rfl hl.1 rfl (lv_room (Nat.le_of_ble_eq_true rfl)) dL_473 ⟨Nat.le_of_ble_eq_true rfl, Nat.le_of_ble_eq_true rfl⟩
  refine ob_dropi (wc := (cw_OB_name G a_x x8 x13 x14 x17 x0 x5 x9 x18 x20 x21 x23 x25 x15 x16 0 0 0 0 (-1) 0 0 0 0 0 0 0 0 (fun _ => 0))) (wc1 := (cw_OB_name G a_x x8 x13 x14 x17 x0 x5 x9 x18 x20 x21 x23 x25 x15 x16 0 0 0 0 (-1) 0 0 0 0 0 0 o1.2.1 0 o1.2.2)) (r := o1.1) (wr := (lw_m G a_m m0 m1 m2 m3 m4 m5 m6 m7 m8 m9 m10 m11 m12 m13 m14 m15 m16 m17 m18 m19 m20 m21 m22 m23 m24 m25 m26 m27 m28 m29 m30)) hRun hP hD hA hS [0, 9, 14, 15, 18] [27, 28, 29, 30, 31, 32, 33, 34, 35, 36, 37, 38, 39, 40, 41, 42, 43, 44, 45, 46, 47, 48, 49, 50, 51, 52, 53, 54, 55, 56, 57, 58] rfl rfl rfl (by decide) (fun H locs hP hD hS => ?_)
  clear hRun
  refine lv_aload_n hx hb dL_476 rfl (lv_at hl 1 rfl) ?_
  refine lv_aload_n hx hb dL_477 rfl (lv_at hl 3 rfl) ?_
  refine lv_iload_n hx hb dL_478 rfl (lv_at hl 0 rfl) ?_
  refine lv_iconst (v := 1) hx hb dL_479 (by decide) ?_
  refine lv_iadd hx hb dL_480 ?_
  refine va_sld hx hb hX hbl hbA hS (vp_in_iff.mpr (by decide)) dL_481 ?_
  refine W.eq (g2 := F0 m 482 ls [.int (xs 1), .ref a_m, .int o1.1]) (by rw [show ((0 : Int32) + 1).toNatClampNeg = 1 from by decide]) ?_
  refine lv_aload_n hx hb dL_482 rfl (lv_at hl 3 rfl) ?_
  refine lv_iload_n hx hb dL_483 rfl (lv_at hl 0 rfl) ?_
  refine lv_iconst (v := 2) hx hb dL_484 (by decide) ?_
  refine lv_iadd hx hb dL_485 ?_
  refine va_sld hx hb hX hbl hbA hS (vp_in_iff.mpr (by decide)) dL_486 ?_
  refine W.eq (g2 := F0 m 487 ls [.int (xs 2), .int (xs 1), .ref a_m, .int o1.1]) (by rw [show ((0 : Int32) + 2).toNatClampNeg = 2 from by decide]) ?_
  have hRun := va_runV (R := room_1) (locs := locs) (H := H) (l := l) (e := e) (below := below) (meth := meth) (cells := 59) (slots := 7221) (g := F0 m 487 ls [.int (xs 2), .int (xs 1), .ref a_m, .int o1.1]) (As := [.int (xs 1), .int (xs 2)]) (rest := [.int o1.1]) ⟨hx, hb, hml, hown, hts⟩ (c_M_name l D G a_m m12 m0 m1 m2 m3 m4 m5 m6 m7 m8 m9 m10 m11 m13 m14 m15 m16 m17 m18 m19 m20 m21 m22 m23 m24 m25 m26 m27 m28 m29 m30 0 0 0 0 0 0 0 0 0 0 0 0 0 (-1) 0 0 0 0 0 0 0 0 0 0 0 0 0 0 0 0 0 0 0 0 0 (fun _ => 0) (xs 1) (xs 2) o2 h2 H.size) (cwV 2 hts (gV tw1054 tw1055 tw1056 tw11 tw1057) rfl rfl rfl (by decide +kernel) ⟨Nat.le_of_ble_eq_true rfl, Nat.le_of_ble_eq_true rfl⟩) (ob_preV (q0 := 0) (ci := 11) hZ hK hP hD [0, 13] rfl rfl rfl rfl rfl) rfl rfl hl.1 rfl (lv_room (Nat.le_of_ble_eq_true rfl)) dL_487 ⟨Nat.le_of_ble_eq_true rfl, Nat.le_of_ble_eq_true rfl⟩
  refine ob_calli (wc := (cw_M_name G a_m m12 m0 m1 m2 m3 m4 m5 m6 m7 m8 m9 m10 m11 m13 m14 m15 m16 m17 m18 m19 m20 m21 m22 m23 m24 m25 m26 m27 m28 m29 m30 0 0 0 0 0 0 0 0 0 0 0 0 0 (-1) 0 0 0 0 0 0 0 0 0 0 0 0 0 0 0 0 0 0 0 0 0 (fun _ => 0))) (wc1 := (cw_M_name G a_m m12 m0 m1 m2 m3 m4 m5 m6 m7 m8 m9 m10 m11 m13 m14 m15 m16 m17 m18 m19 m20 m21 m22 m23 m24 m25 m26 m27 m28 m29 m30 0 0 0 0 0 0 0 0 0 0 0 o2.2.1 0 (-1) 0 0 0 0 0 0 0 0 0 0 0 0 0 0 0 0 0 0 0 0 0 o2.2.2)) (r := o2.1) hRun hP hD hA hS [0, 13] rfl rfl rfl rfl (fun H locs hP hD hS => ?_)
  clear hRun
  refine lv_icmp_eq (tgt := 877) hx hb dL_490 (by decide) (fun _ => ?_) (fun hc => absurd he hc)
  exact tailN ls H locs _ _ (Nat.le_of_ble_eq_true rfl) (Nat.le_of_ble_eq_true rfl) (lv_sub hl [0, 3] rfl) hS
set_option maxHeartbeats 1000000 in
set_option maxRecDepth 100000 in
theorem law_9 {p : Program} {e : Env} {s : State} {m : MethodId} {below : List Frame} {meth : Method} {c : Code} {b : Nat} {xs : Nat → Int32} {D : va_G} {G : Nat → ClassId} {A : Nat → Prop} {a_x x0 x1 x2 x3 x4 x5 x6 x7 x8 x9 x10 x11 x12 x13 x14 x15 x16 x17 x18 x19 x20 x21 x22 x23 x24 x25 a_m m0 m1 m2 m3 m4 m5 m6 m7 m8 m9 m10 m11 m12 m13 m14 m15 m16 m17 m18 m19 m20 m21 m22 m23 m24 m25 m26 m27 m28 m29 m30 : Nat} {ls : Array Slot} {H : Heap} {locs : List Loc} (l : Launch) (hx : p.tables.exec = Jvm.exec) (hb : c.code = code) (hml : c.maxLocals = 4) (hown : s.vm.findClass "ObjectBaseLaw" = some m.cls) (hts : ∀ w ∈ obW, w.before #[Value.ref b] s = true) (hZ : obZ s) (hK : va_K D vwCl (obT G) s) (hA : ∀ q, s.heap.size ≤ q → A q) (hX : va_X b 5 xs s s.heap) (hbl : b < s.heap.size) (hbA : ¬ A b) (hP : va_P D vwCl (lw_w G a_x x0 x1 x2 x3 x4 x5 x6 x7 x8 x9 x10 x11 x12 x13 x14 x15 x16 x17 x18 x19 x20 x21 x22 x23 x24 x25 a_m m0 m1 m2 m3 m4 m5 m6 m7 m8 m9 m10 m11 m12 m13 m14 m15 m16 m17 m18 m19 m20 m21 m22 m23 m24 m25 m26 m27 m28 m29 m30) H) (hD : va_D A (lw_w G a_x x0 x1 x2 x3 x4 x5 x6 x7 x8 x9 x10 x11 x12 x13 x14 x15 x16 x17 x18 x19 x20 x21 x22 x23 x24 x25 a_m m0 m1 m2 m3 m4 m5 m6 m7 m8 m9 m10 m11 m12 m13 m14 m15 m16 m17 m18 m19 m20 m21 m22 m23 m24 m25 m26 m27 m28 m29 m30)) (hS : va_S A s.heap H locs) (hl : lv_has ls 4 [(3, .int 0), (2, .ref a_m), (1, .ref a_x), (0, .ref b)])
    (tailN : ∀ (ls : Array Slot) (H : Heap) (locs : List Loc) (cells slots : Nat), cells ≤ 600000 → slots ≤ 7302250 → lv_has ls 4 [(3, .int 0), (0, .ref b)] → va_S A s.heap H locs → W p l e room_1 s m #[Value.ref b] below meth c H locs cells slots (lw_Z below #[Value.ref b] s) (F0 m 877 ls [])) :
    W p l e room_1 s m #[Value.ref b] below meth c H locs 59 7221 (lw_Z below #[Value.ref b] s) (F0 m 495 ls []) := by
  refine lv_aload_n hx hb dL_495 rfl (lv_at hl 2 rfl) ?_
  obtain ⟨o1, o2, h1, h2, he⟩ := P_commit
  have hRun := va_runV (R := room_1) (locs := locs) (H := H) (l := l) (e := e) (below := below) (meth := meth) (cells := 59) (slots := 7221) (g := F0 m 496 ls [.ref a_x]) (As := []) (rest := []) ⟨hx, hb, hml, hown, hts⟩ (c_OB_commit l D G a_x x8 x13 x14 x15 x9 x10 x11 x16 x12 x17 x25 x0 x5 x18 x20 x21 x23 0 0 0 0 (-1) 0 0 0 0 0 0 0 0 (fun _ => 0) (fun _ => 0) (fun _ => 0) (fun _ => 0) (fun _ => 0) (fun _ => 0) 0 0 0 0 o1 h1 H.size) (cwV 0 hts (gV tw403 tw404 tw405 tw1 tw406) rfl rfl rfl (by decide +kernel) ⟨Nat.le_of_ble_eq_true rfl, Nat.le_of_ble_eq_true rfl⟩) (ob_preV (q0 := 0) (ci := 0) hZ hK hP hD [0, 9, 14, 15, 16, 10, 11, 12, 17, 13, 18, 26] rfl rfl rfl rfl rfl) rfl rfl hl.1 rfl (lv_room (Nat.le_of_ble_eq_true rfl)) dL_496 ⟨Nat.le_of_ble_eq_true rfl, Nat.le_of_ble_eq_true rfl⟩
  refine ob_dropi (wc := (cw_OB_commit G a_x x8 x13 x14 x15 x9 x10 x11 x16 x12 x17 x25 x0 x5 x18 x20 x21 x23 0 0 0 0 (-1) 0 0 0 0 0 0 0 0 (fun _ => 0) (fun _ => 0) (fun _ => 0) (fun _ => 0) (fun _ => 0) (fun _ => 0) 0 0 0 0)) (wc1 := (cw_OB_commit G a_x x8 x13 x14 x15 x9 x10 x11 x16 x12 x17 x25 x0 x5 x18 x20 x21 x23 0 0 0 o1.2.1 o1.2.2.1 0 o1.2.2.2.1 o1.2.2.2.2.1 o1.2.2.2.2.2.1 0 0 0 o1.2.2.2.2.2.2.1 (fun _ => 0) o1.2.2.2.2.2.2.2.1 o1.2.2.2.2.2.2.2.2.1 (fun _ => 0) o1.2.2.2.2.2.2.2.2.2.1 (fun _ => 0) o1.2.2.2.2.2.2.2.2.2.2.1 o1.2.2.2.2.2.2.2.2.2.2.2.1 o1.2.2.2.2.2.2.2.2.2.2.2.2.1 o1.2.2.2.2.2.2.2.2.2.2.2.2.2)) (r := o1.1) (wr := (lw_m G a_m m0 m1 m2 m3 m4 m5 m6 m7 m8 m9 m10 m11 m12 m13 m14 m15 m16 m17 m18 m19 m20 m21 m22 m23 m24 m25 m26 m27 m28 m29 m30)) hRun hP hD hA hS [0, 9, 14, 15, 16, 10, 11, 12, 17, 13, 18, 26] [27, 28, 29, 30, 31, 32, 33, 34, 35, 36, 37, 38, 39, 40, 41, 42, 43, 44, 45, 46, 47, 48, 49, 50, 51, 52, 53, 54, 55, 56, 57, 58] rfl rfl rfl (by decide) (fun H locs hP hD hS => ?_)
  clear hRun
  refine lv_aload_n hx hb dL_499 rfl (lv_at hl 1 rfl) ?_
  have hRun := va_runV (R := room_1) (locs := locs) (H := H) (l := l) (e := e) (below := below) (meth := meth) (cells := 59) (slots := 7221) (g := F0 m 500 ls [.ref a_m, .int o1.1]) (As := []) (rest := [.int o1.1]) ⟨hx, hb, hml, hown, hts⟩ (c_M_commit l D G a_m m9 m12 m7 m10 m8 m11 m0 m1 m2 m3 m4 m5 m6 m13 m14 m15 m16 m17 m18 m19 m20 m21 m22 m23 m24 m25 m26 m27 m28 m29 m30 0 0 0 0 0 0 0 0 0 0 0 0 0 (-1) 0 0 0 0 0 0 0 0 0 0 0 0 0 0 0 0 0 0 0 0 0 (fun _ => 0) (fun _ => 0) (fun _ => 0) (fun _ => 0) (fun _ => 0) (fun _ => 0) o2 h2 H.size) (cwV 0 hts (gV tw1058 tw1059 tw1060 tw11 tw1061) rfl rfl rfl (by decide +kernel) ⟨Nat.le_of_ble_eq_true rfl, Nat.le_of_ble_eq_true rfl⟩) (ob_preV (q0 := 0) (ci := 11) hZ hK hP hD [0, 10, 13, 8, 11, 9, 12] rfl rfl rfl rfl rfl) rfl rfl hl.1 rfl (lv_room (Nat.le_of_ble_eq_true rfl)) dL_500 ⟨Nat.le_of_ble_eq_true rfl, Nat.le_of_ble_eq_true rfl⟩
  refine ob_calli (wc := (cw_M_commit G a_m m9 m12 m7 m10 m8 m11 m0 m1 m2 m3 m4 m5 m6 m13 m14 m15 m16 m17 m18 m19 m20 m21 m22 m23 m24 m25 m26 m27 m28 m29 m30 0 0 0 0 0 0 0 0 0 0 0 0 0 (-1) 0 0 0 0 0 0 0 0 0 0 0 0 0 0 0 0 0 0 0 0 0 (fun _ => 0) (fun _ => 0) (fun _ => 0) (fun _ => 0) (fun _ => 0) (fun _ => 0))) (wc1 := (cw_M_commit G a_m m9 m12 m7 m10 m8 m11 m0 m1 m2 m3 m4 m5 m6 m13 m14 m15 m16 m17 m18 m19 m20 m21 m22 m23 m24 m25 m26 m27 m28 m29 m30 0 0 0 0 0 o2.2.1 0 o2.2.2.1 0 0 0 0 o2.2.2.2.1 o2.2.2.2.2.1 o2.2.2.2.2.2.1 o2.2.2.2.2.2.2.1 o2.2.2.2.2.2.2.2.1 o2.2.2.2.2.2.2.2.2.1 0 0 0 0 0 0 0 0 0 0 0 0 0 o2.2.2.2.2.2.2.2.2.2.1 o2.2.2.2.2.2.2.2.2.2.2.1 o2.2.2.2.2.2.2.2.2.2.2.2.1 o2.2.2.2.2.2.2.2.2.2.2.2.2.1 o2.2.2.2.2.2.2.2.2.2.2.2.2.2.1 o2.2.2.2.2.2.2.2.2.2.2.2.2.2.2.1 o2.2.2.2.2.2.2.2.2.2.2.2.2.2.2.2.1 o2.2.2.2.2.2.2.2.2.2.2.2.2.2.2.2.2.1 o2.2.2.2.2.2.2.2.2.2.2.2.2.2.2.2.2.2.1 o2.2.2.2.2.2.2.2.2.2.2.2.2.2.2.2.2.2.2)) (r := o2.1) hRun hP hD hA hS [0, 10, 13, 8, 11, 9, 12] rfl rfl rfl rfl (fun H locs hP hD hS => ?_)
  clear hRun
  refine lv_icmp_eq (tgt := 877) hx hb dL_503 (by decide) (fun _ => ?_) (fun hc => absurd he hc)
  exact tailN ls H locs _ _ (Nat.le_of_ble_eq_true rfl) (Nat.le_of_ble_eq_true rfl) (lv_sub hl [0, 3] rfl) hS
set_option maxHeartbeats 1000000 in
set_option maxRecDepth 100000 in
theorem law_10 {p : Program} {e : Env} {s : State} {m : MethodId} {below : List Frame} {meth : Method} {c : Code} {b : Nat} {xs : Nat → Int32} {D : va_G} {G : Nat → ClassId} {A : Nat → Prop} {a_x x0 x1 x2 x3 x4 x5 x6 x7 x8 x9 x10 x11 x12 x13 x14 x15 x16 x17 x18 x19 x20 x21 x22 x23 x24 x25 a_m m0 m1 m2 m3 m4 m5 m6 m7 m8 m9 m10 m11 m12 m13 m14 m15 m16 m17 m18 m19 m20 m21 m22 m23 m24 m25 m26 m27 m28 m29 m30 : Nat} {ls : Array Slot} {H : Heap} {locs : List Loc} (l : Launch) (hx : p.tables.exec = Jvm.exec) (hb : c.code = code) (hml : c.maxLocals = 4) (hown : s.vm.findClass "ObjectBaseLaw" = some m.cls) (hts : ∀ w ∈ obW, w.before #[Value.ref b] s = true) (hZ : obZ s) (hK : va_K D vwCl (obT G) s) (hA : ∀ q, s.heap.size ≤ q → A q) (hX : va_X b 5 xs s s.heap) (hbl : b < s.heap.size) (hbA : ¬ A b) (hP : va_P D vwCl (lw_w G a_x x0 x1 x2 x3 x4 x5 x6 x7 x8 x9 x10 x11 x12 x13 x14 x15 x16 x17 x18 x19 x20 x21 x22 x23 x24 x25 a_m m0 m1 m2 m3 m4 m5 m6 m7 m8 m9 m10 m11 m12 m13 m14 m15 m16 m17 m18 m19 m20 m21 m22 m23 m24 m25 m26 m27 m28 m29 m30) H) (hD : va_D A (lw_w G a_x x0 x1 x2 x3 x4 x5 x6 x7 x8 x9 x10 x11 x12 x13 x14 x15 x16 x17 x18 x19 x20 x21 x22 x23 x24 x25 a_m m0 m1 m2 m3 m4 m5 m6 m7 m8 m9 m10 m11 m12 m13 m14 m15 m16 m17 m18 m19 m20 m21 m22 m23 m24 m25 m26 m27 m28 m29 m30)) (hS : va_S A s.heap H locs) (hl : lv_has ls 4 [(3, .int 0), (2, .ref a_m), (1, .ref a_x), (0, .ref b)])
    (tailN : ∀ (ls : Array Slot) (H : Heap) (locs : List Loc) (cells slots : Nat), cells ≤ 600000 → slots ≤ 7302250 → lv_has ls 4 [(3, .int 0), (0, .ref b)] → va_S A s.heap H locs → W p l e room_1 s m #[Value.ref b] below meth c H locs cells slots (lw_Z below #[Value.ref b] s) (F0 m 877 ls [])) :
    W p l e room_1 s m #[Value.ref b] below meth c H locs 59 7221 (lw_Z below #[Value.ref b] s) (F0 m 508 ls []) := by
  refine lv_aload_n hx hb dL_508 rfl (lv_at hl 2 rfl) ?_
  obtain ⟨o1, o2, h1, h2, he⟩ := P_abort
  have hRun := va_runV (R := room_1) (locs := locs) (H := H) (l := l) (e := e) (below := below) (meth := meth) (cells := 59) (slots := 7221) (g := F0 m 509 ls [.ref a_x]) (As := []) (rest := []) ⟨hx, hb, hml, hown, hts⟩ (c_OB_abort l D G a_x x8 x13 x0 x5 x9 x18 x20 x21 x23 x25 x14 0 0 0 0 (-1) 0 0 0 0 0 0 0 0 o1 h1 H.size) (cwV 0 hts (gV tw450 tw451 tw452 tw1 tw453) rfl rfl rfl (by decide +kernel) ⟨Nat.le_of_ble_eq_true rfl, Nat.le_of_ble_eq_true rfl⟩) (ob_preV (q0 := 0) (ci := 0) hZ hK hP hD [0, 9, 14] rfl rfl rfl rfl rfl) rfl rfl hl.1 rfl (lv_room (Nat.le_of_ble_eq_true rfl)) dL_509 ⟨Nat.le_of_ble_eq_true rfl, Nat.le_of_ble_eq_true rfl⟩
  refine ob_dropi (wc := (cw_OB_abort G a_x x8 x13 x0 x5 x9 x18 x20 x21 x23 x25 x14 0 0 0 0 (-1) 0 0 0 0 0 0 0 0)) (wc1 := (cw_OB_abort G a_x x8 x13 x0 x5 x9 x18 x20 x21 x23 x25 x14 0 0 0 0 (-1) 0 0 0 0 0 0 0 o1.2)) (r := o1.1) (wr := (lw_m G a_m m0 m1 m2 m3 m4 m5 m6 m7 m8 m9 m10 m11 m12 m13 m14 m15 m16 m17 m18 m19 m20 m21 m22 m23 m24 m25 m26 m27 m28 m29 m30)) hRun hP hD hA hS [0, 9, 14] [27, 28, 29, 30, 31, 32, 33, 34, 35, 36, 37, 38, 39, 40, 41, 42, 43, 44, 45, 46, 47, 48, 49, 50, 51, 52, 53, 54, 55, 56, 57, 58] rfl rfl rfl (by decide) (fun H locs hP hD hS => ?_)
  clear hRun
  refine lv_aload_n hx hb dL_512 rfl (lv_at hl 1 rfl) ?_
  have hRun := va_runV (R := room_1) (locs := locs) (H := H) (l := l) (e := e) (below := below) (meth := meth) (cells := 59) (slots := 7221) (g := F0 m 513 ls [.ref a_m, .int o1.1]) (As := []) (rest := [.int o1.1]) ⟨hx, hb, hml, hown, hts⟩ (c_M_abort l D G a_m m9 m12 m7 m10 m8 m11 m0 m1 m2 m3 m4 m5 m6 m13 m14 m15 m16 m17 m18 m19 m20 m21 m22 m23 m24 m25 m26 m27 m28 m29 m30 0 0 0 0 0 0 0 0 0 0 0 0 0 (-1) 0 0 0 0 0 0 0 0 0 0 0 0 0 0 0 0 0 0 0 0 0 (fun _ => 0) (fun _ => 0) (fun _ => 0) (fun _ => 0) (fun _ => 0) (fun _ => 0) o2 h2 H.size) (cwV 0 hts (gV tw1081 tw1082 tw1083 tw11 tw1084) rfl rfl rfl (by decide +kernel) ⟨Nat.le_of_ble_eq_true rfl, Nat.le_of_ble_eq_true rfl⟩) (ob_preV (q0 := 0) (ci := 11) hZ hK hP hD [0, 10, 13, 8, 11, 9, 12] rfl rfl rfl rfl rfl) rfl rfl hl.1 rfl (lv_room (Nat.le_of_ble_eq_true rfl)) dL_513 ⟨Nat.le_of_ble_eq_true rfl, Nat.le_of_ble_eq_true rfl⟩
  refine ob_calli (wc := (cw_M_abort G a_m m9 m12 m7 m10 m8 m11 m0 m1 m2 m3 m4 m5 m6 m13 m14 m15 m16 m17 m18 m19 m20 m21 m22 m23 m24 m25 m26 m27 m28 m29 m30 0 0 0 0 0 0 0 0 0 0 0 0 0 (-1) 0 0 0 0 0 0 0 0 0 0 0 0 0 0 0 0 0 0 0 0 0 (fun _ => 0) (fun _ => 0) (fun _ => 0) (fun _ => 0) (fun _ => 0) (fun _ => 0))) (wc1 := (cw_M_abort G a_m m9 m12 m7 m10 m8 m11 m0 m1 m2 m3 m4 m5 m6 m13 m14 m15 m16 m17 m18 m19 m20 m21 m22 m23 m24 m25 m26 m27 m28 m29 m30 0 0 0 0 0 0 0 o2.2.1 0 0 0 0 0 (-1) 0 0 0 0 0 0 0 0 0 0 0 0 0 0 0 0 0 0 0 0 0 (fun _ => 0) o2.2.2.1 (fun _ => 0) o2.2.2.2.1 (fun _ => 0) o2.2.2.2.2)) (r := o2.1) hRun hP hD hA hS [0, 10, 13, 8, 11, 9, 12] rfl rfl rfl rfl (fun H locs hP hD hS => ?_)
  clear hRun
  refine lv_icmp_eq (tgt := 877) hx hb dL_516 (by decide) (fun _ => ?_) (fun hc => absurd he hc)
  exact tailN ls H locs _ _ (Nat.le_of_ble_eq_true rfl) (Nat.le_of_ble_eq_true rfl) (lv_sub hl [0, 3] rfl) hS
set_option maxHeartbeats 1000000 in
set_option maxRecDepth 100000 in
theorem law_11 {p : Program} {e : Env} {s : State} {m : MethodId} {below : List Frame} {meth : Method} {c : Code} {b : Nat} {xs : Nat → Int32} {D : va_G} {G : Nat → ClassId} {A : Nat → Prop} {a_x x0 x1 x2 x3 x4 x5 x6 x7 x8 x9 x10 x11 x12 x13 x14 x15 x16 x17 x18 x19 x20 x21 x22 x23 x24 x25 a_m m0 m1 m2 m3 m4 m5 m6 m7 m8 m9 m10 m11 m12 m13 m14 m15 m16 m17 m18 m19 m20 m21 m22 m23 m24 m25 m26 m27 m28 m29 m30 : Nat} {ls : Array Slot} {H : Heap} {locs : List Loc} (l : Launch) (hx : p.tables.exec = Jvm.exec) (hb : c.code = code) (hml : c.maxLocals = 4) (hown : s.vm.findClass "ObjectBaseLaw" = some m.cls) (hts : ∀ w ∈ obW, w.before #[Value.ref b] s = true) (hZ : obZ s) (hK : va_K D vwCl (obT G) s) (hA : ∀ q, s.heap.size ≤ q → A q) (hX : va_X b 5 xs s s.heap) (hbl : b < s.heap.size) (hbA : ¬ A b) (hP : va_P D vwCl (lw_w G a_x x0 x1 x2 x3 x4 x5 x6 x7 x8 x9 x10 x11 x12 x13 x14 x15 x16 x17 x18 x19 x20 x21 x22 x23 x24 x25 a_m m0 m1 m2 m3 m4 m5 m6 m7 m8 m9 m10 m11 m12 m13 m14 m15 m16 m17 m18 m19 m20 m21 m22 m23 m24 m25 m26 m27 m28 m29 m30) H) (hD : va_D A (lw_w G a_x x0 x1 x2 x3 x4 x5 x6 x7 x8 x9 x10 x11 x12 x13 x14 x15 x16 x17 x18 x19 x20 x21 x22 x23 x24 x25 a_m m0 m1 m2 m3 m4 m5 m6 m7 m8 m9 m10 m11 m12 m13 m14 m15 m16 m17 m18 m19 m20 m21 m22 m23 m24 m25 m26 m27 m28 m29 m30)) (hS : va_S A s.heap H locs) (hl : lv_has ls 4 [(3, .int 0), (2, .ref a_m), (1, .ref a_x), (0, .ref b)])
    (tailN : ∀ (ls : Array Slot) (H : Heap) (locs : List Loc) (cells slots : Nat), cells ≤ 600000 → slots ≤ 7302250 → lv_has ls 4 [(3, .int 0), (0, .ref b)] → va_S A s.heap H locs → W p l e room_1 s m #[Value.ref b] below meth c H locs cells slots (lw_Z below #[Value.ref b] s) (F0 m 877 ls [])) :
    W p l e room_1 s m #[Value.ref b] below meth c H locs 59 7221 (lw_Z below #[Value.ref b] s) (F0 m 521 ls []) := by
  refine lv_aload_n hx hb dL_521 rfl (lv_at hl 2 rfl) ?_
  obtain ⟨o1, o2, h1, h2, he⟩ := P_collect
  have hRun := va_runV (R := room_1) (locs := locs) (H := H) (l := l) (e := e) (below := below) (meth := meth) (cells := 59) (slots := 7221) (g := F0 m 522 ls [.ref a_x]) (As := []) (rest := []) ⟨hx, hb, hml, hown, hts⟩ (c_OB_collect l D G a_x x8 x13 x9 x0 x11 x3 x12 x10 x25 x5 x18 x20 x21 x23 x14 x1 x2 x4 0 0 0 0 (-1) 0 0 0 0 0 0 0 0 0 0 (fun _ => 0) (fun _ => 0) (fun _ => 0) (fun _ => 0) 0 0 0 0 o1 h1 H.size) (cwV 0 hts (gV tw454 tw455 tw456 tw1 tw457) rfl rfl rfl (by decide +kernel) ⟨Nat.le_of_ble_eq_true rfl, Nat.le_of_ble_eq_true rfl⟩) (ob_preV (q0 := 0) (ci := 0) hZ hK hP hD [0, 9, 14, 10, 1, 12, 4, 13, 11, 26] rfl rfl rfl rfl rfl) rfl rfl hl.1 rfl (lv_room (Nat.le_of_ble_eq_true rfl)) dL_522 ⟨Nat.le_of_ble_eq_true rfl, Nat.le_of_ble_eq_true rfl⟩
  refine ob_dropi (wc := (cw_OB_collect G a_x x8 x13 x9 x0 x11 x3 x12 x10 x25 x5 x18 x20 x21 x23 x14 x1 x2 x4 0 0 0 0 (-1) 0 0 0 0 0 0 0 0 0 0 (fun _ => 0) (fun _ => 0) (fun _ => 0) (fun _ => 0) 0 0 0 0)) (wc1 := (cw_OB_collect G a_x x8 x13 x9 x0 x11 x3 x12 x10 x25 x5 x18 x20 x21 x23 x14 x1 x2 x4 0 0 0 o1.2.1 o1.2.2.1 o1.2.2.2.1 0 0 o1.2.2.2.2.1 0 0 0 o1.2.2.2.2.2.1 0 0 (fun _ => 0) (fun _ => 0) (fun _ => 0) o1.2.2.2.2.2.2.1 o1.2.2.2.2.2.2.2.1 o1.2.2.2.2.2.2.2.2.1 o1.2.2.2.2.2.2.2.2.2.1 o1.2.2.2.2.2.2.2.2.2.2)) (r := o1.1) (wr := (lw_m G a_m m0 m1 m2 m3 m4 m5 m6 m7 m8 m9 m10 m11 m12 m13 m14 m15 m16 m17 m18 m19 m20 m21 m22 m23 m24 m25 m26 m27 m28 m29 m30)) hRun hP hD hA hS [0, 9, 14, 10, 1, 12, 4, 13, 11, 26] [27, 28, 29, 30, 31, 32, 33, 34, 35, 36, 37, 38, 39, 40, 41, 42, 43, 44, 45, 46, 47, 48, 49, 50, 51, 52, 53, 54, 55, 56, 57, 58] rfl rfl rfl (by decide) (fun H locs hP hD hS => ?_)
  clear hRun
  refine lv_aload_n hx hb dL_525 rfl (lv_at hl 1 rfl) ?_
  have hRun := va_runV (R := room_1) (locs := locs) (H := H) (l := l) (e := e) (below := below) (meth := meth) (cells := 59) (slots := 7221) (g := F0 m 526 ls [.ref a_m, .int o1.1]) (As := []) (rest := [.int o1.1]) ⟨hx, hb, hml, hown, hts⟩ (c_M_collect l D G a_m m6 m1 m0 m2 m11 m8 m10 m7 m12 m9 m3 m4 m5 m13 m14 m15 m16 m17 m18 m19 m20 m21 m22 m23 m24 m25 m26 m27 m28 m29 m30 0 0 0 0 0 0 0 0 0 0 0 0 0 (-1) 0 0 0 0 0 0 0 0 0 0 0 0 0 0 0 0 0 0 0 0 0 (fun _ => 0) (fun _ => 0) (fun _ => 0) (fun _ => 0) (fun _ => 0) (fun _ => 0) (fun _ => 0) (fun _ => 0) (fun _ => 0) (fun _ => 0) o2 h2 H.size) (cwV 0 hts (gV tw1085 tw1086 tw1087 tw11 tw1088) rfl rfl rfl (by decide +kernel) ⟨Nat.le_of_ble_eq_true rfl, Nat.le_of_ble_eq_true rfl⟩) (ob_preV (q0 := 0) (ci := 11) hZ hK hP hD [0, 7, 2, 1, 3, 12, 9, 11, 8, 13, 10] rfl rfl rfl rfl rfl) rfl rfl hl.1 rfl (lv_room (Nat.le_of_ble_eq_true rfl)) dL_526 ⟨Nat.le_of_ble_eq_true rfl, Nat.le_of_ble_eq_true rfl⟩
  refine ob_calli (wc := (cw_M_collect G a_m m6 m1 m0 m2 m11 m8 m10 m7 m12 m9 m3 m4 m5 m13 m14 m15 m16 m17 m18 m19 m20 m21 m22 m23 m24 m25 m26 m27 m28 m29 m30 0 0 0 0 0 0 0 0 0 0 0 0 0 (-1) 0 0 0 0 0 0 0 0 0 0 0 0 0 0 0 0 0 0 0 0 0 (fun _ => 0) (fun _ => 0) (fun _ => 0) (fun _ => 0) (fun _ => 0) (fun _ => 0) (fun _ => 0) (fun _ => 0) (fun _ => 0) (fun _ => 0))) (wc1 := (cw_M_collect G a_m m6 m1 m0 m2 m11 m8 m10 m7 m12 m9 m3 m4 m5 m13 m14 m15 m16 m17 m18 m19 m20 m21 m22 m23 m24 m25 m26 m27 m28 m29 m30 0 0 0 0 0 o2.2.1 o2.2.2.1 o2.2.2.2.1 0 0 0 0 o2.2.2.2.2.1 o2.2.2.2.2.2.1 o2.2.2.2.2.2.2.1 0 0 0 0 0 0 0 0 0 0 0 0 0 0 0 0 o2.2.2.2.2.2.2.2.1 o2.2.2.2.2.2.2.2.2.1 o2.2.2.2.2.2.2.2.2.2.1 o2.2.2.2.2.2.2.2.2.2.2.1 (fun _ => 0) (fun _ => 0) (fun _ => 0) (fun _ => 0) o2.2.2.2.2.2.2.2.2.2.2.2.1 (fun _ => 0) o2.2.2.2.2.2.2.2.2.2.2.2.2.1 (fun _ => 0) o2.2.2.2.2.2.2.2.2.2.2.2.2.2 (fun _ => 0))) (r := o2.1) hRun hP hD hA hS [0, 7, 2, 1, 3, 12, 9, 11, 8, 13, 10] rfl rfl rfl rfl (fun H locs hP hD hS => ?_)
  clear hRun
  refine lv_icmp_eq (tgt := 877) hx hb dL_529 (by decide) (fun _ => ?_) (fun hc => absurd he hc)
  exact tailN ls H locs _ _ (Nat.le_of_ble_eq_true rfl) (Nat.le_of_ble_eq_true rfl) (lv_sub hl [0, 3] rfl) hS
set_option maxHeartbeats 1000000 in
set_option maxRecDepth 100000 in
theorem law_12 {p : Program} {e : Env} {s : State} {m : MethodId} {below : List Frame} {meth : Method} {c : Code} {b : Nat} {xs : Nat → Int32} {D : va_G} {G : Nat → ClassId} {A : Nat → Prop} {a_x x0 x1 x2 x3 x4 x5 x6 x7 x8 x9 x10 x11 x12 x13 x14 x15 x16 x17 x18 x19 x20 x21 x22 x23 x24 x25 a_m m0 m1 m2 m3 m4 m5 m6 m7 m8 m9 m10 m11 m12 m13 m14 m15 m16 m17 m18 m19 m20 m21 m22 m23 m24 m25 m26 m27 m28 m29 m30 : Nat} {ls : Array Slot} {H : Heap} {locs : List Loc} (l : Launch) (hx : p.tables.exec = Jvm.exec) (hb : c.code = code) (hml : c.maxLocals = 4) (hown : s.vm.findClass "ObjectBaseLaw" = some m.cls) (hts : ∀ w ∈ obW, w.before #[Value.ref b] s = true) (hZ : obZ s) (hK : va_K D vwCl (obT G) s) (hA : ∀ q, s.heap.size ≤ q → A q) (hX : va_X b 5 xs s s.heap) (hbl : b < s.heap.size) (hbA : ¬ A b) (hP : va_P D vwCl (lw_w G a_x x0 x1 x2 x3 x4 x5 x6 x7 x8 x9 x10 x11 x12 x13 x14 x15 x16 x17 x18 x19 x20 x21 x22 x23 x24 x25 a_m m0 m1 m2 m3 m4 m5 m6 m7 m8 m9 m10 m11 m12 m13 m14 m15 m16 m17 m18 m19 m20 m21 m22 m23 m24 m25 m26 m27 m28 m29 m30) H) (hD : va_D A (lw_w G a_x x0 x1 x2 x3 x4 x5 x6 x7 x8 x9 x10 x11 x12 x13 x14 x15 x16 x17 x18 x19 x20 x21 x22 x23 x24 x25 a_m m0 m1 m2 m3 m4 m5 m6 m7 m8 m9 m10 m11 m12 m13 m14 m15 m16 m17 m18 m19 m20 m21 m22 m23 m24 m25 m26 m27 m28 m29 m30)) (hS : va_S A s.heap H locs) (hl : lv_has ls 4 [(3, .int 0), (2, .ref a_m), (1, .ref a_x), (0, .ref b)])
    (tailN : ∀ (ls : Array Slot) (H : Heap) (locs : List Loc) (cells slots : Nat), cells ≤ 600000 → slots ≤ 7302250 → lv_has ls 4 [(3, .int 0), (0, .ref b)] → va_S A s.heap H locs → W p l e room_1 s m #[Value.ref b] below meth c H locs cells slots (lw_Z below #[Value.ref b] s) (F0 m 877 ls [])) :
    W p l e room_1 s m #[Value.ref b] below meth c H locs 59 7221 (lw_Z below #[Value.ref b] s) (F0 m 534 ls []) := by
  refine lv_aload_n hx hb dL_534 rfl (lv_at hl 2 rfl) ?_
  refine lv_aload_n hx hb dL_535 rfl (lv_at hl 3 rfl) ?_
  refine lv_iload_n hx hb dL_536 rfl (lv_at hl 0 rfl) ?_
  refine lv_iconst (v := 1) hx hb dL_537 (by decide) ?_
  refine lv_iadd hx hb dL_538 ?_
  refine va_sld hx hb hX hbl hbA hS (vp_in_iff.mpr (by decide)) dL_539 ?_
  refine W.eq (g2 := F0 m 540 ls [.int (xs 1), .ref a_x]) (by rw [show ((0 : Int32) + 1).toNatClampNeg = 1 from by decide]) ?_
  obtain ⟨o1, o2, h1, h2, he⟩ := P_arm (xs 1)
  have hRun := va_runV (R := room_1) (locs := locs) (H := H) (l := l) (e := e) (below := below) (meth := meth) (cells := 59) (slots := 7221) (g := F0 m 540 ls [.int (xs 1), .ref a_x]) (As := [.int (xs 1)]) (rest := []) ⟨hx, hb, hml, hown, hts⟩ (c_OB_arm l D G a_x x8 x0 x5 x9 x13 x18 x20 x21 x23 x25 0 0 0 0 (-1) 0 0 0 0 (xs 1) o1 h1 H.size) (cwV 1 hts (gV tw464 tw465 tw466 tw1 tw467) rfl rfl rfl (by decide +kernel) ⟨Nat.le_of_ble_eq_true rfl, Nat.le_of_ble_eq_true rfl⟩) (ob_preV (q0 := 0) (ci := 0) hZ hK hP hD [0, 9] rfl rfl rfl rfl rfl) rfl rfl hl.1 rfl (lv_room (Nat.le_of_ble_eq_true rfl)) dL_540 ⟨Nat.le_of_ble_eq_true rfl, Nat.le_of_ble_eq_true rfl⟩
  refine ob_dropi (wc := (cw_OB_arm G a_x x8 x0 x5 x9 x13 x18 x20 x21 x23 x25 0 0 0 0 (-1) 0 0 0 0)) (wc1 := (cw_OB_arm G a_x x8 x0 x5 x9 x13 x18 x20 x21 x23 x25 0 0 0 0 o1.2 0 0 0 0)) (r := o1.1) (wr := (lw_m G a_m m0 m1 m2 m3 m4 m5 m6 m7 m8 m9 m10 m11 m12 m13 m14 m15 m16 m17 m18 m19 m20 m21 m22 m23 m24 m25 m26 m27 m28 m29 m30)) hRun hP hD hA hS [0, 9] [27, 28, 29, 30, 31, 32, 33, 34, 35, 36, 37, 38, 39, 40, 41, 42, 43, 44, 45, 46, 47, 48, 49, 50, 51, 52, 53, 54, 55, 56, 57, 58] rfl rfl rfl (by decide) (fun H locs hP hD hS => ?_)
  clear hRun
  refine lv_aload_n hx hb dL_543 rfl (lv_at hl 1 rfl) ?_
  refine lv_aload_n hx hb dL_544 rfl (lv_at hl 3 rfl) ?_
  refine lv_iload_n hx hb dL_545 rfl (lv_at hl 0 rfl) ?_
  refine lv_iconst (v := 1) hx hb dL_546 (by decide) ?_
  refine lv_iadd hx hb dL_547 ?_
  refine va_sld hx hb hX hbl hbA hS (vp_in_iff.mpr (by decide)) dL_548 ?_
  refine W.eq (g2 := F0 m 549 ls [.int (xs 1), .ref a_m, .int o1.1]) (by rw [show ((0 : Int32) + 1).toNatClampNeg = 1 from by decide]) ?_
  have hRun := va_runV (R := room_1) (locs := locs) (H := H) (l := l) (e := e) (below := below) (meth := meth) (cells := 59) (slots := 7221) (g := F0 m 549 ls [.int (xs 1), .ref a_m, .int o1.1]) (As := [.int (xs 1)]) (rest := [.int o1.1]) ⟨hx, hb, hml, hown, hts⟩ (c_M_arm l D G a_m m0 m1 m2 m3 m4 m5 m6 m7 m8 m9 m10 m11 m12 m13 m14 m15 m16 m17 m18 m19 m20 m21 m22 m23 m24 m25 m26 m27 m28 m29 m30 0 0 0 0 0 0 0 0 0 0 0 0 0 (-1) 0 0 0 0 0 0 0 0 0 0 0 0 0 0 0 0 0 0 0 0 0 (xs 1) o2 h2 H.size) (cwV 1 hts (gV tw1089 tw1090 tw1091 tw11 tw1092) rfl rfl rfl (by decide +kernel) ⟨Nat.le_of_ble_eq_true rfl, Nat.le_of_ble_eq_true rfl⟩) (ob_preV (q0 := 0) (ci := 11) hZ hK hP hD [0] rfl rfl rfl rfl rfl) rfl rfl hl.1 rfl (lv_room (Nat.le_of_ble_eq_true rfl)) dL_549 ⟨Nat.le_of_ble_eq_true rfl, Nat.le_of_ble_eq_true rfl⟩
  refine ob_calli (wc := (cw_M_arm G a_m m0 m1 m2 m3 m4 m5 m6 m7 m8 m9 m10 m11 m12 m13 m14 m15 m16 m17 m18 m19 m20 m21 m22 m23 m24 m25 m26 m27 m28 m29 m30 0 0 0 0 0 0 0 0 0 0 0 0 0 (-1) 0 0 0 0 0 0 0 0 0 0 0 0 0 0 0 0 0 0 0 0 0)) (wc1 := (cw_M_arm G a_m m0 m1 m2 m3 m4 m5 m6 m7 m8 m9 m10 m11 m12 m13 m14 m15 m16 m17 m18 m19 m20 m21 m22 m23 m24 m25 m26 m27 m28 m29 m30 0 0 0 0 0 0 0 0 0 0 0 0 0 o2.2 0 0 0 0 0 0 0 0 0 0 0 0 0 0 0 0 0 0 0 0 0)) (r := o2.1) hRun hP hD hA hS [0] rfl rfl rfl rfl (fun H locs hP hD hS => ?_)
  clear hRun
  refine lv_icmp_eq (tgt := 877) hx hb dL_552 (by decide) (fun _ => ?_) (fun hc => absurd he hc)
  exact tailN ls H locs _ _ (Nat.le_of_ble_eq_true rfl) (Nat.le_of_ble_eq_true rfl) (lv_sub hl [0, 3] rfl) hS
set_option maxHeartbeats 1000000 in
set_option maxRecDepth 100000 in
theorem law_13 {p : Program} {e : Env} {s : State} {m : MethodId} {below : List Frame} {meth : Method} {c : Code} {b : Nat} {xs : Nat → Int32} {D : va_G} {G : Nat → ClassId} {A : Nat → Prop} {a_x x0 x1 x2 x3 x4 x5 x6 x7 x8 x9 x10 x11 x12 x13 x14 x15 x16 x17 x18 x19 x20 x21 x22 x23 x24 x25 a_m m0 m1 m2 m3 m4 m5 m6 m7 m8 m9 m10 m11 m12 m13 m14 m15 m16 m17 m18 m19 m20 m21 m22 m23 m24 m25 m26 m27 m28 m29 m30 : Nat} {ls : Array Slot} {H : Heap} {locs : List Loc} (l : Launch) (hx : p.tables.exec = Jvm.exec) (hb : c.code = code) (hml : c.maxLocals = 4) (hown : s.vm.findClass "ObjectBaseLaw" = some m.cls) (hts : ∀ w ∈ obW, w.before #[Value.ref b] s = true) (hZ : obZ s) (hK : va_K D vwCl (obT G) s) (hA : ∀ q, s.heap.size ≤ q → A q) (hX : va_X b 5 xs s s.heap) (hbl : b < s.heap.size) (hbA : ¬ A b) (hP : va_P D vwCl (lw_w G a_x x0 x1 x2 x3 x4 x5 x6 x7 x8 x9 x10 x11 x12 x13 x14 x15 x16 x17 x18 x19 x20 x21 x22 x23 x24 x25 a_m m0 m1 m2 m3 m4 m5 m6 m7 m8 m9 m10 m11 m12 m13 m14 m15 m16 m17 m18 m19 m20 m21 m22 m23 m24 m25 m26 m27 m28 m29 m30) H) (hD : va_D A (lw_w G a_x x0 x1 x2 x3 x4 x5 x6 x7 x8 x9 x10 x11 x12 x13 x14 x15 x16 x17 x18 x19 x20 x21 x22 x23 x24 x25 a_m m0 m1 m2 m3 m4 m5 m6 m7 m8 m9 m10 m11 m12 m13 m14 m15 m16 m17 m18 m19 m20 m21 m22 m23 m24 m25 m26 m27 m28 m29 m30)) (hS : va_S A s.heap H locs) (hl : lv_has ls 4 [(3, .int 0), (2, .ref a_m), (1, .ref a_x), (0, .ref b)])
    (tailN : ∀ (ls : Array Slot) (H : Heap) (locs : List Loc) (cells slots : Nat), cells ≤ 600000 → slots ≤ 7302250 → lv_has ls 4 [(3, .int 0), (0, .ref b)] → va_S A s.heap H locs → W p l e room_1 s m #[Value.ref b] below meth c H locs cells slots (lw_Z below #[Value.ref b] s) (F0 m 877 ls [])) :
    W p l e room_1 s m #[Value.ref b] below meth c H locs 59 7221 (lw_Z below #[Value.ref b] s) (F0 m 557 ls []) := by
  refine lv_aload_n hx hb dL_557 rfl (lv_at hl 2 rfl) ?_
  obtain ⟨o1, o2, h1, h2, he⟩ := P_crash
  have hRun := va_runV (R := room_1) (locs := locs) (H := H) (l := l) (e := e) (below := below) (meth := meth) (cells := 59) (slots := 7221) (g := F0 m 558 ls [.ref a_x]) (As := []) (rest := []) ⟨hx, hb, hml, hown, hts⟩ (c_OB_crash l D G a_x x8 x13 x25 x0 x5 x9 x18 x20 x21 x23 x14 0 0 0 0 (-1) 0 0 0 0 0 0 0 0 0 0 0 0 o1 h1 H.size) (cwV 0 hts (gV tw468 tw469 tw470 tw1 tw471) rfl rfl rfl (by decide +kernel) ⟨Nat.le_of_ble_eq_true rfl, Nat.le_of_ble_eq_true rfl⟩) (ob_preV (q0 := 0) (ci := 0) hZ hK hP hD [0, 9, 14, 26] rfl rfl rfl rfl rfl) rfl rfl hl.1 rfl (lv_room (Nat.le_of_ble_eq_true rfl)) dL_558 ⟨Nat.le_of_ble_eq_true rfl, Nat.le_of_ble_eq_true rfl⟩
  refine ob_dropi (wc := (cw_OB_crash G a_x x8 x13 x25 x0 x5 x9 x18 x20 x21 x23 x14 0 0 0 0 (-1) 0 0 0 0 0 0 0 0 0 0 0 0)) (wc1 := (cw_OB_crash G a_x x8 x13 x25 x0 x5 x9 x18 x20 x21 x23 x14 0 0 0 0 (-1) 0 0 0 o1.2.1 0 0 0 o1.2.2.1 o1.2.2.2.1 o1.2.2.2.2.1 o1.2.2.2.2.2.1 o1.2.2.2.2.2.2)) (r := o1.1) (wr := (lw_m G a_m m0 m1 m2 m3 m4 m5 m6 m7 m8 m9 m10 m11 m12 m13 m14 m15 m16 m17 m18 m19 m20 m21 m22 m23 m24 m25 m26 m27 m28 m29 m30)) hRun hP hD hA hS [0, 9, 14, 26] [27, 28, 29, 30, 31, 32, 33, 34, 35, 36, 37, 38, 39, 40, 41, 42, 43, 44, 45, 46, 47, 48, 49, 50, 51, 52, 53, 54, 55, 56, 57, 58] rfl rfl rfl (by decide) (fun H locs hP hD hS => ?_)
  clear hRun
  refine lv_aload_n hx hb dL_561 rfl (lv_at hl 1 rfl) ?_
  have hRun := va_runV (R := room_1) (locs := locs) (H := H) (l := l) (e := e) (below := below) (meth := meth) (cells := 59) (slots := 7221) (g := F0 m 562 ls [.ref a_m, .int o1.1]) (As := []) (rest := [.int o1.1]) ⟨hx, hb, hml, hown, hts⟩ (c_M_crash l D G a_m m9 m12 m7 m10 m8 m11 m0 m1 m2 m3 m4 m5 m6 m13 m14 m15 m16 m17 m18 m19 m20 m21 m22 m23 m24 m25 m26 m27 m28 m29 m30 0 0 0 0 0 0 0 0 0 0 0 0 0 (-1) 0 0 0 0 0 0 0 0 0 0 0 0 0 0 0 0 0 0 0 0 0 (fun _ => 0) (fun _ => 0) (fun _ => 0) (fun _ => 0) (fun _ => 0) (fun _ => 0) o2 h2 H.size) (cwV 0 hts (gV tw1093 tw1094 tw1095 tw11 tw1096) rfl rfl rfl (by decide +kernel) ⟨Nat.le_of_ble_eq_true rfl, Nat.le_of_ble_eq_true rfl⟩) (ob_preV (q0 := 0) (ci := 11) hZ hK hP hD [0, 10, 13, 8, 11, 9, 12] rfl rfl rfl rfl rfl) rfl rfl hl.1 rfl (lv_room (Nat.le_of_ble_eq_true rfl)) dL_562 ⟨Nat.le_of_ble_eq_true rfl, Nat.le_of_ble_eq_true rfl⟩
  refine ob_calli (wc := (cw_M_crash G a_m m9 m12 m7 m10 m8 m11 m0 m1 m2 m3 m4 m5 m6 m13 m14 m15 m16 m17 m18 m19 m20 m21 m22 m23 m24 m25 m26 m27 m28 m29 m30 0 0 0 0 0 0 0 0 0 0 0 0 0 (-1) 0 0 0 0 0 0 0 0 0 0 0 0 0 0 0 0 0 0 0 0 0 (fun _ => 0) (fun _ => 0) (fun _ => 0) (fun _ => 0) (fun _ => 0) (fun _ => 0))) (wc1 := (cw_M_crash G a_m m9 m12 m7 m10 m8 m11 m0 m1 m2 m3 m4 m5 m6 m13 m14 m15 m16 m17 m18 m19 m20 m21 m22 m23 m24 m25 m26 m27 m28 m29 m30 0 0 0 0 0 0 0 o2.2.1 0 0 0 0 o2.2.2.1 (-1) 0 0 0 0 0 0 0 0 0 0 0 0 0 0 0 0 0 o2.2.2.2.1 o2.2.2.2.2.1 o2.2.2.2.2.2.1 o2.2.2.2.2.2.2.1 (fun _ => 0) o2.2.2.2.2.2.2.2.1 (fun _ => 0) o2.2.2.2.2.2.2.2.2.1 (fun _ => 0) o2.2.2.2.2.2.2.2.2.2)) (r := o2.1) hRun hP hD hA hS [0, 10, 13, 8, 11, 9, 12] rfl rfl rfl rfl (fun H locs hP hD hS => ?_)
  clear hRun
  refine lv_icmp_eq (tgt := 877) hx hb dL_565 (by decide) (fun _ => ?_) (fun hc => absurd he hc)
  exact tailN ls H locs _ _ (Nat.le_of_ble_eq_true rfl) (Nat.le_of_ble_eq_true rfl) (lv_sub hl [0, 3] rfl) hS
set_option maxHeartbeats 1000000 in
set_option maxRecDepth 100000 in
theorem law_14 {p : Program} {e : Env} {s : State} {m : MethodId} {below : List Frame} {meth : Method} {c : Code} {b : Nat} {xs : Nat → Int32} {D : va_G} {G : Nat → ClassId} {A : Nat → Prop} {a_x x0 x1 x2 x3 x4 x5 x6 x7 x8 x9 x10 x11 x12 x13 x14 x15 x16 x17 x18 x19 x20 x21 x22 x23 x24 x25 a_m m0 m1 m2 m3 m4 m5 m6 m7 m8 m9 m10 m11 m12 m13 m14 m15 m16 m17 m18 m19 m20 m21 m22 m23 m24 m25 m26 m27 m28 m29 m30 : Nat} {ls : Array Slot} {H : Heap} {locs : List Loc} (l : Launch) (hx : p.tables.exec = Jvm.exec) (hb : c.code = code) (hml : c.maxLocals = 4) (hown : s.vm.findClass "ObjectBaseLaw" = some m.cls) (hts : ∀ w ∈ obW, w.before #[Value.ref b] s = true) (hZ : obZ s) (hK : va_K D vwCl (obT G) s) (hA : ∀ q, s.heap.size ≤ q → A q) (hX : va_X b 5 xs s s.heap) (hbl : b < s.heap.size) (hbA : ¬ A b) (hP : va_P D vwCl (lw_w G a_x x0 x1 x2 x3 x4 x5 x6 x7 x8 x9 x10 x11 x12 x13 x14 x15 x16 x17 x18 x19 x20 x21 x22 x23 x24 x25 a_m m0 m1 m2 m3 m4 m5 m6 m7 m8 m9 m10 m11 m12 m13 m14 m15 m16 m17 m18 m19 m20 m21 m22 m23 m24 m25 m26 m27 m28 m29 m30) H) (hD : va_D A (lw_w G a_x x0 x1 x2 x3 x4 x5 x6 x7 x8 x9 x10 x11 x12 x13 x14 x15 x16 x17 x18 x19 x20 x21 x22 x23 x24 x25 a_m m0 m1 m2 m3 m4 m5 m6 m7 m8 m9 m10 m11 m12 m13 m14 m15 m16 m17 m18 m19 m20 m21 m22 m23 m24 m25 m26 m27 m28 m29 m30)) (hS : va_S A s.heap H locs) (hl : lv_has ls 4 [(3, .int 0), (2, .ref a_m), (1, .ref a_x), (0, .ref b)])
    (tailN : ∀ (ls : Array Slot) (H : Heap) (locs : List Loc) (cells slots : Nat), cells ≤ 600000 → slots ≤ 7302250 → lv_has ls 4 [(3, .int 0), (0, .ref b)] → va_S A s.heap H locs → W p l e room_1 s m #[Value.ref b] below meth c H locs cells slots (lw_Z below #[Value.ref b] s) (F0 m 877 ls [])) :
    W p l e room_1 s m #[Value.ref b] below meth c H locs 59 7221 (lw_Z below #[Value.ref b] s) (F0 m 570 ls []) := by
  refine lv_aload_n hx hb dL_570 rfl (lv_at hl 2 rfl) ?_
  obtain ⟨o1, o2, h1, h2, he⟩ := P_recover
  have hRun := va_runV (R := room_1) (locs := locs) (H := H) (l := l) (e := e) (below := below) (meth := meth) (cells := 59) (slots := 7221) (g := F0 m 571 ls [.ref a_x]) (As := []) (rest := []) ⟨hx, hb, hml, hown, hts⟩ (c_OB_recover l D G a_x x8 x0 x5 x9 x13 x18 x20 x21 x23 x25 0 0 0 0 (-1) 0 0 0 0 o1 h1 H.size) (cwV 0 hts (gV tw472 tw473 tw474 tw1 tw475) rfl rfl rfl (by decide +kernel) ⟨Nat.le_of_ble_eq_true rfl, Nat.le_of_ble_eq_true rfl⟩) (ob_preV (q0 := 0) (ci := 0) hZ hK hP hD [0, 9] rfl rfl rfl rfl rfl) rfl rfl hl.1 rfl (lv_room (Nat.le_of_ble_eq_true rfl)) dL_571 ⟨Nat.le_of_ble_eq_true rfl, Nat.le_of_ble_eq_true rfl⟩
  refine ob_dropi (wc := (cw_OB_recover G a_x x8 x0 x5 x9 x13 x18 x20 x21 x23 x25 0 0 0 0 (-1) 0 0 0 0)) (wc1 := (cw_OB_recover G a_x x8 x0 x5 x9 x13 x18 x20 x21 x23 x25 0 0 0 o1.2.1 o1.2.2.1 0 o1.2.2.2.1 o1.2.2.2.2.1 o1.2.2.2.2.2)) (r := o1.1) (wr := (lw_m G a_m m0 m1 m2 m3 m4 m5 m6 m7 m8 m9 m10 m11 m12 m13 m14 m15 m16 m17 m18 m19 m20 m21 m22 m23 m24 m25 m26 m27 m28 m29 m30)) hRun hP hD hA hS [0, 9] [27, 28, 29, 30, 31, 32, 33, 34, 35, 36, 37, 38, 39, 40, 41, 42, 43, 44, 45, 46, 47, 48, 49, 50, 51, 52, 53, 54, 55, 56, 57, 58] rfl rfl rfl (by decide) (fun H locs hP hD hS => ?_)
  clear hRun
  refine lv_aload_n hx hb dL_574 rfl (lv_at hl 1 rfl) ?_
  have hRun := va_runV (R := room_1) (locs := locs) (H := H) (l := l) (e := e) (below := below) (meth := meth) (cells := 59) (slots := 7221) (g := F0 m 575 ls [.ref a_m, .int o1.1]) (As := []) (rest := [.int o1.1]) ⟨hx, hb, hml, hown, hts⟩ (c_M_recover l D G a_m m12 m9 m10 m7 m11 m8 m0 m1 m2 m3 m4 m5 m6 m13 m14 m15 m16 m17 m18 m19 m20 m21 m22 m23 m24 m25 m26 m27 m28 m29 m30 0 0 0 0 0 0 0 0 0 0 0 0 0 (-1) 0 0 0 0 0 0 0 0 0 0 0 0 0 0 0 0 0 0 0 0 0 (fun _ => 0) (fun _ => 0) (fun _ => 0) (fun _ => 0) (fun _ => 0) (fun _ => 0) o2 h2 H.size) (cwV 0 hts (gV tw1097 tw1098 tw1099 tw11 tw1100) rfl rfl rfl (by decide +kernel) ⟨Nat.le_of_ble_eq_true rfl, Nat.le_of_ble_eq_true rfl⟩) (ob_preV (q0 := 0) (ci := 11) hZ hK hP hD [0, 13, 10, 11, 8, 12, 9] rfl rfl rfl rfl rfl) rfl rfl hl.1 rfl (lv_room (Nat.le_of_ble_eq_true rfl)) dL_575 ⟨Nat.le_of_ble_eq_true rfl, Nat.le_of_ble_eq_true rfl⟩
  refine ob_calli (wc := (cw_M_recover G a_m m12 m9 m10 m7 m11 m8 m0 m1 m2 m3 m4 m5 m6 m13 m14 m15 m16 m17 m18 m19 m20 m21 m22 m23 m24 m25 m26 m27 m28 m29 m30 0 0 0 0 0 0 0 0 0 0 0 0 0 (-1) 0 0 0 0 0 0 0 0 0 0 0 0 0 0 0 0 0 0 0 0 0 (fun _ => 0) (fun _ => 0) (fun _ => 0) (fun _ => 0) (fun _ => 0) (fun _ => 0))) (wc1 := (cw_M_recover G a_m m12 m9 m10 m7 m11 m8 m0 m1 m2 m3 m4 m5 m6 m13 m14 m15 m16 m17 m18 m19 m20 m21 m22 m23 m24 m25 m26 m27 m28 m29 m30 0 0 0 0 0 o2.2.1 0 o2.2.2.1 0 0 0 0 o2.2.2.2.1 o2.2.2.2.2.1 o2.2.2.2.2.2.1 o2.2.2.2.2.2.2.1 o2.2.2.2.2.2.2.2.1 0 0 0 0 0 0 0 0 0 0 0 0 0 0 0 0 0 0 (fun _ => 0) o2.2.2.2.2.2.2.2.2.1 (fun _ => 0) o2.2.2.2.2.2.2.2.2.2.1 (fun _ => 0) o2.2.2.2.2.2.2.2.2.2.2)) (r := o2.1) hRun hP hD hA hS [0, 13, 10, 11, 8, 12, 9] rfl rfl rfl rfl (fun H locs hP hD hS => ?_)
  clear hRun
  refine lv_icmp_eq (tgt := 877) hx hb dL_578 (by decide) (fun _ => ?_) (fun hc => absurd he hc)
  exact tailN ls H locs _ _ (Nat.le_of_ble_eq_true rfl) (Nat.le_of_ble_eq_true rfl) (lv_sub hl [0, 3] rfl) hS
set_option maxHeartbeats 1000000 in
set_option maxRecDepth 100000 in
theorem law_15 {p : Program} {e : Env} {s : State} {m : MethodId} {below : List Frame} {meth : Method} {c : Code} {b : Nat} {xs : Nat → Int32} {D : va_G} {G : Nat → ClassId} {A : Nat → Prop} {a_x x0 x1 x2 x3 x4 x5 x6 x7 x8 x9 x10 x11 x12 x13 x14 x15 x16 x17 x18 x19 x20 x21 x22 x23 x24 x25 a_m m0 m1 m2 m3 m4 m5 m6 m7 m8 m9 m10 m11 m12 m13 m14 m15 m16 m17 m18 m19 m20 m21 m22 m23 m24 m25 m26 m27 m28 m29 m30 : Nat} {ls : Array Slot} {H : Heap} {locs : List Loc} (l : Launch) (hx : p.tables.exec = Jvm.exec) (hb : c.code = code) (hml : c.maxLocals = 4) (hown : s.vm.findClass "ObjectBaseLaw" = some m.cls) (hts : ∀ w ∈ obW, w.before #[Value.ref b] s = true) (hZ : obZ s) (hK : va_K D vwCl (obT G) s) (hA : ∀ q, s.heap.size ≤ q → A q) (hX : va_X b 5 xs s s.heap) (hbl : b < s.heap.size) (hbA : ¬ A b) (hP : va_P D vwCl (lw_w G a_x x0 x1 x2 x3 x4 x5 x6 x7 x8 x9 x10 x11 x12 x13 x14 x15 x16 x17 x18 x19 x20 x21 x22 x23 x24 x25 a_m m0 m1 m2 m3 m4 m5 m6 m7 m8 m9 m10 m11 m12 m13 m14 m15 m16 m17 m18 m19 m20 m21 m22 m23 m24 m25 m26 m27 m28 m29 m30) H) (hD : va_D A (lw_w G a_x x0 x1 x2 x3 x4 x5 x6 x7 x8 x9 x10 x11 x12 x13 x14 x15 x16 x17 x18 x19 x20 x21 x22 x23 x24 x25 a_m m0 m1 m2 m3 m4 m5 m6 m7 m8 m9 m10 m11 m12 m13 m14 m15 m16 m17 m18 m19 m20 m21 m22 m23 m24 m25 m26 m27 m28 m29 m30)) (hS : va_S A s.heap H locs) (hl : lv_has ls 4 [(3, .int 0), (2, .ref a_m), (1, .ref a_x), (0, .ref b)])
    (tailN : ∀ (ls : Array Slot) (H : Heap) (locs : List Loc) (cells slots : Nat), cells ≤ 600000 → slots ≤ 7302250 → lv_has ls 4 [(3, .int 0), (0, .ref b)] → va_S A s.heap H locs → W p l e room_1 s m #[Value.ref b] below meth c H locs cells slots (lw_Z below #[Value.ref b] s) (F0 m 877 ls [])) :
    W p l e room_1 s m #[Value.ref b] below meth c H locs 59 7221 (lw_Z below #[Value.ref b] s) (F0 m 583 ls []) := by
  refine lv_aload_n hx hb dL_583 rfl (lv_at hl 2 rfl) ?_
  refine lv_aload_n hx hb dL_584 rfl (lv_at hl 3 rfl) ?_
  refine lv_iload_n hx hb dL_585 rfl (lv_at hl 0 rfl) ?_
  refine lv_iconst (v := 1) hx hb dL_586 (by decide) ?_
  refine lv_iadd hx hb dL_587 ?_
  refine va_sld hx hb hX hbl hbA hS (vp_in_iff.mpr (by decide)) dL_588 ?_
  refine W.eq (g2 := F0 m 589 ls [.int (xs 1), .ref a_x]) (by rw [show ((0 : Int32) + 1).toNatClampNeg = 1 from by decide]) ?_
  obtain ⟨o1, o2, h1, h2, he⟩ := P_classOf (xs 1)
  have hRun := va_runV (R := room_1) (locs := locs) (H := H) (l := l) (e := e) (below := below) (meth := meth) (cells := 59) (slots := 7221) (g := F0 m 589 ls [.int (xs 1), .ref a_x]) (As := [.int (xs 1)]) (rest := []) ⟨hx, hb, hml, hown, hts⟩ (c_OB_classOf l D G a_x x8 x13 x9 x10 x14 x15 x0 x5 x18 x20 x21 x23 x25 x11 x12 x16 x17 0 0 0 0 (-1) 0 0 0 0 0 0 0 0 (fun _ => 0) (fun _ => 0) (xs 1) o1 h1 H.size) (cwV 1 hts (gV tw481 tw482 tw483 tw1 tw484) rfl rfl rfl (by decide +kernel) ⟨Nat.le_of_ble_eq_true rfl, Nat.le_of_ble_eq_true rfl⟩) (ob_preV (q0 := 0) (ci := 0) hZ hK hP hD [0, 9, 14, 10, 11, 15, 16] rfl rfl rfl rfl rfl) rfl rfl hl.1 rfl (lv_room (Nat.le_of_ble_eq_true rfl)) dL_589 ⟨Nat.le_of_ble_eq_true rfl, Nat.le_of_ble_eq_true rfl⟩
  refine ob_dropi (wc := (cw_OB_classOf G a_x x8 x13 x9 x10 x14 x15 x0 x5 x18 x20 x21 x23 x25 x11 x12 x16 x17 0 0 0 0 (-1) 0 0 0 0 0 0 0 0 (fun _ => 0) (fun _ => 0))) (wc1 := (cw_OB_classOf G a_x x8 x13 x9 x10 x14 x15 x0 x5 x18 x20 x21 x23 x25 x11 x12 x16 x17 0 0 0 0 (-1) 0 0 0 0 0 0 0 0 (fun _ => 0) (fun _ => 0))) (r := o1) (wr := (lw_m G a_m m0 m1 m2 m3 m4 m5 m6 m7 m8 m9 m10 m11 m12 m13 m14 m15 m16 m17 m18 m19 m20 m21 m22 m23 m24 m25 m26 m27 m28 m29 m30)) hRun hP hD hA hS [0, 9, 14, 10, 11, 15, 16] [27, 28, 29, 30, 31, 32, 33, 34, 35, 36, 37, 38, 39, 40, 41, 42, 43, 44, 45, 46, 47, 48, 49, 50, 51, 52, 53, 54, 55, 56, 57, 58] rfl rfl rfl (by decide) (fun H locs hP hD hS => ?_)
  clear hRun
  refine lv_aload_n hx hb dL_592 rfl (lv_at hl 1 rfl) ?_
  refine lv_aload_n hx hb dL_593 rfl (lv_at hl 3 rfl) ?_
  refine lv_iload_n hx hb dL_594 rfl (lv_at hl 0 rfl) ?_
  refine lv_iconst (v := 1) hx hb dL_595 (by decide) ?_
  refine lv_iadd hx hb dL_596 ?_
  refine va_sld hx hb hX hbl hbA hS (vp_in_iff.mpr (by decide)) dL_597 ?_
  refine W.eq (g2 := F0 m 598 ls [.int (xs 1), .ref a_m, .int o1]) (by rw [show ((0 : Int32) + 1).toNatClampNeg = 1 from by decide]) ?_
  have hRun := va_runV (R := room_1) (locs := locs) (H := H) (l := l) (e := e) (below := below) (meth := meth) (cells := 59) (slots := 7221) (g := F0 m 598 ls [.int (xs 1), .ref a_m, .int o1]) (As := [.int (xs 1)]) (rest := [.int o1]) ⟨hx, hb, hml, hown, hts⟩ (c_M_classOf l D G a_m m6 m0 m1 m2 m3 m4 m5 m7 m8 m9 m10 m11 m12 m13 m14 m15 m16 m17 m18 m19 m20 m21 m22 m23 m24 m25 m26 m27 m28 m29 m30 0 0 0 0 0 0 0 0 0 0 0 0 0 (-1) 0 0 0 0 0 0 0 0 0 0 0 0 0 0 0 0 0 0 0 0 0 (fun _ => 0) (xs 1) o2 h2 H.size) (cwV 1 hts (gV tw1101 tw1102 tw1103 tw11 tw1104) rfl rfl rfl (by decide +kernel) ⟨Nat.le_of_ble_eq_true rfl, Nat.le_of_ble_eq_true rfl⟩) (ob_preV (q0 := 0) (ci := 11) hZ hK hP hD [0, 7] rfl rfl rfl rfl rfl) rfl rfl hl.1 rfl (lv_room (Nat.le_of_ble_eq_true rfl)) dL_598 ⟨Nat.le_of_ble_eq_true rfl, Nat.le_of_ble_eq_true rfl⟩
  refine ob_calli (wc := (cw_M_classOf G a_m m6 m0 m1 m2 m3 m4 m5 m7 m8 m9 m10 m11 m12 m13 m14 m15 m16 m17 m18 m19 m20 m21 m22 m23 m24 m25 m26 m27 m28 m29 m30 0 0 0 0 0 0 0 0 0 0 0 0 0 (-1) 0 0 0 0 0 0 0 0 0 0 0 0 0 0 0 0 0 0 0 0 0 (fun _ => 0))) (wc1 := (cw_M_classOf G a_m m6 m0 m1 m2 m3 m4 m5 m7 m8 m9 m10 m11 m12 m13 m14 m15 m16 m17 m18 m19 m20 m21 m22 m23 m24 m25 m26 m27 m28 m29 m30 0 0 0 0 0 0 0 0 0 0 0 0 0 (-1) 0 0 0 0 0 0 0 0 0 0 0 0 0 0 0 0 0 0 0 0 0 (fun _ => 0))) (r := o2) hRun hP hD hA hS [0, 7] rfl rfl rfl rfl (fun H locs hP hD hS => ?_)
  clear hRun
  refine lv_icmp_eq (tgt := 877) hx hb dL_601 (by decide) (fun _ => ?_) (fun hc => absurd he hc)
  exact tailN ls H locs _ _ (Nat.le_of_ble_eq_true rfl) (Nat.le_of_ble_eq_true rfl) (lv_sub hl [0, 3] rfl) hS
set_option maxHeartbeats 1000000 in
set_option maxRecDepth 100000 in
theorem law_16 {p : Program} {e : Env} {s : State} {m : MethodId} {below : List Frame} {meth : Method} {c : Code} {b : Nat} {xs : Nat → Int32} {D : va_G} {G : Nat → ClassId} {A : Nat → Prop} {a_x x0 x1 x2 x3 x4 x5 x6 x7 x8 x9 x10 x11 x12 x13 x14 x15 x16 x17 x18 x19 x20 x21 x22 x23 x24 x25 a_m m0 m1 m2 m3 m4 m5 m6 m7 m8 m9 m10 m11 m12 m13 m14 m15 m16 m17 m18 m19 m20 m21 m22 m23 m24 m25 m26 m27 m28 m29 m30 : Nat} {ls : Array Slot} {H : Heap} {locs : List Loc} (l : Launch) (hx : p.tables.exec = Jvm.exec) (hb : c.code = code) (hml : c.maxLocals = 4) (hown : s.vm.findClass "ObjectBaseLaw" = some m.cls) (hts : ∀ w ∈ obW, w.before #[Value.ref b] s = true) (hZ : obZ s) (hK : va_K D vwCl (obT G) s) (hA : ∀ q, s.heap.size ≤ q → A q) (hX : va_X b 5 xs s s.heap) (hbl : b < s.heap.size) (hbA : ¬ A b) (hP : va_P D vwCl (lw_w G a_x x0 x1 x2 x3 x4 x5 x6 x7 x8 x9 x10 x11 x12 x13 x14 x15 x16 x17 x18 x19 x20 x21 x22 x23 x24 x25 a_m m0 m1 m2 m3 m4 m5 m6 m7 m8 m9 m10 m11 m12 m13 m14 m15 m16 m17 m18 m19 m20 m21 m22 m23 m24 m25 m26 m27 m28 m29 m30) H) (hD : va_D A (lw_w G a_x x0 x1 x2 x3 x4 x5 x6 x7 x8 x9 x10 x11 x12 x13 x14 x15 x16 x17 x18 x19 x20 x21 x22 x23 x24 x25 a_m m0 m1 m2 m3 m4 m5 m6 m7 m8 m9 m10 m11 m12 m13 m14 m15 m16 m17 m18 m19 m20 m21 m22 m23 m24 m25 m26 m27 m28 m29 m30)) (hS : va_S A s.heap H locs) (hl : lv_has ls 4 [(3, .int 0), (2, .ref a_m), (1, .ref a_x), (0, .ref b)])
    (tailN : ∀ (ls : Array Slot) (H : Heap) (locs : List Loc) (cells slots : Nat), cells ≤ 600000 → slots ≤ 7302250 → lv_has ls 4 [(3, .int 0), (0, .ref b)] → va_S A s.heap H locs → W p l e room_1 s m #[Value.ref b] below meth c H locs cells slots (lw_Z below #[Value.ref b] s) (F0 m 877 ls [])) :
    W p l e room_1 s m #[Value.ref b] below meth c H locs 59 7221 (lw_Z below #[Value.ref b] s) (F0 m 606 ls []) := by
  refine lv_aload_n hx hb dL_606 rfl (lv_at hl 2 rfl) ?_
  refine lv_aload_n hx hb dL_607 rfl (lv_at hl 3 rfl) ?_
  refine lv_iload_n hx hb dL_608 rfl (lv_at hl 0 rfl) ?_
  refine lv_iconst (v := 1) hx hb dL_609 (by decide) ?_
  refine lv_iadd hx hb dL_610 ?_
  refine va_sld hx hb hX hbl hbA hS (vp_in_iff.mpr (by decide)) dL_611 ?_
  refine W.eq (g2 := F0 m 612 ls [.int (xs 1), .ref a_x]) (by rw [show ((0 : Int32) + 1).toNatClampNeg = 1 from by decide]) ?_
  obtain ⟨o1, o2, h1, h2, he⟩ := P_reached (xs 1)
  have hRun := va_runV (R := room_1) (locs := locs) (H := H) (l := l) (e := e) (below := below) (meth := meth) (cells := 59) (slots := 7221) (g := F0 m 612 ls [.int (xs 1), .ref a_x]) (As := [.int (xs 1)]) (rest := []) ⟨hx, hb, hml, hown, hts⟩ (c_OB_reached l D G a_x x8 x13 x9 x0 x11 x3 x12 x14 x16 x17 x5 x18 x20 x21 x23 x25 x10 x1 x2 x4 x15 0 0 0 0 (-1) 0 0 0 0 0 0 0 0 0 0 (fun _ => 0) (fun _ => 0) (fun _ => 0) (fun _ => 0) (fun _ => 0) (xs 1) o1 h1 H.size) (cwV 1 hts (gV tw489 tw490 tw491 tw1 tw492) rfl rfl rfl (by decide +kernel) ⟨Nat.le_of_ble_eq_true rfl, Nat.le_of_ble_eq_true rfl⟩) (ob_preV (q0 := 0) (ci := 0) hZ hK hP hD [0, 9, 14, 10, 1, 12, 4, 13, 15, 17, 18] rfl rfl rfl rfl rfl) rfl rfl hl.1 rfl (lv_room (Nat.le_of_ble_eq_true rfl)) dL_612 ⟨Nat.le_of_ble_eq_true rfl, Nat.le_of_ble_eq_true rfl⟩
  refine ob_dropi (wc := (cw_OB_reached G a_x x8 x13 x9 x0 x11 x3 x12 x14 x16 x17 x5 x18 x20 x21 x23 x25 x10 x1 x2 x4 x15 0 0 0 0 (-1) 0 0 0 0 0 0 0 0 0 0 (fun _ => 0) (fun _ => 0) (fun _ => 0) (fun _ => 0) (fun _ => 0))) (wc1 := (cw_OB_reached G a_x x8 x13 x9 x0 x11 x3 x12 x14 x16 x17 x5 x18 x20 x21 x23 x25 x10 x1 x2 x4 x15 0 0 0 0 (-1) 0 0 0 0 0 0 0 0 0 0 (fun _ => 0) (fun _ => 0) (fun _ => 0) (fun _ => 0) (fun _ => 0))) (r := o1) (wr := (lw_m G a_m m0 m1 m2 m3 m4 m5 m6 m7 m8 m9 m10 m11 m12 m13 m14 m15 m16 m17 m18 m19 m20 m21 m22 m23 m24 m25 m26 m27 m28 m29 m30)) hRun hP hD hA hS [0, 9, 14, 10, 1, 12, 4, 13, 15, 17, 18] [27, 28, 29, 30, 31, 32, 33, 34, 35, 36, 37, 38, 39, 40, 41, 42, 43, 44, 45, 46, 47, 48, 49, 50, 51, 52, 53, 54, 55, 56, 57, 58] rfl rfl rfl (by decide) (fun H locs hP hD hS => ?_)
  clear hRun
  refine lv_aload_n hx hb dL_615 rfl (lv_at hl 1 rfl) ?_
  refine lv_aload_n hx hb dL_616 rfl (lv_at hl 3 rfl) ?_
  refine lv_iload_n hx hb dL_617 rfl (lv_at hl 0 rfl) ?_
  refine lv_iconst (v := 1) hx hb dL_618 (by decide) ?_
  refine lv_iadd hx hb dL_619 ?_
  refine va_sld hx hb hX hbl hbA hS (vp_in_iff.mpr (by decide)) dL_620 ?_
  refine W.eq (g2 := F0 m 621 ls [.int (xs 1), .ref a_m, .int o1]) (by rw [show ((0 : Int32) + 1).toNatClampNeg = 1 from by decide]) ?_
  have hRun := va_runV (R := room_1) (locs := locs) (H := H) (l := l) (e := e) (below := below) (meth := meth) (cells := 59) (slots := 7221) (g := F0 m 621 ls [.int (xs 1), .ref a_m, .int o1]) (As := [.int (xs 1)]) (rest := [.int o1]) ⟨hx, hb, hml, hown, hts⟩ (c_M_reached l D G a_m m6 m1 m0 m2 m11 m8 m10 m7 m12 m9 m3 m4 m5 m13 m14 m15 m16 m17 m18 m19 m20 m21 m22 m23 m24 m25 m26 m27 m28 m29 m30 0 0 0 0 0 0 0 0 0 0 0 0 0 (-1) 0 0 0 0 0 0 0 0 0 0 0 0 0 0 0 0 0 0 0 0 0 (fun _ => 0) (fun _ => 0) (fun _ => 0) (fun _ => 0) (fun _ => 0) (fun _ => 0) (fun _ => 0) (fun _ => 0) (fun _ => 0) (fun _ => 0) (xs 1) o2 h2 H.size) (cwV 1 hts (gV tw1109 tw1110 tw1111 tw11 tw1112) rfl rfl rfl (by decide +kernel) ⟨Nat.le_of_ble_eq_true rfl, Nat.le_of_ble_eq_true rfl⟩) (ob_preV (q0 := 0) (ci := 11) hZ hK hP hD [0, 7, 2, 1, 3, 12, 9, 11, 8, 13, 10] rfl rfl rfl rfl rfl) rfl rfl hl.1 rfl (lv_room (Nat.le_of_ble_eq_true rfl)) dL_621 ⟨Nat.le_of_ble_eq_true rfl, Nat.le_of_ble_eq_true rfl⟩
  refine ob_calli (wc := (cw_M_reached G a_m m6 m1 m0 m2 m11 m8 m10 m7 m12 m9 m3 m4 m5 m13 m14 m15 m16 m17 m18 m19 m20 m21 m22 m23 m24 m25 m26 m27 m28 m29 m30 0 0 0 0 0 0 0 0 0 0 0 0 0 (-1) 0 0 0 0 0 0 0 0 0 0 0 0 0 0 0 0 0 0 0 0 0 (fun _ => 0) (fun _ => 0) (fun _ => 0) (fun _ => 0) (fun _ => 0) (fun _ => 0) (fun _ => 0) (fun _ => 0) (fun _ => 0) (fun _ => 0))) (wc1 := (cw_M_reached G a_m m6 m1 m0 m2 m11 m8 m10 m7 m12 m9 m3 m4 m5 m13 m14 m15 m16 m17 m18 m19 m20 m21 m22 m23 m24 m25 m26 m27 m28 m29 m30 0 0 0 0 0 0 0 0 0 0 0 0 0 (-1) 0 0 0 0 0 0 0 0 0 0 0 0 0 0 0 0 0 0 0 0 0 (fun _ => 0) (fun _ => 0) (fun _ => 0) (fun _ => 0) (fun _ => 0) (fun _ => 0) (fun _ => 0) (fun _ => 0) (fun _ => 0) (fun _ => 0))) (r := o2) hRun hP hD hA hS [0, 7, 2, 1, 3, 12, 9, 11, 8, 13, 10] rfl rfl rfl rfl (fun H locs hP hD hS => ?_)
  clear hRun
  refine lv_icmp_eq (tgt := 877) hx hb dL_624 (by decide) (fun _ => ?_) (fun hc => absurd he hc)
  exact tailN ls H locs _ _ (Nat.le_of_ble_eq_true rfl) (Nat.le_of_ble_eq_true rfl) (lv_sub hl [0, 3] rfl) hS
set_option maxHeartbeats 1000000 in
set_option maxRecDepth 100000 in
theorem law_17 {p : Program} {e : Env} {s : State} {m : MethodId} {below : List Frame} {meth : Method} {c : Code} {b : Nat} {xs : Nat → Int32} {D : va_G} {G : Nat → ClassId} {A : Nat → Prop} {a_x x0 x1 x2 x3 x4 x5 x6 x7 x8 x9 x10 x11 x12 x13 x14 x15 x16 x17 x18 x19 x20 x21 x22 x23 x24 x25 a_m m0 m1 m2 m3 m4 m5 m6 m7 m8 m9 m10 m11 m12 m13 m14 m15 m16 m17 m18 m19 m20 m21 m22 m23 m24 m25 m26 m27 m28 m29 m30 : Nat} {ls : Array Slot} {H : Heap} {locs : List Loc} (l : Launch) (hx : p.tables.exec = Jvm.exec) (hb : c.code = code) (hml : c.maxLocals = 4) (hown : s.vm.findClass "ObjectBaseLaw" = some m.cls) (hts : ∀ w ∈ obW, w.before #[Value.ref b] s = true) (hZ : obZ s) (hK : va_K D vwCl (obT G) s) (hA : ∀ q, s.heap.size ≤ q → A q) (hX : va_X b 5 xs s s.heap) (hbl : b < s.heap.size) (hbA : ¬ A b) (hP : va_P D vwCl (lw_w G a_x x0 x1 x2 x3 x4 x5 x6 x7 x8 x9 x10 x11 x12 x13 x14 x15 x16 x17 x18 x19 x20 x21 x22 x23 x24 x25 a_m m0 m1 m2 m3 m4 m5 m6 m7 m8 m9 m10 m11 m12 m13 m14 m15 m16 m17 m18 m19 m20 m21 m22 m23 m24 m25 m26 m27 m28 m29 m30) H) (hD : va_D A (lw_w G a_x x0 x1 x2 x3 x4 x5 x6 x7 x8 x9 x10 x11 x12 x13 x14 x15 x16 x17 x18 x19 x20 x21 x22 x23 x24 x25 a_m m0 m1 m2 m3 m4 m5 m6 m7 m8 m9 m10 m11 m12 m13 m14 m15 m16 m17 m18 m19 m20 m21 m22 m23 m24 m25 m26 m27 m28 m29 m30)) (hS : va_S A s.heap H locs) (hl : lv_has ls 4 [(3, .int 0), (2, .ref a_m), (1, .ref a_x), (0, .ref b)])
    (tailN : ∀ (ls : Array Slot) (H : Heap) (locs : List Loc) (cells slots : Nat), cells ≤ 600000 → slots ≤ 7302250 → lv_has ls 4 [(3, .int 0), (0, .ref b)] → va_S A s.heap H locs → W p l e room_1 s m #[Value.ref b] below meth c H locs cells slots (lw_Z below #[Value.ref b] s) (F0 m 877 ls [])) :
    W p l e room_1 s m #[Value.ref b] below meth c H locs 59 7221 (lw_Z below #[Value.ref b] s) (F0 m 629 ls []) := by
  refine lv_aload_n hx hb dL_629 rfl (lv_at hl 2 rfl) ?_
  refine lv_aload_n hx hb dL_630 rfl (lv_at hl 3 rfl) ?_
  refine lv_iload_n hx hb dL_631 rfl (lv_at hl 0 rfl) ?_
  refine lv_iconst (v := 1) hx hb dL_632 (by decide) ?_
  refine lv_iadd hx hb dL_633 ?_
  refine va_sld hx hb hX hbl hbA hS (vp_in_iff.mpr (by decide)) dL_634 ?_
  refine W.eq (g2 := F0 m 635 ls [.int (xs 1), .ref a_x]) (by rw [show ((0 : Int32) + 1).toNatClampNeg = 1 from by decide]) ?_
  refine lv_aload_n hx hb dL_635 rfl (lv_at hl 3 rfl) ?_
  refine lv_iload_n hx hb dL_636 rfl (lv_at hl 0 rfl) ?_
  refine lv_iconst (v := 2) hx hb dL_637 (by decide) ?_
  refine lv_iadd hx hb dL_638 ?_
  refine va_sld hx hb hX hbl hbA hS (vp_in_iff.mpr (by decide)) dL_639 ?_
  refine W.eq (g2 := F0 m 640 ls [.int (xs 2), .int (xs 1), .ref a_x]) (by rw [show ((0 : Int32) + 2).toNatClampNeg = 2 from by decide]) ?_
  obtain ⟨o1, o2, h1, h2, he⟩ := P_get (xs 1) (xs 2)
  have hRun := va_runV (R := room_1) (locs := locs) (H := H) (l := l) (e := e) (below := below) (meth := meth) (cells := 59) (slots := 7221) (g := F0 m 640 ls [.int (xs 2), .int (xs 1), .ref a_x]) (As := [.int (xs 1), .int (xs 2)]) (rest := []) ⟨hx, hb, hml, hown, hts⟩ (c_OB_get l D G a_x x8 x13 x9 x10 x0 x1 x2 x11 x3 x14 x15 x16 x5 x18 x20 x21 x23 x25 x12 x4 x17 0 0 0 0 (-1) 0 0 0 0 0 0 0 0 (fun _ => 0) 0 0 (fun _ => 0) (fun _ => 0) (fun _ => 0) (fun _ => 0) (fun _ => 0) (fun _ => 0) (xs 1) (xs 2) o1 h1 H.size) (cwV 2 hts (gV tw493 tw494 tw495 tw1 tw496) rfl rfl rfl (by decide +kernel) ⟨Nat.le_of_ble_eq_true rfl, Nat.le_of_ble_eq_true rfl⟩) (ob_preV (q0 := 0) (ci := 0) hZ hK hP hD [0, 9, 14, 10, 11, 1, 2, 3, 12, 4, 15, 16, 17] rfl rfl rfl rfl rfl) rfl rfl hl.1 rfl (lv_room (Nat.le_of_ble_eq_true rfl)) dL_640 ⟨Nat.le_of_ble_eq_true rfl, Nat.le_of_ble_eq_true rfl⟩
  refine ob_dropi (wc := (cw_OB_get G a_x x8 x13 x9 x10 x0 x1 x2 x11 x3 x14 x15 x16 x5 x18 x20 x21 x23 x25 x12 x4 x17 0 0 0 0 (-1) 0 0 0 0 0 0 0 0 (fun _ => 0) 0 0 (fun _ => 0) (fun _ => 0) (fun _ => 0) (fun _ => 0) (fun _ => 0) (fun _ => 0))) (wc1 := (cw_OB_get G a_x x8 x13 x9 x10 x0 x1 x2 x11 x3 x14 x15 x16 x5 x18 x20 x21 x23 x25 x12 x4 x17 0 0 0 0 (-1) 0 0 0 0 0 0 0 0 (fun _ => 0) 0 0 (fun _ => 0) (fun _ => 0) (fun _ => 0) (fun _ => 0) (fun _ => 0) (fun _ => 0))) (r := o1) (wr := (lw_m G a_m m0 m1 m2 m3 m4 m5 m6 m7 m8 m9 m10 m11 m12 m13 m14 m15 m16 m17 m18 m19 m20 m21 m22 m23 m24 m25 m26 m27 m28 m29 m30)) hRun hP hD hA hS [0, 9, 14, 10, 11, 1, 2, 3, 12, 4, 15, 16, 17] [27, 28, 29, 30, 31, 32, 33, 34, 35, 36, 37, 38, 39, 40, 41, 42, 43, 44, 45, 46, 47, 48, 49, 50, 51, 52, 53, 54, 55, 56, 57, 58] rfl rfl rfl (by decide) (fun H locs hP hD hS => ?_)
  clear hRun
  refine lv_aload_n hx hb dL_643 rfl (lv_at hl 1 rfl) ?_
  refine lv_aload_n hx hb dL_644 rfl (lv_at hl 3 rfl) ?_
  refine lv_iload_n hx hb dL_645 rfl (lv_at hl 0 rfl) ?_
  refine lv_iconst (v := 1) hx hb dL_646 (by decide) ?_
  refine lv_iadd hx hb dL_647 ?_
  refine va_sld hx hb hX hbl hbA hS (vp_in_iff.mpr (by decide)) dL_648 ?_
  refine W.eq (g2 := F0 m 649 ls [.int (xs 1), .ref a_m, .int o1]) (by rw [show ((0 : Int32) + 1).toNatClampNeg = 1 from by decide]) ?_
  refine lv_aload_n hx hb dL_649 rfl (lv_at hl 3 rfl) ?_
  refine lv_iload_n hx hb dL_650 rfl (lv_at hl 0 rfl) ?_
  refine lv_iconst (v := 2) hx hb dL_651 (by decide) ?_
  refine lv_iadd hx hb dL_652 ?_
  refine va_sld hx hb hX hbl hbA hS (vp_in_iff.mpr (by decide)) dL_653 ?_
  refine W.eq (g2 := F0 m 654 ls [.int (xs 2), .int (xs 1), .ref a_m, .int o1]) (by rw [show ((0 : Int32) + 2).toNatClampNeg = 2 from by decide]) ?_
  have hRun := va_runV (R := room_1) (locs := locs) (H := H) (l := l) (e := e) (below := below) (meth := meth) (cells := 59) (slots := 7221) (g := F0 m 654 ls [.int (xs 2), .int (xs 1), .ref a_m, .int o1]) (As := [.int (xs 1), .int (xs 2)]) (rest := [.int o1]) ⟨hx, hb, hml, hown, hts⟩ (c_M_get l D G a_m m6 m1 m0 m2 m10 m11 m3 m4 m5 m7 m8 m9 m12 m13 m14 m15 m16 m17 m18 m19 m20 m21 m22 m23 m24 m25 m26 m27 m28 m29 m30 0 0 0 0 0 0 0 0 0 0 0 0 0 (-1) 0 0 0 0 0 0 0 0 0 0 0 0 0 0 0 0 0 0 0 0 0 (fun _ => 0) (fun _ => 0) (fun _ => 0) (fun _ => 0) (fun _ => 0) (fun _ => 0) (xs 1) (xs 2) o2 h2 H.size) (cwV 2 hts (gV tw1113 tw1114 tw1115 tw11 tw1116) rfl rfl rfl (by decide +kernel) ⟨Nat.le_of_ble_eq_true rfl, Nat.le_of_ble_eq_true rfl⟩) (ob_preV (q0 := 0) (ci := 11) hZ hK hP hD [0, 7, 2, 1, 3, 11, 12] rfl rfl rfl rfl rfl) rfl rfl hl.1 rfl (lv_room (Nat.le_of_ble_eq_true rfl)) dL_654 ⟨Nat.le_of_ble_eq_true rfl, Nat.le_of_ble_eq_true rfl⟩
  refine ob_calli (wc := (cw_M_get G a_m m6 m1 m0 m2 m10 m11 m3 m4 m5 m7 m8 m9 m12 m13 m14 m15 m16 m17 m18 m19 m20 m21 m22 m23 m24 m25 m26 m27 m28 m29 m30 0 0 0 0 0 0 0 0 0 0 0 0 0 (-1) 0 0 0 0 0 0 0 0 0 0 0 0 0 0 0 0 0 0 0 0 0 (fun _ => 0) (fun _ => 0) (fun _ => 0) (fun _ => 0) (fun _ => 0) (fun _ => 0))) (wc1 := (cw_M_get G a_m m6 m1 m0 m2 m10 m11 m3 m4 m5 m7 m8 m9 m12 m13 m14 m15 m16 m17 m18 m19 m20 m21 m22 m23 m24 m25 m26 m27 m28 m29 m30 0 0 0 0 0 0 0 0 0 0 0 0 0 (-1) 0 0 0 0 0 0 0 0 0 0 0 0 0 0 0 0 0 0 0 0 0 (fun _ => 0) (fun _ => 0) (fun _ => 0) (fun _ => 0) (fun _ => 0) (fun _ => 0))) (r := o2) hRun hP hD hA hS [0, 7, 2, 1, 3, 11, 12] rfl rfl rfl rfl (fun H locs hP hD hS => ?_)
  clear hRun
  refine lv_icmp_eq (tgt := 877) hx hb dL_657 (by decide) (fun _ => ?_) (fun hc => absurd he hc)
  exact tailN ls H locs _ _ (Nat.le_of_ble_eq_true rfl) (Nat.le_of_ble_eq_true rfl) (lv_sub hl [0, 3] rfl) hS
set_option maxHeartbeats 1000000 in
set_option maxRecDepth 100000 in
theorem law_18 {p : Program} {e : Env} {s : State} {m : MethodId} {below : List Frame} {meth : Method} {c : Code} {b : Nat} {xs : Nat → Int32} {D : va_G} {G : Nat → ClassId} {A : Nat → Prop} {a_x x0 x1 x2 x3 x4 x5 x6 x7 x8 x9 x10 x11 x12 x13 x14 x15 x16 x17 x18 x19 x20 x21 x22 x23 x24 x25 a_m m0 m1 m2 m3 m4 m5 m6 m7 m8 m9 m10 m11 m12 m13 m14 m15 m16 m17 m18 m19 m20 m21 m22 m23 m24 m25 m26 m27 m28 m29 m30 : Nat} {ls : Array Slot} {H : Heap} {locs : List Loc} (l : Launch) (hx : p.tables.exec = Jvm.exec) (hb : c.code = code) (hml : c.maxLocals = 4) (hown : s.vm.findClass "ObjectBaseLaw" = some m.cls) (hts : ∀ w ∈ obW, w.before #[Value.ref b] s = true) (hZ : obZ s) (hK : va_K D vwCl (obT G) s) (hA : ∀ q, s.heap.size ≤ q → A q) (hX : va_X b 5 xs s s.heap) (hbl : b < s.heap.size) (hbA : ¬ A b) (hP : va_P D vwCl (lw_w G a_x x0 x1 x2 x3 x4 x5 x6 x7 x8 x9 x10 x11 x12 x13 x14 x15 x16 x17 x18 x19 x20 x21 x22 x23 x24 x25 a_m m0 m1 m2 m3 m4 m5 m6 m7 m8 m9 m10 m11 m12 m13 m14 m15 m16 m17 m18 m19 m20 m21 m22 m23 m24 m25 m26 m27 m28 m29 m30) H) (hD : va_D A (lw_w G a_x x0 x1 x2 x3 x4 x5 x6 x7 x8 x9 x10 x11 x12 x13 x14 x15 x16 x17 x18 x19 x20 x21 x22 x23 x24 x25 a_m m0 m1 m2 m3 m4 m5 m6 m7 m8 m9 m10 m11 m12 m13 m14 m15 m16 m17 m18 m19 m20 m21 m22 m23 m24 m25 m26 m27 m28 m29 m30)) (hS : va_S A s.heap H locs) (hl : lv_has ls 4 [(3, .int 0), (2, .ref a_m), (1, .ref a_x), (0, .ref b)])
    (tailN : ∀ (ls : Array Slot) (H : Heap) (locs : List Loc) (cells slots : Nat), cells ≤ 600000 → slots ≤ 7302250 → lv_has ls 4 [(3, .int 0), (0, .ref b)] → va_S A s.heap H locs → W p l e room_1 s m #[Value.ref b] below meth c H locs cells slots (lw_Z below #[Value.ref b] s) (F0 m 877 ls [])) :
    W p l e room_1 s m #[Value.ref b] below meth c H locs 59 7221 (lw_Z below #[Value.ref b] s) (F0 m 662 ls []) := by
  refine lv_aload_n hx hb dL_662 rfl (lv_at hl 2 rfl) ?_
  refine lv_aload_n hx hb dL_663 rfl (lv_at hl 3 rfl) ?_
  refine lv_iload_n hx hb dL_664 rfl (lv_at hl 0 rfl) ?_
  refine lv_iconst (v := 1) hx hb dL_665 (by decide) ?_
  refine lv_iadd hx hb dL_666 ?_
  refine va_sld hx hb hX hbl hbA hS (vp_in_iff.mpr (by decide)) dL_667 ?_
  refine W.eq (g2 := F0 m 668 ls [.int (xs 1), .ref a_x]) (by rw [show ((0 : Int32) + 1).toNatClampNeg = 1 from by decide]) ?_
  refine lv_aload_n hx hb dL_668 rfl (lv_at hl 3 rfl) ?_
  refine lv_iload_n hx hb dL_669 rfl (lv_at hl 0 rfl) ?_
  refine lv_iconst (v := 2) hx hb dL_670 (by decide) ?_
  refine lv_iadd hx hb dL_671 ?_
  refine va_sld hx hb hX hbl hbA hS (vp_in_iff.mpr (by decide)) dL_672 ?_
  refine W.eq (g2 := F0 m 673 ls [.int (xs 2), .int (xs 1), .ref a_x]) (by rw [show ((0 : Int32) + 2).toNatClampNeg = 2 from by decide]) ?_
  refine lv_aload_n hx hb dL_673 rfl (lv_at hl 3 rfl) ?_
  refine lv_iload_n hx hb dL_674 rfl (lv_at hl 0 rfl) ?_
  refine lv_iconst (v := 3) hx hb dL_675 (by decide) ?_
  refine lv_iadd hx hb dL_676 ?_
  refine va_sld hx hb hX hbl hbA hS (vp_in_iff.mpr (by decide)) dL_677 ?_
  refine W.eq (g2 := F0 m 678 ls [.int (xs 3), .int (xs 2), .int (xs 1), .ref a_x]) (by rw [show ((0 : Int32) + 3).toNatClampNeg = 3 from by decide]) ?_
  obtain ⟨o1, o2, h1, h2, he⟩ := P_holds (xs 1) (xs 2) (xs 3)
  have hRun := va_runV (R := room_1) (locs := locs) (H := H) (l := l) (e := e) (below := below) (meth := meth) (cells := 59) (slots := 7221) (g := F0 m 678 ls [.int (xs 3), .int (xs 2), .int (xs 1), .ref a_x]) (As := [.int (xs 1), .int (xs 2), .int (xs 3)]) (rest := []) ⟨hx, hb, hml, hown, hts⟩ (c_OB_holds l D G a_x x8 x13 x9 x10 x0 x1 x2 x3 x11 x14 x15 x16 x5 x18 x20 x21 x23 x25 x12 x4 x17 0 0 0 0 (-1) 0 0 0 0 0 0 0 0 (fun _ => 0) 0 0 (fun _ => 0) (fun _ => 0) (fun _ => 0) (fun _ => 0) (fun _ => 0) (fun _ => 0) (xs 1) (xs 2) (xs 3) o1 h1 H.size) (cwV 3 hts (gV tw498 tw499 tw500 tw1 tw501) rfl rfl rfl (by decide +kernel) ⟨Nat.le_of_ble_eq_true rfl, Nat.le_of_ble_eq_true rfl⟩) (ob_preV (q0 := 0) (ci := 0) hZ hK hP hD [0, 9, 14, 10, 11, 1, 2, 3, 4, 12, 15, 16, 17] rfl rfl rfl rfl rfl) rfl rfl hl.1 rfl (lv_room (Nat.le_of_ble_eq_true rfl)) dL_678 ⟨Nat.le_of_ble_eq_true rfl, Nat.le_of_ble_eq_true rfl⟩
  refine ob_dropi (wc := (cw_OB_holds G a_x x8 x13 x9 x10 x0 x1 x2 x3 x11 x14 x15 x16 x5 x18 x20 x21 x23 x25 x12 x4 x17 0 0 0 0 (-1) 0 0 0 0 0 0 0 0 (fun _ => 0) 0 0 (fun _ => 0) (fun _ => 0) (fun _ => 0) (fun _ => 0) (fun _ => 0) (fun _ => 0))) (wc1 := (cw_OB_holds G a_x x8 x13 x9 x10 x0 x1 x2 x3 x11 x14 x15 x16 x5 x18 x20 x21 x23 x25 x12 x4 x17 0 0 0 0 (-1) 0 0 0 0 0 0 0 0 (fun _ => 0) 0 0 (fun _ => 0) (fun _ => 0) (fun _ => 0) (fun _ => 0) (fun _ => 0) (fun _ => 0))) (r := o1) (wr := (lw_m G a_m m0 m1 m2 m3 m4 m5 m6 m7 m8 m9 m10 m11 m12 m13 m14 m15 m16 m17 m18 m19 m20 m21 m22 m23 m24 m25 m26 m27 m28 m29 m30)) hRun hP hD hA hS [0, 9, 14, 10, 11, 1, 2, 3, 4, 12, 15, 16, 17] [27, 28, 29, 30, 31, 32, 33, 34, 35, 36, 37, 38, 39, 40, 41, 42, 43, 44, 45, 46, 47, 48, 49, 50, 51, 52, 53, 54, 55, 56, 57, 58] rfl rfl rfl (by decide) (fun H locs hP hD hS => ?_)
  clear hRun
  refine lv_aload_n hx hb dL_681 rfl (lv_at hl 1 rfl) ?_
  refine lv_aload_n hx hb dL_682 rfl (lv_at hl 3 rfl) ?_
  refine lv_iload_n hx hb dL_683 rfl (lv_at hl 0 rfl) ?_
  refine lv_iconst (v := 1) hx hb dL_684 (by decide) ?_
  refine lv_iadd hx hb dL_685 ?_
  refine va_sld hx hb hX hbl hbA hS (vp_in_iff.mpr (by decide)) dL_686 ?_
  refine W.eq (g2 := F0 m 687 ls [.int (xs 1), .ref a_m, .int o1]) (by rw [show ((0 : Int32) + 1).toNatClampNeg = 1 from by decide]) ?_
  refine lv_aload_n hx hb dL_687 rfl (lv_at hl 3 rfl) ?_
  refine lv_iload_n hx hb dL_688 rfl (lv_at hl 0 rfl) ?_
  refine lv_iconst (v := 2) hx hb dL_689 (by decide) ?_
  refine lv_iadd hx hb dL_690 ?_
  refine va_sld hx hb hX hbl hbA hS (vp_in_iff.mpr (by decide)) dL_691 ?_
  refine W.eq (g2 := F0 m 692 ls [.int (xs 2), .int (xs 1), .ref a_m, .int o1]) (by rw [show ((0 : Int32) + 2).toNatClampNeg = 2 from by decide]) ?_
  refine lv_aload_n hx hb dL_692 rfl (lv_at hl 3 rfl) ?_
  refine lv_iload_n hx hb dL_693 rfl (lv_at hl 0 rfl) ?_
  refine lv_iconst (v := 3) hx hb dL_694 (by decide) ?_
  refine lv_iadd hx hb dL_695 ?_
  refine va_sld hx hb hX hbl hbA hS (vp_in_iff.mpr (by decide)) dL_696 ?_
  refine W.eq (g2 := F0 m 697 ls [.int (xs 3), .int (xs 2), .int (xs 1), .ref a_m, .int o1]) (by rw [show ((0 : Int32) + 3).toNatClampNeg = 3 from by decide]) ?_
  have hRun := va_runV (R := room_1) (locs := locs) (H := H) (l := l) (e := e) (below := below) (meth := meth) (cells := 59) (slots := 7221) (g := F0 m 697 ls [.int (xs 3), .int (xs 2), .int (xs 1), .ref a_m, .int o1]) (As := [.int (xs 1), .int (xs 2), .int (xs 3)]) (rest := [.int o1]) ⟨hx, hb, hml, hown, hts⟩ (c_M_holds l D G a_m m6 m1 m0 m2 m11 m3 m4 m5 m7 m8 m9 m10 m12 m13 m14 m15 m16 m17 m18 m19 m20 m21 m22 m23 m24 m25 m26 m27 m28 m29 m30 0 0 0 0 0 0 0 0 0 0 0 0 0 (-1) 0 0 0 0 0 0 0 0 0 0 0 0 0 0 0 0 0 0 0 0 0 (fun _ => 0) (fun _ => 0) (fun _ => 0) (fun _ => 0) (fun _ => 0) (xs 1) (xs 2) (xs 3) o2 h2 H.size) (cwV 3 hts (gV tw1117 tw1118 tw1119 tw11 tw1120) rfl rfl rfl (by decide +kernel) ⟨Nat.le_of_ble_eq_true rfl, Nat.le_of_ble_eq_true rfl⟩) (ob_preV (q0 := 0) (ci := 11) hZ hK hP hD [0, 7, 2, 1, 3, 12] rfl rfl rfl rfl rfl) rfl rfl hl.1 rfl (lv_room (Nat.le_of_ble_eq_true rfl)) dL_697 ⟨Nat.le_of_ble_eq_true rfl, Nat.le_of_ble_eq_true rfl⟩
  refine ob_calli (wc := (cw_M_holds G a_m m6 m1 m0 m2 m11 m3 m4 m5 m7 m8 m9 m10 m12 m13 m14 m15 m16 m17 m18 m19 m20 m21 m22 m23 m24 m25 m26 m27 m28 m29 m30 0 0 0 0 0 0 0 0 0 0 0 0 0 (-1) 0 0 0 0 0 0 0 0 0 0 0 0 0 0 0 0 0 0 0 0 0 (fun _ => 0) (fun _ => 0) (fun _ => 0) (fun _ => 0) (fun _ => 0))) (wc1 := (cw_M_holds G a_m m6 m1 m0 m2 m11 m3 m4 m5 m7 m8 m9 m10 m12 m13 m14 m15 m16 m17 m18 m19 m20 m21 m22 m23 m24 m25 m26 m27 m28 m29 m30 0 0 0 0 0 0 0 0 0 0 0 0 0 (-1) 0 0 0 0 0 0 0 0 0 0 0 0 0 0 0 0 0 0 0 0 0 (fun _ => 0) (fun _ => 0) (fun _ => 0) (fun _ => 0) (fun _ => 0))) (r := o2) hRun hP hD hA hS [0, 7, 2, 1, 3, 12] rfl rfl rfl rfl (fun H locs hP hD hS => ?_)
  clear hRun
  refine lv_icmp_eq (tgt := 877) hx hb dL_700 (by decide) (fun _ => ?_) (fun hc => absurd he hc)
  exact tailN ls H locs _ _ (Nat.le_of_ble_eq_true rfl) (Nat.le_of_ble_eq_true rfl) (lv_sub hl [0, 3] rfl) hS
set_option maxHeartbeats 1000000 in
set_option maxRecDepth 100000 in
theorem law_19 {p : Program} {e : Env} {s : State} {m : MethodId} {below : List Frame} {meth : Method} {c : Code} {b : Nat} {xs : Nat → Int32} {D : va_G} {G : Nat → ClassId} {A : Nat → Prop} {a_x x0 x1 x2 x3 x4 x5 x6 x7 x8 x9 x10 x11 x12 x13 x14 x15 x16 x17 x18 x19 x20 x21 x22 x23 x24 x25 a_m m0 m1 m2 m3 m4 m5 m6 m7 m8 m9 m10 m11 m12 m13 m14 m15 m16 m17 m18 m19 m20 m21 m22 m23 m24 m25 m26 m27 m28 m29 m30 : Nat} {ls : Array Slot} {H : Heap} {locs : List Loc} (l : Launch) (hx : p.tables.exec = Jvm.exec) (hb : c.code = code) (hml : c.maxLocals = 4) (hown : s.vm.findClass "ObjectBaseLaw" = some m.cls) (hts : ∀ w ∈ obW, w.before #[Value.ref b] s = true) (hZ : obZ s) (hK : va_K D vwCl (obT G) s) (hA : ∀ q, s.heap.size ≤ q → A q) (hX : va_X b 5 xs s s.heap) (hbl : b < s.heap.size) (hbA : ¬ A b) (hP : va_P D vwCl (lw_w G a_x x0 x1 x2 x3 x4 x5 x6 x7 x8 x9 x10 x11 x12 x13 x14 x15 x16 x17 x18 x19 x20 x21 x22 x23 x24 x25 a_m m0 m1 m2 m3 m4 m5 m6 m7 m8 m9 m10 m11 m12 m13 m14 m15 m16 m17 m18 m19 m20 m21 m22 m23 m24 m25 m26 m27 m28 m29 m30) H) (hD : va_D A (lw_w G a_x x0 x1 x2 x3 x4 x5 x6 x7 x8 x9 x10 x11 x12 x13 x14 x15 x16 x17 x18 x19 x20 x21 x22 x23 x24 x25 a_m m0 m1 m2 m3 m4 m5 m6 m7 m8 m9 m10 m11 m12 m13 m14 m15 m16 m17 m18 m19 m20 m21 m22 m23 m24 m25 m26 m27 m28 m29 m30)) (hS : va_S A s.heap H locs) (hl : lv_has ls 4 [(3, .int 0), (2, .ref a_m), (1, .ref a_x), (0, .ref b)])
    (tailN : ∀ (ls : Array Slot) (H : Heap) (locs : List Loc) (cells slots : Nat), cells ≤ 600000 → slots ≤ 7302250 → lv_has ls 4 [(3, .int 0), (0, .ref b)] → va_S A s.heap H locs → W p l e room_1 s m #[Value.ref b] below meth c H locs cells slots (lw_Z below #[Value.ref b] s) (F0 m 877 ls [])) :
    W p l e room_1 s m #[Value.ref b] below meth c H locs 59 7221 (lw_Z below #[Value.ref b] s) (F0 m 705 ls []) := by
  refine lv_aload_n hx hb dL_705 rfl (lv_at hl 2 rfl) ?_
  refine lv_aload_n hx hb dL_706 rfl (lv_at hl 3 rfl) ?_
  refine lv_iload_n hx hb dL_707 rfl (lv_at hl 0 rfl) ?_
  refine lv_iconst (v := 1) hx hb dL_708 (by decide) ?_
  refine lv_iadd hx hb dL_709 ?_
  refine va_sld hx hb hX hbl hbA hS (vp_in_iff.mpr (by decide)) dL_710 ?_
  refine W.eq (g2 := F0 m 711 ls [.int (xs 1), .ref a_x]) (by rw [show ((0 : Int32) + 1).toNatClampNeg = 1 from by decide]) ?_
  obtain ⟨o1, o2, h1, h2, he⟩ := P_named (xs 1)
  have hRun := va_runV (R := room_1) (locs := locs) (H := H) (l := l) (e := e) (below := below) (meth := meth) (cells := 59) (slots := 7221) (g := F0 m 711 ls [.int (xs 1), .ref a_x]) (As := [.int (xs 1)]) (rest := []) ⟨hx, hb, hml, hown, hts⟩ (c_OB_named l D G a_x x8 x13 x9 x12 x14 x17 x0 x5 x18 x20 x21 x23 x25 x10 x11 x15 x16 0 0 0 0 (-1) 0 0 0 0 0 0 0 0 (fun _ => 0) (fun _ => 0) (xs 1) o1 h1 H.size) (cwV 1 hts (gV tw502 tw503 tw504 tw1 tw505) rfl rfl rfl (by decide +kernel) ⟨Nat.le_of_ble_eq_true rfl, Nat.le_of_ble_eq_true rfl⟩) (ob_preV (q0 := 0) (ci := 0) hZ hK hP hD [0, 9, 14, 10, 13, 15, 18] rfl rfl rfl rfl rfl) rfl rfl hl.1 rfl (lv_room (Nat.le_of_ble_eq_true rfl)) dL_711 ⟨Nat.le_of_ble_eq_true rfl, Nat.le_of_ble_eq_true rfl⟩
  refine ob_dropi (wc := (cw_OB_named G a_x x8 x13 x9 x12 x14 x17 x0 x5 x18 x20 x21 x23 x25 x10 x11 x15 x16 0 0 0 0 (-1) 0 0 0 0 0 0 0 0 (fun _ => 0) (fun _ => 0))) (wc1 := (cw_OB_named G a_x x8 x13 x9 x12 x14 x17 x0 x5 x18 x20 x21 x23 x25 x10 x11 x15 x16 0 0 0 0 (-1) 0 0 0 0 0 0 0 0 (fun _ => 0) (fun _ => 0))) (r := o1) (wr := (lw_m G a_m m0 m1 m2 m3 m4 m5 m6 m7 m8 m9 m10 m11 m12 m13 m14 m15 m16 m17 m18 m19 m20 m21 m22 m23 m24 m25 m26 m27 m28 m29 m30)) hRun hP hD hA hS [0, 9, 14, 10, 13, 15, 18] [27, 28, 29, 30, 31, 32, 33, 34, 35, 36, 37, 38, 39, 40, 41, 42, 43, 44, 45, 46, 47, 48, 49, 50, 51, 52, 53, 54, 55, 56, 57, 58] rfl rfl rfl (by decide) (fun H locs hP hD hS => ?_)
  clear hRun
  refine lv_aload_n hx hb dL_714 rfl (lv_at hl 1 rfl) ?_
  refine lv_aload_n hx hb dL_715 rfl (lv_at hl 3 rfl) ?_
  refine lv_iload_n hx hb dL_716 rfl (lv_at hl 0 rfl) ?_
  refine lv_iconst (v := 1) hx hb dL_717 (by decide) ?_
  refine lv_iadd hx hb dL_718 ?_
  refine va_sld hx hb hX hbl hbA hS (vp_in_iff.mpr (by decide)) dL_719 ?_
  refine W.eq (g2 := F0 m 720 ls [.int (xs 1), .ref a_m, .int o1]) (by rw [show ((0 : Int32) + 1).toNatClampNeg = 1 from by decide]) ?_
  have hRun := va_runV (R := room_1) (locs := locs) (H := H) (l := l) (e := e) (below := below) (meth := meth) (cells := 59) (slots := 7221) (g := F0 m 720 ls [.int (xs 1), .ref a_m, .int o1]) (As := [.int (xs 1)]) (rest := [.int o1]) ⟨hx, hb, hml, hown, hts⟩ (c_M_named l D G a_m m12 m0 m1 m2 m3 m4 m5 m6 m7 m8 m9 m10 m11 m13 m14 m15 m16 m17 m18 m19 m20 m21 m22 m23 m24 m25 m26 m27 m28 m29 m30 0 0 0 0 0 0 0 0 0 0 0 0 0 (-1) 0 0 0 0 0 0 0 0 0 0 0 0 0 0 0 0 0 0 0 0 0 (fun _ => 0) (xs 1) o2 h2 H.size) (cwV 1 hts (gV tw1121 tw1122 tw1123 tw11 tw1124) rfl rfl rfl (by decide +kernel) ⟨Nat.le_of_ble_eq_true rfl, Nat.le_of_ble_eq_true rfl⟩) (ob_preV (q0 := 0) (ci := 11) hZ hK hP hD [0, 13] rfl rfl rfl rfl rfl) rfl rfl hl.1 rfl (lv_room (Nat.le_of_ble_eq_true rfl)) dL_720 ⟨Nat.le_of_ble_eq_true rfl, Nat.le_of_ble_eq_true rfl⟩
  refine ob_calli (wc := (cw_M_named G a_m m12 m0 m1 m2 m3 m4 m5 m6 m7 m8 m9 m10 m11 m13 m14 m15 m16 m17 m18 m19 m20 m21 m22 m23 m24 m25 m26 m27 m28 m29 m30 0 0 0 0 0 0 0 0 0 0 0 0 0 (-1) 0 0 0 0 0 0 0 0 0 0 0 0 0 0 0 0 0 0 0 0 0 (fun _ => 0))) (wc1 := (cw_M_named G a_m m12 m0 m1 m2 m3 m4 m5 m6 m7 m8 m9 m10 m11 m13 m14 m15 m16 m17 m18 m19 m20 m21 m22 m23 m24 m25 m26 m27 m28 m29 m30 0 0 0 0 0 0 0 0 0 0 0 0 0 (-1) 0 0 0 0 0 0 0 0 0 0 0 0 0 0 0 0 0 0 0 0 0 (fun _ => 0))) (r := o2) hRun hP hD hA hS [0, 13] rfl rfl rfl rfl (fun H locs hP hD hS => ?_)
  clear hRun
  refine lv_icmp_eq (tgt := 877) hx hb dL_723 (by decide) (fun _ => ?_) (fun hc => absurd he hc)
  exact tailN ls H locs _ _ (Nat.le_of_ble_eq_true rfl) (Nat.le_of_ble_eq_true rfl) (lv_sub hl [0, 3] rfl) hS
set_option maxHeartbeats 1000000 in
set_option maxRecDepth 100000 in
theorem law_20 {p : Program} {e : Env} {s : State} {m : MethodId} {below : List Frame} {meth : Method} {c : Code} {b : Nat} {xs : Nat → Int32} {D : va_G} {G : Nat → ClassId} {A : Nat → Prop} {a_x x0 x1 x2 x3 x4 x5 x6 x7 x8 x9 x10 x11 x12 x13 x14 x15 x16 x17 x18 x19 x20 x21 x22 x23 x24 x25 a_m m0 m1 m2 m3 m4 m5 m6 m7 m8 m9 m10 m11 m12 m13 m14 m15 m16 m17 m18 m19 m20 m21 m22 m23 m24 m25 m26 m27 m28 m29 m30 : Nat} {ls : Array Slot} {H : Heap} {locs : List Loc} (l : Launch) (hx : p.tables.exec = Jvm.exec) (hb : c.code = code) (hml : c.maxLocals = 4) (hown : s.vm.findClass "ObjectBaseLaw" = some m.cls) (hts : ∀ w ∈ obW, w.before #[Value.ref b] s = true) (hZ : obZ s) (hK : va_K D vwCl (obT G) s) (hA : ∀ q, s.heap.size ≤ q → A q) (hX : va_X b 5 xs s s.heap) (hbl : b < s.heap.size) (hbA : ¬ A b) (hP : va_P D vwCl (lw_w G a_x x0 x1 x2 x3 x4 x5 x6 x7 x8 x9 x10 x11 x12 x13 x14 x15 x16 x17 x18 x19 x20 x21 x22 x23 x24 x25 a_m m0 m1 m2 m3 m4 m5 m6 m7 m8 m9 m10 m11 m12 m13 m14 m15 m16 m17 m18 m19 m20 m21 m22 m23 m24 m25 m26 m27 m28 m29 m30) H) (hD : va_D A (lw_w G a_x x0 x1 x2 x3 x4 x5 x6 x7 x8 x9 x10 x11 x12 x13 x14 x15 x16 x17 x18 x19 x20 x21 x22 x23 x24 x25 a_m m0 m1 m2 m3 m4 m5 m6 m7 m8 m9 m10 m11 m12 m13 m14 m15 m16 m17 m18 m19 m20 m21 m22 m23 m24 m25 m26 m27 m28 m29 m30)) (hS : va_S A s.heap H locs) (hl : lv_has ls 4 [(3, .int 0), (2, .ref a_m), (1, .ref a_x), (0, .ref b)])
    (tailN : ∀ (ls : Array Slot) (H : Heap) (locs : List Loc) (cells slots : Nat), cells ≤ 600000 → slots ≤ 7302250 → lv_has ls 4 [(3, .int 0), (0, .ref b)] → va_S A s.heap H locs → W p l e room_1 s m #[Value.ref b] below meth c H locs cells slots (lw_Z below #[Value.ref b] s) (F0 m 877 ls [])) :
    W p l e room_1 s m #[Value.ref b] below meth c H locs 59 7221 (lw_Z below #[Value.ref b] s) (F0 m 728 ls []) := by
  refine lv_aload_n hx hb dL_728 rfl (lv_at hl 2 rfl) ?_
  refine lv_aload_n hx hb dL_729 rfl (lv_at hl 3 rfl) ?_
  refine lv_iload_n hx hb dL_730 rfl (lv_at hl 0 rfl) ?_
  refine lv_iconst (v := 1) hx hb dL_731 (by decide) ?_
  refine lv_iadd hx hb dL_732 ?_
  refine va_sld hx hb hX hbl hbA hS (vp_in_iff.mpr (by decide)) dL_733 ?_
  refine W.eq (g2 := F0 m 734 ls [.int (xs 1), .ref a_x]) (by rw [show ((0 : Int32) + 1).toNatClampNeg = 1 from by decide]) ?_
  refine lv_i2l hx hb dL_734 rfl ?_
  refine lv_bipush (v := 32) hx hb dL_735 (by decide) ?_
  refine lv_lshl hx hb dL_737 rfl ?_
  refine lv_aload_n hx hb dL_738 rfl (lv_at hl 3 rfl) ?_
  refine lv_iload_n hx hb dL_739 rfl (lv_at hl 0 rfl) ?_
  refine lv_iconst (v := 2) hx hb dL_740 (by decide) ?_
  refine lv_iadd hx hb dL_741 ?_
  refine va_sld hx hb hX hbl hbA hS (vp_in_iff.mpr (by decide)) dL_742 ?_
  refine W.eq (g2 := F0 m 743 ls [.int (xs 2), .long (((xs 1).toInt64) <<< ((32 : Int32).toInt64 &&& 63)), .ref a_x]) (by rw [show ((0 : Int32) + 2).toNatClampNeg = 2 from by decide]) ?_
  refine lv_i2l hx hb dL_743 rfl ?_
  refine lv_ldc2 (v := 4294967295) hx hb hown (hts _ tw1265) dL_744 ?_
  refine lv_land hx hb dL_747 ?_
  refine lv_lor hx hb dL_748 ?_
  obtain ⟨o1, o2, h1, h2, he⟩ := P_draft ((((xs 1).toInt64) <<< ((32 : Int32).toInt64 &&& 63)) ||| (((xs 2).toInt64) &&& 4294967295))
  have hRun := va_runV (R := room_1) (locs := locs) (H := H) (l := l) (e := e) (below := below) (meth := meth) (cells := 59) (slots := 7221) (g := F0 m 749 ls [.long ((((xs 1).toInt64) <<< ((32 : Int32).toInt64 &&& 63)) ||| (((xs 2).toInt64) &&& 4294967295)), .ref a_x]) (As := [.long ((((xs 1).toInt64) <<< ((32 : Int32).toInt64 &&& 63)) ||| (((xs 2).toInt64) &&& 4294967295))]) (rest := []) ⟨hx, hb, hml, hown, hts⟩ (c_OB_draft l D G a_x x8 x18 x19 x0 x5 x9 x13 x20 x21 x23 x25 0 0 0 0 (-1) 0 0 0 0 0 (fun _ => 0) ((((xs 1).toInt64) <<< ((32 : Int32).toInt64 &&& 63)) ||| (((xs 2).toInt64) &&& 4294967295)) o1 h1 H.size) (cwV 1 hts (gV tw506 tw507 tw508 tw1 tw509) rfl rfl rfl (by decide +kernel) ⟨Nat.le_of_ble_eq_true rfl, Nat.le_of_ble_eq_true rfl⟩) (ob_preV (q0 := 0) (ci := 0) hZ hK hP hD [0, 9, 19, 20] rfl rfl rfl rfl rfl) rfl rfl hl.1 rfl (lv_room (Nat.le_of_ble_eq_true rfl)) dL_749 ⟨Nat.le_of_ble_eq_true rfl, Nat.le_of_ble_eq_true rfl⟩
  refine ob_dropi (wc := (cw_OB_draft G a_x x8 x18 x19 x0 x5 x9 x13 x20 x21 x23 x25 0 0 0 0 (-1) 0 0 0 0 0 (fun _ => 0))) (wc1 := (cw_OB_draft G a_x x8 x18 x19 x0 x5 x9 x13 x20 x21 x23 x25 0 0 0 0 (-1) 0 0 0 0 o1.2.1 o1.2.2)) (r := o1.1) (wr := (lw_m G a_m m0 m1 m2 m3 m4 m5 m6 m7 m8 m9 m10 m11 m12 m13 m14 m15 m16 m17 m18 m19 m20 m21 m22 m23 m24 m25 m26 m27 m28 m29 m30)) hRun hP hD hA hS [0, 9, 19, 20] [27, 28, 29, 30, 31, 32, 33, 34, 35, 36, 37, 38, 39, 40, 41, 42, 43, 44, 45, 46, 47, 48, 49, 50, 51, 52, 53, 54, 55, 56, 57, 58] rfl rfl rfl (by decide) (fun H locs hP hD hS => ?_)
  clear hRun
  refine lv_aload_n hx hb dL_752 rfl (lv_at hl 1 rfl) ?_
  refine lv_aload_n hx hb dL_753 rfl (lv_at hl 3 rfl) ?_
  refine lv_iload_n hx hb dL_754 rfl (lv_at hl 0 rfl) ?_
  refine lv_iconst (v := 1) hx hb dL_755 (by decide) ?_
  refine lv_iadd hx hb dL_756 ?_
  refine va_sld hx hb hX hbl hbA hS (vp_in_iff.mpr (by decide)) dL_757 ?_
  refine W.eq (g2 := F0 m 758 ls [.int (xs 1), .ref a_m, .int o1.1]) (by rw [show ((0 : Int32) + 1).toNatClampNeg = 1 from by decide]) ?_
  refine lv_i2l hx hb dL_758 rfl ?_
  refine lv_bipush (v := 32) hx hb dL_759 (by decide) ?_
  refine lv_lshl hx hb dL_761 rfl ?_
  refine lv_aload_n hx hb dL_762 rfl (lv_at hl 3 rfl) ?_
  refine lv_iload_n hx hb dL_763 rfl (lv_at hl 0 rfl) ?_
  refine lv_iconst (v := 2) hx hb dL_764 (by decide) ?_
  refine lv_iadd hx hb dL_765 ?_
  refine va_sld hx hb hX hbl hbA hS (vp_in_iff.mpr (by decide)) dL_766 ?_
  refine W.eq (g2 := F0 m 767 ls [.int (xs 2), .long (((xs 1).toInt64) <<< ((32 : Int32).toInt64 &&& 63)), .ref a_m, .int o1.1]) (by rw [show ((0 : Int32) + 2).toNatClampNeg = 2 from by decide]) ?_
  refine lv_i2l hx hb dL_767 rfl ?_
  refine lv_ldc2 (v := 4294967295) hx hb hown (hts _ tw1265) dL_768 ?_
  refine lv_land hx hb dL_771 ?_
  refine lv_lor hx hb dL_772 ?_
  have hRun := va_runV (R := room_1) (locs := locs) (H := H) (l := l) (e := e) (below := below) (meth := meth) (cells := 59) (slots := 7221) (g := F0 m 773 ls [.long ((((xs 1).toInt64) <<< ((32 : Int32).toInt64 &&& 63)) ||| (((xs 2).toInt64) &&& 4294967295)), .ref a_m, .int o1.1]) (As := [.long ((((xs 1).toInt64) <<< ((32 : Int32).toInt64 &&& 63)) ||| (((xs 2).toInt64) &&& 4294967295))]) (rest := [.int o1.1]) ⟨hx, hb, hml, hown, hts⟩ (c_M_draft l D G a_m m13 m0 m1 m2 m3 m4 m5 m6 m7 m8 m9 m10 m11 m12 m14 m15 m16 m17 m18 m19 m20 m21 m22 m23 m24 m25 m26 m27 m28 m29 m30 0 0 0 0 0 0 0 0 0 0 0 0 0 (-1) 0 0 0 0 0 0 0 0 0 0 0 0 0 0 0 0 0 0 0 0 0 (fun _ => 0) ((((xs 1).toInt64) <<< ((32 : Int32).toInt64 &&& 63)) ||| (((xs 2).toInt64) &&& 4294967295)) o2 h2 H.size) (cwV 1 hts (gV tw1125 tw1126 tw1127 tw11 tw1128) rfl rfl rfl (by decide +kernel) ⟨Nat.le_of_ble_eq_true rfl, Nat.le_of_ble_eq_true rfl⟩) (ob_preV (q0 := 0) (ci := 11) hZ hK hP hD [0, 14] rfl rfl rfl rfl rfl) rfl rfl hl.1 rfl (lv_room (Nat.le_of_ble_eq_true rfl)) dL_773 ⟨Nat.le_of_ble_eq_true rfl, Nat.le_of_ble_eq_true rfl⟩
  refine ob_calli (wc := (cw_M_draft G a_m m13 m0 m1 m2 m3 m4 m5 m6 m7 m8 m9 m10 m11 m12 m14 m15 m16 m17 m18 m19 m20 m21 m22 m23 m24 m25 m26 m27 m28 m29 m30 0 0 0 0 0 0 0 0 0 0 0 0 0 (-1) 0 0 0 0 0 0 0 0 0 0 0 0 0 0 0 0 0 0 0 0 0 (fun _ => 0))) (wc1 := (cw_M_draft G a_m m13 m0 m1 m2 m3 m4 m5 m6 m7 m8 m9 m10 m11 m12 m14 m15 m16 m17 m18 m19 m20 m21 m22 m23 m24 m25 m26 m27 m28 m29 m30 0 0 0 0 0 0 0 0 0 0 0 0 0 (-1) 0 0 0 0 o2.2.1 0 0 0 0 0 0 0 0 0 0 0 0 0 0 0 0 o2.2.2)) (r := o2.1) hRun hP hD hA hS [0, 14] rfl rfl rfl rfl (fun H locs hP hD hS => ?_)
  clear hRun
  refine lv_icmp_eq (tgt := 877) hx hb dL_776 (by decide) (fun _ => ?_) (fun hc => absurd he hc)
  exact tailN ls H locs _ _ (Nat.le_of_ble_eq_true rfl) (Nat.le_of_ble_eq_true rfl) (lv_sub hl [0, 3] rfl) hS
set_option maxHeartbeats 1000000 in
set_option maxRecDepth 100000 in
theorem law_21 {p : Program} {e : Env} {s : State} {m : MethodId} {below : List Frame} {meth : Method} {c : Code} {b : Nat} {xs : Nat → Int32} {D : va_G} {G : Nat → ClassId} {A : Nat → Prop} {a_x x0 x1 x2 x3 x4 x5 x6 x7 x8 x9 x10 x11 x12 x13 x14 x15 x16 x17 x18 x19 x20 x21 x22 x23 x24 x25 a_m m0 m1 m2 m3 m4 m5 m6 m7 m8 m9 m10 m11 m12 m13 m14 m15 m16 m17 m18 m19 m20 m21 m22 m23 m24 m25 m26 m27 m28 m29 m30 : Nat} {ls : Array Slot} {H : Heap} {locs : List Loc} (l : Launch) (hx : p.tables.exec = Jvm.exec) (hb : c.code = code) (hml : c.maxLocals = 4) (hown : s.vm.findClass "ObjectBaseLaw" = some m.cls) (hts : ∀ w ∈ obW, w.before #[Value.ref b] s = true) (hZ : obZ s) (hK : va_K D vwCl (obT G) s) (hA : ∀ q, s.heap.size ≤ q → A q) (hX : va_X b 5 xs s s.heap) (hbl : b < s.heap.size) (hbA : ¬ A b) (hP : va_P D vwCl (lw_w G a_x x0 x1 x2 x3 x4 x5 x6 x7 x8 x9 x10 x11 x12 x13 x14 x15 x16 x17 x18 x19 x20 x21 x22 x23 x24 x25 a_m m0 m1 m2 m3 m4 m5 m6 m7 m8 m9 m10 m11 m12 m13 m14 m15 m16 m17 m18 m19 m20 m21 m22 m23 m24 m25 m26 m27 m28 m29 m30) H) (hD : va_D A (lw_w G a_x x0 x1 x2 x3 x4 x5 x6 x7 x8 x9 x10 x11 x12 x13 x14 x15 x16 x17 x18 x19 x20 x21 x22 x23 x24 x25 a_m m0 m1 m2 m3 m4 m5 m6 m7 m8 m9 m10 m11 m12 m13 m14 m15 m16 m17 m18 m19 m20 m21 m22 m23 m24 m25 m26 m27 m28 m29 m30)) (hS : va_S A s.heap H locs) (hl : lv_has ls 4 [(3, .int 0), (2, .ref a_m), (1, .ref a_x), (0, .ref b)])
    (tailN : ∀ (ls : Array Slot) (H : Heap) (locs : List Loc) (cells slots : Nat), cells ≤ 600000 → slots ≤ 7302250 → lv_has ls 4 [(3, .int 0), (0, .ref b)] → va_S A s.heap H locs → W p l e room_1 s m #[Value.ref b] below meth c H locs cells slots (lw_Z below #[Value.ref b] s) (F0 m 877 ls [])) :
    W p l e room_1 s m #[Value.ref b] below meth c H locs 59 7221 (lw_Z below #[Value.ref b] s) (F0 m 781 ls []) := by
  refine lv_aload_n hx hb dL_781 rfl (lv_at hl 2 rfl) ?_
  obtain ⟨o2, h2, he⟩ := P_prepare
  have hFc := va_free (wc := (nw_OB G a_x x0 x1 x2 x3 x4 x5 x6 x7 x8 x9 x10 x11 x12 x13 x14 x15 x16 x17 x18 x19 x20 x21 x22 x23 x24 x25)) hD hS hA [0, 1, 2, 3, 4, 5, 6, 7, 8, 9, 10, 11, 12, 13, 14, 15, 16, 17, 18, 19, 20, 21, 22, 23, 24, 25, 26] rfl
  refine va_calli (va_runV (As := []) (rest := []) ⟨hx, hb, hml, hown, hts⟩ (n_prepare l D G a_x x0 x1 x2 x3 x4 x5 x6 x7 x8 x9 x10 x11 x12 x13 x14 x15 x16 x17 x18 x19 x20 x21 x22 x23 x24 x25 H.size) (cwV 0 hts (gV tw517 tw518 tw519 tw1 tw520) rfl rfl rfl (by decide +kernel) ⟨Nat.le_of_ble_eq_true rfl, Nat.le_of_ble_eq_true rfl⟩) (ob_preV (q0 := 0) (ci := 0) hZ hK hP hD [0, 1, 2, 3, 4, 5, 6, 7, 8, 9, 10, 11, 12, 13, 14, 15, 16, 17, 18, 19, 20, 21, 22, 23, 24, 25, 26] rfl rfl rfl rfl rfl) rfl rfl hl.1 rfl (lv_room (Nat.le_of_ble_eq_true rfl)) dL_782 ⟨Nat.le_of_ble_eq_true rfl, Nat.le_of_ble_eq_true rfl⟩) hS (fun q _ h => hFc q h) hFc (fun r u t H1 locs ht hvm hw hB hz1 hk1 hS => ?_)
  obtain ⟨hP1, hK1, hD1⟩ := hB
  rw [ht] at hP1
  obtain ⟨hP, hD⟩ := va_join (wr := (lw_m G a_m m0 m1 m2 m3 m4 m5 m6 m7 m8 m9 m10 m11 m12 m13 m14 m15 m16 m17 m18 m19 m20 m21 m22 m23 m24 m25 m26 m27 m28 m29 m30)) (w1 := []) hP hD [0, 1, 2, 3, 4, 5, 6, 7, 8, 9, 10, 11, 12, 13, 14, 15, 16, 17, 18, 19, 20, 21, 22, 23, 24, 25, 26] [27, 28, 29, 30, 31, 32, 33, 34, 35, 36, 37, 38, 39, 40, 41, 42, 43, 44, 45, 46, 47, 48, 49, 50, 51, 52, 53, 54, 55, 56, 57, 58] rfl rfl (by decide) (by decide) hk1 hFc hP1 hD1
  cases hw
  clear hP1 hD1 hK1 hFc
  generalize H1 = H at hP hS ⊢
  have hP : va_P D vwCl (lw_m G a_m m0 m1 m2 m3 m4 m5 m6 m7 m8 m9 m10 m11 m12 m13 m14 m15 m16 m17 m18 m19 m20 m21 m22 m23 m24 m25 m26 m27 m28 m29 m30) H := hP
  have hD : va_D A (lw_m G a_m m0 m1 m2 m3 m4 m5 m6 m7 m8 m9 m10 m11 m12 m13 m14 m15 m16 m17 m18 m19 m20 m21 m22 m23 m24 m25 m26 m27 m28 m29 m30) := hD
  refine W.cs (cells' := 68) (slots' := 7654) rfl rfl ?_
  refine lv_aload_n hx hb dL_785 rfl (lv_at hl 1 rfl) ?_
  have hRun := va_runV (R := room_1) (locs := locs) (H := H) (l := l) (e := e) (below := below) (meth := meth) (cells := 68) (slots := 7654) (g := F0 m 786 ls [.ref a_m, .int (-1)]) (As := []) (rest := [.int (-1)]) ⟨hx, hb, hml, hown, hts⟩ (c_M_prepare l D G a_m m14 m18 m17 m15 m24 m16 m22 m19 m20 m21 m23 m1 m0 m2 m3 m13 m4 m5 m6 m7 m8 m9 m10 m11 m12 m25 m26 m27 m28 m29 m30 0 0 0 0 0 0 0 0 0 0 0 0 0 (-1) 0 0 0 0 0 0 0 0 0 0 0 0 0 0 0 0 0 0 0 0 0 (fun _ => 0) (fun _ => 0) (fun _ => 0) (fun _ => 0) (fun _ => 0) (fun _ => 0) (fun _ => 0) (fun _ => 0) (fun _ => 0) (fun _ => 0) (fun _ => 0) (fun _ => 0) (fun _ => 0) (fun _ => 0) (fun _ => 0) (fun _ => 0) o2 h2 H.size) (cwV 0 hts (gV tw1132 tw1133 tw1134 tw11 tw1135) rfl rfl rfl (by decide +kernel) ⟨Nat.le_of_ble_eq_true rfl, Nat.le_of_ble_eq_true rfl⟩) (ob_preV (q0 := 0) (ci := 11) hZ hK hP hD [0, 15, 19, 18, 16, 25, 17, 23, 20, 21, 22, 24, 2, 1, 3, 4, 14] rfl rfl rfl rfl rfl) rfl rfl hl.1 rfl (lv_room (Nat.le_of_ble_eq_true rfl)) dL_786 ⟨Nat.le_of_ble_eq_true rfl, Nat.le_of_ble_eq_true rfl⟩
  refine ob_calli (wc := (cw_M_prepare G a_m m14 m18 m17 m15 m24 m16 m22 m19 m20 m21 m23 m1 m0 m2 m3 m13 m4 m5 m6 m7 m8 m9 m10 m11 m12 m25 m26 m27 m28 m29 m30 0 0 0 0 0 0 0 0 0 0 0 0 0 (-1) 0 0 0 0 0 0 0 0 0 0 0 0 0 0 0 0 0 0 0 0 0 (fun _ => 0) (fun _ => 0) (fun _ => 0) (fun _ => 0) (fun _ => 0) (fun _ => 0) (fun _ => 0) (fun _ => 0) (fun _ => 0) (fun _ => 0) (fun _ => 0) (fun _ => 0) (fun _ => 0) (fun _ => 0) (fun _ => 0) (fun _ => 0))) (wc1 := (cw_M_prepare G a_m m14 m18 m17 m15 m24 m16 m22 m19 m20 m21 m23 m1 m0 m2 m3 m13 m4 m5 m6 m7 m8 m9 m10 m11 m12 m25 m26 m27 m28 m29 m30 0 0 0 0 0 0 0 0 0 0 0 0 0 (-1) 0 0 0 0 0 o2.2.1 o2.2.2.1 o2.2.2.2.1 o2.2.2.2.2.1 o2.2.2.2.2.2.1 o2.2.2.2.2.2.2.1 o2.2.2.2.2.2.2.2.1 0 0 0 0 0 0 0 0 0 o2.2.2.2.2.2.2.2.2.1 o2.2.2.2.2.2.2.2.2.2.1 o2.2.2.2.2.2.2.2.2.2.2.1 o2.2.2.2.2.2.2.2.2.2.2.2.1 o2.2.2.2.2.2.2.2.2.2.2.2.2.1 o2.2.2.2.2.2.2.2.2.2.2.2.2.2.1 o2.2.2.2.2.2.2.2.2.2.2.2.2.2.2.1 o2.2.2.2.2.2.2.2.2.2.2.2.2.2.2.2.1 o2.2.2.2.2.2.2.2.2.2.2.2.2.2.2.2.2.1 o2.2.2.2.2.2.2.2.2.2.2.2.2.2.2.2.2.2.1 o2.2.2.2.2.2.2.2.2.2.2.2.2.2.2.2.2.2.2 (fun _ => 0) (fun _ => 0) (fun _ => 0) (fun _ => 0) (fun _ => 0))) (r := o2.1) hRun hP hD hA hS [0, 15, 19, 18, 16, 25, 17, 23, 20, 21, 22, 24, 2, 1, 3, 4, 14] rfl rfl rfl rfl (fun H locs hP hD hS => ?_)
  clear hRun
  refine lv_icmp_eq (tgt := 877) hx hb dL_789 (by decide) (fun _ => ?_) (fun hc => absurd he hc)
  exact tailN ls H locs _ _ (Nat.le_of_ble_eq_true rfl) (Nat.le_of_ble_eq_true rfl) (lv_sub hl [0, 3] rfl) hS
set_option maxHeartbeats 1000000 in
set_option maxRecDepth 100000 in
theorem law_22 {p : Program} {e : Env} {s : State} {m : MethodId} {below : List Frame} {meth : Method} {c : Code} {b : Nat} {xs : Nat → Int32} {D : va_G} {G : Nat → ClassId} {A : Nat → Prop} {a_x x0 x1 x2 x3 x4 x5 x6 x7 x8 x9 x10 x11 x12 x13 x14 x15 x16 x17 x18 x19 x20 x21 x22 x23 x24 x25 a_m m0 m1 m2 m3 m4 m5 m6 m7 m8 m9 m10 m11 m12 m13 m14 m15 m16 m17 m18 m19 m20 m21 m22 m23 m24 m25 m26 m27 m28 m29 m30 : Nat} {ls : Array Slot} {H : Heap} {locs : List Loc} (l : Launch) (hx : p.tables.exec = Jvm.exec) (hb : c.code = code) (hml : c.maxLocals = 4) (hown : s.vm.findClass "ObjectBaseLaw" = some m.cls) (hts : ∀ w ∈ obW, w.before #[Value.ref b] s = true) (hZ : obZ s) (hK : va_K D vwCl (obT G) s) (hA : ∀ q, s.heap.size ≤ q → A q) (hX : va_X b 5 xs s s.heap) (hbl : b < s.heap.size) (hbA : ¬ A b) (hP : va_P D vwCl (lw_w G a_x x0 x1 x2 x3 x4 x5 x6 x7 x8 x9 x10 x11 x12 x13 x14 x15 x16 x17 x18 x19 x20 x21 x22 x23 x24 x25 a_m m0 m1 m2 m3 m4 m5 m6 m7 m8 m9 m10 m11 m12 m13 m14 m15 m16 m17 m18 m19 m20 m21 m22 m23 m24 m25 m26 m27 m28 m29 m30) H) (hD : va_D A (lw_w G a_x x0 x1 x2 x3 x4 x5 x6 x7 x8 x9 x10 x11 x12 x13 x14 x15 x16 x17 x18 x19 x20 x21 x22 x23 x24 x25 a_m m0 m1 m2 m3 m4 m5 m6 m7 m8 m9 m10 m11 m12 m13 m14 m15 m16 m17 m18 m19 m20 m21 m22 m23 m24 m25 m26 m27 m28 m29 m30)) (hS : va_S A s.heap H locs) (hl : lv_has ls 4 [(3, .int 0), (2, .ref a_m), (1, .ref a_x), (0, .ref b)])
    (tailN : ∀ (ls : Array Slot) (H : Heap) (locs : List Loc) (cells slots : Nat), cells ≤ 600000 → slots ≤ 7302250 → lv_has ls 4 [(3, .int 0), (0, .ref b)] → va_S A s.heap H locs → W p l e room_1 s m #[Value.ref b] below meth c H locs cells slots (lw_Z below #[Value.ref b] s) (F0 m 877 ls [])) :
    W p l e room_1 s m #[Value.ref b] below meth c H locs 59 7221 (lw_Z below #[Value.ref b] s) (F0 m 794 ls []) := by
  refine lv_aload_n hx hb dL_794 rfl (lv_at hl 2 rfl) ?_
  refine lv_aload_n hx hb dL_795 rfl (lv_at hl 3 rfl) ?_
  refine lv_iload_n hx hb dL_796 rfl (lv_at hl 0 rfl) ?_
  refine lv_iconst (v := 1) hx hb dL_797 (by decide) ?_
  refine lv_iadd hx hb dL_798 ?_
  refine va_sld hx hb hX hbl hbA hS (vp_in_iff.mpr (by decide)) dL_799 ?_
  refine W.eq (g2 := F0 m 800 ls [.int (xs 1), .ref a_x]) (by rw [show ((0 : Int32) + 1).toNatClampNeg = 1 from by decide]) ?_
  obtain ⟨o1, o2, h1, h2, he⟩ := P_ask (xs 1)
  have hRun := va_runV (R := room_1) (locs := locs) (H := H) (l := l) (e := e) (below := below) (meth := meth) (cells := 59) (slots := 7221) (g := F0 m 800 ls [.int (xs 1), .ref a_x]) (As := [.int (xs 1)]) (rest := []) ⟨hx, hb, hml, hown, hts⟩ (c_OB_ask0 l D G a_x x8 x13 x20 x0 x5 x9 x18 x21 x23 x25 x14 0 0 0 0 (-1) 0 0 0 0 0 0 0 0 (fun _ => none) (xs 1) o1 h1 H.size) (cwV 1 hts (gV tw678 tw679 tw680 tw1 tw681) rfl rfl rfl (by decide +kernel) ⟨Nat.le_of_ble_eq_true rfl, Nat.le_of_ble_eq_true rfl⟩) (ob_preV (q0 := 0) (ci := 0) hZ hK hP hD [0, 9, 14, 21] rfl rfl rfl rfl rfl) rfl rfl hl.1 rfl (lv_room (Nat.le_of_ble_eq_true rfl)) dL_800 ⟨Nat.le_of_ble_eq_true rfl, Nat.le_of_ble_eq_true rfl⟩
  refine ob_dropi (wc := (cw_OB_ask0 G a_x x8 x13 x20 x0 x5 x9 x18 x21 x23 x25 x14 0 0 0 0 (-1) 0 0 0 0 0 0 0 0 (fun _ => none))) (wc1 := (cw_OB_ask0 G a_x x8 x13 x20 x0 x5 x9 x18 x21 x23 x25 x14 0 0 0 0 (-1) 0 0 0 0 0 0 0 0 (fun _ => none))) (r := o1) (wr := (lw_m G a_m m0 m1 m2 m3 m4 m5 m6 m7 m8 m9 m10 m11 m12 m13 m14 m15 m16 m17 m18 m19 m20 m21 m22 m23 m24 m25 m26 m27 m28 m29 m30)) hRun hP hD hA hS [0, 9, 14, 21] [27, 28, 29, 30, 31, 32, 33, 34, 35, 36, 37, 38, 39, 40, 41, 42, 43, 44, 45, 46, 47, 48, 49, 50, 51, 52, 53, 54, 55, 56, 57, 58] rfl rfl rfl (by decide) (fun H locs hP hD hS => ?_)
  clear hRun
  refine lv_aload_n hx hb dL_803 rfl (lv_at hl 1 rfl) ?_
  refine lv_aload_n hx hb dL_804 rfl (lv_at hl 3 rfl) ?_
  refine lv_iload_n hx hb dL_805 rfl (lv_at hl 0 rfl) ?_
  refine lv_iconst (v := 1) hx hb dL_806 (by decide) ?_
  refine lv_iadd hx hb dL_807 ?_
  refine va_sld hx hb hX hbl hbA hS (vp_in_iff.mpr (by decide)) dL_808 ?_
  refine W.eq (g2 := F0 m 809 ls [.int (xs 1), .ref a_m, .int o1]) (by rw [show ((0 : Int32) + 1).toNatClampNeg = 1 from by decide]) ?_
  have hRun := va_runV (R := room_1) (locs := locs) (H := H) (l := l) (e := e) (below := below) (meth := meth) (cells := 59) (slots := 7221) (g := F0 m 809 ls [.int (xs 1), .ref a_m, .int o1]) (As := [.int (xs 1)]) (rest := [.int o1]) ⟨hx, hb, hml, hown, hts⟩ (c_M_ask l D G a_m m14 m15 m18 m17 m19 m21 m20 m4 m16 m5 m6 m1 m0 m2 m11 m8 m10 m7 m12 m9 m25 m26 m29 m27 m28 m30 m3 m13 m22 m23 m24 0 0 0 0 0 0 0 0 0 0 0 0 0 (-1) 0 0 0 0 0 0 0 0 0 0 0 0 0 0 0 0 0 0 0 0 0 (fun _ => 0) (fun _ => 0) (fun _ => 0) (fun _ => 0) (fun _ => 0) (fun _ => 0) (fun _ => 0) (fun _ => 0) (fun _ => 0) (fun _ => 0) (fun _ => 0) (fun _ => 0) (fun _ => 0) (fun _ => 0) (fun _ => 0) (fun _ => 0) (fun _ => 0) (fun _ => 0) (fun _ => 0) (fun _ => 0) (fun _ => 0) (fun _ => 0) (fun _ => 0) (fun _ => 0) (fun _ => 0) (fun _ => 0) (xs 1) o2 h2 H.size) (cwV 1 hts (gV tw1201 tw1202 tw1203 tw11 tw1204) rfl rfl rfl (by decide +kernel) ⟨Nat.le_of_ble_eq_true rfl, Nat.le_of_ble_eq_true rfl⟩) (ob_preV (q0 := 0) (ci := 11) hZ hK hP hD [0, 15, 16, 19, 18, 20, 22, 21, 5, 17, 6, 7, 2, 1, 3, 12, 9, 11, 8, 13, 10, 26, 27, 30, 28, 29, 31] rfl rfl rfl rfl rfl) rfl rfl hl.1 rfl (lv_room (Nat.le_of_ble_eq_true rfl)) dL_809 ⟨Nat.le_of_ble_eq_true rfl, Nat.le_of_ble_eq_true rfl⟩
  refine ob_calli (wc := (cw_M_ask G a_m m14 m15 m18 m17 m19 m21 m20 m4 m16 m5 m6 m1 m0 m2 m11 m8 m10 m7 m12 m9 m25 m26 m29 m27 m28 m30 m3 m13 m22 m23 m24 0 0 0 0 0 0 0 0 0 0 0 0 0 (-1) 0 0 0 0 0 0 0 0 0 0 0 0 0 0 0 0 0 0 0 0 0 (fun _ => 0) (fun _ => 0) (fun _ => 0) (fun _ => 0) (fun _ => 0) (fun _ => 0) (fun _ => 0) (fun _ => 0) (fun _ => 0) (fun _ => 0) (fun _ => 0) (fun _ => 0) (fun _ => 0) (fun _ => 0) (fun _ => 0) (fun _ => 0) (fun _ => 0) (fun _ => 0) (fun _ => 0) (fun _ => 0) (fun _ => 0) (fun _ => 0) (fun _ => 0) (fun _ => 0) (fun _ => 0) (fun _ => 0))) (wc1 := (cw_M_ask G a_m m14 m15 m18 m17 m19 m21 m20 m4 m16 m5 m6 m1 m0 m2 m11 m8 m10 m7 m12 m9 m25 m26 m29 m27 m28 m30 m3 m13 m22 m23 m24 0 0 0 0 0 0 0 0 0 0 0 0 0 (-1) 0 0 0 0 0 0 o2.2.1 0 0 0 0 0 o2.2.2.1 o2.2.2.2.1 o2.2.2.2.2.1 o2.2.2.2.2.2.1 o2.2.2.2.2.2.2.1 o2.2.2.2.2.2.2.2.1 o2.2.2.2.2.2.2.2.2.1 o2.2.2.2.2.2.2.2.2.2.1 o2.2.2.2.2.2.2.2.2.2.2.1 (fun _ => 0) (fun _ => 0) (fun _ => 0) (fun _ => 0) (fun _ => 0) (fun _ => 0) (fun _ => 0) (fun _ => 0) (fun _ => 0) (fun _ => 0) (fun _ => 0) (fun _ => 0) (fun _ => 0) (fun _ => 0) (fun _ => 0) (fun _ => 0) (fun _ => 0) (fun _ => 0) (fun _ => 0) (fun _ => 0) o2.2.2.2.2.2.2.2.2.2.2.2.1 o2.2.2.2.2.2.2.2.2.2.2.2.2.1 o2.2.2.2.2.2.2.2.2.2.2.2.2.2.1 o2.2.2.2.2.2.2.2.2.2.2.2.2.2.2.1 o2.2.2.2.2.2.2.2.2.2.2.2.2.2.2.2.1 o2.2.2.2.2.2.2.2.2.2.2.2.2.2.2.2.2)) (r := o2.1) hRun hP hD hA hS [0, 15, 16, 19, 18, 20, 22, 21, 5, 17, 6, 7, 2, 1, 3, 12, 9, 11, 8, 13, 10, 26, 27, 30, 28, 29, 31] rfl rfl rfl rfl (fun H locs hP hD hS => ?_)
  clear hRun
  refine lv_icmp_eq (tgt := 877) hx hb dL_812 (by decide) (fun _ => ?_) (fun hc => absurd he hc)
  exact tailN ls H locs _ _ (Nat.le_of_ble_eq_true rfl) (Nat.le_of_ble_eq_true rfl) (lv_sub hl [0, 3] rfl) hS
set_option maxHeartbeats 1000000 in
set_option maxRecDepth 100000 in
theorem law_23 {p : Program} {e : Env} {s : State} {m : MethodId} {below : List Frame} {meth : Method} {c : Code} {b : Nat} {xs : Nat → Int32} {D : va_G} {G : Nat → ClassId} {A : Nat → Prop} {a_x x0 x1 x2 x3 x4 x5 x6 x7 x8 x9 x10 x11 x12 x13 x14 x15 x16 x17 x18 x19 x20 x21 x22 x23 x24 x25 a_m m0 m1 m2 m3 m4 m5 m6 m7 m8 m9 m10 m11 m12 m13 m14 m15 m16 m17 m18 m19 m20 m21 m22 m23 m24 m25 m26 m27 m28 m29 m30 : Nat} {ls : Array Slot} {H : Heap} {locs : List Loc} (l : Launch) (hx : p.tables.exec = Jvm.exec) (hb : c.code = code) (hml : c.maxLocals = 4) (hown : s.vm.findClass "ObjectBaseLaw" = some m.cls) (hts : ∀ w ∈ obW, w.before #[Value.ref b] s = true) (hZ : obZ s) (hK : va_K D vwCl (obT G) s) (hA : ∀ q, s.heap.size ≤ q → A q) (hX : va_X b 5 xs s s.heap) (hbl : b < s.heap.size) (hbA : ¬ A b) (hP : va_P D vwCl (lw_w G a_x x0 x1 x2 x3 x4 x5 x6 x7 x8 x9 x10 x11 x12 x13 x14 x15 x16 x17 x18 x19 x20 x21 x22 x23 x24 x25 a_m m0 m1 m2 m3 m4 m5 m6 m7 m8 m9 m10 m11 m12 m13 m14 m15 m16 m17 m18 m19 m20 m21 m22 m23 m24 m25 m26 m27 m28 m29 m30) H) (hD : va_D A (lw_w G a_x x0 x1 x2 x3 x4 x5 x6 x7 x8 x9 x10 x11 x12 x13 x14 x15 x16 x17 x18 x19 x20 x21 x22 x23 x24 x25 a_m m0 m1 m2 m3 m4 m5 m6 m7 m8 m9 m10 m11 m12 m13 m14 m15 m16 m17 m18 m19 m20 m21 m22 m23 m24 m25 m26 m27 m28 m29 m30)) (hS : va_S A s.heap H locs) (hl : lv_has ls 4 [(3, .int 0), (2, .ref a_m), (1, .ref a_x), (0, .ref b)])
    (tailN : ∀ (ls : Array Slot) (H : Heap) (locs : List Loc) (cells slots : Nat), cells ≤ 600000 → slots ≤ 7302250 → lv_has ls 4 [(3, .int 0), (0, .ref b)] → va_S A s.heap H locs → W p l e room_1 s m #[Value.ref b] below meth c H locs cells slots (lw_Z below #[Value.ref b] s) (F0 m 877 ls [])) :
    W p l e room_1 s m #[Value.ref b] below meth c H locs 59 7221 (lw_Z below #[Value.ref b] s) (F0 m 817 ls []) := by
  refine lv_aload_n hx hb dL_817 rfl (lv_at hl 2 rfl) ?_
  obtain ⟨o1, o2, h1, h2, he⟩ := P_sum
  have hRun := va_runV (R := room_1) (locs := locs) (H := H) (l := l) (e := e) (below := below) (meth := meth) (cells := 59) (slots := 7221) (g := F0 m 818 ls [.ref a_x]) (As := []) (rest := []) ⟨hx, hb, hml, hown, hts⟩ (c_OB_sum l D G a_x x8 x25 x0 x5 x9 x13 x18 x20 x21 x23 0 0 0 0 (-1) 0 0 0 0 0 0 0 0 o1 h1 H.size) (cwV 0 hts (gV tw764 tw765 tw766 tw1 tw767) rfl rfl rfl (by decide +kernel) ⟨Nat.le_of_ble_eq_true rfl, Nat.le_of_ble_eq_true rfl⟩) (ob_preV (q0 := 0) (ci := 0) hZ hK hP hD [0, 9, 26] rfl rfl rfl rfl rfl) rfl rfl hl.1 rfl (lv_room (Nat.le_of_ble_eq_true rfl)) dL_818 ⟨Nat.le_of_ble_eq_true rfl, Nat.le_of_ble_eq_true rfl⟩
  refine ob_dropl (wc := (cw_OB_sum G a_x x8 x25 x0 x5 x9 x13 x18 x20 x21 x23 0 0 0 0 (-1) 0 0 0 0 0 0 0 0)) (wc1 := (cw_OB_sum G a_x x8 x25 x0 x5 x9 x13 x18 x20 x21 x23 0 0 0 0 (-1) 0 0 0 0 0 0 0 0)) (r := o1) (wr := (lw_m G a_m m0 m1 m2 m3 m4 m5 m6 m7 m8 m9 m10 m11 m12 m13 m14 m15 m16 m17 m18 m19 m20 m21 m22 m23 m24 m25 m26 m27 m28 m29 m30)) hRun hP hD hA hS [0, 9, 26] [27, 28, 29, 30, 31, 32, 33, 34, 35, 36, 37, 38, 39, 40, 41, 42, 43, 44, 45, 46, 47, 48, 49, 50, 51, 52, 53, 54, 55, 56, 57, 58] rfl rfl rfl (by decide) (fun H locs hP hD hS => ?_)
  clear hRun
  refine lv_aload_n hx hb dL_821 rfl (lv_at hl 1 rfl) ?_
  have hRun := va_runV (R := room_1) (locs := locs) (H := H) (l := l) (e := e) (below := below) (meth := meth) (cells := 59) (slots := 7221) (g := F0 m 822 ls [.ref a_m, .long o1]) (As := []) (rest := [.long o1]) ⟨hx, hb, hml, hown, hts⟩ (c_M_sum l D G a_m m0 m1 m2 m3 m4 m5 m6 m7 m8 m9 m10 m11 m12 m13 m14 m15 m16 m17 m18 m19 m20 m21 m22 m23 m24 m25 m26 m27 m28 m29 m30 0 0 0 0 0 0 0 0 0 0 0 0 0 (-1) 0 0 0 0 0 0 0 0 0 0 0 0 0 0 0 0 0 0 0 0 0 o2 h2 H.size) (cwV 0 hts (gV tw1253 tw1254 tw1255 tw11 tw1256) rfl rfl rfl (by decide +kernel) ⟨Nat.le_of_ble_eq_true rfl, Nat.le_of_ble_eq_true rfl⟩) (ob_preV (q0 := 0) (ci := 11) hZ hK hP hD [0] rfl rfl rfl rfl rfl) rfl rfl hl.1 rfl (lv_room (Nat.le_of_ble_eq_true rfl)) dL_822 ⟨Nat.le_of_ble_eq_true rfl, Nat.le_of_ble_eq_true rfl⟩
  refine ob_calll (wc := (cw_M_sum G a_m m0 m1 m2 m3 m4 m5 m6 m7 m8 m9 m10 m11 m12 m13 m14 m15 m16 m17 m18 m19 m20 m21 m22 m23 m24 m25 m26 m27 m28 m29 m30 0 0 0 0 0 0 0 0 0 0 0 0 0 (-1) 0 0 0 0 0 0 0 0 0 0 0 0 0 0 0 0 0 0 0 0 0)) (wc1 := (cw_M_sum G a_m m0 m1 m2 m3 m4 m5 m6 m7 m8 m9 m10 m11 m12 m13 m14 m15 m16 m17 m18 m19 m20 m21 m22 m23 m24 m25 m26 m27 m28 m29 m30 0 0 0 0 0 0 0 0 0 0 0 0 0 (-1) 0 0 0 0 0 0 0 0 0 0 0 0 0 0 0 0 0 0 0 0 0)) (r := o2) hRun hP hD hA hS [0] rfl rfl rfl rfl (fun H locs hP hD hS => ?_)
  clear hRun
  refine W.lcmp hx hb dL_825 ?_
  refine lv_if_eq (tgt := 877) hx hb dL_826 (by decide) (fun _ => ?_) (fun hc => absurd ((lg_cmp_eq _ _).mpr he) hc)
  exact tailN ls H locs _ _ (Nat.le_of_ble_eq_true rfl) (Nat.le_of_ble_eq_true rfl) (lv_sub hl [0, 3] rfl) hS
set_option maxHeartbeats 1000000 in
set_option maxRecDepth 100000 in
theorem law_24 {p : Program} {e : Env} {s : State} {m : MethodId} {below : List Frame} {meth : Method} {c : Code} {b : Nat} {xs : Nat → Int32} {D : va_G} {G : Nat → ClassId} {A : Nat → Prop} {a_x x0 x1 x2 x3 x4 x5 x6 x7 x8 x9 x10 x11 x12 x13 x14 x15 x16 x17 x18 x19 x20 x21 x22 x23 x24 x25 a_m m0 m1 m2 m3 m4 m5 m6 m7 m8 m9 m10 m11 m12 m13 m14 m15 m16 m17 m18 m19 m20 m21 m22 m23 m24 m25 m26 m27 m28 m29 m30 : Nat} {ls : Array Slot} {H : Heap} {locs : List Loc} (l : Launch) (hx : p.tables.exec = Jvm.exec) (hb : c.code = code) (hml : c.maxLocals = 4) (hown : s.vm.findClass "ObjectBaseLaw" = some m.cls) (hts : ∀ w ∈ obW, w.before #[Value.ref b] s = true) (hZ : obZ s) (hK : va_K D vwCl (obT G) s) (hA : ∀ q, s.heap.size ≤ q → A q) (hX : va_X b 5 xs s s.heap) (hbl : b < s.heap.size) (hbA : ¬ A b) (hP : va_P D vwCl (lw_w G a_x x0 x1 x2 x3 x4 x5 x6 x7 x8 x9 x10 x11 x12 x13 x14 x15 x16 x17 x18 x19 x20 x21 x22 x23 x24 x25 a_m m0 m1 m2 m3 m4 m5 m6 m7 m8 m9 m10 m11 m12 m13 m14 m15 m16 m17 m18 m19 m20 m21 m22 m23 m24 m25 m26 m27 m28 m29 m30) H) (hD : va_D A (lw_w G a_x x0 x1 x2 x3 x4 x5 x6 x7 x8 x9 x10 x11 x12 x13 x14 x15 x16 x17 x18 x19 x20 x21 x22 x23 x24 x25 a_m m0 m1 m2 m3 m4 m5 m6 m7 m8 m9 m10 m11 m12 m13 m14 m15 m16 m17 m18 m19 m20 m21 m22 m23 m24 m25 m26 m27 m28 m29 m30)) (hS : va_S A s.heap H locs) (hl : lv_has ls 4 [(3, .int 0), (2, .ref a_m), (1, .ref a_x), (0, .ref b)])
    (tailN : ∀ (ls : Array Slot) (H : Heap) (locs : List Loc) (cells slots : Nat), cells ≤ 600000 → slots ≤ 7302250 → lv_has ls 4 [(3, .int 0), (0, .ref b)] → va_S A s.heap H locs → W p l e room_1 s m #[Value.ref b] below meth c H locs cells slots (lw_Z below #[Value.ref b] s) (F0 m 877 ls [])) :
    W p l e room_1 s m #[Value.ref b] below meth c H locs 59 7221 (lw_Z below #[Value.ref b] s) (F0 m 831 ls []) := by
  refine lv_aload_n hx hb dL_831 rfl (lv_at hl 2 rfl) ?_
  refine lv_aload_n hx hb dL_832 rfl (lv_at hl 3 rfl) ?_
  refine lv_iload_n hx hb dL_833 rfl (lv_at hl 0 rfl) ?_
  refine lv_iconst (v := 1) hx hb dL_834 (by decide) ?_
  refine lv_iadd hx hb dL_835 ?_
  refine va_sld hx hb hX hbl hbA hS (vp_in_iff.mpr (by decide)) dL_836 ?_
  refine W.eq (g2 := F0 m 837 ls [.int (xs 1), .ref a_x]) (by rw [show ((0 : Int32) + 1).toNatClampNeg = 1 from by decide]) ?_
  obtain ⟨o1, o2, h1, h2, he⟩ := P_hit (xs 1)
  have hRun := va_runV (R := room_1) (locs := locs) (H := H) (l := l) (e := e) (below := below) (meth := meth) (cells := 59) (slots := 7221) (g := F0 m 837 ls [.int (xs 1), .ref a_x]) (As := [.int (xs 1)]) (rest := []) ⟨hx, hb, hml, hown, hts⟩ (c_OB_hit l D G a_x x8 x25 x0 x5 x9 x13 x18 x20 x21 x23 0 0 0 0 (-1) 0 0 0 0 0 0 0 0 (xs 1) o1 h1 H.size) (cwV 1 hts (gV tw768 tw769 tw770 tw1 tw771) rfl rfl rfl (by decide +kernel) ⟨Nat.le_of_ble_eq_true rfl, Nat.le_of_ble_eq_true rfl⟩) (ob_preV (q0 := 0) (ci := 0) hZ hK hP hD [0, 9, 26] rfl rfl rfl rfl rfl) rfl rfl hl.1 rfl (lv_room (Nat.le_of_ble_eq_true rfl)) dL_837 ⟨Nat.le_of_ble_eq_true rfl, Nat.le_of_ble_eq_true rfl⟩
  refine ob_dropi (wc := (cw_OB_hit G a_x x8 x25 x0 x5 x9 x13 x18 x20 x21 x23 0 0 0 0 (-1) 0 0 0 0 0 0 0 0)) (wc1 := (cw_OB_hit G a_x x8 x25 x0 x5 x9 x13 x18 x20 x21 x23 0 0 0 0 (-1) 0 0 0 0 0 0 0 0)) (r := o1) (wr := (lw_m G a_m m0 m1 m2 m3 m4 m5 m6 m7 m8 m9 m10 m11 m12 m13 m14 m15 m16 m17 m18 m19 m20 m21 m22 m23 m24 m25 m26 m27 m28 m29 m30)) hRun hP hD hA hS [0, 9, 26] [27, 28, 29, 30, 31, 32, 33, 34, 35, 36, 37, 38, 39, 40, 41, 42, 43, 44, 45, 46, 47, 48, 49, 50, 51, 52, 53, 54, 55, 56, 57, 58] rfl rfl rfl (by decide) (fun H locs hP hD hS => ?_)
  clear hRun
  refine lv_aload_n hx hb dL_840 rfl (lv_at hl 1 rfl) ?_
  refine lv_aload_n hx hb dL_841 rfl (lv_at hl 3 rfl) ?_
  refine lv_iload_n hx hb dL_842 rfl (lv_at hl 0 rfl) ?_
  refine lv_iconst (v := 1) hx hb dL_843 (by decide) ?_
  refine lv_iadd hx hb dL_844 ?_
  refine va_sld hx hb hX hbl hbA hS (vp_in_iff.mpr (by decide)) dL_845 ?_
  refine W.eq (g2 := F0 m 846 ls [.int (xs 1), .ref a_m, .int o1]) (by rw [show ((0 : Int32) + 1).toNatClampNeg = 1 from by decide]) ?_
  have hRun := va_runV (R := room_1) (locs := locs) (H := H) (l := l) (e := e) (below := below) (meth := meth) (cells := 59) (slots := 7221) (g := F0 m 846 ls [.int (xs 1), .ref a_m, .int o1]) (As := [.int (xs 1)]) (rest := [.int o1]) ⟨hx, hb, hml, hown, hts⟩ (c_M_hit l D G a_m m30 m0 m1 m2 m3 m4 m5 m6 m7 m8 m9 m10 m11 m12 m13 m14 m15 m16 m17 m18 m19 m20 m21 m22 m23 m24 m25 m26 m27 m28 m29 0 0 0 0 0 0 0 0 0 0 0 0 0 (-1) 0 0 0 0 0 0 0 0 0 0 0 0 0 0 0 0 0 0 0 0 0 (fun _ => 0) (xs 1) o2 h2 H.size) (cwV 1 hts (gV tw1257 tw1258 tw1259 tw11 tw1260) rfl rfl rfl (by decide +kernel) ⟨Nat.le_of_ble_eq_true rfl, Nat.le_of_ble_eq_true rfl⟩) (ob_preV (q0 := 0) (ci := 11) hZ hK hP hD [0, 31] rfl rfl rfl rfl rfl) rfl rfl hl.1 rfl (lv_room (Nat.le_of_ble_eq_true rfl)) dL_846 ⟨Nat.le_of_ble_eq_true rfl, Nat.le_of_ble_eq_true rfl⟩
  refine ob_calli (wc := (cw_M_hit G a_m m30 m0 m1 m2 m3 m4 m5 m6 m7 m8 m9 m10 m11 m12 m13 m14 m15 m16 m17 m18 m19 m20 m21 m22 m23 m24 m25 m26 m27 m28 m29 0 0 0 0 0 0 0 0 0 0 0 0 0 (-1) 0 0 0 0 0 0 0 0 0 0 0 0 0 0 0 0 0 0 0 0 0 (fun _ => 0))) (wc1 := (cw_M_hit G a_m m30 m0 m1 m2 m3 m4 m5 m6 m7 m8 m9 m10 m11 m12 m13 m14 m15 m16 m17 m18 m19 m20 m21 m22 m23 m24 m25 m26 m27 m28 m29 0 0 0 0 0 0 0 0 0 0 0 0 0 (-1) 0 0 0 0 0 0 0 0 0 0 0 0 0 0 0 0 0 0 0 0 0 (fun _ => 0))) (r := o2) hRun hP hD hA hS [0, 31] rfl rfl rfl rfl (fun H locs hP hD hS => ?_)
  clear hRun
  refine lv_icmp_eq (tgt := 877) hx hb dL_849 (by decide) (fun _ => ?_) (fun hc => absurd he hc)
  exact tailN ls H locs _ _ (Nat.le_of_ble_eq_true rfl) (Nat.le_of_ble_eq_true rfl) (lv_sub hl [0, 3] rfl) hS
set_option maxHeartbeats 1000000 in
set_option maxRecDepth 100000 in
theorem law_25 {p : Program} {e : Env} {s : State} {m : MethodId} {below : List Frame} {meth : Method} {c : Code} {b : Nat} {xs : Nat → Int32} {D : va_G} {G : Nat → ClassId} {A : Nat → Prop} {a_x x0 x1 x2 x3 x4 x5 x6 x7 x8 x9 x10 x11 x12 x13 x14 x15 x16 x17 x18 x19 x20 x21 x22 x23 x24 x25 a_m m0 m1 m2 m3 m4 m5 m6 m7 m8 m9 m10 m11 m12 m13 m14 m15 m16 m17 m18 m19 m20 m21 m22 m23 m24 m25 m26 m27 m28 m29 m30 : Nat} {ls : Array Slot} {H : Heap} {locs : List Loc} (l : Launch) (hx : p.tables.exec = Jvm.exec) (hb : c.code = code) (hml : c.maxLocals = 4) (hown : s.vm.findClass "ObjectBaseLaw" = some m.cls) (hts : ∀ w ∈ obW, w.before #[Value.ref b] s = true) (hZ : obZ s) (hK : va_K D vwCl (obT G) s) (hA : ∀ q, s.heap.size ≤ q → A q) (hX : va_X b 5 xs s s.heap) (hbl : b < s.heap.size) (hbA : ¬ A b) (hP : va_P D vwCl (lw_w G a_x x0 x1 x2 x3 x4 x5 x6 x7 x8 x9 x10 x11 x12 x13 x14 x15 x16 x17 x18 x19 x20 x21 x22 x23 x24 x25 a_m m0 m1 m2 m3 m4 m5 m6 m7 m8 m9 m10 m11 m12 m13 m14 m15 m16 m17 m18 m19 m20 m21 m22 m23 m24 m25 m26 m27 m28 m29 m30) H) (hD : va_D A (lw_w G a_x x0 x1 x2 x3 x4 x5 x6 x7 x8 x9 x10 x11 x12 x13 x14 x15 x16 x17 x18 x19 x20 x21 x22 x23 x24 x25 a_m m0 m1 m2 m3 m4 m5 m6 m7 m8 m9 m10 m11 m12 m13 m14 m15 m16 m17 m18 m19 m20 m21 m22 m23 m24 m25 m26 m27 m28 m29 m30)) (hS : va_S A s.heap H locs) (hl : lv_has ls 4 [(3, .int 0), (2, .ref a_m), (1, .ref a_x), (0, .ref b)])
    (tailN : ∀ (ls : Array Slot) (H : Heap) (locs : List Loc) (cells slots : Nat), cells ≤ 600000 → slots ≤ 7302250 → lv_has ls 4 [(3, .int 0), (0, .ref b)] → va_S A s.heap H locs → W p l e room_1 s m #[Value.ref b] below meth c H locs cells slots (lw_Z below #[Value.ref b] s) (F0 m 877 ls [])) :
    W p l e room_1 s m #[Value.ref b] below meth c H locs 59 7221 (lw_Z below #[Value.ref b] s) (F0 m 854 ls []) := by
  refine lv_aload_n hx hb dL_854 rfl (lv_at hl 2 rfl) ?_
  refine lv_aload_n hx hb dL_855 rfl (lv_at hl 3 rfl) ?_
  refine lv_iload_n hx hb dL_856 rfl (lv_at hl 0 rfl) ?_
  refine lv_iconst (v := 1) hx hb dL_857 (by decide) ?_
  refine lv_iadd hx hb dL_858 ?_
  refine va_sld hx hb hX hbl hbA hS (vp_in_iff.mpr (by decide)) dL_859 ?_
  refine W.eq (g2 := F0 m 860 ls [.int (xs 1), .ref a_x]) (by rw [show ((0 : Int32) + 1).toNatClampNeg = 1 from by decide]) ?_
  obtain ⟨o1, o2, h1, h2, he⟩ := P_look (xs 1)
  have hRun := va_runV (R := room_1) (locs := locs) (H := H) (l := l) (e := e) (below := below) (meth := meth) (cells := 59) (slots := 7221) (g := F0 m 860 ls [.int (xs 1), .ref a_x]) (As := [.int (xs 1)]) (rest := []) ⟨hx, hb, hml, hown, hts⟩ (c_OB_look l D G a_x x8 x13 x9 x10 x0 x11 x3 x12 x25 x5 x18 x20 x21 x23 x14 x1 x2 x4 0 0 0 0 (-1) 0 0 0 0 0 0 0 0 (fun _ => 0) 0 0 (fun _ => 0) (fun _ => 0) (fun _ => 0) 0 0 0 0 (xs 1) o1 h1 H.size) (cwV 1 hts (gV tw777 tw778 tw779 tw1 tw780) rfl rfl rfl (by decide +kernel) ⟨Nat.le_of_ble_eq_true rfl, Nat.le_of_ble_eq_true rfl⟩) (ob_preV (q0 := 0) (ci := 0) hZ hK hP hD [0, 9, 14, 10, 11, 1, 12, 4, 13, 26] rfl rfl rfl rfl rfl) rfl rfl hl.1 rfl (lv_room (Nat.le_of_ble_eq_true rfl)) dL_860 ⟨Nat.le_of_ble_eq_true rfl, Nat.le_of_ble_eq_true rfl⟩
  refine ob_dropi (wc := (cw_OB_look G a_x x8 x13 x9 x10 x0 x11 x3 x12 x25 x5 x18 x20 x21 x23 x14 x1 x2 x4 0 0 0 0 (-1) 0 0 0 0 0 0 0 0 (fun _ => 0) 0 0 (fun _ => 0) (fun _ => 0) (fun _ => 0) 0 0 0 0)) (wc1 := (cw_OB_look G a_x x8 x13 x9 x10 x0 x11 x3 x12 x25 x5 x18 x20 x21 x23 x14 x1 x2 x4 0 0 0 0 (-1) 0 0 0 0 0 0 0 0 (fun _ => 0) 0 0 (fun _ => 0) (fun _ => 0) (fun _ => 0) 0 0 0 0)) (r := o1) (wr := (lw_m G a_m m0 m1 m2 m3 m4 m5 m6 m7 m8 m9 m10 m11 m12 m13 m14 m15 m16 m17 m18 m19 m20 m21 m22 m23 m24 m25 m26 m27 m28 m29 m30)) hRun hP hD hA hS [0, 9, 14, 10, 11, 1, 12, 4, 13, 26] [27, 28, 29, 30, 31, 32, 33, 34, 35, 36, 37, 38, 39, 40, 41, 42, 43, 44, 45, 46, 47, 48, 49, 50, 51, 52, 53, 54, 55, 56, 57, 58] rfl rfl rfl (by decide) (fun H locs hP hD hS => ?_)
  clear hRun
  refine lv_aload_n hx hb dL_863 rfl (lv_at hl 1 rfl) ?_
  refine lv_aload_n hx hb dL_864 rfl (lv_at hl 3 rfl) ?_
  refine lv_iload_n hx hb dL_865 rfl (lv_at hl 0 rfl) ?_
  refine lv_iconst (v := 1) hx hb dL_866 (by decide) ?_
  refine lv_iadd hx hb dL_867 ?_
  refine va_sld hx hb hX hbl hbA hS (vp_in_iff.mpr (by decide)) dL_868 ?_
  refine W.eq (g2 := F0 m 869 ls [.int (xs 1), .ref a_m, .int o1]) (by rw [show ((0 : Int32) + 1).toNatClampNeg = 1 from by decide]) ?_
  have hRun := va_runV (R := room_1) (locs := locs) (H := H) (l := l) (e := e) (below := below) (meth := meth) (cells := 59) (slots := 7221) (g := F0 m 869 ls [.int (xs 1), .ref a_m, .int o1]) (As := [.int (xs 1)]) (rest := [.int o1]) ⟨hx, hb, hml, hown, hts⟩ (c_M_look l D G a_m m6 m1 m0 m2 m11 m8 m10 m7 m12 m9 m3 m4 m5 m13 m14 m15 m16 m17 m18 m19 m20 m21 m22 m23 m24 m25 m26 m27 m28 m29 m30 0 0 0 0 0 0 0 0 0 0 0 0 0 (-1) 0 0 0 0 0 0 0 0 0 0 0 0 0 0 0 0 0 0 0 0 0 (fun _ => 0) (fun _ => 0) (fun _ => 0) (fun _ => 0) (fun _ => 0) (fun _ => 0) (fun _ => 0) (fun _ => 0) (fun _ => 0) (fun _ => 0) (xs 1) o2 h2 H.size) (cwV 1 hts (gV tw1261 tw1262 tw1263 tw11 tw1264) rfl rfl rfl (by decide +kernel) ⟨Nat.le_of_ble_eq_true rfl, Nat.le_of_ble_eq_true rfl⟩) (ob_preV (q0 := 0) (ci := 11) hZ hK hP hD [0, 7, 2, 1, 3, 12, 9, 11, 8, 13, 10] rfl rfl rfl rfl rfl) rfl rfl hl.1 rfl (lv_room (Nat.le_of_ble_eq_true rfl)) dL_869 ⟨Nat.le_of_ble_eq_true rfl, Nat.le_of_ble_eq_true rfl⟩
  refine ob_calli (wc := (cw_M_look G a_m m6 m1 m0 m2 m11 m8 m10 m7 m12 m9 m3 m4 m5 m13 m14 m15 m16 m17 m18 m19 m20 m21 m22 m23 m24 m25 m26 m27 m28 m29 m30 0 0 0 0 0 0 0 0 0 0 0 0 0 (-1) 0 0 0 0 0 0 0 0 0 0 0 0 0 0 0 0 0 0 0 0 0 (fun _ => 0) (fun _ => 0) (fun _ => 0) (fun _ => 0) (fun _ => 0) (fun _ => 0) (fun _ => 0) (fun _ => 0) (fun _ => 0) (fun _ => 0))) (wc1 := (cw_M_look G a_m m6 m1 m0 m2 m11 m8 m10 m7 m12 m9 m3 m4 m5 m13 m14 m15 m16 m17 m18 m19 m20 m21 m22 m23 m24 m25 m26 m27 m28 m29 m30 0 0 0 0 0 0 0 0 0 0 0 0 0 (-1) 0 0 0 0 0 0 0 0 0 0 0 0 0 0 0 0 0 0 0 0 0 (fun _ => 0) (fun _ => 0) (fun _ => 0) (fun _ => 0) (fun _ => 0) (fun _ => 0) (fun _ => 0) (fun _ => 0) (fun _ => 0) (fun _ => 0))) (r := o2) hRun hP hD hA hS [0, 7, 2, 1, 3, 12, 9, 11, 8, 13, 10] rfl rfl rfl rfl (fun H locs hP hD hS => ?_)
  clear hRun
  refine lv_icmp_eq (tgt := 877) hx hb dL_872 (by decide) (fun _ => ?_) (fun hc => absurd he hc)
  exact tailN ls H locs _ _ (Nat.le_of_ble_eq_true rfl) (Nat.le_of_ble_eq_true rfl) (lv_sub hl [0, 3] rfl) hS
