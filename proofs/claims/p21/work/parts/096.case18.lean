set_option maxHeartbeats 8000000 in
set_option maxRecDepth 100000 in
theorem law_18 {p : Program} {e : Env} {s : State} {m : MethodId} {below : List Frame} {meth : Method} {c : Code} {b L : Nat} {xs : Nat → Int32} {D : va_G} {G : Nat → ClassId} {A : Nat → Prop} {ax : AX} {am : AM} (l : Launch) (hx : p.tables.exec = Jvm.exec) (hb : c.code = code) (hml : c.maxLocals = 4) (hown : s.vm.findClass "ObjectBaseLaw" = some m.cls) (hts : ∀ w ∈ obW, w.before #[Value.ref b] s = true) (hZ : obZ s) (hK : va_K D vwCl (obT G) s) (hA : ∀ q, s.heap.size ≤ q → A q) (hX : va_X b L xs s s.heap) (hbl : b < s.heap.size) (hbA : ¬ A b) {i : Nat} (hi : i + 5 ≤ L) (hL : L ≤ 2560) {Q : State → Prop}
    (tailN : ∀ (u : CS) (xr : XR) (mr : MR) (ql : List QC) (ls : Array Slot) (H : Heap) (locs : List Loc) (cells slots : Nat), lInv u xr mr ql → cells = 59 + 9 * ql.length → slots = 7221 + 433 * ql.length → va_P D vwCl (lw_x G ax u xr ++ (lw_m G am u mr ++ lw_q G ql)) H → va_D A (lw_x G ax u xr ++ (lw_m G am u mr ++ lw_q G ql)) → va_S A s.heap H locs → lv_has ls 4 [(3, .int (nI i)), (2, .ref am.a), (1, .ref ax.a), (0, .ref b)] → W p l e room_1 s m #[Value.ref b] below meth c H locs cells slots Q (F0 m 876 ls []))
    {u : CS} {xr : XR} {mr : MR} {ql : List QC} {ls : Array Slot} {H : Heap} {locs : List Loc} {cells slots : Nat} (hI : lInv u xr mr ql) (hcl : cells = 59 + 9 * ql.length) (hsl : slots = 7221 + 433 * ql.length) (hP : va_P D vwCl (lw_x G ax u xr ++ (lw_m G am u mr ++ lw_q G ql)) H) (hD : va_D A (lw_x G ax u xr ++ (lw_m G am u mr ++ lw_q G ql))) (hS : va_S A s.heap H locs) (hl : lv_has ls 4 [(3, .int (nI i)), (2, .ref am.a), (1, .ref ax.a), (0, .ref b)]) :
    W p l e room_1 s m #[Value.ref b] below meth c H locs cells slots Q (F0 m 662 ls []) := by
  have hq13 : ql.length ≤ 13 := by have := hI.ql2; have := hI.qn; omega
  have hroom : cells + 0 ≤ room_1.cells ∧ slots + 0 ≤ room_1.slots := ⟨by show cells + 0 ≤ 600000; omega, by show slots + 0 ≤ 7302250; omega⟩
  refine lv_aload_n hx hb dL_662 rfl (lv_at hl 2 rfl) ?_
  refine lv_aload_n hx hb dL_663 rfl (lv_at hl 3 rfl) ?_
  refine lv_iload_n hx hb dL_664 rfl (lv_at hl 0 rfl) ?_
  refine lv_iconst (v := 1) hx hb dL_665 (by decide) ?_
  refine lv_iadd hx hb dL_666 ?_
  refine va_sld hx hb hX hbl hbA hS (lw_in hi hL (k := 1) (by decide)) dL_667 ?_
  refine lv_aload_n hx hb dL_668 rfl (lv_at hl 3 rfl) ?_
  refine lv_iload_n hx hb dL_669 rfl (lv_at hl 0 rfl) ?_
  refine lv_iconst (v := 2) hx hb dL_670 (by decide) ?_
  refine lv_iadd hx hb dL_671 ?_
  refine va_sld hx hb hX hbl hbA hS (lw_in hi hL (k := 2) (by decide)) dL_672 ?_
  refine lv_aload_n hx hb dL_673 rfl (lv_at hl 3 rfl) ?_
  refine lv_iload_n hx hb dL_674 rfl (lv_at hl 0 rfl) ?_
  refine lv_iconst (v := 3) hx hb dL_675 (by decide) ?_
  refine lv_iadd hx hb dL_676 ?_
  refine va_sld hx hb hX hbl hbA hS (lw_in hi hL (k := 3) (by decide)) dL_677 ?_
  obtain ⟨r, h1, h2⟩ := S_holds hI.co (xs ((nI i) + 1).toNatClampNeg) (xs ((nI i) + 2).toNatClampNeg) (xs ((nI i) + 3).toNatClampNeg)
  have hRun := va_runV (R := room_1) (locs := locs) (H := H) (l := l) (e := e) (below := below) (meth := meth) (cells := cells) (slots := slots) (g := F0 m 678 ls [.int (xs ((nI i) + 3).toNatClampNeg), .int (xs ((nI i) + 2).toNatClampNeg), .int (xs ((nI i) + 1).toNatClampNeg), .ref ax.a]) (As := [.int (xs ((nI i) + 1).toNatClampNeg), .int (xs ((nI i) + 2).toNatClampNeg), .int (xs ((nI i) + 3).toNatClampNeg)]) (rest := []) ⟨hx, hb, hml, hown, hts⟩ (c_OB_holds l D G ax.a ax.x8 ax.x13 ax.x9 ax.x10 ax.x0 ax.x1 ax.x2 ax.x3 ax.x11 ax.x14 ax.x15 ax.x16 ax.x5 ax.x18 ax.x20 ax.x21 ax.x23 ax.x25 ax.x12 ax.x4 ax.x17 (nI xr.qn) (nI u.mkd) u.bg xr.w u.ar xr.hf u.lg u.md u.dn u.kn u.ch u.rn u.op u.kc (nI u.cc) (nI u.fc) u.xab u.xow u.xkd u.kv u.ic u.iv (xs ((nI i) + 1).toNatClampNeg) (xs ((nI i) + 2).toNatClampNeg) (xs ((nI i) + 3).toNatClampNeg) r h1 H.size) (cwV 3 hts (gV tw498 tw499 tw500 tw1 tw501) rfl rfl rfl (by decide +kernel) ⟨Nat.le_of_ble_eq_true rfl, Nat.le_of_ble_eq_true rfl⟩) (ob_preV (q0 := 0) (ci := 0) hZ hK hP hD [0, 9, 14, 10, 11, 1, 2, 3, 4, 12, 15, 16, 17] rfl rfl rfl rfl rfl) rfl rfl hl.1 rfl (lv_room (Nat.le_of_ble_eq_true rfl)) dL_678 hroom
  refine ob_calli (wc := (cw_OB_holds G ax.a ax.x8 ax.x13 ax.x9 ax.x10 ax.x0 ax.x1 ax.x2 ax.x3 ax.x11 ax.x14 ax.x15 ax.x16 ax.x5 ax.x18 ax.x20 ax.x21 ax.x23 ax.x25 ax.x12 ax.x4 ax.x17 (nI xr.qn) (nI u.mkd) u.bg xr.w u.ar xr.hf u.lg u.md u.dn u.kn u.ch u.rn u.op u.kc (nI u.cc) (nI u.fc) u.xab u.xow u.xkd u.kv u.ic u.iv)) (wc1 := (cw_OB_holds G ax.a ax.x8 ax.x13 ax.x9 ax.x10 ax.x0 ax.x1 ax.x2 ax.x3 ax.x11 ax.x14 ax.x15 ax.x16 ax.x5 ax.x18 ax.x20 ax.x21 ax.x23 ax.x25 ax.x12 ax.x4 ax.x17 (nI xr.qn) (nI u.mkd) u.bg xr.w u.ar xr.hf u.lg u.md u.dn u.kn u.ch u.rn u.op u.kc (nI u.cc) (nI u.fc) u.xab u.xow u.xkd u.kv u.ic u.iv)) (w2 := (lw_x G ax u xr ++ (lw_m G am u mr ++ lw_q G ql))) (r := r) hRun hP hD hA hS [0, 9, 14, 10, 11, 1, 2, 3, 4, 12, 15, 16, 17] rfl rfl rfl (ob_put_og (wc := (cw_OB_holds G ax.a ax.x8 ax.x13 ax.x9 ax.x10 ax.x0 ax.x1 ax.x2 ax.x3 ax.x11 ax.x14 ax.x15 ax.x16 ax.x5 ax.x18 ax.x20 ax.x21 ax.x23 ax.x25 ax.x12 ax.x4 ax.x17 (nI xr.qn) (nI u.mkd) u.bg xr.w u.ar xr.hf u.lg u.md u.dn u.kn u.ch u.rn u.op u.kc (nI u.cc) (nI u.fc) u.xab u.xow u.xkd u.kv u.ic u.iv)) [0, 9, 14, 10, 11, 1, 2, 3, 4, 12, 15, 16, 17] [5, 6, 7, 8, 13, 18, 19, 20, 21, 22, 23, 24, 25, 26, 27, 28, 29, 30, 31, 32, 33, 34, 35, 36, 37, 38, 39, 40, 41, 42, 43, 44, 45, 46, 47, 48, 49, 50, 51, 52, 53, 54, 55, 56, 57, 58] 58 rfl rfl rfl rfl rfl rfl (by decide)) (fun H locs hP hD hS => ?_)
  clear hRun
  refine lv_pop hx hb dL_681 rfl ?_
  refine lv_aload_n hx hb dL_682 rfl (lv_at hl 1 rfl) ?_
  refine lv_aload_n hx hb dL_683 rfl (lv_at hl 3 rfl) ?_
  refine lv_iload_n hx hb dL_684 rfl (lv_at hl 0 rfl) ?_
  refine lv_iconst (v := 1) hx hb dL_685 (by decide) ?_
  refine lv_iadd hx hb dL_686 ?_
  refine va_sld hx hb hX hbl hbA hS (lw_in hi hL (k := 1) (by decide)) dL_687 ?_
  refine lv_aload_n hx hb dL_688 rfl (lv_at hl 3 rfl) ?_
  refine lv_iload_n hx hb dL_689 rfl (lv_at hl 0 rfl) ?_
  refine lv_iconst (v := 2) hx hb dL_690 (by decide) ?_
  refine lv_iadd hx hb dL_691 ?_
  refine va_sld hx hb hX hbl hbA hS (lw_in hi hL (k := 2) (by decide)) dL_692 ?_
  refine lv_aload_n hx hb dL_693 rfl (lv_at hl 3 rfl) ?_
  refine lv_iload_n hx hb dL_694 rfl (lv_at hl 0 rfl) ?_
  refine lv_iconst (v := 3) hx hb dL_695 (by decide) ?_
  refine lv_iadd hx hb dL_696 ?_
  refine va_sld hx hb hX hbl hbA hS (lw_in hi hL (k := 3) (by decide)) dL_697 ?_
  have hRun := va_runV (R := room_1) (locs := locs) (H := H) (l := l) (e := e) (below := below) (meth := meth) (cells := cells) (slots := slots) (g := F0 m 698 ls [.int (xs ((nI i) + 3).toNatClampNeg), .int (xs ((nI i) + 2).toNatClampNeg), .int (xs ((nI i) + 1).toNatClampNeg), .ref am.a]) (As := [.int (xs ((nI i) + 1).toNatClampNeg), .int (xs ((nI i) + 2).toNatClampNeg), .int (xs ((nI i) + 3).toNatClampNeg)]) (rest := []) ⟨hx, hb, hml, hown, hts⟩ (c_M_holds l D G am.a am.m6 am.m1 am.m0 am.m2 am.m11 am.m3 am.m4 am.m5 am.m7 am.m8 am.m9 am.m10 am.m12 am.m13 am.m14 am.m15 am.m16 am.m17 am.m18 am.m19 am.m20 am.m21 am.m22 am.m23 am.m24 am.m25 am.m26 am.m27 am.m28 am.m29 am.m30 (nI u.cc) (nI u.fc) u.bg u.ix (nI u.mkd) u.sl mr.hf u.op u.kn u.fr u.ch u.rn u.dn u.ar mr.w u.lg u.md u.ls (nI mr.dd) (nI mr.qk) mr.nw mr.at_ mr.bad mr.ops_ mr.dp mr.am mr.tru mr.loo mr.vd mr.vl mr.set mr.lt (nI mr.fi) mr.tot mr.lk u.c1 u.mow u.mpr u.mso u.S (xs ((nI i) + 1).toNatClampNeg) (xs ((nI i) + 2).toNatClampNeg) (xs ((nI i) + 3).toNatClampNeg) r h2 H.size) (cwV 3 hts (gV tw1117 tw1118 tw1119 tw11 tw1120) rfl rfl rfl (by decide +kernel) ⟨Nat.le_of_ble_eq_true rfl, Nat.le_of_ble_eq_true rfl⟩) (ob_preV (q0 := 27) (ci := 11) hZ hK hP hD [27, 34, 29, 28, 30, 39] rfl rfl rfl rfl rfl) rfl rfl hl.1 rfl (lv_room (Nat.le_of_ble_eq_true rfl)) dL_698 hroom
  refine ob_calli (wc := (cw_M_holds G am.a am.m6 am.m1 am.m0 am.m2 am.m11 am.m3 am.m4 am.m5 am.m7 am.m8 am.m9 am.m10 am.m12 am.m13 am.m14 am.m15 am.m16 am.m17 am.m18 am.m19 am.m20 am.m21 am.m22 am.m23 am.m24 am.m25 am.m26 am.m27 am.m28 am.m29 am.m30 (nI u.cc) (nI u.fc) u.bg u.ix (nI u.mkd) u.sl mr.hf u.op u.kn u.fr u.ch u.rn u.dn u.ar mr.w u.lg u.md u.ls (nI mr.dd) (nI mr.qk) mr.nw mr.at_ mr.bad mr.ops_ mr.dp mr.am mr.tru mr.loo mr.vd mr.vl mr.set mr.lt (nI mr.fi) mr.tot mr.lk u.c1 u.mow u.mpr u.mso u.S)) (wc1 := (cw_M_holds G am.a am.m6 am.m1 am.m0 am.m2 am.m11 am.m3 am.m4 am.m5 am.m7 am.m8 am.m9 am.m10 am.m12 am.m13 am.m14 am.m15 am.m16 am.m17 am.m18 am.m19 am.m20 am.m21 am.m22 am.m23 am.m24 am.m25 am.m26 am.m27 am.m28 am.m29 am.m30 (nI u.cc) (nI u.fc) u.bg u.ix (nI u.mkd) u.sl mr.hf u.op u.kn u.fr u.ch u.rn u.dn u.ar mr.w u.lg u.md u.ls (nI mr.dd) (nI mr.qk) mr.nw mr.at_ mr.bad mr.ops_ mr.dp mr.am mr.tru mr.loo mr.vd mr.vl mr.set mr.lt (nI mr.fi) mr.tot mr.lk u.c1 u.mow u.mpr u.mso u.S)) (w2 := (lw_x G ax u xr ++ (lw_m G am u mr ++ lw_q G ql))) (r := r) hRun hP hD hA hS [27, 34, 29, 28, 30, 39] rfl rfl rfl rfl (fun H locs hP hD hS => ?_)
  clear hRun
  have hE : lInv u xr mr ql := hI
  refine lv_pop hx hb dL_701 rfl ?_
  refine lv_goto (tgt := 876) hx hb dL_702 (by decide) ?_
  exact tailN _ _ _ ql ls H locs cells slots hE hcl hsl hP hD hS hl
