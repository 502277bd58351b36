set_option maxHeartbeats 8000000 in
set_option maxRecDepth 100000 in
theorem law_20 {p : Program} {e : Env} {s : State} {m : MethodId} {below : List Frame} {meth : Method} {c : Code} {b L : Nat} {xs : Nat → Int32} {D : va_G} {G : Nat → ClassId} {A : Nat → Prop} {ax : AX} {am : AM} (l : Launch) (hx : p.tables.exec = Jvm.exec) (hb : c.code = code) (hml : c.maxLocals = 4) (hown : s.vm.findClass "ObjectBaseLaw" = some m.cls) (hts : ∀ w ∈ obW, w.before #[Value.ref b] s = true) (hZ : obZ s) (hK : va_K D vwCl (obT G) s) (hA : ∀ q, s.heap.size ≤ q → A q) (hX : va_X b L xs s s.heap) (hbl : b < s.heap.size) (hbA : ¬ A b) {i : Nat} (hi : i + 5 ≤ L) (hL : L ≤ 2560) {Q : State → Prop}
    (tailN : ∀ (u : CS) (xr : XR) (mr : MR) (ql : List QC) (ls : Array Slot) (H : Heap) (locs : List Loc) (cells slots : Nat), lInv u xr mr ql → cells = 59 + 9 * ql.length → slots = 7221 + 433 * ql.length → va_P D vwCl (lw_x G ax u xr ++ (lw_m G am u mr ++ lw_q G ql)) H → va_D A (lw_x G ax u xr ++ (lw_m G am u mr ++ lw_q G ql)) → va_S A s.heap H locs → lv_has ls 4 [(3, .int (nI i)), (2, .ref am.a), (1, .ref ax.a), (0, .ref b)] → W p l e room_1 s m #[Value.ref b] below meth c H locs cells slots Q (F0 m 876 ls []))
    {u : CS} {xr : XR} {mr : MR} {ql : List QC} {ls : Array Slot} {H : Heap} {locs : List Loc} {cells slots : Nat} (hI : lInv u xr mr ql) (hcl : cells = 59 + 9 * ql.length) (hsl : slots = 7221 + 433 * ql.length) (hP : va_P D vwCl (lw_x G ax u xr ++ (lw_m G am u mr ++ lw_q G ql)) H) (hD : va_D A (lw_x G ax u xr ++ (lw_m G am u mr ++ lw_q G ql))) (hS : va_S A s.heap H locs) (hl : lv_has ls 4 [(3, .int (nI i)), (2, .ref am.a), (1, .ref ax.a), (0, .ref b)]) :
    W p l e room_1 s m #[Value.ref b] below meth c H locs cells slots Q (F0 m 728 ls []) := by
  have hq13 : ql.length ≤ 13 := by have := hI.ql2; have := hI.qn; omega
  have hroom : cells + 0 ≤ room_1.cells ∧ slots + 0 ≤ room_1.slots := ⟨by show cells + 0 ≤ 600000; omega, by show slots + 0 ≤ 7302250; omega⟩
  refine lv_aload_n hx hb dL_728 rfl (lv_at hl 2 rfl) ?_
  refine lv_aload_n hx hb dL_729 rfl (lv_at hl 3 rfl) ?_
  refine lv_iload_n hx hb dL_730 rfl (lv_at hl 0 rfl) ?_
  refine lv_iconst (v := 1) hx hb dL_731 (by decide) ?_
  refine lv_iadd hx hb dL_732 ?_
  refine va_sld hx hb hX hbl hbA hS (lw_in hi hL (k := 1) (by decide)) dL_733 ?_
  refine lv_i2l hx hb dL_734 rfl ?_
  refine lv_bipush (v := 32) hx hb dL_735 (by decide) ?_
  refine lv_lshl hx hb dL_737 rfl ?_
  refine lv_aload_n hx hb dL_738 rfl (lv_at hl 3 rfl) ?_
  refine lv_iload_n hx hb dL_739 rfl (lv_at hl 0 rfl) ?_
  refine lv_iconst (v := 2) hx hb dL_740 (by decide) ?_
  refine lv_iadd hx hb dL_741 ?_
  refine va_sld hx hb hX hbl hbA hS (lw_in hi hL (k := 2) (by decide)) dL_742 ?_
  refine lv_i2l hx hb dL_743 rfl ?_
  refine lv_ldc2 (v := 4294967295) hx hb hown (hts _ tw1265) dL_744 ?_
  refine lv_land hx hb dL_747 ?_
  refine lv_lor hx hb dL_748 ?_
  obtain ⟨r, d1, ch1, h1, hd1, hd2⟩ := R_draft hI.dl hI.dc u.dn ((((xs ((nI i) + 1).toNatClampNeg).toInt64) <<< ((32 : Int32).toInt64 &&& 63)) ||| (((xs ((nI i) + 2).toNatClampNeg).toInt64) &&& 4294967295))
  obtain ⟨r2, d2, dr2, h2, hd3⟩ := Q_draft hI.dd mr.dr ((((xs ((nI i) + 1).toNatClampNeg).toInt64) <<< ((32 : Int32).toInt64 &&& 63)) ||| (((xs ((nI i) + 2).toNatClampNeg).toInt64) &&& 4294967295))
  have hRun := va_runV (R := room_1) (locs := locs) (H := H) (l := l) (e := e) (below := below) (meth := meth) (cells := cells) (slots := slots) (g := F0 m 749 ls [.long ((((xs ((nI i) + 1).toNatClampNeg).toInt64) <<< ((32 : Int32).toInt64 &&& 63)) ||| (((xs ((nI i) + 2).toNatClampNeg).toInt64) &&& 4294967295)), .ref ax.a]) (As := [.long ((((xs ((nI i) + 1).toNatClampNeg).toInt64) <<< ((32 : Int32).toInt64 &&& 63)) ||| (((xs ((nI i) + 2).toNatClampNeg).toInt64) &&& 4294967295))]) (rest := []) ⟨hx, hb, hml, hown, hts⟩ (c_OB_draft l D G ax.a ax.x8 ax.x18 ax.x19 ax.x0 ax.x5 ax.x9 ax.x13 ax.x20 ax.x21 ax.x23 ax.x25 (nI xr.qn) (nI u.mkd) u.bg xr.w u.ar xr.hf u.lg u.md u.dn (nI xr.dl) xr.dch ((((xs ((nI i) + 1).toNatClampNeg).toInt64) <<< ((32 : Int32).toInt64 &&& 63)) ||| (((xs ((nI i) + 2).toNatClampNeg).toInt64) &&& 4294967295)) (r, nI d1, ch1) h1 H.size) (cwV 1 hts (gV tw506 tw507 tw508 tw1 tw509) rfl rfl rfl (by decide +kernel) ⟨Nat.le_of_ble_eq_true rfl, Nat.le_of_ble_eq_true rfl⟩) (ob_preV (q0 := 0) (ci := 0) hZ hK hP hD [0, 9, 19, 20] rfl rfl rfl rfl rfl) rfl rfl hl.1 rfl (lv_room (Nat.le_of_ble_eq_true rfl)) dL_749 hroom
  refine ob_calli (wc := (cw_OB_draft G ax.a ax.x8 ax.x18 ax.x19 ax.x0 ax.x5 ax.x9 ax.x13 ax.x20 ax.x21 ax.x23 ax.x25 (nI xr.qn) (nI u.mkd) u.bg xr.w u.ar xr.hf u.lg u.md u.dn (nI xr.dl) xr.dch)) (wc1 := (cw_OB_draft G ax.a ax.x8 ax.x18 ax.x19 ax.x0 ax.x5 ax.x9 ax.x13 ax.x20 ax.x21 ax.x23 ax.x25 (nI xr.qn) (nI u.mkd) u.bg xr.w u.ar xr.hf u.lg u.md u.dn ((r, nI d1, ch1).2.1) ((r, nI d1, ch1).2.2))) (w2 := (lw_x G ax u ((XR.mk xr.w xr.hf xr.lm xr.ll xr.rp xr.rl xr.lf xr.lt d1 xr.qn ch1 xr.ixc xr.ixf xr.rs xr.jb xr.qs xr.rq xr.rx xr.jq)) ++ (lw_m G am u mr ++ lw_q G ql))) (r := (r, nI d1, ch1).1) hRun hP hD hA hS [0, 9, 19, 20] rfl rfl rfl rfl (fun H locs hP hD hS => ?_)
  clear hRun
  refine lv_pop hx hb dL_752 rfl ?_
  refine lv_aload_n hx hb dL_753 rfl (lv_at hl 1 rfl) ?_
  refine lv_aload_n hx hb dL_754 rfl (lv_at hl 3 rfl) ?_
  refine lv_iload_n hx hb dL_755 rfl (lv_at hl 0 rfl) ?_
  refine lv_iconst (v := 1) hx hb dL_756 (by decide) ?_
  refine lv_iadd hx hb dL_757 ?_
  refine va_sld hx hb hX hbl hbA hS (lw_in hi hL (k := 1) (by decide)) dL_758 ?_
  refine lv_i2l hx hb dL_759 rfl ?_
  refine lv_bipush (v := 32) hx hb dL_760 (by decide) ?_
  refine lv_lshl hx hb dL_762 rfl ?_
  refine lv_aload_n hx hb dL_763 rfl (lv_at hl 3 rfl) ?_
  refine lv_iload_n hx hb dL_764 rfl (lv_at hl 0 rfl) ?_
  refine lv_iconst (v := 2) hx hb dL_765 (by decide) ?_
  refine lv_iadd hx hb dL_766 ?_
  refine va_sld hx hb hX hbl hbA hS (lw_in hi hL (k := 2) (by decide)) dL_767 ?_
  refine lv_i2l hx hb dL_768 rfl ?_
  refine lv_ldc2 (v := 4294967295) hx hb hown (hts _ tw1265) dL_769 ?_
  refine lv_land hx hb dL_772 ?_
  refine lv_lor hx hb dL_773 ?_
  have hRun := va_runV (R := room_1) (locs := locs) (H := H) (l := l) (e := e) (below := below) (meth := meth) (cells := cells) (slots := slots) (g := F0 m 774 ls [.long ((((xs ((nI i) + 1).toNatClampNeg).toInt64) <<< ((32 : Int32).toInt64 &&& 63)) ||| (((xs ((nI i) + 2).toNatClampNeg).toInt64) &&& 4294967295)), .ref am.a]) (As := [.long ((((xs ((nI i) + 1).toNatClampNeg).toInt64) <<< ((32 : Int32).toInt64 &&& 63)) ||| (((xs ((nI i) + 2).toNatClampNeg).toInt64) &&& 4294967295))]) (rest := []) ⟨hx, hb, hml, hown, hts⟩ (c_M_draft l D G am.a am.m13 am.m0 am.m1 am.m2 am.m3 am.m4 am.m5 am.m6 am.m7 am.m8 am.m9 am.m10 am.m11 am.m12 am.m14 am.m15 am.m16 am.m17 am.m18 am.m19 am.m20 am.m21 am.m22 am.m23 am.m24 am.m25 am.m26 am.m27 am.m28 am.m29 am.m30 (nI u.cc) (nI u.fc) u.bg u.ix (nI u.mkd) u.sl mr.hf u.op u.kn u.fr u.ch u.rn u.dn u.ar mr.w u.lg u.md u.ls (nI mr.dd) (nI mr.qk) mr.nw mr.at_ mr.bad mr.ops_ mr.dp mr.am mr.tru mr.loo mr.vd mr.vl mr.set mr.lt (nI mr.fi) mr.tot mr.lk mr.dr ((((xs ((nI i) + 1).toNatClampNeg).toInt64) <<< ((32 : Int32).toInt64 &&& 63)) ||| (((xs ((nI i) + 2).toNatClampNeg).toInt64) &&& 4294967295)) (r2, nI d2, dr2) h2 H.size) (cwV 1 hts (gV tw1125 tw1126 tw1127 tw11 tw1128) rfl rfl rfl (by decide +kernel) ⟨Nat.le_of_ble_eq_true rfl, Nat.le_of_ble_eq_true rfl⟩) (ob_preV (q0 := 27) (ci := 11) hZ hK hP hD [27, 41] rfl rfl rfl rfl rfl) rfl rfl hl.1 rfl (lv_room (Nat.le_of_ble_eq_true rfl)) dL_774 hroom
  refine ob_calli (wc := (cw_M_draft G am.a am.m13 am.m0 am.m1 am.m2 am.m3 am.m4 am.m5 am.m6 am.m7 am.m8 am.m9 am.m10 am.m11 am.m12 am.m14 am.m15 am.m16 am.m17 am.m18 am.m19 am.m20 am.m21 am.m22 am.m23 am.m24 am.m25 am.m26 am.m27 am.m28 am.m29 am.m30 (nI u.cc) (nI u.fc) u.bg u.ix (nI u.mkd) u.sl mr.hf u.op u.kn u.fr u.ch u.rn u.dn u.ar mr.w u.lg u.md u.ls (nI mr.dd) (nI mr.qk) mr.nw mr.at_ mr.bad mr.ops_ mr.dp mr.am mr.tru mr.loo mr.vd mr.vl mr.set mr.lt (nI mr.fi) mr.tot mr.lk mr.dr)) (wc1 := (cw_M_draft G am.a am.m13 am.m0 am.m1 am.m2 am.m3 am.m4 am.m5 am.m6 am.m7 am.m8 am.m9 am.m10 am.m11 am.m12 am.m14 am.m15 am.m16 am.m17 am.m18 am.m19 am.m20 am.m21 am.m22 am.m23 am.m24 am.m25 am.m26 am.m27 am.m28 am.m29 am.m30 (nI u.cc) (nI u.fc) u.bg u.ix (nI u.mkd) u.sl mr.hf u.op u.kn u.fr u.ch u.rn u.dn u.ar mr.w u.lg u.md u.ls ((r2, nI d2, dr2).2.1) (nI mr.qk) mr.nw mr.at_ mr.bad mr.ops_ mr.dp mr.am mr.tru mr.loo mr.vd mr.vl mr.set mr.lt (nI mr.fi) mr.tot mr.lk ((r2, nI d2, dr2).2.2))) (w2 := (lw_x G ax u ((XR.mk xr.w xr.hf xr.lm xr.ll xr.rp xr.rl xr.lf xr.lt d1 xr.qn ch1 xr.ixc xr.ixf xr.rs xr.jb xr.qs xr.rq xr.rx xr.jq)) ++ (lw_m G am u ((MR.mk mr.hf mr.w mr.nw mr.at_ mr.bad mr.ops_ mr.dp mr.am mr.tru mr.loo mr.vd mr.vl mr.lt mr.lk mr.set mr.tot d2 mr.qk mr.fi mr.ixc mr.ixp dr2 mr.le mr.tx mr.cq mr.sp mr.st mr.wh mr.on mr.tw mr.opd mr.oat mr.sd mr.var mr.tr mr.la mr.lf mr.hits mr.rs)) ++ lw_q G ql))) (r := (r2, nI d2, dr2).1) hRun hP hD hA hS [27, 41] rfl rfl rfl rfl (fun H locs hP hD hS => ?_)
  clear hRun
  have hE : lInv u ((XR.mk xr.w xr.hf xr.lm xr.ll xr.rp xr.rl xr.lf xr.lt d1 xr.qn ch1 xr.ixc xr.ixf xr.rs xr.jb xr.qs xr.rq xr.rx xr.jq)) ((MR.mk mr.hf mr.w mr.nw mr.at_ mr.bad mr.ops_ mr.dp mr.am mr.tru mr.loo mr.vd mr.vl mr.lt mr.lk mr.set mr.tot d2 mr.qk mr.fi mr.ixc mr.ixp dr2 mr.le mr.tx mr.cq mr.sp mr.st mr.wh mr.on mr.tw mr.opd mr.oat mr.sd mr.var mr.tr mr.la mr.lf mr.hits mr.rs)) ql := ⟨hI.co, (hd1), (hd2), hI.qn, hI.ql1, hI.ql2, hI.qo, hI.qa, (hd3), hI.qk, hI.mq, hI.va, hI.fi⟩
  refine lv_pop hx hb dL_777 rfl ?_
  refine lv_goto (tgt := 876) hx hb dL_778 (by decide) ?_
  exact tailN _ _ _ ql ls H locs cells slots hE hcl hsl hP hD hS hl
