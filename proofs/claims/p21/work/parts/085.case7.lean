set_option maxHeartbeats 8000000 in
set_option maxRecDepth 100000 in
theorem law_7 {p : Program} {e : Env} {s : State} {m : MethodId} {below : List Frame} {meth : Method} {c : Code} {b L : Nat} {xs : Nat → Int32} {D : va_G} {G : Nat → ClassId} {A : Nat → Prop} {ax : AX} {am : AM} (l : Launch) (hx : p.tables.exec = Jvm.exec) (hb : c.code = code) (hml : c.maxLocals = 4) (hown : s.vm.findClass "ObjectBaseLaw" = some m.cls) (hts : ∀ w ∈ obW, w.before #[Value.ref b] s = true) (hZ : obZ s) (hK : va_K D vwCl (obT G) s) (hA : ∀ q, s.heap.size ≤ q → A q) (hX : va_X b L xs s s.heap) (hbl : b < s.heap.size) (hbA : ¬ A b) {i : Nat} (hi : i + 5 ≤ L) (hL : L ≤ 2560) {Q : State → Prop}
    (tailN : ∀ (u : CS) (xr : XR) (mr : MR) (ql : List QC) (ls : Array Slot) (H : Heap) (locs : List Loc) (cells slots : Nat), lInv u xr mr ql → cells = 59 + 9 * ql.length → slots = 7221 + 433 * ql.length → va_P D vwCl (lw_x G ax u xr ++ (lw_m G am u mr ++ lw_q G ql)) H → va_D A (lw_x G ax u xr ++ (lw_m G am u mr ++ lw_q G ql)) → va_S A s.heap H locs → lv_has ls 4 [(3, .int (nI i)), (2, .ref am.a), (1, .ref ax.a), (0, .ref b)] → W p l e room_1 s m #[Value.ref b] below meth c H locs cells slots Q (F0 m 876 ls []))
    {u : CS} {xr : XR} {mr : MR} {ql : List QC} {ls : Array Slot} {H : Heap} {locs : List Loc} {cells slots : Nat} (hI : lInv u xr mr ql) (hcl : cells = 59 + 9 * ql.length) (hsl : slots = 7221 + 433 * ql.length) (hP : va_P D vwCl (lw_x G ax u xr ++ (lw_m G am u mr ++ lw_q G ql)) H) (hD : va_D A (lw_x G ax u xr ++ (lw_m G am u mr ++ lw_q G ql))) (hS : va_S A s.heap H locs) (hl : lv_has ls 4 [(3, .int (nI i)), (2, .ref am.a), (1, .ref ax.a), (0, .ref b)]) :
    W p l e room_1 s m #[Value.ref b] below meth c H locs cells slots Q (F0 m 393 ls []) := by
  have hq13 : ql.length ≤ 13 := by have := hI.ql2; have := hI.qn; omega
  have hroom : cells + 0 ≤ room_1.cells ∧ slots + 0 ≤ room_1.slots := ⟨by show cells + 0 ≤ 600000; omega, by show slots + 0 ≤ 7302250; omega⟩
  refine lv_aload_n hx hb dL_393 rfl (lv_at hl 2 rfl) ?_
  refine lv_aload_n hx hb dL_394 rfl (lv_at hl 3 rfl) ?_
  refine lv_iload_n hx hb dL_395 rfl (lv_at hl 0 rfl) ?_
  refine lv_iconst (v := 1) hx hb dL_396 (by decide) ?_
  refine lv_iadd hx hb dL_397 ?_
  refine va_sld hx hb hX hbl hbA hS (lw_in hi hL (k := 1) (by decide)) dL_398 ?_
  refine lv_aload_n hx hb dL_399 rfl (lv_at hl 3 rfl) ?_
  refine lv_iload_n hx hb dL_400 rfl (lv_at hl 0 rfl) ?_
  refine lv_iconst (v := 2) hx hb dL_401 (by decide) ?_
  refine lv_iadd hx hb dL_402 ?_
  refine va_sld hx hb hX hbl hbA hS (lw_in hi hL (k := 2) (by decide)) dL_403 ?_
  refine lv_aload_n hx hb dL_404 rfl (lv_at hl 3 rfl) ?_
  refine lv_iload_n hx hb dL_405 rfl (lv_at hl 0 rfl) ?_
  refine lv_iconst (v := 3) hx hb dL_406 (by decide) ?_
  refine lv_iadd hx hb dL_407 ?_
  refine va_sld hx hb hX hbl hbA hS (lw_in hi hL (k := 3) (by decide)) dL_408 ?_
  refine lv_aload_n hx hb dL_409 rfl (lv_at hl 3 rfl) ?_
  refine lv_iload_n hx hb dL_410 rfl (lv_at hl 0 rfl) ?_
  refine lv_iconst (v := 4) hx hb dL_411 (by decide) ?_
  refine lv_iadd hx hb dL_412 ?_
  refine va_sld hx hb hX hbl hbA hS (lw_in hi hL (k := 4) (by decide)) dL_413 ?_
  refine lv_if_eq (tgt := 421) hx hb dL_414 (by decide) (fun hk => ?_) (fun hk => ?_)
  · skip
    refine lv_iconst (v := 0) hx hb dL_421 (by decide) ?_
    obtain ⟨r, ch, iv, S, h1, h2, hc⟩ := S_join hI.co (xs ((nI i) + 1).toNatClampNeg) (xs ((nI i) + 2).toNatClampNeg) (xs ((nI i) + 3).toNatClampNeg) 0
    have hRun := va_runV (R := room_1) (locs := locs) (H := H) (l := l) (e := e) (below := below) (meth := meth) (cells := cells) (slots := slots) (g := F0 m 422 ls [.int 0, .int (xs ((nI i) + 3).toNatClampNeg), .int (xs ((nI i) + 2).toNatClampNeg), .int (xs ((nI i) + 1).toNatClampNeg), .ref ax.a]) (As := [.int (xs ((nI i) + 1).toNatClampNeg), .int (xs ((nI i) + 2).toNatClampNeg), .int (xs ((nI i) + 3).toNatClampNeg), .int 0]) (rest := []) ⟨hx, hb, hml, hown, hts⟩ (c_OB_join l D G ax.a ax.x13 ax.x0 ax.x14 ax.x8 ax.x15 ax.x1 ax.x2 ax.x3 ax.x4 ax.x16 ax.x5 ax.x9 ax.x18 ax.x20 ax.x21 ax.x23 ax.x25 ax.x17 (nI xr.qn) (nI u.mkd) u.bg u.kn u.ch u.rn u.op (nI u.cc) (nI u.fc) xr.w u.ar xr.hf u.lg u.md u.dn u.ic u.xab u.xow u.xkd u.xtg u.iv (xs ((nI i) + 1).toNatClampNeg) (xs ((nI i) + 2).toNatClampNeg) (xs ((nI i) + 3).toNatClampNeg) 0 (r, ch, iv) h1 H.size) (cwV 4 hts (gV tw385 tw386 tw387 tw1 tw388) rfl rfl rfl (by decide +kernel) ⟨Nat.le_of_ble_eq_true rfl, Nat.le_of_ble_eq_true rfl⟩) (ob_preV (q0 := 0) (ci := 0) hZ hK hP hD [0, 14, 1, 15, 9, 16, 2, 3, 4, 5, 17] rfl rfl rfl rfl rfl) rfl rfl hl.1 rfl (lv_room (Nat.le_of_ble_eq_true rfl)) dL_422 hroom
    refine ob_calli (wc := (cw_OB_join G ax.a ax.x13 ax.x0 ax.x14 ax.x8 ax.x15 ax.x1 ax.x2 ax.x3 ax.x4 ax.x16 ax.x5 ax.x9 ax.x18 ax.x20 ax.x21 ax.x23 ax.x25 ax.x17 (nI xr.qn) (nI u.mkd) u.bg u.kn u.ch u.rn u.op (nI u.cc) (nI u.fc) xr.w u.ar xr.hf u.lg u.md u.dn u.ic u.xab u.xow u.xkd u.xtg u.iv)) (wc1 := (cw_OB_join G ax.a ax.x13 ax.x0 ax.x14 ax.x8 ax.x15 ax.x1 ax.x2 ax.x3 ax.x4 ax.x16 ax.x5 ax.x9 ax.x18 ax.x20 ax.x21 ax.x23 ax.x25 ax.x17 (nI xr.qn) (nI u.mkd) u.bg u.kn ((r, ch, iv).2.1) u.rn u.op (nI u.cc) (nI u.fc) xr.w u.ar xr.hf u.lg u.md u.dn u.ic u.xab u.xow u.xkd u.xtg ((r, ch, iv).2.2))) (w2 := (lw_x G ax ((CS.mk u.bg u.dn u.op u.ar u.rn u.lg u.md u.ix u.ls u.kn ch u.sl u.fr u.cc u.fc u.mkd u.par u.own u.aim u.ab u.cl u.xab u.xow u.xkd u.xtg u.kc u.kn_ u.ic u.in_ u.mpr u.mow u.mso u.mai u.c1 u.dV u.dN u.V u.N u.kv iv u.dS S)) xr ++ (lw_m G am u mr ++ lw_q G ql))) (r := (r, ch, iv).1) hRun hP hD hA hS [0, 14, 1, 15, 9, 16, 2, 3, 4, 5, 17] rfl rfl rfl rfl (fun H locs hP hD hS => ?_)
    clear hRun
    refine lv_pop hx hb dL_425 rfl ?_
    refine lv_aload_n hx hb dL_426 rfl (lv_at hl 1 rfl) ?_
    refine lv_aload_n hx hb dL_427 rfl (lv_at hl 3 rfl) ?_
    refine lv_iload_n hx hb dL_428 rfl (lv_at hl 0 rfl) ?_
    refine lv_iconst (v := 1) hx hb dL_429 (by decide) ?_
    refine lv_iadd hx hb dL_430 ?_
    refine va_sld hx hb hX hbl hbA hS (lw_in hi hL (k := 1) (by decide)) dL_431 ?_
    refine lv_aload_n hx hb dL_432 rfl (lv_at hl 3 rfl) ?_
    refine lv_iload_n hx hb dL_433 rfl (lv_at hl 0 rfl) ?_
    refine lv_iconst (v := 2) hx hb dL_434 (by decide) ?_
    refine lv_iadd hx hb dL_435 ?_
    refine va_sld hx hb hX hbl hbA hS (lw_in hi hL (k := 2) (by decide)) dL_436 ?_
    refine lv_aload_n hx hb dL_437 rfl (lv_at hl 3 rfl) ?_
    refine lv_iload_n hx hb dL_438 rfl (lv_at hl 0 rfl) ?_
    refine lv_iconst (v := 3) hx hb dL_439 (by decide) ?_
    refine lv_iadd hx hb dL_440 ?_
    refine va_sld hx hb hX hbl hbA hS (lw_in hi hL (k := 3) (by decide)) dL_441 ?_
    refine lv_aload_n hx hb dL_442 rfl (lv_at hl 3 rfl) ?_
    refine lv_iload_n hx hb dL_443 rfl (lv_at hl 0 rfl) ?_
    refine lv_iconst (v := 4) hx hb dL_444 (by decide) ?_
    refine lv_iadd hx hb dL_445 ?_
    refine va_sld hx hb hX hbl hbA hS (lw_in hi hL (k := 4) (by decide)) dL_446 ?_
    refine lv_if_eq (tgt := 454) hx hb dL_447 (by decide) (fun _ => ?_) (fun h => absurd hk h)
    refine lv_iconst (v := 0) hx hb dL_454 (by decide) ?_
    have hRun := va_runV (R := room_1) (locs := locs) (H := H) (l := l) (e := e) (below := below) (meth := meth) (cells := cells) (slots := slots) (g := F0 m 455 ls [.int 0, .int (xs ((nI i) + 3).toNatClampNeg), .int (xs ((nI i) + 2).toNatClampNeg), .int (xs ((nI i) + 1).toNatClampNeg), .ref am.a]) (As := [.int (xs ((nI i) + 1).toNatClampNeg), .int (xs ((nI i) + 2).toNatClampNeg), .int (xs ((nI i) + 3).toNatClampNeg), .int 0]) (rest := []) ⟨hx, hb, hml, hown, hts⟩ (c_M_join l D G am.a am.m6 am.m1 am.m0 am.m2 am.m3 am.m11 am.m4 am.m5 am.m7 am.m8 am.m9 am.m10 am.m12 am.m13 am.m14 am.m15 am.m16 am.m17 am.m18 am.m19 am.m20 am.m21 am.m22 am.m23 am.m24 am.m25 am.m26 am.m27 am.m28 am.m29 am.m30 (nI u.cc) (nI u.fc) u.bg u.ix (nI u.mkd) u.sl mr.hf u.op u.kn u.fr u.ch u.rn u.dn u.ar mr.w u.lg u.md u.ls (nI mr.dd) (nI mr.qk) mr.nw mr.at_ mr.bad mr.ops_ mr.dp mr.am mr.tru mr.loo mr.vd mr.vl mr.set mr.lt (nI mr.fi) mr.tot mr.lk u.c1 u.mow u.mpr u.mso u.mai u.S (xs ((nI i) + 1).toNatClampNeg) (xs ((nI i) + 2).toNatClampNeg) (xs ((nI i) + 3).toNatClampNeg) 0 (r, ch, S) h2 H.size) (cwV 4 hts (gV tw1049 tw1050 tw1051 tw11 tw1052) rfl rfl rfl (by decide +kernel) ⟨Nat.le_of_ble_eq_true rfl, Nat.le_of_ble_eq_true rfl⟩) (ob_preV (q0 := 27) (ci := 11) hZ hK hP hD [27, 34, 29, 28, 30, 31, 39] rfl rfl rfl rfl rfl) rfl rfl hl.1 rfl (lv_room (Nat.le_of_ble_eq_true rfl)) dL_455 hroom
    refine ob_calli (wc := (cw_M_join G am.a am.m6 am.m1 am.m0 am.m2 am.m3 am.m11 am.m4 am.m5 am.m7 am.m8 am.m9 am.m10 am.m12 am.m13 am.m14 am.m15 am.m16 am.m17 am.m18 am.m19 am.m20 am.m21 am.m22 am.m23 am.m24 am.m25 am.m26 am.m27 am.m28 am.m29 am.m30 (nI u.cc) (nI u.fc) u.bg u.ix (nI u.mkd) u.sl mr.hf u.op u.kn u.fr u.ch u.rn u.dn u.ar mr.w u.lg u.md u.ls (nI mr.dd) (nI mr.qk) mr.nw mr.at_ mr.bad mr.ops_ mr.dp mr.am mr.tru mr.loo mr.vd mr.vl mr.set mr.lt (nI mr.fi) mr.tot mr.lk u.c1 u.mow u.mpr u.mso u.mai u.S)) (wc1 := (cw_M_join G am.a am.m6 am.m1 am.m0 am.m2 am.m3 am.m11 am.m4 am.m5 am.m7 am.m8 am.m9 am.m10 am.m12 am.m13 am.m14 am.m15 am.m16 am.m17 am.m18 am.m19 am.m20 am.m21 am.m22 am.m23 am.m24 am.m25 am.m26 am.m27 am.m28 am.m29 am.m30 (nI u.cc) (nI u.fc) u.bg u.ix (nI u.mkd) u.sl mr.hf u.op u.kn u.fr ((r, ch, S).2.1) u.rn u.dn u.ar mr.w u.lg u.md u.ls (nI mr.dd) (nI mr.qk) mr.nw mr.at_ mr.bad mr.ops_ mr.dp mr.am mr.tru mr.loo mr.vd mr.vl mr.set mr.lt (nI mr.fi) mr.tot mr.lk u.c1 u.mow u.mpr u.mso u.mai ((r, ch, S).2.2))) (w2 := (lw_x G ax ((CS.mk u.bg u.dn u.op u.ar u.rn u.lg u.md u.ix u.ls u.kn ch u.sl u.fr u.cc u.fc u.mkd u.par u.own u.aim u.ab u.cl u.xab u.xow u.xkd u.xtg u.kc u.kn_ u.ic u.in_ u.mpr u.mow u.mso u.mai u.c1 u.dV u.dN u.V u.N u.kv iv u.dS S)) xr ++ (lw_m G am ((CS.mk u.bg u.dn u.op u.ar u.rn u.lg u.md u.ix u.ls u.kn ch u.sl u.fr u.cc u.fc u.mkd u.par u.own u.aim u.ab u.cl u.xab u.xow u.xkd u.xtg u.kc u.kn_ u.ic u.in_ u.mpr u.mow u.mso u.mai u.c1 u.dV u.dN u.V u.N u.kv iv u.dS S)) mr ++ lw_q G ql))) (r := (r, ch, S).1) hRun hP hD hA hS [27, 34, 29, 28, 30, 31, 39] rfl rfl rfl rfl (fun H locs hP hD hS => ?_)
    clear hRun
    have hE : lInv ((CS.mk u.bg u.dn u.op u.ar u.rn u.lg u.md u.ix u.ls u.kn ch u.sl u.fr u.cc u.fc u.mkd u.par u.own u.aim u.ab u.cl u.xab u.xow u.xkd u.xtg u.kc u.kn_ u.ic u.in_ u.mpr u.mow u.mso u.mai u.c1 u.dV u.dN u.V u.N u.kv iv u.dS S)) xr mr ql := lInv_core hI hc (Nat.le_refl _)
    refine lv_pop hx hb dL_458 rfl ?_
    refine lv_goto (tgt := 876) hx hb dL_459 (by decide) ?_
    exact tailN _ _ _ ql ls H locs cells slots hE hcl hsl hP hD hS hl
  · skip
    refine lv_iconst (v := 1) hx hb dL_417 (by decide) ?_
    refine lv_goto (tgt := 422) hx hb dL_418 (by decide) ?_
    obtain ⟨r, ch, iv, S, h1, h2, hc⟩ := S_join hI.co (xs ((nI i) + 1).toNatClampNeg) (xs ((nI i) + 2).toNatClampNeg) (xs ((nI i) + 3).toNatClampNeg) 1
    have hRun := va_runV (R := room_1) (locs := locs) (H := H) (l := l) (e := e) (below := below) (meth := meth) (cells := cells) (slots := slots) (g := F0 m 422 ls [.int 1, .int (xs ((nI i) + 3).toNatClampNeg), .int (xs ((nI i) + 2).toNatClampNeg), .int (xs ((nI i) + 1).toNatClampNeg), .ref ax.a]) (As := [.int (xs ((nI i) + 1).toNatClampNeg), .int (xs ((nI i) + 2).toNatClampNeg), .int (xs ((nI i) + 3).toNatClampNeg), .int 1]) (rest := []) ⟨hx, hb, hml, hown, hts⟩ (c_OB_join l D G ax.a ax.x13 ax.x0 ax.x14 ax.x8 ax.x15 ax.x1 ax.x2 ax.x3 ax.x4 ax.x16 ax.x5 ax.x9 ax.x18 ax.x20 ax.x21 ax.x23 ax.x25 ax.x17 (nI xr.qn) (nI u.mkd) u.bg u.kn u.ch u.rn u.op (nI u.cc) (nI u.fc) xr.w u.ar xr.hf u.lg u.md u.dn u.ic u.xab u.xow u.xkd u.xtg u.iv (xs ((nI i) + 1).toNatClampNeg) (xs ((nI i) + 2).toNatClampNeg) (xs ((nI i) + 3).toNatClampNeg) 1 (r, ch, iv) h1 H.size) (cwV 4 hts (gV tw385 tw386 tw387 tw1 tw388) rfl rfl rfl (by decide +kernel) ⟨Nat.le_of_ble_eq_true rfl, Nat.le_of_ble_eq_true rfl⟩) (ob_preV (q0 := 0) (ci := 0) hZ hK hP hD [0, 14, 1, 15, 9, 16, 2, 3, 4, 5, 17] rfl rfl rfl rfl rfl) rfl rfl hl.1 rfl (lv_room (Nat.le_of_ble_eq_true rfl)) dL_422 hroom
    refine ob_calli (wc := (cw_OB_join G ax.a ax.x13 ax.x0 ax.x14 ax.x8 ax.x15 ax.x1 ax.x2 ax.x3 ax.x4 ax.x16 ax.x5 ax.x9 ax.x18 ax.x20 ax.x21 ax.x23 ax.x25 ax.x17 (nI xr.qn) (nI u.mkd) u.bg u.kn u.ch u.rn u.op (nI u.cc) (nI u.fc) xr.w u.ar xr.hf u.lg u.md u.dn u.ic u.xab u.xow u.xkd u.xtg u.iv)) (wc1 := (cw_OB_join G ax.a ax.x13 ax.x0 ax.x14 ax.x8 ax.x15 ax.x1 ax.x2 ax.x3 ax.x4 ax.x16 ax.x5 ax.x9 ax.x18 ax.x20 ax.x21 ax.x23 ax.x25 ax.x17 (nI xr.qn) (nI u.mkd) u.bg u.kn ((r, ch, iv).2.1) u.rn u.op (nI u.cc) (nI u.fc) xr.w u.ar xr.hf u.lg u.md u.dn u.ic u.xab u.xow u.xkd u.xtg ((r, ch, iv).2.2))) (w2 := (lw_x G ax ((CS.mk u.bg u.dn u.op u.ar u.rn u.lg u.md u.ix u.ls u.kn ch u.sl u.fr u.cc u.fc u.mkd u.par u.own u.aim u.ab u.cl u.xab u.xow u.xkd u.xtg u.kc u.kn_ u.ic u.in_ u.mpr u.mow u.mso u.mai u.c1 u.dV u.dN u.V u.N u.kv iv u.dS S)) xr ++ (lw_m G am u mr ++ lw_q G ql))) (r := (r, ch, iv).1) hRun hP hD hA hS [0, 14, 1, 15, 9, 16, 2, 3, 4, 5, 17] rfl rfl rfl rfl (fun H locs hP hD hS => ?_)
    clear hRun
    refine lv_pop hx hb dL_425 rfl ?_
    refine lv_aload_n hx hb dL_426 rfl (lv_at hl 1 rfl) ?_
    refine lv_aload_n hx hb dL_427 rfl (lv_at hl 3 rfl) ?_
    refine lv_iload_n hx hb dL_428 rfl (lv_at hl 0 rfl) ?_
    refine lv_iconst (v := 1) hx hb dL_429 (by decide) ?_
    refine lv_iadd hx hb dL_430 ?_
    refine va_sld hx hb hX hbl hbA hS (lw_in hi hL (k := 1) (by decide)) dL_431 ?_
    refine lv_aload_n hx hb dL_432 rfl (lv_at hl 3 rfl) ?_
    refine lv_iload_n hx hb dL_433 rfl (lv_at hl 0 rfl) ?_
    refine lv_iconst (v := 2) hx hb dL_434 (by decide) ?_
    refine lv_iadd hx hb dL_435 ?_
    refine va_sld hx hb hX hbl hbA hS (lw_in hi hL (k := 2) (by decide)) dL_436 ?_
    refine lv_aload_n hx hb dL_437 rfl (lv_at hl 3 rfl) ?_
    refine lv_iload_n hx hb dL_438 rfl (lv_at hl 0 rfl) ?_
    refine lv_iconst (v := 3) hx hb dL_439 (by decide) ?_
    refine lv_iadd hx hb dL_440 ?_
    refine va_sld hx hb hX hbl hbA hS (lw_in hi hL (k := 3) (by decide)) dL_441 ?_
    refine lv_aload_n hx hb dL_442 rfl (lv_at hl 3 rfl) ?_
    refine lv_iload_n hx hb dL_443 rfl (lv_at hl 0 rfl) ?_
    refine lv_iconst (v := 4) hx hb dL_444 (by decide) ?_
    refine lv_iadd hx hb dL_445 ?_
    refine va_sld hx hb hX hbl hbA hS (lw_in hi hL (k := 4) (by decide)) dL_446 ?_
    refine lv_if_eq (tgt := 454) hx hb dL_447 (by decide) (fun h => absurd h hk) (fun _ => ?_)
    refine lv_iconst (v := 1) hx hb dL_450 (by decide) ?_
    refine lv_goto (tgt := 455) hx hb dL_451 (by decide) ?_
    have hRun := va_runV (R := room_1) (locs := locs) (H := H) (l := l) (e := e) (below := below) (meth := meth) (cells := cells) (slots := slots) (g := F0 m 455 ls [.int 1, .int (xs ((nI i) + 3).toNatClampNeg), .int (xs ((nI i) + 2).toNatClampNeg), .int (xs ((nI i) + 1).toNatClampNeg), .ref am.a]) (As := [.int (xs ((nI i) + 1).toNatClampNeg), .int (xs ((nI i) + 2).toNatClampNeg), .int (xs ((nI i) + 3).toNatClampNeg), .int 1]) (rest := []) ⟨hx, hb, hml, hown, hts⟩ (c_M_join l D G am.a am.m6 am.m1 am.m0 am.m2 am.m3 am.m11 am.m4 am.m5 am.m7 am.m8 am.m9 am.m10 am.m12 am.m13 am.m14 am.m15 am.m16 am.m17 am.m18 am.m19 am.m20 am.m21 am.m22 am.m23 am.m24 am.m25 am.m26 am.m27 am.m28 am.m29 am.m30 (nI u.cc) (nI u.fc) u.bg u.ix (nI u.mkd) u.sl mr.hf u.op u.kn u.fr u.ch u.rn u.dn u.ar mr.w u.lg u.md u.ls (nI mr.dd) (nI mr.qk) mr.nw mr.at_ mr.bad mr.ops_ mr.dp mr.am mr.tru mr.loo mr.vd mr.vl mr.set mr.lt (nI mr.fi) mr.tot mr.lk u.c1 u.mow u.mpr u.mso u.mai u.S (xs ((nI i) + 1).toNatClampNeg) (xs ((nI i) + 2).toNatClampNeg) (xs ((nI i) + 3).toNatClampNeg) 1 (r, ch, S) h2 H.size) (cwV 4 hts (gV tw1049 tw1050 tw1051 tw11 tw1052) rfl rfl rfl (by decide +kernel) ⟨Nat.le_of_ble_eq_true rfl, Nat.le_of_ble_eq_true rfl⟩) (ob_preV (q0 := 27) (ci := 11) hZ hK hP hD [27, 34, 29, 28, 30, 31, 39] rfl rfl rfl rfl rfl) rfl rfl hl.1 rfl (lv_room (Nat.le_of_ble_eq_true rfl)) dL_455 hroom
    refine ob_calli (wc := (cw_M_join G am.a am.m6 am.m1 am.m0 am.m2 am.m3 am.m11 am.m4 am.m5 am.m7 am.m8 am.m9 am.m10 am.m12 am.m13 am.m14 am.m15 am.m16 am.m17 am.m18 am.m19 am.m20 am.m21 am.m22 am.m23 am.m24 am.m25 am.m26 am.m27 am.m28 am.m29 am.m30 (nI u.cc) (nI u.fc) u.bg u.ix (nI u.mkd) u.sl mr.hf u.op u.kn u.fr u.ch u.rn u.dn u.ar mr.w u.lg u.md u.ls (nI mr.dd) (nI mr.qk) mr.nw mr.at_ mr.bad mr.ops_ mr.dp mr.am mr.tru mr.loo mr.vd mr.vl mr.set mr.lt (nI mr.fi) mr.tot mr.lk u.c1 u.mow u.mpr u.mso u.mai u.S)) (wc1 := (cw_M_join G am.a am.m6 am.m1 am.m0 am.m2 am.m3 am.m11 am.m4 am.m5 am.m7 am.m8 am.m9 am.m10 am.m12 am.m13 am.m14 am.m15 am.m16 am.m17 am.m18 am.m19 am.m20 am.m21 am.m22 am.m23 am.m24 am.m25 am.m26 am.m27 am.m28 am.m29 am.m30 (nI u.cc) (nI u.fc) u.bg u.ix (nI u.mkd) u.sl mr.hf u.op u.kn u.fr ((r, ch, S).2.1) u.rn u.dn u.ar mr.w u.lg u.md u.ls (nI mr.dd) (nI mr.qk) mr.nw mr.at_ mr.bad mr.ops_ mr.dp mr.am mr.tru mr.loo mr.vd mr.vl mr.set mr.lt (nI mr.fi) mr.tot mr.lk u.c1 u.mow u.mpr u.mso u.mai ((r, ch, S).2.2))) (w2 := (lw_x G ax ((CS.mk u.bg u.dn u.op u.ar u.rn u.lg u.md u.ix u.ls u.kn ch u.sl u.fr u.cc u.fc u.mkd u.par u.own u.aim u.ab u.cl u.xab u.xow u.xkd u.xtg u.kc u.kn_ u.ic u.in_ u.mpr u.mow u.mso u.mai u.c1 u.dV u.dN u.V u.N u.kv iv u.dS S)) xr ++ (lw_m G am ((CS.mk u.bg u.dn u.op u.ar u.rn u.lg u.md u.ix u.ls u.kn ch u.sl u.fr u.cc u.fc u.mkd u.par u.own u.aim u.ab u.cl u.xab u.xow u.xkd u.xtg u.kc u.kn_ u.ic u.in_ u.mpr u.mow u.mso u.mai u.c1 u.dV u.dN u.V u.N u.kv iv u.dS S)) mr ++ lw_q G ql))) (r := (r, ch, S).1) hRun hP hD hA hS [27, 34, 29, 28, 30, 31, 39] rfl rfl rfl rfl (fun H locs hP hD hS => ?_)
    clear hRun
    have hE : lInv ((CS.mk u.bg u.dn u.op u.ar u.rn u.lg u.md u.ix u.ls u.kn ch u.sl u.fr u.cc u.fc u.mkd u.par u.own u.aim u.ab u.cl u.xab u.xow u.xkd u.xtg u.kc u.kn_ u.ic u.in_ u.mpr u.mow u.mso u.mai u.c1 u.dV u.dN u.V u.N u.kv iv u.dS S)) xr mr ql := lInv_core hI hc (Nat.le_refl _)
    refine lv_pop hx hb dL_458 rfl ?_
    refine lv_goto (tgt := 876) hx hb dL_459 (by decide) ?_
    exact tailN _ _ _ ql ls H locs cells slots hE hcl hsl hP hD hS hl
