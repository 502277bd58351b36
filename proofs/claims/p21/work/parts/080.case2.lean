set_option maxHeartbeats 8000000 in
set_option maxRecDepth 100000 in
theorem law_2 {p : Program} {e : Env} {s : State} {m : MethodId} {below : List Frame} {meth : Method} {c : Code} {b L : Nat} {xs : Nat → Int32} {D : va_G} {G : Nat → ClassId} {A : Nat → Prop} {ax : AX} {am : AM} (l : Launch) (hx : p.tables.exec = Jvm.exec) (hb : c.code = code) (hml : c.maxLocals = 4) (hown : s.vm.findClass "ObjectBaseLaw" = some m.cls) (hts : ∀ w ∈ obW, w.before #[Value.ref b] s = true) (hZ : obZ s) (hK : va_K D vwCl (obT G) s) (hA : ∀ q, s.heap.size ≤ q → A q) (hX : va_X b L xs s s.heap) (hbl : b < s.heap.size) (hbA : ¬ A b) {i : Nat} (hi : i + 5 ≤ L) (hL : L ≤ 2560) {Q : State → Prop}
    (tailN : ∀ (u : CS) (xr : XR) (mr : MR) (ql : List QC) (ls : Array Slot) (H : Heap) (locs : List Loc) (cells slots : Nat), lInv u xr mr ql → cells = 59 + 9 * ql.length → slots = 7221 + 433 * ql.length → va_P D vwCl (lw_x G ax u xr ++ (lw_m G am u mr ++ lw_q G ql)) H → va_D A (lw_x G ax u xr ++ (lw_m G am u mr ++ lw_q G ql)) → va_S A s.heap H locs → lv_has ls 4 [(3, .int (nI i)), (2, .ref am.a), (1, .ref ax.a), (0, .ref b)] → W p l e room_1 s m #[Value.ref b] below meth c H locs cells slots Q (F0 m 876 ls []))
    {u : CS} {xr : XR} {mr : MR} {ql : List QC} {ls : Array Slot} {H : Heap} {locs : List Loc} {cells slots : Nat} (hI : lInv u xr mr ql) (hcl : cells = 59 + 9 * ql.length) (hsl : slots = 7221 + 433 * ql.length) (hP : va_P D vwCl (lw_x G ax u xr ++ (lw_m G am u mr ++ lw_q G ql)) H) (hD : va_D A (lw_x G ax u xr ++ (lw_m G am u mr ++ lw_q G ql))) (hS : va_S A s.heap H locs) (hl : lv_has ls 4 [(3, .int (nI i)), (2, .ref am.a), (1, .ref ax.a), (0, .ref b)]) :
    W p l e room_1 s m #[Value.ref b] below meth c H locs cells slots Q (F0 m 218 ls []) := by
  have hq13 : ql.length ≤ 13 := by have := hI.ql2; have := hI.qn; omega
  have hroom : cells + 0 ≤ room_1.cells ∧ slots + 0 ≤ room_1.slots := ⟨by show cells + 0 ≤ 600000; omega, by show slots + 0 ≤ 7302250; omega⟩
  refine lv_aload_n hx hb dL_218 rfl (lv_at hl 2 rfl) ?_
  refine lv_aload_n hx hb dL_219 rfl (lv_at hl 3 rfl) ?_
  refine lv_iload_n hx hb dL_220 rfl (lv_at hl 0 rfl) ?_
  refine lv_iconst (v := 1) hx hb dL_221 (by decide) ?_
  refine lv_iadd hx hb dL_222 ?_
  refine va_sld hx hb hX hbl hbA hS (lw_in hi hL (k := 1) (by decide)) dL_223 ?_
  refine lv_aload_n hx hb dL_224 rfl (lv_at hl 3 rfl) ?_
  refine lv_iload_n hx hb dL_225 rfl (lv_at hl 0 rfl) ?_
  refine lv_iconst (v := 2) hx hb dL_226 (by decide) ?_
  refine lv_iadd hx hb dL_227 ?_
  refine va_sld hx hb hX hbl hbA hS (lw_in hi hL (k := 2) (by decide)) dL_228 ?_
  refine lv_aload_n hx hb dL_229 rfl (lv_at hl 3 rfl) ?_
  refine lv_iload_n hx hb dL_230 rfl (lv_at hl 0 rfl) ?_
  refine lv_iconst (v := 3) hx hb dL_231 (by decide) ?_
  refine lv_iadd hx hb dL_232 ?_
  refine va_sld hx hb hX hbl hbA hS (lw_in hi hL (k := 3) (by decide)) dL_233 ?_
  refine lv_aload_n hx hb dL_234 rfl (lv_at hl 3 rfl) ?_
  refine lv_iload_n hx hb dL_235 rfl (lv_at hl 0 rfl) ?_
  refine lv_iconst (v := 4) hx hb dL_236 (by decide) ?_
  refine lv_iadd hx hb dL_237 ?_
  refine va_sld hx hb hX hbl hbA hS (lw_in hi hL (k := 4) (by decide)) dL_238 ?_
  obtain ⟨r, ix, xic, xif, mic, mip, h1, h2, hc⟩ := S_index hI.co xr.ixc xr.ixf mr.ixc mr.ixp (xs ((nI i) + 1).toNatClampNeg) (xs ((nI i) + 2).toNatClampNeg) (xs ((nI i) + 3).toNatClampNeg) (xs ((nI i) + 4).toNatClampNeg)
  have hRun := va_runV (R := room_1) (locs := locs) (H := H) (l := l) (e := e) (below := below) (meth := meth) (cells := cells) (slots := slots) (g := F0 m 239 ls [.int (xs ((nI i) + 4).toNatClampNeg), .int (xs ((nI i) + 3).toNatClampNeg), .int (xs ((nI i) + 2).toNatClampNeg), .int (xs ((nI i) + 1).toNatClampNeg), .ref ax.a]) (As := [.int (xs ((nI i) + 1).toNatClampNeg), .int (xs ((nI i) + 2).toNatClampNeg), .int (xs ((nI i) + 3).toNatClampNeg), .int (xs ((nI i) + 4).toNatClampNeg)]) (rest := []) ⟨hx, hb, hml, hown, hts⟩ (c_OB_index l D G ax.a ax.x8 ax.x13 ax.x5 ax.x0 ax.x1 ax.x2 ax.x3 ax.x4 ax.x6 ax.x7 ax.x9 ax.x18 ax.x20 ax.x21 ax.x23 ax.x25 ax.x14 (nI xr.qn) (nI u.mkd) u.bg xr.w u.ar xr.hf u.lg u.md u.dn u.kn u.ch u.rn u.op u.ix (nI u.cc) (nI u.fc) u.xab u.xow u.xkd u.xtg xr.ixc xr.ixf (xs ((nI i) + 1).toNatClampNeg) (xs ((nI i) + 2).toNatClampNeg) (xs ((nI i) + 3).toNatClampNeg) (xs ((nI i) + 4).toNatClampNeg) (r, ix, xic, xif) h1 H.size) (cwV 4 hts (gV tw292 tw293 tw294 tw1 tw295) rfl rfl rfl (by decide +kernel) ⟨Nat.le_of_ble_eq_true rfl, Nat.le_of_ble_eq_true rfl⟩) (ob_preV (q0 := 0) (ci := 0) hZ hK hP hD [0, 9, 14, 6, 1, 2, 3, 4, 5, 7, 8] rfl rfl rfl rfl rfl) rfl rfl hl.1 rfl (lv_room (Nat.le_of_ble_eq_true rfl)) dL_239 hroom
  refine ob_calli (wc := (cw_OB_index G ax.a ax.x8 ax.x13 ax.x5 ax.x0 ax.x1 ax.x2 ax.x3 ax.x4 ax.x6 ax.x7 ax.x9 ax.x18 ax.x20 ax.x21 ax.x23 ax.x25 ax.x14 (nI xr.qn) (nI u.mkd) u.bg xr.w u.ar xr.hf u.lg u.md u.dn u.kn u.ch u.rn u.op u.ix (nI u.cc) (nI u.fc) u.xab u.xow u.xkd u.xtg xr.ixc xr.ixf)) (wc1 := (cw_OB_index G ax.a ax.x8 ax.x13 ax.x5 ax.x0 ax.x1 ax.x2 ax.x3 ax.x4 ax.x6 ax.x7 ax.x9 ax.x18 ax.x20 ax.x21 ax.x23 ax.x25 ax.x14 (nI xr.qn) (nI u.mkd) u.bg xr.w u.ar xr.hf u.lg u.md u.dn u.kn u.ch u.rn u.op ((r, ix, xic, xif).2.1) (nI u.cc) (nI u.fc) u.xab u.xow u.xkd u.xtg ((r, ix, xic, xif).2.2.1) ((r, ix, xic, xif).2.2.2))) (w2 := (lw_x G ax ((CS.mk u.bg u.dn u.op u.ar u.rn u.lg u.md ix u.ls u.kn u.ch u.sl u.fr u.cc u.fc u.mkd u.par u.own u.aim u.ab u.cl u.xab u.xow u.xkd u.xtg u.kc u.kn_ u.ic u.in_ u.mpr u.mow u.mso u.mai u.c1 u.dV u.dN u.V u.N u.kv u.iv u.dS u.S)) ((XR.mk xr.w xr.hf xr.lm xr.ll xr.rp xr.rl xr.lf xr.lt xr.dl xr.qn xr.dch xic xif xr.rs xr.jb xr.qs xr.rq xr.rx xr.jq)) ++ (lw_m G am u mr ++ lw_q G ql))) (r := (r, ix, xic, xif).1) hRun hP hD hA hS [0, 9, 14, 6, 1, 2, 3, 4, 5, 7, 8] rfl rfl rfl rfl (fun H locs hP hD hS => ?_)
  clear hRun
  refine lv_pop hx hb dL_242 rfl ?_
  refine lv_aload_n hx hb dL_243 rfl (lv_at hl 1 rfl) ?_
  refine lv_aload_n hx hb dL_244 rfl (lv_at hl 3 rfl) ?_
  refine lv_iload_n hx hb dL_245 rfl (lv_at hl 0 rfl) ?_
  refine lv_iconst (v := 1) hx hb dL_246 (by decide) ?_
  refine lv_iadd hx hb dL_247 ?_
  refine va_sld hx hb hX hbl hbA hS (lw_in hi hL (k := 1) (by decide)) dL_248 ?_
  refine lv_aload_n hx hb dL_249 rfl (lv_at hl 3 rfl) ?_
  refine lv_iload_n hx hb dL_250 rfl (lv_at hl 0 rfl) ?_
  refine lv_iconst (v := 2) hx hb dL_251 (by decide) ?_
  refine lv_iadd hx hb dL_252 ?_
  refine va_sld hx hb hX hbl hbA hS (lw_in hi hL (k := 2) (by decide)) dL_253 ?_
  refine lv_aload_n hx hb dL_254 rfl (lv_at hl 3 rfl) ?_
  refine lv_iload_n hx hb dL_255 rfl (lv_at hl 0 rfl) ?_
  refine lv_iconst (v := 3) hx hb dL_256 (by decide) ?_
  refine lv_iadd hx hb dL_257 ?_
  refine va_sld hx hb hX hbl hbA hS (lw_in hi hL (k := 3) (by decide)) dL_258 ?_
  refine lv_aload_n hx hb dL_259 rfl (lv_at hl 3 rfl) ?_
  refine lv_iload_n hx hb dL_260 rfl (lv_at hl 0 rfl) ?_
  refine lv_iconst (v := 4) hx hb dL_261 (by decide) ?_
  refine lv_iadd hx hb dL_262 ?_
  refine va_sld hx hb hX hbl hbA hS (lw_in hi hL (k := 4) (by decide)) dL_263 ?_
  have hRun := va_runV (R := room_1) (locs := locs) (H := H) (l := l) (e := e) (below := below) (meth := meth) (cells := cells) (slots := slots) (g := F0 m 264 ls [.int (xs ((nI i) + 4).toNatClampNeg), .int (xs ((nI i) + 3).toNatClampNeg), .int (xs ((nI i) + 2).toNatClampNeg), .int (xs ((nI i) + 1).toNatClampNeg), .ref am.a]) (As := [.int (xs ((nI i) + 1).toNatClampNeg), .int (xs ((nI i) + 2).toNatClampNeg), .int (xs ((nI i) + 3).toNatClampNeg), .int (xs ((nI i) + 4).toNatClampNeg)]) (rest := []) ⟨hx, hb, hml, hown, hts⟩ (c_M_index l D G am.a am.m1 am.m0 am.m2 am.m4 am.m5 am.m3 am.m6 am.m7 am.m8 am.m9 am.m10 am.m11 am.m12 am.m13 am.m14 am.m15 am.m16 am.m17 am.m18 am.m19 am.m20 am.m21 am.m22 am.m23 am.m24 am.m25 am.m26 am.m27 am.m28 am.m29 am.m30 (nI u.cc) (nI u.fc) u.bg u.ix (nI u.mkd) u.sl mr.hf u.op u.kn u.fr u.ch u.rn u.dn u.ar mr.w u.lg u.md u.ls (nI mr.dd) (nI mr.qk) mr.nw mr.at_ mr.bad mr.ops_ mr.dp mr.am mr.tru mr.loo mr.vd mr.vl mr.set mr.lt (nI mr.fi) mr.tot mr.lk u.mow u.mpr u.mso mr.ixc mr.ixp u.mai (xs ((nI i) + 1).toNatClampNeg) (xs ((nI i) + 2).toNatClampNeg) (xs ((nI i) + 3).toNatClampNeg) (xs ((nI i) + 4).toNatClampNeg) (r, ix, mic, mip) h2 H.size) (cwV 4 hts (gV tw999 tw1000 tw1001 tw11 tw1002) rfl rfl rfl (by decide +kernel) ⟨Nat.le_of_ble_eq_true rfl, Nat.le_of_ble_eq_true rfl⟩) (ob_preV (q0 := 27) (ci := 11) hZ hK hP hD [27, 29, 28, 30, 32, 33, 31] rfl rfl rfl rfl rfl) rfl rfl hl.1 rfl (lv_room (Nat.le_of_ble_eq_true rfl)) dL_264 hroom
  refine ob_calli (wc := (cw_M_index G am.a am.m1 am.m0 am.m2 am.m4 am.m5 am.m3 am.m6 am.m7 am.m8 am.m9 am.m10 am.m11 am.m12 am.m13 am.m14 am.m15 am.m16 am.m17 am.m18 am.m19 am.m20 am.m21 am.m22 am.m23 am.m24 am.m25 am.m26 am.m27 am.m28 am.m29 am.m30 (nI u.cc) (nI u.fc) u.bg u.ix (nI u.mkd) u.sl mr.hf u.op u.kn u.fr u.ch u.rn u.dn u.ar mr.w u.lg u.md u.ls (nI mr.dd) (nI mr.qk) mr.nw mr.at_ mr.bad mr.ops_ mr.dp mr.am mr.tru mr.loo mr.vd mr.vl mr.set mr.lt (nI mr.fi) mr.tot mr.lk u.mow u.mpr u.mso mr.ixc mr.ixp u.mai)) (wc1 := (cw_M_index G am.a am.m1 am.m0 am.m2 am.m4 am.m5 am.m3 am.m6 am.m7 am.m8 am.m9 am.m10 am.m11 am.m12 am.m13 am.m14 am.m15 am.m16 am.m17 am.m18 am.m19 am.m20 am.m21 am.m22 am.m23 am.m24 am.m25 am.m26 am.m27 am.m28 am.m29 am.m30 (nI u.cc) (nI u.fc) u.bg ((r, ix, mic, mip).2.1) (nI u.mkd) u.sl mr.hf u.op u.kn u.fr u.ch u.rn u.dn u.ar mr.w u.lg u.md u.ls (nI mr.dd) (nI mr.qk) mr.nw mr.at_ mr.bad mr.ops_ mr.dp mr.am mr.tru mr.loo mr.vd mr.vl mr.set mr.lt (nI mr.fi) mr.tot mr.lk u.mow u.mpr u.mso ((r, ix, mic, mip).2.2.1) ((r, ix, mic, mip).2.2.2) u.mai)) (w2 := (lw_x G ax ((CS.mk u.bg u.dn u.op u.ar u.rn u.lg u.md ix u.ls u.kn u.ch u.sl u.fr u.cc u.fc u.mkd u.par u.own u.aim u.ab u.cl u.xab u.xow u.xkd u.xtg u.kc u.kn_ u.ic u.in_ u.mpr u.mow u.mso u.mai u.c1 u.dV u.dN u.V u.N u.kv u.iv u.dS u.S)) ((XR.mk xr.w xr.hf xr.lm xr.ll xr.rp xr.rl xr.lf xr.lt xr.dl xr.qn xr.dch xic xif xr.rs xr.jb xr.qs xr.rq xr.rx xr.jq)) ++ (lw_m G am ((CS.mk u.bg u.dn u.op u.ar u.rn u.lg u.md ix u.ls u.kn u.ch u.sl u.fr u.cc u.fc u.mkd u.par u.own u.aim u.ab u.cl u.xab u.xow u.xkd u.xtg u.kc u.kn_ u.ic u.in_ u.mpr u.mow u.mso u.mai u.c1 u.dV u.dN u.V u.N u.kv u.iv u.dS u.S)) ((MR.mk mr.hf mr.w mr.nw mr.at_ mr.bad mr.ops_ mr.dp mr.am mr.tru mr.loo mr.vd mr.vl mr.lt mr.lk mr.set mr.tot mr.dd mr.qk mr.fi mic mip mr.dr mr.le mr.tx mr.cq mr.sp mr.st mr.wh mr.on mr.tw mr.opd mr.oat mr.sd mr.var mr.tr mr.la mr.lf mr.hits mr.rs)) ++ lw_q G ql))) (r := (r, ix, mic, mip).1) hRun hP hD hA hS [27, 29, 28, 30, 32, 33, 31] rfl rfl rfl rfl (fun H locs hP hD hS => ?_)
  clear hRun
  have hJ := lInv_core hI hc (Nat.le_refl _)
  have hE : lInv ((CS.mk u.bg u.dn u.op u.ar u.rn u.lg u.md ix u.ls u.kn u.ch u.sl u.fr u.cc u.fc u.mkd u.par u.own u.aim u.ab u.cl u.xab u.xow u.xkd u.xtg u.kc u.kn_ u.ic u.in_ u.mpr u.mow u.mso u.mai u.c1 u.dV u.dN u.V u.N u.kv u.iv u.dS u.S)) ((XR.mk xr.w xr.hf xr.lm xr.ll xr.rp xr.rl xr.lf xr.lt xr.dl xr.qn xr.dch xic xif xr.rs xr.jb xr.qs xr.rq xr.rx xr.jq)) ((MR.mk mr.hf mr.w mr.nw mr.at_ mr.bad mr.ops_ mr.dp mr.am mr.tru mr.loo mr.vd mr.vl mr.lt mr.lk mr.set mr.tot mr.dd mr.qk mr.fi mic mip mr.dr mr.le mr.tx mr.cq mr.sp mr.st mr.wh mr.on mr.tw mr.opd mr.oat mr.sd mr.var mr.tr mr.la mr.lf mr.hits mr.rs)) ql := ⟨(hc), hJ.dl, hJ.dc, hJ.qn, hJ.ql1, hJ.ql2, hJ.qo, hJ.qa, hJ.dd, hJ.qk, hJ.mq, hJ.va, hJ.fi⟩
  refine lv_pop hx hb dL_267 rfl ?_
  refine lv_goto (tgt := 876) hx hb dL_268 (by decide) ?_
  exact tailN _ _ _ ql ls H locs cells slots hE hcl hsl hP hD hS hl
