set_option maxHeartbeats 8000000 in
set_option maxRecDepth 100000 in
theorem law_1 {p : Program} {e : Env} {s : State} {m : MethodId} {below : List Frame} {meth : Method} {c : Code} {b L : Nat} {xs : Nat → Int32} {D : va_G} {G : Nat → ClassId} {A : Nat → Prop} {ax : AX} {am : AM} (l : Launch) (hx : p.tables.exec = Jvm.exec) (hb : c.code = code) (hml : c.maxLocals = 4) (hown : s.vm.findClass "ObjectBaseLaw" = some m.cls) (hts : ∀ w ∈ obW, w.before #[Value.ref b] s = true) (hZ : obZ s) (hK : va_K D vwCl (obT G) s) (hA : ∀ q, s.heap.size ≤ q → A q) (hX : va_X b L xs s s.heap) (hbl : b < s.heap.size) (hbA : ¬ A b) {i : Nat} (hi : i + 5 ≤ L) (hL : L ≤ 2560) {Q : State → Prop}
    (tailN : ∀ (u : CS) (xr : XR) (mr : MR) (ql : List QC) (ls : Array Slot) (H : Heap) (locs : List Loc) (cells slots : Nat), lInv u xr mr ql → cells = 59 + 9 * ql.length → slots = 7221 + 433 * ql.length → va_P D vwCl (lw_x G ax u xr ++ (lw_m G am u mr ++ lw_q G ql)) H → va_D A (lw_x G ax u xr ++ (lw_m G am u mr ++ lw_q G ql)) → va_S A s.heap H locs → lv_has ls 4 [(3, .int (nI i)), (2, .ref am.a), (1, .ref ax.a), (0, .ref b)] → W p l e room_1 s m #[Value.ref b] below meth c H locs cells slots Q (F0 m 876 ls []))
    {u : CS} {xr : XR} {mr : MR} {ql : List QC} {ls : Array Slot} {H : Heap} {locs : List Loc} {cells slots : Nat} (hI : lInv u xr mr ql) (hcl : cells = 59 + 9 * ql.length) (hsl : slots = 7221 + 433 * ql.length) (hP : va_P D vwCl (lw_x G ax u xr ++ (lw_m G am u mr ++ lw_q G ql)) H) (hD : va_D A (lw_x G ax u xr ++ (lw_m G am u mr ++ lw_q G ql))) (hS : va_S A s.heap H locs) (hl : lv_has ls 4 [(3, .int (nI i)), (2, .ref am.a), (1, .ref ax.a), (0, .ref b)]) :
    W p l e room_1 s m #[Value.ref b] below meth c H locs cells slots Q (F0 m 175 ls []) := by
  have hq13 : ql.length ≤ 13 := by have := hI.ql2; have := hI.qn; omega
  have hroom : cells + 0 ≤ room_1.cells ∧ slots + 0 ≤ room_1.slots := ⟨by show cells + 0 ≤ 600000; omega, by show slots + 0 ≤ 7302250; omega⟩
  refine lv_aload_n hx hb dL_175 rfl (lv_at hl 2 rfl) ?_
  refine lv_aload_n hx hb dL_176 rfl (lv_at hl 3 rfl) ?_
  refine lv_iload_n hx hb dL_177 rfl (lv_at hl 0 rfl) ?_
  refine lv_iconst (v := 1) hx hb dL_178 (by decide) ?_
  refine lv_iadd hx hb dL_179 ?_
  refine va_sld hx hb hX hbl hbA hS (lw_in hi hL (k := 1) (by decide)) dL_180 ?_
  refine lv_aload_n hx hb dL_181 rfl (lv_at hl 3 rfl) ?_
  refine lv_iload_n hx hb dL_182 rfl (lv_at hl 0 rfl) ?_
  refine lv_iconst (v := 2) hx hb dL_183 (by decide) ?_
  refine lv_iadd hx hb dL_184 ?_
  refine va_sld hx hb hX hbl hbA hS (lw_in hi hL (k := 2) (by decide)) dL_185 ?_
  refine lv_aload_n hx hb dL_186 rfl (lv_at hl 3 rfl) ?_
  refine lv_iload_n hx hb dL_187 rfl (lv_at hl 0 rfl) ?_
  refine lv_iconst (v := 3) hx hb dL_188 (by decide) ?_
  refine lv_iadd hx hb dL_189 ?_
  refine va_sld hx hb hX hbl hbA hS (lw_in hi hL (k := 3) (by decide)) dL_190 ?_
  obtain ⟨r, fc, own, aim, xow, xkd, xtg, mow, mso, mai, h1, h2, hc⟩ := SC_field hI.co (xs ((nI i) + 1).toNatClampNeg) (xs ((nI i) + 2).toNatClampNeg) (xs ((nI i) + 3).toNatClampNeg)
  have hRun := va_runV (R := room_1) (locs := locs) (H := H) (l := l) (e := e) (below := below) (meth := meth) (cells := cells) (slots := slots) (g := F0 m 191 ls [.int (xs ((nI i) + 3).toNatClampNeg), .int (xs ((nI i) + 2).toNatClampNeg), .int (xs ((nI i) + 1).toNatClampNeg), .ref ax.a]) (As := [.int (xs ((nI i) + 1).toNatClampNeg), .int (xs ((nI i) + 2).toNatClampNeg), .int (xs ((nI i) + 3).toNatClampNeg)]) (rest := []) ⟨hx, hb, hml, hown, hts⟩ (c_OB_field l D G ax.a ax.x8 ax.x0 ax.x2 ax.x3 ax.x4 ax.x5 ax.x9 ax.x13 ax.x18 ax.x20 ax.x21 ax.x23 ax.x25 ax.x1 (nI xr.qn) (nI u.mkd) u.bg xr.w u.ar xr.hf u.lg u.md u.dn (nI u.cc) (nI u.fc) u.xow u.xkd u.xtg (xs ((nI i) + 1).toNatClampNeg) (xs ((nI i) + 2).toNatClampNeg) (xs ((nI i) + 3).toNatClampNeg) (r, nI fc, xow, xkd, xtg) h1 H.size) (cwV 3 hts (gV tw284 tw285 tw286 tw1 tw287) rfl rfl rfl (by decide +kernel) ⟨Nat.le_of_ble_eq_true rfl, Nat.le_of_ble_eq_true rfl⟩) (ob_preV (q0 := 0) (ci := 0) hZ hK hP hD [0, 9, 1, 3, 4, 5] rfl rfl rfl rfl rfl) rfl rfl hl.1 rfl (lv_room (Nat.le_of_ble_eq_true rfl)) dL_191 hroom
  refine ob_calli (wc := (cw_OB_field G ax.a ax.x8 ax.x0 ax.x2 ax.x3 ax.x4 ax.x5 ax.x9 ax.x13 ax.x18 ax.x20 ax.x21 ax.x23 ax.x25 ax.x1 (nI xr.qn) (nI u.mkd) u.bg xr.w u.ar xr.hf u.lg u.md u.dn (nI u.cc) (nI u.fc) u.xow u.xkd u.xtg)) (wc1 := (cw_OB_field G ax.a ax.x8 ax.x0 ax.x2 ax.x3 ax.x4 ax.x5 ax.x9 ax.x13 ax.x18 ax.x20 ax.x21 ax.x23 ax.x25 ax.x1 (nI xr.qn) (nI u.mkd) u.bg xr.w u.ar xr.hf u.lg u.md u.dn (nI u.cc) ((r, nI fc, xow, xkd, xtg).2.1) ((r, nI fc, xow, xkd, xtg).2.2.1) ((r, nI fc, xow, xkd, xtg).2.2.2.1) ((r, nI fc, xow, xkd, xtg).2.2.2.2))) (w2 := (lw_x G ax ((CS.mk u.bg u.dn u.op u.ar u.rn u.lg u.md u.ix u.ls u.kn u.ch u.sl u.fr u.cc fc u.mkd u.par own aim u.ab u.cl u.xab xow xkd xtg u.kc u.kn_ u.ic u.in_ u.mpr mow mso mai u.c1 u.dV u.dN u.V u.N u.kv u.iv u.dS u.S)) xr ++ (lw_m G am u mr ++ lw_q G ql))) (r := (r, nI fc, xow, xkd, xtg).1) hRun hP hD hA hS [0, 9, 1, 3, 4, 5] rfl rfl rfl rfl (fun H locs hP hD hS => ?_)
  clear hRun
  refine lv_pop hx hb dL_194 rfl ?_
  refine lv_aload_n hx hb dL_195 rfl (lv_at hl 1 rfl) ?_
  refine lv_aload_n hx hb dL_196 rfl (lv_at hl 3 rfl) ?_
  refine lv_iload_n hx hb dL_197 rfl (lv_at hl 0 rfl) ?_
  refine lv_iconst (v := 1) hx hb dL_198 (by decide) ?_
  refine lv_iadd hx hb dL_199 ?_
  refine va_sld hx hb hX hbl hbA hS (lw_in hi hL (k := 1) (by decide)) dL_200 ?_
  refine lv_aload_n hx hb dL_201 rfl (lv_at hl 3 rfl) ?_
  refine lv_iload_n hx hb dL_202 rfl (lv_at hl 0 rfl) ?_
  refine lv_iconst (v := 2) hx hb dL_203 (by decide) ?_
  refine lv_iadd hx hb dL_204 ?_
  refine va_sld hx hb hX hbl hbA hS (lw_in hi hL (k := 2) (by decide)) dL_205 ?_
  refine lv_aload_n hx hb dL_206 rfl (lv_at hl 3 rfl) ?_
  refine lv_iload_n hx hb dL_207 rfl (lv_at hl 0 rfl) ?_
  refine lv_iconst (v := 3) hx hb dL_208 (by decide) ?_
  refine lv_iadd hx hb dL_209 ?_
  refine va_sld hx hb hX hbl hbA hS (lw_in hi hL (k := 3) (by decide)) dL_210 ?_
  have hRun := va_runV (R := room_1) (locs := locs) (H := H) (l := l) (e := e) (below := below) (meth := meth) (cells := cells) (slots := slots) (g := F0 m 211 ls [.int (xs ((nI i) + 3).toNatClampNeg), .int (xs ((nI i) + 2).toNatClampNeg), .int (xs ((nI i) + 1).toNatClampNeg), .ref am.a]) (As := [.int (xs ((nI i) + 1).toNatClampNeg), .int (xs ((nI i) + 2).toNatClampNeg), .int (xs ((nI i) + 3).toNatClampNeg)]) (rest := []) ⟨hx, hb, hml, hown, hts⟩ (c_M_field l D G am.a am.m1 am.m2 am.m3 am.m0 am.m4 am.m5 am.m6 am.m7 am.m8 am.m9 am.m10 am.m11 am.m12 am.m13 am.m14 am.m15 am.m16 am.m17 am.m18 am.m19 am.m20 am.m21 am.m22 am.m23 am.m24 am.m25 am.m26 am.m27 am.m28 am.m29 am.m30 (nI u.cc) (nI u.fc) u.bg u.ix (nI u.mkd) u.sl mr.hf u.op u.kn u.fr u.ch u.rn u.dn u.ar mr.w u.lg u.md u.ls (nI mr.dd) (nI mr.qk) mr.nw mr.at_ mr.bad mr.ops_ mr.dp mr.am mr.tru mr.loo mr.vd mr.vl mr.set mr.lt (nI mr.fi) mr.tot mr.lk u.mow u.mso u.mai (xs ((nI i) + 1).toNatClampNeg) (xs ((nI i) + 2).toNatClampNeg) (xs ((nI i) + 3).toNatClampNeg) (r, nI fc, mow, mso, mai) h2 H.size) (cwV 3 hts (gV tw991 tw992 tw993 tw11 tw994) rfl rfl rfl (by decide +kernel) ⟨Nat.le_of_ble_eq_true rfl, Nat.le_of_ble_eq_true rfl⟩) (ob_preV (q0 := 27) (ci := 11) hZ hK hP hD [27, 29, 30, 31] rfl rfl rfl rfl rfl) rfl rfl hl.1 rfl (lv_room (Nat.le_of_ble_eq_true rfl)) dL_211 hroom
  refine ob_calli (wc := (cw_M_field G am.a am.m1 am.m2 am.m3 am.m0 am.m4 am.m5 am.m6 am.m7 am.m8 am.m9 am.m10 am.m11 am.m12 am.m13 am.m14 am.m15 am.m16 am.m17 am.m18 am.m19 am.m20 am.m21 am.m22 am.m23 am.m24 am.m25 am.m26 am.m27 am.m28 am.m29 am.m30 (nI u.cc) (nI u.fc) u.bg u.ix (nI u.mkd) u.sl mr.hf u.op u.kn u.fr u.ch u.rn u.dn u.ar mr.w u.lg u.md u.ls (nI mr.dd) (nI mr.qk) mr.nw mr.at_ mr.bad mr.ops_ mr.dp mr.am mr.tru mr.loo mr.vd mr.vl mr.set mr.lt (nI mr.fi) mr.tot mr.lk u.mow u.mso u.mai)) (wc1 := (cw_M_field G am.a am.m1 am.m2 am.m3 am.m0 am.m4 am.m5 am.m6 am.m7 am.m8 am.m9 am.m10 am.m11 am.m12 am.m13 am.m14 am.m15 am.m16 am.m17 am.m18 am.m19 am.m20 am.m21 am.m22 am.m23 am.m24 am.m25 am.m26 am.m27 am.m28 am.m29 am.m30 (nI u.cc) ((r, nI fc, mow, mso, mai).2.1) u.bg u.ix (nI u.mkd) u.sl mr.hf u.op u.kn u.fr u.ch u.rn u.dn u.ar mr.w u.lg u.md u.ls (nI mr.dd) (nI mr.qk) mr.nw mr.at_ mr.bad mr.ops_ mr.dp mr.am mr.tru mr.loo mr.vd mr.vl mr.set mr.lt (nI mr.fi) mr.tot mr.lk ((r, nI fc, mow, mso, mai).2.2.1) ((r, nI fc, mow, mso, mai).2.2.2.1) ((r, nI fc, mow, mso, mai).2.2.2.2))) (w2 := (lw_x G ax ((CS.mk u.bg u.dn u.op u.ar u.rn u.lg u.md u.ix u.ls u.kn u.ch u.sl u.fr u.cc fc u.mkd u.par own aim u.ab u.cl u.xab xow xkd xtg u.kc u.kn_ u.ic u.in_ u.mpr mow mso mai u.c1 u.dV u.dN u.V u.N u.kv u.iv u.dS u.S)) xr ++ (lw_m G am ((CS.mk u.bg u.dn u.op u.ar u.rn u.lg u.md u.ix u.ls u.kn u.ch u.sl u.fr u.cc fc u.mkd u.par own aim u.ab u.cl u.xab xow xkd xtg u.kc u.kn_ u.ic u.in_ u.mpr mow mso mai u.c1 u.dV u.dN u.V u.N u.kv u.iv u.dS u.S)) mr ++ lw_q G ql))) (r := (r, nI fc, mow, mso, mai).1) hRun hP hD hA hS [27, 29, 30, 31] rfl rfl rfl rfl (fun H locs hP hD hS => ?_)
  clear hRun
  have hE : lInv ((CS.mk u.bg u.dn u.op u.ar u.rn u.lg u.md u.ix u.ls u.kn u.ch u.sl u.fr u.cc fc u.mkd u.par own aim u.ab u.cl u.xab xow xkd xtg u.kc u.kn_ u.ic u.in_ u.mpr mow mso mai u.c1 u.dV u.dN u.V u.N u.kv u.iv u.dS u.S)) xr mr ql := lInv_core hI hc (Nat.le_refl _)
  refine lv_pop hx hb dL_214 rfl ?_
  refine lv_goto (tgt := 876) hx hb dL_215 (by decide) ?_
  exact tailN _ _ _ ql ls H locs cells slots hE hcl hsl hP hD hS hl
