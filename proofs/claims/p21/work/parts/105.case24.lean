set_option maxHeartbeats 8000000 in
set_option maxRecDepth 100000 in
theorem law_24 {p : Program} {e : Env} {s : State} {m : MethodId} {below : List Frame} {meth : Method} {c : Code} {b L : Nat} {xs : Nat → Int32} {D : va_G} {G : Nat → ClassId} {A : Nat → Prop} {ax : AX} {am : AM} (l : Launch) (hx : p.tables.exec = Jvm.exec) (hb : c.code = code) (hml : c.maxLocals = 4) (hown : s.vm.findClass "ObjectBaseLaw" = some m.cls) (hts : ∀ w ∈ obW, w.before #[Value.ref b] s = true) (hZ : obZ s) (hK : va_K D vwCl (obT G) s) (hA : ∀ q, s.heap.size ≤ q → A q) (hX : va_X b L xs s s.heap) (hbl : b < s.heap.size) (hbA : ¬ A b) {i : Nat} (hi : i + 5 ≤ L) (hL : L ≤ 2560) {Q : State → Prop}
    (tailN : ∀ (u : CS) (xr : XR) (mr : MR) (ql : List QC) (ls : Array Slot) (H : Heap) (locs : List Loc) (cells slots : Nat), lInv u xr mr ql → cells = 59 + 9 * ql.length → slots = 7221 + 433 * ql.length → va_P D vwCl (lw_x G ax u xr ++ (lw_m G am u mr ++ lw_q G ql)) H → va_D A (lw_x G ax u xr ++ (lw_m G am u mr ++ lw_q G ql)) → va_S A s.heap H locs → lv_has ls 4 [(3, .int (nI i)), (2, .ref am.a), (1, .ref ax.a), (0, .ref b)] → W p l e room_1 s m #[Value.ref b] below meth c H locs cells slots Q (F0 m 876 ls []))
    {u : CS} {xr : XR} {mr : MR} {ql : List QC} {ls : Array Slot} {H : Heap} {locs : List Loc} {cells slots : Nat} (hI : lInv u xr mr ql) (hcl : cells = 59 + 9 * ql.length) (hsl : slots = 7221 + 433 * ql.length) (hP : va_P D vwCl (lw_x G ax u xr ++ (lw_m G am u mr ++ lw_q G ql)) H) (hD : va_D A (lw_x G ax u xr ++ (lw_m G am u mr ++ lw_q G ql))) (hS : va_S A s.heap H locs) (hl : lv_has ls 4 [(3, .int (nI i)), (2, .ref am.a), (1, .ref ax.a), (0, .ref b)]) :
    W p l e room_1 s m #[Value.ref b] below meth c H locs cells slots Q (F0 m 830 ls []) := by
  have hq13 : ql.length ≤ 13 := by have := hI.ql2; have := hI.qn; omega
  have hroom : cells + 0 ≤ room_1.cells ∧ slots + 0 ≤ room_1.slots := ⟨by show cells + 0 ≤ 600000; omega, by show slots + 0 ≤ 7302250; omega⟩
  refine lv_aload_n hx hb dL_830 rfl (lv_at hl 2 rfl) ?_
  refine lv_aload_n hx hb dL_831 rfl (lv_at hl 3 rfl) ?_
  refine lv_iload_n hx hb dL_832 rfl (lv_at hl 0 rfl) ?_
  refine lv_iconst (v := 1) hx hb dL_833 (by decide) ?_
  refine lv_iadd hx hb dL_834 ?_
  refine va_sld hx hb hX hbl hbA hS (lw_in hi hL (k := 1) (by decide)) dL_835 ?_
  obtain ⟨r, h1⟩ := A_hit u.dn xr.lm xr.lf (xs ((nI i) + 1).toNatClampNeg)
  obtain ⟨r2, h2⟩ := Q_hit hI.fi u.dn mr.lt (xs ((nI i) + 1).toNatClampNeg) mr.hits
  have hRun := va_runV (R := room_1) (locs := locs) (H := H) (l := l) (e := e) (below := below) (meth := meth) (cells := cells) (slots := slots) (g := F0 m 836 ls [.int (xs ((nI i) + 1).toNatClampNeg), .ref ax.a]) (As := [.int (xs ((nI i) + 1).toNatClampNeg)]) (rest := []) ⟨hx, hb, hml, hown, hts⟩ (c_OB_hit l D G ax.a ax.x8 ax.x25 ax.x0 ax.x5 ax.x9 ax.x13 ax.x18 ax.x20 ax.x21 ax.x23 (nI xr.qn) (nI u.mkd) u.bg xr.w u.ar xr.hf u.lg u.md u.dn xr.lm xr.lf xr.lt xr.ll (xs ((nI i) + 1).toNatClampNeg) r h1 H.size) (cwV 1 hts (gV tw768 tw769 tw770 tw1 tw771) rfl rfl rfl (by decide +kernel) ⟨Nat.le_of_ble_eq_true rfl, Nat.le_of_ble_eq_true rfl⟩) (ob_preV (q0 := 0) (ci := 0) hZ hK hP hD [0, 9, 26] rfl rfl rfl rfl rfl) rfl rfl hl.1 rfl (lv_room (Nat.le_of_ble_eq_true rfl)) dL_836 hroom
  refine ob_calli (wc := (cw_OB_hit G ax.a ax.x8 ax.x25 ax.x0 ax.x5 ax.x9 ax.x13 ax.x18 ax.x20 ax.x21 ax.x23 (nI xr.qn) (nI u.mkd) u.bg xr.w u.ar xr.hf u.lg u.md u.dn xr.lm xr.lf xr.lt xr.ll)) (wc1 := (cw_OB_hit G ax.a ax.x8 ax.x25 ax.x0 ax.x5 ax.x9 ax.x13 ax.x18 ax.x20 ax.x21 ax.x23 (nI xr.qn) (nI u.mkd) u.bg xr.w u.ar xr.hf u.lg u.md u.dn xr.lm xr.lf xr.lt xr.ll)) (w2 := (lw_x G ax u xr ++ (lw_m G am u mr ++ lw_q G ql))) (r := r) hRun hP hD hA hS [0, 9, 26] rfl rfl rfl rfl (fun H locs hP hD hS => ?_)
  clear hRun
  refine lv_pop hx hb dL_839 rfl ?_
  refine lv_aload_n hx hb dL_840 rfl (lv_at hl 1 rfl) ?_
  refine lv_aload_n hx hb dL_841 rfl (lv_at hl 3 rfl) ?_
  refine lv_iload_n hx hb dL_842 rfl (lv_at hl 0 rfl) ?_
  refine lv_iconst (v := 1) hx hb dL_843 (by decide) ?_
  refine lv_iadd hx hb dL_844 ?_
  refine va_sld hx hb hX hbl hbA hS (lw_in hi hL (k := 1) (by decide)) dL_845 ?_
  have hRun := va_runV (R := room_1) (locs := locs) (H := H) (l := l) (e := e) (below := below) (meth := meth) (cells := cells) (slots := slots) (g := F0 m 846 ls [.int (xs ((nI i) + 1).toNatClampNeg), .ref am.a]) (As := [.int (xs ((nI i) + 1).toNatClampNeg)]) (rest := []) ⟨hx, hb, hml, hown, hts⟩ (c_M_hit l D G am.a am.m30 am.m0 am.m1 am.m2 am.m3 am.m4 am.m5 am.m6 am.m7 am.m8 am.m9 am.m10 am.m11 am.m12 am.m13 am.m14 am.m15 am.m16 am.m17 am.m18 am.m19 am.m20 am.m21 am.m22 am.m23 am.m24 am.m25 am.m26 am.m27 am.m28 am.m29 (nI u.cc) (nI u.fc) u.bg u.ix (nI u.mkd) u.sl mr.hf u.op u.kn u.fr u.ch u.rn u.dn u.ar mr.w u.lg u.md u.ls (nI mr.dd) (nI mr.qk) mr.nw mr.at_ mr.bad mr.ops_ mr.dp mr.am mr.tru mr.loo mr.vd mr.vl mr.set mr.lt (nI mr.fi) mr.tot mr.lk mr.hits (xs ((nI i) + 1).toNatClampNeg) r2 h2 H.size) (cwV 1 hts (gV tw1257 tw1258 tw1259 tw11 tw1260) rfl rfl rfl (by decide +kernel) ⟨Nat.le_of_ble_eq_true rfl, Nat.le_of_ble_eq_true rfl⟩) (ob_preV (q0 := 27) (ci := 11) hZ hK hP hD [27, 58] rfl rfl rfl rfl rfl) rfl rfl hl.1 rfl (lv_room (Nat.le_of_ble_eq_true rfl)) dL_846 hroom
  refine ob_calli (wc := (cw_M_hit G am.a am.m30 am.m0 am.m1 am.m2 am.m3 am.m4 am.m5 am.m6 am.m7 am.m8 am.m9 am.m10 am.m11 am.m12 am.m13 am.m14 am.m15 am.m16 am.m17 am.m18 am.m19 am.m20 am.m21 am.m22 am.m23 am.m24 am.m25 am.m26 am.m27 am.m28 am.m29 (nI u.cc) (nI u.fc) u.bg u.ix (nI u.mkd) u.sl mr.hf u.op u.kn u.fr u.ch u.rn u.dn u.ar mr.w u.lg u.md u.ls (nI mr.dd) (nI mr.qk) mr.nw mr.at_ mr.bad mr.ops_ mr.dp mr.am mr.tru mr.loo mr.vd mr.vl mr.set mr.lt (nI mr.fi) mr.tot mr.lk mr.hits)) (wc1 := (cw_M_hit G am.a am.m30 am.m0 am.m1 am.m2 am.m3 am.m4 am.m5 am.m6 am.m7 am.m8 am.m9 am.m10 am.m11 am.m12 am.m13 am.m14 am.m15 am.m16 am.m17 am.m18 am.m19 am.m20 am.m21 am.m22 am.m23 am.m24 am.m25 am.m26 am.m27 am.m28 am.m29 (nI u.cc) (nI u.fc) u.bg u.ix (nI u.mkd) u.sl mr.hf u.op u.kn u.fr u.ch u.rn u.dn u.ar mr.w u.lg u.md u.ls (nI mr.dd) (nI mr.qk) mr.nw mr.at_ mr.bad mr.ops_ mr.dp mr.am mr.tru mr.loo mr.vd mr.vl mr.set mr.lt (nI mr.fi) mr.tot mr.lk mr.hits)) (w2 := (lw_x G ax u xr ++ (lw_m G am u mr ++ lw_q G ql))) (r := r2) hRun hP hD hA hS [27, 58] rfl rfl rfl rfl (fun H locs hP hD hS => ?_)
  clear hRun
  have hE : lInv u xr mr ql := hI
  refine lv_pop hx hb dL_849 rfl ?_
  refine lv_goto (tgt := 876) hx hb dL_850 (by decide) ?_
  exact tailN _ _ _ ql ls H locs cells slots hE hcl hsl hP hD hS hl
