abbrev AX : Type := Nat × Nat × Nat × Nat × Nat × Nat × Nat × Nat × Nat × Nat × Nat × Nat × Nat × Nat × Nat × Nat × Nat × Nat × Nat × Nat × Nat × Nat × Nat × Nat × Nat × Nat × Nat
def AX.a (z9 : AX) : Nat := z9.1
def AX.x0 (z9 : AX) : Nat := z9.2.1
def AX.x1 (z9 : AX) : Nat := z9.2.2.1
def AX.x2 (z9 : AX) : Nat := z9.2.2.2.1
def AX.x3 (z9 : AX) : Nat := z9.2.2.2.2.1
def AX.x4 (z9 : AX) : Nat := z9.2.2.2.2.2.1
def AX.x5 (z9 : AX) : Nat := z9.2.2.2.2.2.2.1
def AX.x6 (z9 : AX) : Nat := z9.2.2.2.2.2.2.2.1
def AX.x7 (z9 : AX) : Nat := z9.2.2.2.2.2.2.2.2.1
def AX.x8 (z9 : AX) : Nat := z9.2.2.2.2.2.2.2.2.2.1
def AX.x9 (z9 : AX) : Nat := z9.2.2.2.2.2.2.2.2.2.2.1
def AX.x10 (z9 : AX) : Nat := z9.2.2.2.2.2.2.2.2.2.2.2.1
def AX.x11 (z9 : AX) : Nat := z9.2.2.2.2.2.2.2.2.2.2.2.2.1
def AX.x12 (z9 : AX) : Nat := z9.2.2.2.2.2.2.2.2.2.2.2.2.2.1
def AX.x13 (z9 : AX) : Nat := z9.2.2.2.2.2.2.2.2.2.2.2.2.2.2.1
def AX.x14 (z9 : AX) : Nat := z9.2.2.2.2.2.2.2.2.2.2.2.2.2.2.2.1
def AX.x15 (z9 : AX) : Nat := z9.2.2.2.2.2.2.2.2.2.2.2.2.2.2.2.2.1
def AX.x16 (z9 : AX) : Nat := z9.2.2.2.2.2.2.2.2.2.2.2.2.2.2.2.2.2.1
def AX.x17 (z9 : AX) : Nat := z9.2.2.2.2.2.2.2.2.2.2.2.2.2.2.2.2.2.2.1
def AX.x18 (z9 : AX) : Nat := z9.2.2.2.2.2.2.2.2.2.2.2.2.2.2.2.2.2.2.2.1
def AX.x19 (z9 : AX) : Nat := z9.2.2.2.2.2.2.2.2.2.2.2.2.2.2.2.2.2.2.2.2.1
def AX.x20 (z9 : AX) : Nat := z9.2.2.2.2.2.2.2.2.2.2.2.2.2.2.2.2.2.2.2.2.2.1
def AX.x21 (z9 : AX) : Nat := z9.2.2.2.2.2.2.2.2.2.2.2.2.2.2.2.2.2.2.2.2.2.2.1
def AX.x22 (z9 : AX) : Nat := z9.2.2.2.2.2.2.2.2.2.2.2.2.2.2.2.2.2.2.2.2.2.2.2.1
def AX.x23 (z9 : AX) : Nat := z9.2.2.2.2.2.2.2.2.2.2.2.2.2.2.2.2.2.2.2.2.2.2.2.2.1
def AX.x24 (z9 : AX) : Nat := z9.2.2.2.2.2.2.2.2.2.2.2.2.2.2.2.2.2.2.2.2.2.2.2.2.2.1
def AX.x25 (z9 : AX) : Nat := z9.2.2.2.2.2.2.2.2.2.2.2.2.2.2.2.2.2.2.2.2.2.2.2.2.2.2
def AX.mk (a : Nat) (x0 : Nat) (x1 : Nat) (x2 : Nat) (x3 : Nat) (x4 : Nat) (x5 : Nat) (x6 : Nat) (x7 : Nat) (x8 : Nat) (x9 : Nat) (x10 : Nat) (x11 : Nat) (x12 : Nat) (x13 : Nat) (x14 : Nat) (x15 : Nat) (x16 : Nat) (x17 : Nat) (x18 : Nat) (x19 : Nat) (x20 : Nat) (x21 : Nat) (x22 : Nat) (x23 : Nat) (x24 : Nat) (x25 : Nat) : AX := (a, x0, x1, x2, x3, x4, x5, x6, x7, x8, x9, x10, x11, x12, x13, x14, x15, x16, x17, x18, x19, x20, x21, x22, x23, x24, x25)
abbrev AM : Type := Nat × Nat × Nat × Nat × Nat × Nat × Nat × Nat × Nat × Nat × Nat × Nat × Nat × Nat × Nat × Nat × Nat × Nat × Nat × Nat × Nat × Nat × Nat × Nat × Nat × Nat × Nat × Nat × Nat × Nat × Nat × Nat
def AM.a (z9 : AM) : Nat := z9.1
def AM.m0 (z9 : AM) : Nat := z9.2.1
def AM.m1 (z9 : AM) : Nat := z9.2.2.1
def AM.m2 (z9 : AM) : Nat := z9.2.2.2.1
def AM.m3 (z9 : AM) : Nat := z9.2.2.2.2.1
def AM.m4 (z9 : AM) : Nat := z9.2.2.2.2.2.1
def AM.m5 (z9 : AM) : Nat := z9.2.2.2.2.2.2.1
def AM.m6 (z9 : AM) : Nat := z9.2.2.2.2.2.2.2.1
def AM.m7 (z9 : AM) : Nat := z9.2.2.2.2.2.2.2.2.1
def AM.m8 (z9 : AM) : Nat := z9.2.2.2.2.2.2.2.2.2.1
def AM.m9 (z9 : AM) : Nat := z9.2.2.2.2.2.2.2.2.2.2.1
def AM.m10 (z9 : AM) : Nat := z9.2.2.2.2.2.2.2.2.2.2.2.1
def AM.m11 (z9 : AM) : Nat := z9.2.2.2.2.2.2.2.2.2.2.2.2.1
def AM.m12 (z9 : AM) : Nat := z9.2.2.2.2.2.2.2.2.2.2.2.2.2.1
def AM.m13 (z9 : AM) : Nat := z9.2.2.2.2.2.2.2.2.2.2.2.2.2.2.1
def AM.m14 (z9 : AM) : Nat := z9.2.2.2.2.2.2.2.2.2.2.2.2.2.2.2.1
def AM.m15 (z9 : AM) : Nat := z9.2.2.2.2.2.2.2.2.2.2.2.2.2.2.2.2.1
def AM.m16 (z9 : AM) : Nat := z9.2.2.2.2.2.2.2.2.2.2.2.2.2.2.2.2.2.1
def AM.m17 (z9 : AM) : Nat := z9.2.2.2.2.2.2.2.2.2.2.2.2.2.2.2.2.2.2.1
def AM.m18 (z9 : AM) : Nat := z9.2.2.2.2.2.2.2.2.2.2.2.2.2.2.2.2.2.2.2.1
def AM.m19 (z9 : AM) : Nat := z9.2.2.2.2.2.2.2.2.2.2.2.2.2.2.2.2.2.2.2.2.1
def AM.m20 (z9 : AM) : Nat := z9.2.2.2.2.2.2.2.2.2.2.2.2.2.2.2.2.2.2.2.2.2.1
def AM.m21 (z9 : AM) : Nat := z9.2.2.2.2.2.2.2.2.2.2.2.2.2.2.2.2.2.2.2.2.2.2.1
def AM.m22 (z9 : AM) : Nat := z9.2.2.2.2.2.2.2.2.2.2.2.2.2.2.2.2.2.2.2.2.2.2.2.1
def AM.m23 (z9 : AM) : Nat := z9.2.2.2.2.2.2.2.2.2.2.2.2.2.2.2.2.2.2.2.2.2.2.2.2.1
def AM.m24 (z9 : AM) : Nat := z9.2.2.2.2.2.2.2.2.2.2.2.2.2.2.2.2.2.2.2.2.2.2.2.2.2.1
def AM.m25 (z9 : AM) : Nat := z9.2.2.2.2.2.2.2.2.2.2.2.2.2.2.2.2.2.2.2.2.2.2.2.2.2.2.1
def AM.m26 (z9 : AM) : Nat := z9.2.2.2.2.2.2.2.2.2.2.2.2.2.2.2.2.2.2.2.2.2.2.2.2.2.2.2.1
def AM.m27 (z9 : AM) : Nat := z9.2.2.2.2.2.2.2.2.2.2.2.2.2.2.2.2.2.2.2.2.2.2.2.2.2.2.2.2.1
def AM.m28 (z9 : AM) : Nat := z9.2.2.2.2.2.2.2.2.2.2.2.2.2.2.2.2.2.2.2.2.2.2.2.2.2.2.2.2.2.1
def AM.m29 (z9 : AM) : Nat := z9.2.2.2.2.2.2.2.2.2.2.2.2.2.2.2.2.2.2.2.2.2.2.2.2.2.2.2.2.2.2.1
def AM.m30 (z9 : AM) : Nat := z9.2.2.2.2.2.2.2.2.2.2.2.2.2.2.2.2.2.2.2.2.2.2.2.2.2.2.2.2.2.2.2
def AM.mk (a : Nat) (m0 : Nat) (m1 : Nat) (m2 : Nat) (m3 : Nat) (m4 : Nat) (m5 : Nat) (m6 : Nat) (m7 : Nat) (m8 : Nat) (m9 : Nat) (m10 : Nat) (m11 : Nat) (m12 : Nat) (m13 : Nat) (m14 : Nat) (m15 : Nat) (m16 : Nat) (m17 : Nat) (m18 : Nat) (m19 : Nat) (m20 : Nat) (m21 : Nat) (m22 : Nat) (m23 : Nat) (m24 : Nat) (m25 : Nat) (m26 : Nat) (m27 : Nat) (m28 : Nat) (m29 : Nat) (m30 : Nat) : AM := (a, m0, m1, m2, m3, m4, m5, m6, m7, m8, m9, m10, m11, m12, m13, m14, m15, m16, m17, m18, m19, m20, m21, m22, m23, m24, m25, m26, m27, m28, m29, m30)
def lw_x (G : Nat → ClassId) (ax : AX) (u : CS) (xr : XR) : va_W := [(ax.a, .inr (0, [.ref ax.x0, .ref ax.x5, .ref ax.x8, .ref ax.x9, .ref ax.x13, .ref ax.x18, .ref ax.x20, .ref ax.x21, .ref ax.x23, .ref ax.x25, .int (nI xr.qn), .int (nI u.mkd), .int u.bg])), (ax.x0, .inr (1, [.ref ax.x1, .ref ax.x2, .ref ax.x3, .ref ax.x4, .int (nI u.cc), .int (nI u.fc)])), (ax.x1, .inl (G 0, 6, .inl u.xab)), (ax.x2, .inl (G 0, 8, .inl u.xow)), (ax.x3, .inl (G 0, 8, .inl u.xkd)), (ax.x4, .inl (G 0, 8, .inl u.xtg)), (ax.x5, .inr (2, [.ref ax.x6, .ref ax.x7, .int u.ix])), (ax.x6, .inl (G 0, 3, .inl xr.ixc)), (ax.x7, .inl (G 0, 9, .inl xr.ixf)), (ax.x8, .inr (3, [.int xr.w, .int u.ar, .int xr.hf, .int u.lg, .int u.md, .int u.dn])), (ax.x9, .inr (4, [.ref ax.x10, .ref ax.x11, .ref ax.x12])), (ax.x10, .inl (G 0, 63, .inl u.kc)), (ax.x11, .inl (G 1, 504, .inr (.inl u.kv))), (ax.x12, .inl (G 0, 4, .inl u.kn_)), (ax.x13, .inr (5, [.ref ax.x14, .long u.kn, .long u.ch, .int u.rn, .int u.op])), (ax.x14, .inr (4, [.ref ax.x15, .ref ax.x16, .ref ax.x17])), (ax.x15, .inl (G 0, 63, .inl u.ic)), (ax.x16, .inl (G 1, 504, .inr (.inl u.iv))), (ax.x17, .inl (G 0, 4, .inl u.in_)), (ax.x18, .inr (6, [.ref ax.x19, .int (nI xr.dl)])), (ax.x19, .inl (G 2, 60, .inl xr.dch)), (ax.x20, .inl (G 4, 13, .inr (.inr (.inr (.inr xr.qs))))), (ax.x21, .inr (8, [.ref ax.x0, .ref ax.x22, xr.rq, xr.rx, .int xr.rp, .int xr.rl])), (ax.x22, .inl (G 0, 3, .inl xr.rs)), (ax.x23, .inr (9, [.ref ax.x9, .ref ax.x24, xr.jq])), (ax.x24, .inl (G 0, 3, .inl xr.jb)), (ax.x25, .inr (10, [.int xr.lm, .long xr.lf, .long xr.lt, .int xr.ll]))]
def lw_m (G : Nat → ClassId) (am : AM) (u : CS) (mr : MR) : va_W := [(am.a, .inr (11, [.int (nI u.cc), .ref am.m0, .int (nI u.fc), .ref am.m1, .ref am.m2, .ref am.m3, .int u.bg, .int u.ix, .ref am.m4, .ref am.m5, .int (nI u.mkd), .ref am.m6, .ref am.m7, .ref am.m8, .ref am.m9, .ref am.m10, .ref am.m11, .ref am.m12, .long u.sl, .int mr.hf, .int u.op, .long u.kn, .long u.fr, .long u.ch, .int u.rn, .int u.dn, .int u.ar, .int mr.w, .int u.lg, .int u.md, .int u.ls, .int (nI mr.dd), .ref am.m13, .int (nI mr.qk), .ref am.m14, .ref am.m15, .ref am.m16, .ref am.m17, .ref am.m18, .ref am.m19, .ref am.m20, .ref am.m21, .int mr.nw, .int mr.at_, .int mr.bad, .int mr.ops_, .ref am.m22, .ref am.m23, .int mr.dp, .int mr.am, .ref am.m24, .ref am.m25, .int mr.tru, .ref am.m26, .int mr.loo, .ref am.m27, .ref am.m28, .ref am.m29, .int mr.vd, .int mr.vl, .long mr.set, .int mr.lt, .int (nI mr.fi), .ref am.m30, .long mr.tot, .int mr.lk])), (am.m0, .inl (G 0, 6, .inl u.mpr)), (am.m1, .inl (G 0, 8, .inl u.mow)), (am.m2, .inl (G 0, 8, .inl u.mso)), (am.m3, .inl (G 0, 8, .inl u.mai)), (am.m4, .inl (G 0, 3, .inl mr.ixc)), (am.m5, .inl (G 0, 9, .inl mr.ixp)), (am.m6, .inl (G 0, 63, .inl u.c1)), (am.m7, .inl (G 0, 504, .inl u.dV)), (am.m8, .inl (G 1, 504, .inr (.inl u.dS))), (am.m9, .inl (G 0, 4, .inl u.dN)), (am.m10, .inl (G 0, 504, .inl u.V)), (am.m11, .inl (G 1, 504, .inr (.inl u.S))), (am.m12, .inl (G 0, 4, .inl u.N)), (am.m13, .inl (G 0, 60, .inl mr.dr)), (am.m14, .inl (G 0, 13, .inl mr.le)), (am.m15, .inl (G 0, 832, .inl mr.tx)), (am.m16, .inl (G 0, 13, .inl mr.cq)), (am.m17, .inl (G 3, 13, .inl mr.sp)), (am.m18, .inl (G 0, 13, .inl mr.st)), (am.m19, .inl (G 0, 832, .inl mr.wh)), (am.m20, .inl (G 0, 832, .inl mr.on)), (am.m21, .inl (G 0, 832, .inl mr.tw)), (am.m22, .inl (G 0, 64, .inl mr.opd)), (am.m23, .inl (G 0, 64, .inl mr.oat)), (am.m24, .inl (G 0, 3, .inl mr.sd)), (am.m25, .inl (G 0, 3, .inl mr.var)), (am.m26, .inl (G 3, 64, .inl mr.tr)), (am.m27, .inl (G 1, 3, .inr (.inl mr.rs))), (am.m28, .inl (G 0, 3, .inl mr.la)), (am.m29, .inl (G 3, 3, .inl mr.lf)), (am.m30, .inl (G 0, 62, .inl mr.hits))]
def lw_Q (G : Nat → ClassId) (Q : QC) : va_W := [(Q.a, .inr (7, [.ref Q.a0, .ref Q.a2, .ref Q.a3, .ref Q.a4, .ref Q.a5, .ref Q.a6, .ref Q.a7, .int Q.nc, .int Q.root, .int Q.asked, .int Q.mode])), (Q.a0, .inr (6, [.ref Q.a1, .int Q.tl])), (Q.a1, .inl (G 2, 60, .inl Q.tch)), (Q.a2, .inl (G 0, 60, .inl Q.num)), (Q.a3, .inl (G 0, 60, .inl Q.kd)), (Q.a4, .inl (G 0, 60, .inl Q.inn)), (Q.a5, .inl (G 0, 60, .inl Q.nx)), (Q.a6, .inl (G 0, 60, .inl Q.lf)), (Q.a7, .inl (G 0, 60, .inl Q.rt))]
def lw_q (G : Nat → ClassId) : List QC → va_W
  | [] => []
  | Q :: l => lw_Q G Q ++ lw_q G l
theorem lw_q_perm (G : Nat → ClassId) (Q : QC) (l2 : List QC) : ∀ l1 : List QC, (lw_q G (l1 ++ Q :: l2)).Perm (lw_Q G Q ++ lw_q G (l1 ++ l2)) := by
  intro l1
  induction l1 with
  | nil => exact List.Perm.refl _
  | cons P l1 ih => exact (List.Perm.append_left (lw_Q G P) ih).trans (List.perm_append_comm_assoc (lw_Q G P) (lw_Q G Q) (lw_q G (l1 ++ l2)))
theorem lw_q_app (G : Nat → ClassId) (Q : QC) : ∀ l : List QC, lw_q G (l ++ [Q]) = lw_q G l ++ lw_Q G Q := by
  intro l
  induction l with
  | nil => exact List.append_nil _
  | cons P l ih => show lw_Q G P ++ lw_q G (l ++ [Q]) = (lw_Q G P ++ lw_q G l) ++ lw_Q G Q; rw [ih, List.append_assoc]
theorem lw_back (G : Nat → ClassId) (a b : va_W) (Q : QC) (l : List QC) : (a ++ (b ++ lw_q G l)) ++ lw_Q G Q = a ++ (b ++ lw_q G (l ++ [Q])) := by
  rw [lw_q_app]; simp only [List.append_assoc]
theorem lw_front (G : Nat → ClassId) (a b : va_W) (Q : QC) (l1 l2 : List QC) : (a ++ (b ++ lw_q G (l1 ++ Q :: l2))).Perm (a ++ (b ++ (lw_Q G Q ++ lw_q G (l1 ++ l2)))) := List.Perm.append_left _ (List.Perm.append_left _ (lw_q_perm G Q l2 l1))
theorem ob_split {α : Type} : ∀ (l : List α) (j : Nat) (x : α), l[j]? = some x → ∃ l1 l2, l = l1 ++ x :: l2 ∧ l1.length = j := by
  intro l
  induction l with
  | nil => intro j x h; simp at h
  | cons y l ih =>
    intro j x h
    cases j with
    | zero =>
      have e : y = x := by simpa using h
      subst e; exact ⟨[], l, rfl, rfl⟩
    | succ j =>
      obtain ⟨l1, l2, e1, e2⟩ := ih j x (by simpa using h)
      exact ⟨y :: l1, l2, by rw [e1]; rfl, by simp [e2]⟩
def pd_w (G : Nat → ClassId) (ax : AX) (u : CS) (xr : XR) : va_W := [(ax.a, .inr (0, [.ref ax.x0, .ref ax.x5, .ref ax.x8, .ref ax.x9, .ref ax.x13, .ref ax.x18, .ref ax.x20, .ref ax.x21, .ref ax.x23, .ref ax.x25, .int (nI xr.qn), .int (nI u.mkd), .int u.bg])), (ax.x8, .inr (3, [.int xr.w, .int u.ar, .int xr.hf, .int u.lg, .int u.md, .int u.dn]))]
set_option maxHeartbeats 4000000 in
set_option maxRecDepth 100000 in
theorem n_prepD (l : Launch) (D : va_G) (G : Nat → ClassId) (ax : AX) (u : CS) (xr : XR) (hdn : ¬ u.dn = 0) (sz : Nat) : MetI l y_OB_prepare ws_OB_prepare ({ frames := 1, cells := 0, slots := 0, locals := 12 }) D (obT G) (pd_w G ax u xr) (pd_w G ax u xr) [.ref ax.a] (-4) sz := by
  refine ob_of (cc := bc_OB_prepare) (maxL := 2) (ret := (some .int)) (Qc := ObQi D (obT G) (pd_w G ax u xr) (-4)) (by decide) rfl (Nat.le_of_ble_eq_true rfl) ?_
  intro p e s m below meth c A ls H locs hx hb hr hml hts hown hlk hnm hZ hP hK hD hA hS hl
  have hl : lv_has ls 2 [(0, .ref ax.a)] := hl
  refine lv_aload_n hx hb d_OB_prepare_0 rfl (lv_at hl 0 rfl) ?_
  refine va_get (D := D) (ci := 0) (v := .ref ax.x8) (C := "ObjectBase") (T := TC_OB) (N := 13) hx hb hts inC_OB hown hK hP 0 rfl rfl 2 (by decide) (hts _ tw234) (fun _ h9 => h9) rfl d_OB_prepare_1 ?_
  refine va_get (D := D) (ci := 3) (v := .int u.dn) (C := "ObjectBase$Disk") (T := TC_Disk) (N := 6) hx hb hts inC_Disk hown hK hP 1 rfl rfl 5 (by decide) (hts _ tw87) (fun _ h9 => h9) rfl d_OB_prepare_4 ?_
  refine lv_if_eq (tgt := 13) hx hb d_OB_prepare_7 (by decide) (fun h => absurd h hdn) (fun _ => ?_)
  refine lv_bipush (v := (-4)) hx hb d_OB_prepare_10 (by decide) ?_
  exact ob_iret hx hb hr hlk hK hP hD hS rfl d_OB_prepare_12
theorem lw_in {i L k : Nat} (hi : i + 5 ≤ L) (hL : L ≤ 2560) (hk : k < 5) : vp_in (nI i + nI k) L := by
  rw [nI_add]; exact vp_in_nI (by omega) (by omega)
theorem lw_in0 {i L : Nat} (hi : i + 5 ≤ L) (hL : L ≤ 2560) : vp_in (nI i) L := vp_in_nI (by omega) (by omega)
theorem lw_go {i L : Nat} (hL : L ≤ 2560) (hi : i ≤ L + 5) (h : ¬ Int32.ofNat L - 5 < nI i) : i + 5 ≤ L := by
  by_cases h5 : 5 ≤ L
  · have e : Int32.ofNat L - 5 = nI (L - 5) := by
      rw [show Int32.ofNat L = nI L from rfl, show (5 : Int32) = nI 5 from rfl, pk_sub h5]
    rw [e, Int32.lt_iff_toInt_lt, nI_toInt (by omega), nI_toInt (by omega)] at h
    omega
  · exfalso
    refine h ?_
    rw [Int32.lt_iff_toInt_lt, nI_toInt (by omega)]
    rcases (show L = 0 ∨ L = 1 ∨ L = 2 ∨ L = 3 ∨ L = 4 by omega) with rfl | rfl | rfl | rfl | rfl
    · rw [show (Int32.ofNat 0 - 5).toInt = -5 by decide]; omega
    · rw [show (Int32.ofNat 1 - 5).toInt = -4 by decide]; omega
    · rw [show (Int32.ofNat 2 - 5).toInt = -3 by decide]; omega
    · rw [show (Int32.ofNat 3 - 5).toInt = -2 by decide]; omega
    · rw [show (Int32.ofNat 4 - 5).toInt = -1 by decide]; omega
