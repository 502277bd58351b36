theorem armOk_0 : armOk 0 := Or.inr (by decide)
theorem S_recover {s : CS} (h : rCore s) (w mw : Int32) : ∃ (r ar lg md dn op : Int32) (sl : Int64) (dN dV : Nat → Int32) (dS : Nat → Int64) (w' mw' : Int32), f_OB_recover w s.ar s.lg s.md s.dn = some (r, w', ar, lg, md, dn) ∧ f_M_recover s.sl s.op s.fr s.dn s.ar mw s.lg s.md s.ls s.N s.dN s.V s.dV s.S s.dS = some (r, sl, op, dn, ar, mw', lg, md, dN, dV, dS) ∧ op = s.op ∧ rCore (CS.mk s.bg dn op ar s.rn lg md s.ix s.ls s.kn s.ch sl s.fr s.cc s.fc s.mkd s.par s.own s.aim s.ab s.cl s.xab s.xow s.xkd s.xtg s.kc s.kn_ s.ic s.in_ s.mpr s.mow s.mso s.mai s.c1 dV dN s.V s.N s.kv s.iv dS s.S) := by
  unfold f_OB_recover f_M_recover
  have h8 := rc_8 h
  have h62 := h.mk62
  by_cases hd : s.dn = 0
  · rw [if_pos hd, if_pos hd]; exact ⟨-1, s.ar, s.lg, s.md, s.dn, s.op, s.sl, s.dN, s.dV, s.dS, _, _, rfl, rfl, rfl, h⟩
  · rw [if_neg hd, if_neg hd]
    have hop := h.dop hd
    unfold f_Disk_restart
    by_cases hm : s.md = 0
    · rw [if_pos hm, if_pos hm]
      obtain ⟨n, hn, en⟩ := h.lg
      have hj : ∀ a b c d (w9 : Int32), f_M_recover_J75 s.md s.sl s.op 0 (-1) w9 a s.md b c d = some (0, s.sl, s.op, 0, -1, w9, a, s.md, b, c, d) := fun a b c d w9 => by
        unfold f_M_recover_J75; rw [if_pos hm]
      by_cases hl : s.lg ≤ 0
      · rw [if_pos hl, if_pos hl, hj, ob_bs]
        have hl0 : s.lg = 0 := by
          rw [en] at hl ⊢
          rw [Int32.le_iff_toInt_le, nI_toInt (by omega), i0] at hl
          rw [show n = 0 by omega]; rfl
        exact ⟨0, -1, s.lg, s.md, 0, s.op, s.sl, s.dN, s.dV, s.dS, _, _, rfl, rfl, rfl, ⟨h.sch, h.mk62, h.cls, h.bg, (Or.inl rfl), h.op, h.rn, h.md, h.bg0, (Or.inl rfl), h.ix, h.ich, (fun hh => absurd rfl hh), (fun _ => ⟨hl0, hm⟩), h.lg, h.lsz, h.kp0, h.kp1, h.im, h.dj, h.same⟩⟩
      · rw [if_neg hl, if_neg hl, hj, X_wb, ob_bs, ob_bs, if_neg (show ¬ (-1 : Int32) = 0 by decide)]
        exact ⟨0, -1, 0, s.md, 0, s.op, s.sl, s.dN, s.dV, s.dS, _, _, rfl, rfl, rfl, ⟨h.sch, h.mk62, h.cls, h.bg, (Or.inl rfl), h.op, h.rn, h.md, h.bg0, (Or.inl rfl), h.ix, h.ich, (fun hh => absurd rfl hh), (fun _ => ⟨rfl, hm⟩), (⟨0, by omega, rfl⟩), (fun hh => absurd hm hh), h.kp0, h.kp1, h.im, h.dj, h.same⟩⟩
    · rw [if_neg hm, if_neg hm]
      obtain ⟨n, hn, en⟩ := h.lg
      obtain ⟨w', ew⟩ := X_home (m := n) (by omega) w (-1) s.md
      obtain ⟨N', V', S', e1, e2, e3⟩ := M_forth (N := s.N) (V := s.V) (S := s.S) s.sl s.fr s.op s.lg s.md s.dN s.dV s.dS
      obtain ⟨K, hK⟩ := h.kp1 hm
      rw [en, ew, ← en, e1, ob_bs, ob_bs, wrA_m1, if_pos rfl]
      rw [ob_nz_i (Or.inr rfl), ob_bs, if_neg one_ne]
      have hj : f_M_recover_J75 s.md (s.sl ||| s.fr) 0 0 (-1) (mw + (s.ls + 1)) 0 0 N' V' S' = some (1, s.sl ||| s.fr, 0, 0, -1, mw + (s.ls + 1), 0, 0, N', V', S') := by
        unfold f_M_recover_J75; rw [if_neg hm]
      refine ⟨1, -1, 0, 0, 0, 0, s.sl ||| s.fr, N', V', S', _, _, rfl, hj, hop.symm, ⟨h.sch, h.mk62, h.cls, h.bg, (Or.inl rfl), (Or.inl rfl), h.rn, (Or.inl rfl), (fun hb => ⟨(h.bg0 hb).1, rfl⟩), (Or.inl rfl), h.ix, h.ich, (fun _ => rfl), (fun _ => ⟨rfl, rfl⟩), (⟨0, by omega, rfl⟩), (fun hh => absurd rfl hh), (fun _ => ⟨K, ?_⟩), (fun hh => absurd rfl hh), (fun hh => absurd rfl hh), (fun hh => absurd rfl hh), (fun _ _ => ⟨fun k hk => ⟨((e3 k hk).1).symm, ((e3 k hk).2).symm⟩, fun m hm => (e2 m hm).symm⟩)⟩⟩
      exact rIm_cong h62 h8 hK (fun _ _ => rfl) (fun _ _ => rfl) (fun _ _ => rfl) (fun k hk => (e3 k hk).1) (fun k hk => (e3 k hk).2) e2
theorem xc_cnt {fc mk cc : Nat} {par own cl : Nat → Nat} {so : Nat → Int32} {s : Int64} {xc xn vs ns : Nat → Int32} {xv ss : Nat → Int64} (hcc : cc ≤ 5) (h : rImg fc mk par own so cl s xc xv xn vs ss ns) (hcl : ∀ i, 1 ≤ i → i ≤ mk → 1 ≤ cl i ∧ cl i ≤ cc) : f_Image_objectCount xc = some (nI (cnt s)) := by
  obtain ⟨a1, a2, a3, a4, -⟩ := h
  refine X_count a1 (fun i h1 h2 => ?_)
  rw [a4 i h1 h2]
  cases ht : tb s i
  · exact ⟨fun _ => rfl, fun _ => if_neg (by decide)⟩
  · have hm : i ≤ mk := by
      by_cases hh : i ≤ mk
      · exact hh
      · rw [a2 i (by omega)] at ht; cases ht
    obtain ⟨c1, c2⟩ := hcl i h1 hm
    rw [if_pos rfl]
    exact ⟨fun e => absurd e (nI_ne0 (by omega) (by omega)), fun e => by cases e⟩
theorem S_collect {s : CS} (h : rCore s) (w mw hf mh la fi lo : Int32) (to_ : Int64) (xm xl : Int32) (xf xt : Int64) : ∃ (r ar dn op : Int32) (kc : Nat → Int32) (sl : Int64) (S : Nat → Int64) (V N : Nat → Int32) (w' mw' hf' mh' la' fi' lo' : Int32) (to' : Int64) (xm' xl' : Int32) (xf' xt' : Int64), f_OB_collect w s.ar hf s.dn s.op (nI s.fc) s.kv s.xkd s.kn_ s.kc xm xf xt xl = some (r, w', ar, hf', dn, op, kc, xm', xf', xt', xl') ∧ f_M_collect (nI s.fc) (nI s.mkd) s.sl mh s.op s.dn s.ar mw s.md la fi to_ lo s.c1 s.mow s.mpr s.mso s.S s.dS s.V s.dV s.N s.dN = some (r, sl, mh', op, dn, ar, mw', la', fi', to', lo', S, V, N) ∧ (fi' = fi ∨ fi' = 0) ∧ rCore (CS.mk s.bg dn op ar s.rn s.lg s.md s.ix s.ls s.kn s.ch sl s.fr s.cc s.fc s.mkd s.par s.own s.aim s.ab s.cl s.xab s.xow s.xkd s.xtg kc s.kn_ s.ic s.in_ s.mpr s.mow s.mso s.mai s.c1 s.dV s.dN V N s.kv s.iv s.dS S) := by
  unfold f_OB_collect f_M_collect
  have h5 := rc_5 h
  have h8 := rc_8 h
  have h62 := h.mk62
  by_cases hd : s.dn = 0
  · rw [if_pos hd, if_pos hd]
    by_cases ho : s.op = 0
    · rw [if_pos ho, if_pos ho]
      obtain ⟨hl0, hm0⟩ := h.dlm hd
      obtain ⟨K, hK⟩ := h.kp0 hm0
      obtain ⟨r, r1, r2, r3, r4, r5⟩ := reach_same2 h.sch hK h.mk62 h.cls
      have hc62 : cnt r ≤ 62 := cnt_le r1
      have hco := xc_cnt h5 hK.1 (fun i a b => (h.cls i a b).2)
      obtain ⟨w', ew⟩ := X_wbs (m := cnt r + 1) (by omega) w s.ar
      obtain ⟨kc', k1, k2, k3⟩ := X_keep s.kc r
      obtain ⟨mw', N', V', S', m1, m2, m3⟩ := M_c33 (q := cnt r) (by omega) r s.sl mh s.op s.dn la fi lo to_ s.dN s.N s.dV s.V s.dS s.S 1000 0 mw s.ar h.arm (by omega) (by omega)
      rw [r4, ob_bs, bitCount_eq, cnt_64 (ids_63 r1), ob_bs, hco, ob_bs, nI_1, ew, ob_bs, r5 s.V s.dV s.N s.dN s.S s.dS 1 (if_neg (by decide)) (if_neg (by decide)) (if_neg (by decide)), ob_bs, count_eq, ob_bs]
      have m1' := (congrArg (fun q => f_M_collect_L33 q s.dN s.dV s.dS 1000 r (nI (cnt r)) (nI 0) s.sl mh s.op s.dn s.ar mw la fi to_ lo s.S s.V s.N) hm0).trans m1
      rw [show nI (pcn r.toBitVec.toNat 63) = nI (cnt r) from rfl, show f_M_collect_L33 s.md s.dN s.dV s.dS 1000 r (nI (cnt r)) 0 = f_M_collect_L33 s.md s.dN s.dV s.dS 1000 r (nI (cnt r)) (nI 0) from rfl]
      rw [m1']
      rw [Nat.sub_zero]
      cases hw : (wrA (cnt r + 1) s.ar).1
      · have hw2 := wrA_no _ _ hw
        rw [if_pos b2i_f, if_neg (by decide), hw2]
        refine ⟨-4, 0, 1, 0, s.kc, s.sl, S', V', N', w', mw', hf, mh, _, _, _, _, _, _, _, _, rfl, rfl, (by first | exact Or.inl rfl | exact Or.inr rfl), ⟨h.sch, h.mk62, h.cls, h.bg, (Or.inr rfl), (Or.inl rfl), h.rn, h.md, (fun hb => ⟨(h.bg0 hb).1, rfl⟩), (armOk_0), h.ix, h.ich, (fun _ => rfl), (fun hh => absurd hh one_ne), h.lg, h.lsz, h.kp0, (fun hh => absurd hm0 hh), (fun hh => absurd rfl hh), (fun hh => absurd rfl hh), (fun _ _ => ⟨m3, m2⟩)⟩⟩
      · rw [if_neg b2i_t, if_pos rfl, k1, ob_bs]
        refine ⟨_, (wrA (cnt r + 1) s.ar).2, s.dn, s.op, kc', r, s.S, s.V, s.N, w', mw', _, _, _, _, _, _, _, _, _, _, rfl, rfl, (by first | exact Or.inl rfl | exact Or.inr rfl), ⟨h.sch, h.mk62, h.cls, h.bg, h.dn, h.op, h.rn, h.md, h.bg0, (armOk_wrA _ _ h.arm), h.ix, h.ich, h.dop, h.dlm, h.lg, h.lsz, (fun _ => ⟨r, ?_⟩), (fun hh => absurd hm0 hh), (fun hh => absurd ho hh), (fun hh => absurd ho hh), h.same⟩⟩
        obtain ⟨⟨a1, a2, a3, a4, a5⟩, hz, hc, hKs⟩ := hK
        refine ⟨⟨r1, fun i hi => ?_, k3.trans a3, fun i h1 h2 => ?_, a5⟩, hz, r2, fun i hi => hi⟩
        · show tb r i = false
          have hi : s.mkd < i := hi
          cases ht : tb r i
          · rfl
          · have := hKs i (r3 i ht); rw [a2 i hi] at this; cases this
        · show kc' i = if tb r i = true then nI (s.cl i) else 0
          rw [k2 i h1 h2]
          cases ht : tb r i
          · rfl
          · rw [if_pos rfl, if_pos rfl, a4 i h1 h2, if_pos (hKs i (r3 i ht))]
    · rw [if_neg ho, if_neg ho]; exact ⟨-1, s.ar, s.dn, s.op, s.kc, s.sl, s.S, s.V, s.N, _, _, _, _, _, _, _, _, _, _, _, _, rfl, rfl, (by first | exact Or.inl rfl | exact Or.inr rfl), h⟩
  · rw [if_neg hd, if_neg hd]; exact ⟨-4, s.ar, s.dn, s.op, s.kc, s.sl, s.S, s.V, s.N, _, _, _, _, _, _, _, _, _, _, _, _, rfl, rfl, (by first | exact Or.inl rfl | exact Or.inr rfl), h⟩
theorem S_commit {s : CS} (h : rCore s) (w mw la fi lo : Int32) (to_ : Int64) (xm xl : Int32) (xf xt : Int64) : ∃ (r ar lg md dn op ls : Int32) (kc : Nat → Int32) (kv : Nat → Int64) (kn_ : Nat → Int32) (sl : Int64) (dN N dV V : Nat → Int32) (dS S : Nat → Int64) (w' mw' la' fi' lo' : Int32) (to' : Int64) (xm' xl' : Int32) (xf' xt' : Int64), f_OB_commit w s.ar s.lg s.md s.dn s.ch s.rn s.op s.ic s.kc s.kv s.iv s.kn_ s.in_ xm xf xt xl = some (r, w', ar, lg, md, dn, op, kc, kv, kn_, xm', xf', xt', xl') ∧ f_M_commit s.sl s.op s.fr s.ch s.rn s.dn s.ar mw s.lg s.md s.ls la fi to_ lo s.dN s.N s.dV s.V s.dS s.S = some (r, sl, op, dn, ar, mw', lg, md, ls, la', fi', to', lo', dN, N, dV, V, dS, S) ∧ (fi' = fi ∨ fi' = 0) ∧ rCore (CS.mk s.bg dn op ar s.rn lg md s.ix ls s.kn s.ch sl s.fr s.cc s.fc s.mkd s.par s.own s.aim s.ab s.cl s.xab s.xow s.xkd s.xtg kc kn_ s.ic s.in_ s.mpr s.mow s.mso s.mai s.c1 dV dN V N kv s.iv dS S) := by
  unfold f_OB_commit f_M_commit
  have h5 := rc_5 h
  have h8 := rc_8 h
  have h62 := h.mk62
  have no : ∀ r0 : Int32, ∃ (r ar lg md dn op ls : Int32) (kc : Nat → Int32) (kv : Nat → Int64) (kn_ : Nat → Int32) (sl : Int64) (dN N dV V : Nat → Int32) (dS S : Nat → Int64) (w' mw' la' fi' lo' : Int32) (to' : Int64) (xm' xl' : Int32) (xf' xt' : Int64), some (r0, w, s.ar, s.lg, s.md, s.dn, s.op, s.kc, s.kv, s.kn_, xm, xf, xt, xl) = some (r, w', ar, lg, md, dn, op, kc, kv, kn_, xm', xf', xt', xl') ∧ some (r0, s.sl, s.op, s.dn, s.ar, mw, s.lg, s.md, s.ls, la, fi, to_, lo, s.dN, s.N, s.dV, s.V, s.dS, s.S) = some (r, sl, op, dn, ar, mw', lg, md, ls, la', fi', to', lo', dN, N, dV, V, dS, S) ∧ (fi' = fi ∨ fi' = 0) ∧ rCore (CS.mk s.bg dn op ar s.rn lg md s.ix ls s.kn s.ch sl s.fr s.cc s.fc s.mkd s.par s.own s.aim s.ab s.cl s.xab s.xow s.xkd s.xtg kc kn_ s.ic s.in_ s.mpr s.mow s.mso s.mai s.c1 dV dN V N kv s.iv dS S) := fun r0 => ⟨r0, _, _, _, _, _, _, _, _, _, _, _, _, _, _, _, _, _, _, _, _, _, _, _, _, _, _, rfl, rfl, (by first | exact Or.inl rfl | exact Or.inr rfl), h⟩
  by_cases hd : s.dn = 0
  · rw [if_pos hd, if_pos hd]
    by_cases ho : s.op = 0
    · rw [if_pos ho, if_pos ho]; exact no (-1)
    · rw [if_neg ho, if_neg ho]
      obtain ⟨hl0, hm0⟩ := h.dlm hd
      have hI := h.im ho
      have hco := xc_cnt h5 hI.1 (fun i a b => (h.cls i a b).2)
      rw [cnt_or (h.dj ho)] at hco
      rw [hco, ob_bs, count_eq, count_eq, ob_bs, ob_bs, show nI (pcn s.sl.toBitVec.toNat 63) + nI (pcn s.fr.toBitVec.toNat 63) = nI (cnt s.sl + cnt s.fr) from nI_add _ _]
      by_cases hroom : nI (cnt s.sl + cnt s.fr) ≤ 16
      · rw [if_pos hroom, if_pos hroom]
        unfold f_Batch_blockCount
        have hc62 : cnt s.ch ≤ 62 := cnt_le h.ich
        rw [bitCount_eq, cnt_64 (ids_63 h.ich), ob_bs, count_eq, ob_bs, show pcn s.ch.toBitVec.toNat 63 = cnt s.ch from rfl]
        have key : ∀ q : Nat, q ≤ 63 → ∃ (r ar lg md dn op ls : Int32) (kc : Nat → Int32) (kv : Nat → Int64) (kn_ : Nat → Int32) (sl : Int64) (dN N dV V : Nat → Int32) (dS S : Nat → Int64) (w' mw' la' fi' lo' : Int32) (to' : Int64) (xm' xl' : Int32) (xf' xt' : Int64), ((f_Disk_writeLog w s.ar s.lg s.md (nI q)).bind fun o56 => (if o56.1 = 0 then ((f_OB_goDown).bind fun o63 => (some (o63.1, o56.2.1, o56.2.2.1, o56.2.2.2.1, o56.2.2.2.2, o63.2.1, o63.2.2.1, s.kc, s.kv, s.kn_, o63.2.2.2.1, o63.2.2.2.2.1, o63.2.2.2.2.2.1, o63.2.2.2.2.2.2))) else ((f_Image_copyFrom s.kc s.ic s.kv s.iv s.kn_ s.in_).bind fun o78 => ((f_Disk_writeHome o56.2.1 o56.2.2.1 o56.2.2.2.1 o56.2.2.2.2).bind fun o93 => (if o93.1 = 0 then ((f_OB_goDown).bind fun o104 => (some (o104.1, o93.2.1, o93.2.2.1, o93.2.2.2.1, o93.2.2.2.2, o104.2.1, o104.2.2.1, o78.1, o78.2.1, o78.2.2, o104.2.2.2.1, o104.2.2.2.2.1, o104.2.2.2.2.2.1, o104.2.2.2.2.2.2))) else (some (nI q, o93.2.1, o93.2.2.1, o93.2.2.2.1, o93.2.2.2.2, s.dn, 0, o78.1, o78.2.1, o78.2.2, xm, xf, xt, xl))))))) = some (r, w', ar, lg, md, dn, op, kc, kv, kn_, xm', xf', xt', xl') ∧ f_M_commit_L68 s.fr 1000 0 s.sl s.op s.dn s.ar mw s.lg s.md (nI q) la fi to_ lo s.dN s.N s.dV s.V s.dS s.S = some (r, sl, op, dn, ar, mw', lg, md, ls, la', fi', to', lo', dN, N, dV, V, dS, S) ∧ (fi' = fi ∨ fi' = 0) ∧ rCore (CS.mk s.bg dn op ar s.rn lg md s.ix ls s.kn s.ch sl s.fr s.cc s.fc s.mkd s.par s.own s.aim s.ab s.cl s.xab s.xow s.xkd s.xtg kc kn_ s.ic s.in_ s.mpr s.mow s.mso s.mai s.c1 dV dN V N kv s.iv dS S) := fun q hq => by
          obtain ⟨w1, x1⟩ := X_log (m := q) (by omega) w s.ar s.md
          obtain ⟨m1, N1, V1, S1, y1, y2, y3⟩ := M_c68 (fr := s.fr) (sz := q) (by omega) s.sl s.op s.dn la fi lo to_ s.dN s.N s.dV s.V s.dS s.S 1000 0 mw s.ar 0 h.arm (by omega) (by omega)
          have x1' := (congrArg (fun z => f_Disk_writeLog w s.ar z s.md (nI q)) hl0).trans x1
          have y1' := (congrArg (fun z => f_M_commit_L68 s.fr 1000 (nI 0) s.sl s.op s.dn s.ar mw (nI 0) z (nI q) la fi to_ lo s.dN s.N s.dV s.V s.dS s.S) hm0).trans y1
          have y1'' := (congrArg (fun z => f_M_commit_L68 s.fr 1000 0 s.sl s.op s.dn s.ar mw z s.md (nI q) la fi to_ lo s.dN s.N s.dV s.V s.dS s.S) hl0).trans y1'
          rw [x1', y1'', Nat.sub_zero]
          cases hw : (wrA q s.ar).1
          · rw [if_neg (show ¬ (false = true) by decide), if_neg (show ¬ (false = true ∧ ¬ (wrA q s.ar).2 = 0) from fun hh => by cases hh.1), ob_bs, if_pos rfl, Nat.zero_add]
            refine ⟨-4, 0, nI (lgA q s.ar), s.md, 1, 0, nI q, s.kc, s.kv, s.kn_, s.sl, s.dN, N1, s.dV, V1, s.dS, S1, _, _, _, _, _, _, _, _, _, _, rfl, by rw [hm0], (by first | exact Or.inl rfl | exact Or.inr rfl), ⟨h.sch, h.mk62, h.cls, h.bg, (Or.inr rfl), (Or.inl rfl), h.rn, h.md, (fun hb => ⟨(h.bg0 hb).1, rfl⟩), (armOk_0), h.ix, h.ich, (fun _ => rfl), (fun hh => absurd hh one_ne), (⟨_, Nat.le_trans (lgA_le q s.ar) hq, rfl⟩), (fun hh => absurd hm0 hh), h.kp0, (fun hh => absurd hm0 hh), (fun hh => absurd rfl hh), (fun hh => absurd rfl hh), (fun _ _ => ⟨y3, y2⟩)⟩⟩
          · by_cases h0 : (wrA q s.ar).2 = 0
            · rw [if_pos rfl, if_pos h0, if_neg (show ¬ (true = true ∧ ¬ (wrA q s.ar).2 = 0) from fun hh => hh.2 h0), ob_bs, if_pos rfl, Nat.zero_add, lgA_all q s.ar hw]
              refine ⟨-4, 0, nI q, 0, 1, 0, nI q, s.kc, s.kv, s.kn_, s.sl, s.dN, N1, s.dV, V1, s.dS, S1, _, _, _, _, _, _, _, _, _, _, rfl, rfl, (by first | exact Or.inl rfl | exact Or.inr rfl), ⟨h.sch, h.mk62, h.cls, h.bg, (Or.inr rfl), (Or.inl rfl), h.rn, (Or.inl rfl), (fun hb => ⟨(h.bg0 hb).1, rfl⟩), (armOk_0), h.ix, h.ich, (fun _ => rfl), (fun hh => absurd hh one_ne), (⟨q, hq, rfl⟩), (fun hh => absurd rfl hh), (fun _ => h.kp0 hm0), (fun hh => absurd rfl hh), (fun hh => absurd rfl hh), (fun hh => absurd rfl hh), (fun _ _ => ⟨y3, y2⟩)⟩⟩
            · rw [if_pos rfl, if_neg h0, if_pos ⟨rfl, h0⟩, ob_bs, if_neg one_ne, Nat.zero_add]
              obtain ⟨c', v', n', e1, e2, e3, e4⟩ := copyFrom_eq s.kc s.ic s.kn_ s.in_ s.kv s.iv
              have ha := armOk_nxt (armOk_wrA q s.ar h.arm) h0
              obtain ⟨w2, x2⟩ := X_home (m := q) (by omega) w1 (nxt (wrA q s.ar).2) 1
              obtain ⟨m2, N2, V2, S2, z1, z2, z3⟩ := M_c119 (fr := s.fr) (sz := q) (by omega) s.sl s.op s.dn (nI q) la fi lo to_ s.dN s.N s.dV s.V s.dS s.S 1000 0 m1 (nxt (wrA q s.ar).2) ha (by omega) (by omega)
              rw [e1, ob_bs, x2, ob_bs, show f_M_commit_L119 s.fr 1000 0 = f_M_commit_L119 s.fr 1000 (nI 0) from rfl, z1, Nat.sub_zero]
              have hkept : rIm s.fc s.mkd s.par s.own s.mso s.cl (s.sl ||| s.fr) s.kn c' v' n' s.V s.S s.N := rIm_cong h62 h8 hI e2 e3 e4 (fun _ _ => rfl) (fun _ _ => rfl) (fun _ _ => rfl)
              cases hw2 : (wrA (q + 1) (nxt (wrA q s.ar).2)).1
              · rw [if_neg (show ¬ (false = true) by decide), if_neg (show ¬ (false = true) by decide), if_pos rfl]
                refine ⟨-4, 0, nI q, 1, 1, 0, nI q, c', v', n', s.sl, s.dN, s.N, s.dV, s.V, s.dS, s.S, _, _, _, _, _, _, _, _, _, _, rfl, rfl, (by first | exact Or.inl rfl | exact Or.inr rfl), ⟨h.sch, h.mk62, h.cls, h.bg, (Or.inr rfl), (Or.inl rfl), h.rn, (Or.inr rfl), (fun hb => ⟨(h.bg0 hb).1, rfl⟩), (armOk_0), h.ix, h.ich, (fun _ => rfl), (fun hh => absurd hh one_ne), (⟨q, hq, rfl⟩), (fun _ => rfl), (fun hh => absurd hh one_ne), (fun _ => ⟨s.kn, hkept⟩), (fun hh => absurd rfl hh), (fun hh => absurd rfl hh), (fun _ hh => absurd hh one_ne)⟩⟩
              · rw [if_pos rfl, if_pos rfl, if_neg one_ne]
                refine ⟨nI q, (wrA (q + 1) (nxt (wrA q s.ar).2)).2, 0, 0, s.dn, 0, nI q, c', v', n', s.sl ||| s.fr, N2, s.N, V2, s.V, S2, s.S, _, _, _, _, _, _, _, _, _, _, rfl, rfl, (by first | exact Or.inl rfl | exact Or.inr rfl), ⟨h.sch, h.mk62, h.cls, h.bg, h.dn, (Or.inl rfl), h.rn, (Or.inl rfl), (fun hb => ⟨(h.bg0 hb).1, rfl⟩), (armOk_wrA _ _ ha), h.ix, h.ich, (fun _ => rfl), (fun _ => ⟨rfl, rfl⟩), (⟨0, by omega, rfl⟩), (fun hh => absurd rfl hh), (fun _ => ⟨s.kn, rIm_cong h62 h8 hkept (fun _ _ => rfl) (fun _ _ => rfl) (fun _ _ => rfl) (fun k hk => (z3 k hk).1) (fun k hk => (z3 k hk).2) z2⟩), (fun hh => absurd rfl hh), (fun hh => absurd rfl hh), (fun hh => absurd rfl hh), (fun _ _ => ⟨fun k hk => ⟨((z3 k hk).1).symm, ((z3 k hk).2).symm⟩, fun m hm => (z2 m hm).symm⟩)⟩⟩
        unfold f_M_commit_J62
        by_cases hr : s.rn = 0
        · rw [if_pos hr, if_pos hr, Int32.add_zero, ob_bs]; exact key (cnt s.ch) (by omega)
        · rw [if_neg hr, if_neg hr, nI_1, ob_bs]; exact key (cnt s.ch + 1) (by omega)
      · rw [if_neg hroom, if_neg hroom]; exact no (-3)
  · rw [if_neg hd, if_neg hd]; exact no (-4)

theorem shown_im {s : CS} (h : rCore s) (hd : s.dn = 0) : (s.op = 0 → ∃ K, rIm s.fc s.mkd s.par s.own s.mso s.cl s.sl K s.kc s.kv s.kn_ s.V s.S s.N) ∧ (¬ s.op = 0 → rIm s.fc s.mkd s.par s.own s.mso s.cl (s.sl ||| s.fr) s.kn s.ic s.iv s.in_ s.V s.S s.N) := by
  refine ⟨fun ho => ?_, h.im⟩
  obtain ⟨hl0, hm0⟩ := h.dlm hd
  obtain ⟨K, hK⟩ := h.kp0 hm0
  obtain ⟨q1, q2⟩ := h.same ho hm0
  exact ⟨K, rIm_cong h.mk62 (rc_8 h) hK (fun _ _ => rfl) (fun _ _ => rfl) (fun _ _ => rfl) (fun k hk => (q1 k hk).1) (fun k hk => (q1 k hk).2) q2⟩
theorem mem_or (a b : Int64) (z : Int32) : mem (a ||| b) z = (mem a z || mem b z) := by
  unfold mem; rw [tb_or]
  cases decide (1 ≤ z.toInt ∧ z.toInt ≤ 62) <;> cases tb a z.toInt.toNat <;> cases tb b z.toInt.toNat <;> rfl
theorem there_eq (sl fr : Int64) (op z : Int32) : f_M_there sl op fr z = some (b2i (mem (if op = 0 then sl else sl ||| fr) z)) := by
  unfold f_M_there
  rw [in_eq, ob_bs]
  by_cases ho : op = 0
  · rw [if_pos ho, if_pos ho]; cases mem sl z <;> rfl
  · rw [if_neg ho, if_neg ho, in_eq, ob_bs, mem_or]; cases mem sl z <;> cases mem fr z <;> rfl
theorem at_eq {s : CS} (h : rCore s) {sl : Int64} {xc xn vs ns : Nat → Int32} {xv ss : Nat → Int64} (hI : rImg s.fc s.mkd s.par s.own s.mso s.cl sl xc xv xn vs ss ns) (z : Int32) : (mem sl z = false ∧ f_Image_classAt xc z = some 0) ∨ (mem sl z = true ∧ ∃ i : Nat, z = nI i ∧ 1 ≤ i ∧ i ≤ s.mkd ∧ i ≤ 62 ∧ tb sl i = true ∧ f_Image_classAt xc z = some (nI (s.cl i)) ∧ s.c1 i = nI (s.cl i) ∧ 1 ≤ s.cl i ∧ s.cl i ≤ s.cc) := by
  obtain ⟨a1, a2, a3, a4, -⟩ := hI
  by_cases hz : 1 ≤ z.toInt ∧ z.toInt ≤ 62
  · obtain ⟨i, hi⟩ : ∃ i : Nat, z.toInt = (i : Int) := ⟨z.toInt.toNat, by omega⟩
    have e := nI_z hi (by omega)
    have h1 : 1 ≤ i := by omega
    have h2 : i ≤ 62 := by omega
    have hm : mem sl z = tb sl i := by rw [e]; exact mem_n sl h1 h2
    cases ht : tb sl i
    · refine Or.inl ⟨by rw [hm, ht], ?_⟩
      rw [e, X_classAt xc h1 h2, a4 i h1 h2, ht]; rfl
    · refine Or.inr ⟨by rw [hm, ht], i, e, h1, ?_, h2, ht, ?_, ?_⟩
      · by_cases hh : i ≤ s.mkd
        · exact hh
        · rw [a2 i (by omega)] at ht; cases ht
      · rw [e, X_classAt xc h1 h2, a4 i h1 h2, ht]; rfl
      · refine h.cls i h1 ?_
        by_cases hh : i ≤ s.mkd
        · exact hh
        · rw [a2 i (by omega)] at ht; cases ht
  · refine Or.inl ⟨?_, X_classAt_out xc hz⟩
    unfold mem; rw [decide_eq_false hz, Bool.false_and]
theorem S_classOf {s : CS} (h : rCore s) (z : Int32) : ∃ r : Int32, f_OB_classOf s.dn s.op s.kc s.ic z = some r ∧ f_M_classOf s.sl s.op s.fr s.dn s.c1 z = some r := by
  unfold f_OB_classOf f_M_classOf f_OB_shown
  by_cases hd : s.dn = 0
  · rw [if_pos hd, if_pos hd, there_eq, ob_bs]
    obtain ⟨g1, g2⟩ := shown_im h hd
    have fin : ∀ (sl : Int64) (xc : Nat → Int32), ((mem sl z = false ∧ f_Image_classAt xc z = some 0) ∨ (mem sl z = true ∧ ∃ i : Nat, z = nI i ∧ 1 ≤ i ∧ i ≤ s.mkd ∧ i ≤ 62 ∧ tb sl i = true ∧ f_Image_classAt xc z = some (nI (s.cl i)) ∧ s.c1 i = nI (s.cl i) ∧ 1 ≤ s.cl i ∧ s.cl i ≤ s.cc)) → ∃ r : Int32, ((f_Image_classAt xc z).bind fun o19 => some o19) = some r ∧ (if b2i (mem sl z) = 0 then some 0 else ob_iv z 63 (some (s.c1 z.toNatClampNeg))) = some r := fun sl xc hh => by
      rcases hh with ⟨e1, e2⟩ | ⟨e1, i, rfl, i1, i2, i3, i4, i5, i6, i7⟩
      · rw [e1, e2, if_pos b2i_f]; exact ⟨0, rfl, rfl⟩
      · rw [e1, i5, if_neg b2i_t, ob_iv_i (by rw [nI_toInt (by omega)]; omega), nI_clamp (by omega), i6]; exact ⟨_, rfl, rfl⟩
    by_cases ho : s.op = 0
    · rw [if_pos ho, if_pos ho, ob_bs, if_neg (by decide)]
      obtain ⟨K, hK⟩ := g1 ho
      exact fin _ _ (at_eq h hK.1 z)
    · rw [if_neg ho, if_neg ho, ob_bs, if_pos rfl]
      exact fin _ _ (at_eq h (g2 ho).1 z)
  · rw [if_neg hd, if_neg hd]; exact ⟨0, rfl, rfl⟩
theorem S_reached {s : CS} (h : rCore s) (z : Int32) : ∃ r : Int32, f_OB_reached s.dn s.op (nI s.fc) s.kv s.xkd s.kn_ s.iv s.in_ z = some r ∧ f_M_reached (nI s.fc) (nI s.mkd) s.dn s.c1 s.mow s.mpr s.mso s.S s.dS s.V s.dV s.N s.dN z = some r := by
  unfold f_OB_reached f_M_reached f_OB_shown
  by_cases hd : s.dn = 0
  · rw [if_pos hd, if_pos hd]
    obtain ⟨g1, g2⟩ := shown_im h hd
    by_cases ho : s.op = 0
    · rw [if_pos ho, ob_bs, if_neg (by decide)]
      obtain ⟨K, hK⟩ := g1 ho
      obtain ⟨r, -, -, -, r4, r5⟩ := reach_same2 h.sch hK h.mk62 h.cls
      rw [r4, ob_bs, r5 s.V s.dV s.N s.dN s.S s.dS 0 (if_pos rfl) (if_pos rfl) (if_pos rfl), ob_bs, contains_eq, in_eq, ob_bs]
      by_cases hm : b2i (mem r z) = 0
      · rw [if_pos hm]; exact ⟨_, rfl, rfl⟩
      · rw [if_neg hm]; exact ⟨_, rfl, rfl⟩
    · rw [if_neg ho, ob_bs, if_pos rfl]
      obtain ⟨r, -, -, -, r4, r5⟩ := reach_same2 h.sch (g2 ho) h.mk62 h.cls
      rw [r4, ob_bs, r5 s.V s.dV s.N s.dN s.S s.dS 0 (if_pos rfl) (if_pos rfl) (if_pos rfl), ob_bs, contains_eq, in_eq, ob_bs]
      by_cases hm : b2i (mem r z) = 0
      · rw [if_pos hm]; exact ⟨_, rfl, rfl⟩
      · rw [if_neg hm]; exact ⟨_, rfl, rfl⟩
  · rw [if_neg hd, if_neg hd]; exact ⟨0, rfl, rfl⟩
theorem S_get {s : CS} (h : rCore s) (z f : Int32) : ∃ r : Int32, f_OB_get s.dn s.op s.kc (nI s.fc) s.xab s.xow s.kv s.xkd s.ic s.iv z f = some r ∧ f_M_get (nI s.fc) s.sl s.op s.fr s.dn s.c1 s.mow s.mpr s.mso s.V s.S z f = some r := by
  unfold f_OB_get f_M_get f_OB_shown
  have h5 := rc_5 h
  have h8 := rc_8 h
  by_cases hd : s.dn = 0
  · rw [if_pos hd, if_pos hd, there_eq, ob_bs]
    obtain ⟨g1, g2⟩ := shown_im h hd
    have fin : ∀ (sl : Int64) (xc xn : Nat → Int32) (xv : Nat → Int64), rImg s.fc s.mkd s.par s.own s.mso s.cl sl xc xv xn s.V s.S s.N → ∃ r : Int32, ((f_Image_classAt xc z).bind fun o24 => ((f_Schema_hasField (nI s.fc) s.xab s.xow o24 f).bind fun o28 => (if o28 = 0 then (some (-1)) else ((f_Image_valueOf xv z f).bind fun o39 => (ob_iv f 8 (if (s.xkd f.toNatClampNeg) = 2 then ((f_Long_bitCount o39).bind fun o59 => (some o59)) else (some o39.toInt32))))))) = some r ∧ (if b2i (mem sl z) = 0 then (some (-1)) else (ob_iv z 63 ((f_M_has (nI s.fc) s.mow s.mpr s.mso (s.c1 z.toNatClampNeg) f (-1)).bind fun o27 => (if o27 = 0 then (some (-1)) else (ob_iv f 8 (if (s.mso f.toNatClampNeg) = 2 then (ob_iv ((8 * z) + f) 504 ((f_M_count (s.S ((8 * z) + f).toNatClampNeg)).bind fun o58 => (some o58))) else (ob_iv ((8 * z) + f) 504 (some (s.V ((8 * z) + f).toNatClampNeg))))))))) = some r := fun sl xc xn xv hI => by
      rcases at_eq h hI z with ⟨e1, e2⟩ | ⟨e1, i, rfl, i1, i2, i3, i4, i5, i6, i7, i8⟩
      · obtain ⟨b, k1, -, k3⟩ := field_eq h (c := 0) (by omega) f
        have hb : b = false := by
          cases b
          · rfl
          · obtain ⟨n, -, -, q⟩ := k3 rfl
            rw [isA_0] at q; cases q
        rw [e1, e2, if_pos b2i_f, ob_bs, show (0 : Int32) = nI 0 from rfl, k1, hb, ob_bs]
        exact ⟨-1, if_pos b2i_f, rfl⟩
      · obtain ⟨b, k1, k2, k3⟩ := field_eq h i8 f
        rw [e1, i5, if_neg b2i_t, ob_bs, k1, ob_bs, ob_iv_i (by rw [nI_toInt (by omega)]; omega), nI_clamp (by omega), i6, k2, ob_bs]
        cases b
        · rw [if_pos b2i_f, if_pos b2i_f]; exact ⟨_, rfl, rfl⟩
        · obtain ⟨n, hn, rfl, hA⟩ := k3 rfl
          obtain ⟨p1, p2⟩ := place_m (i := i) (f := n) i3 (by omega)
          obtain ⟨-, -, -, -, a5, a6, a7, -, -⟩ := hI
          rw [if_neg b2i_t, if_neg b2i_t, valueOf_eq _ i1 i3 (by omega), ob_bs, ob_iv_i (by rw [nI_toInt (by omega)]; omega), ob_iv_i (by rw [nI_toInt (by omega)]; omega), nI_clamp (by omega), (rc_f h hn).2.2.2.2.1, ob_iv_i p1, ob_iv_i p1, p2]
          rcases (rc_f h hn).2.2.2.2.2.1 with q | q | q
          · have hF : hasF s.par s.own s.mso (s.cl i) n 0 = true := by rw [hasF_k (by decide), hA, q]; rfl
            rw [if_neg (by rw [q]; decide), if_neg (by rw [q]; decide), a5 i n i1 i2 hn hF, Int32.toInt32_toInt64]
            exact ⟨_, rfl, rfl⟩
          · have hF : hasF s.par s.own s.mso (s.cl i) n 1 = true := by rw [hasF_k (by decide), hA, q]; rfl
            obtain ⟨t, t1, t2, t3⟩ := a6 i n i1 i2 hn hF
            rw [if_neg (by rw [q]; decide), if_neg (by rw [q]; decide), t2, t3, lN_i]
            exact ⟨_, rfl, rfl⟩
          · have hF : hasF s.par s.own s.mso (s.cl i) n 2 = true := by rw [hasF_k (by decide), hA, q]; rfl
            obtain ⟨t1, t2⟩ := a7 i n i1 i2 hn hF
            rw [if_pos q, if_pos q, t1, bitCount_eq, cnt_64 (ids_63 t2), count_eq, ob_bs, ob_bs]
            exact ⟨_, rfl, rfl⟩
    by_cases ho : s.op = 0
    · rw [if_pos ho, if_pos ho, ob_bs, if_neg (by decide)]
      obtain ⟨K, hK⟩ := g1 ho
      exact fin _ _ _ _ hK.1
    · rw [if_neg ho, if_neg ho, ob_bs, if_pos rfl]
      exact fin _ _ _ _ (g2 ho).1
  · rw [if_neg hd, if_neg hd]; exact ⟨-4, rfl, rfl⟩
theorem S_holds {s : CS} (h : rCore s) (z f t : Int32) : ∃ r : Int32, f_OB_holds s.dn s.op s.kc (nI s.fc) s.xab s.xow s.xkd s.kv s.ic s.iv z f t = some r ∧ f_M_holds (nI s.fc) s.sl s.op s.fr s.dn s.c1 s.mow s.mpr s.mso s.S z f t = some r := by
  unfold f_OB_holds f_M_holds f_OB_shown
  have h5 := rc_5 h
  have h8 := rc_8 h
  by_cases hd : s.dn = 0
  · rw [if_pos hd, if_pos hd, there_eq, ob_bs]
    obtain ⟨g1, g2⟩ := shown_im h hd
    have fin : ∀ (sl : Int64) (xc xn : Nat → Int32) (xv : Nat → Int64), rImg s.fc s.mkd s.par s.own s.mso s.cl sl xc xv xn s.V s.S s.N → ∃ r : Int32, ((f_Image_classAt xc z).bind fun o25 => ((f_Schema_hasFieldOfKind (nI s.fc) s.xab s.xow s.xkd o25 f 2).bind fun o30 => (if o30 = 0 then (some 0) else ((f_Image_valueOf xv z f).bind fun o42 => ((f_OB_contains o42 t).bind fun o46 => (ob_nz o46 (some o46))))))) = some r ∧ (if b2i (mem sl z) = 0 then (some 0) else (ob_iv z 63 ((f_M_has (nI s.fc) s.mow s.mpr s.mso (s.c1 z.toNatClampNeg) f 2).bind fun o24 => (if o24 = 0 then (some 0) else (ob_iv ((8 * z) + f) 504 ((f_M_in (s.S ((8 * z) + f).toNatClampNeg) t).bind fun o42 => (if o42 = 0 then (some 0) else (some 1)))))))) = some r := fun sl xc xn xv hI => by
      rcases at_eq h hI z with ⟨e1, e2⟩ | ⟨e1, i, rfl, i1, i2, i3, i4, i5, i6, i7, i8⟩
      · obtain ⟨b, k1, -, k3⟩ := kind_eq h (c := 0) (by omega) f (kd := 2) (by decide)
        have hb : b = false := by
          cases b
          · rfl
          · obtain ⟨n, -, -, q⟩ := k3 rfl
            rw [hasF_k (by decide), isA_0] at q; cases q
        rw [e1, e2, if_pos b2i_f, ob_bs]
        have k1' : f_Schema_hasFieldOfKind (nI s.fc) s.xab s.xow s.xkd 0 f 2 = some (b2i b) := k1
        rw [k1', hb, ob_bs]
        exact ⟨0, if_pos b2i_f, rfl⟩
      · obtain ⟨b, k1, k2, k3⟩ := kind_eq h i8 f (kd := 2) (by decide)
        rw [e1, i5, if_neg b2i_t, ob_bs, k1, ob_bs, ob_iv_i (by rw [nI_toInt (by omega)]; omega), nI_clamp (by omega), i6, k2, ob_bs]
        cases b
        · rw [if_pos b2i_f, if_pos b2i_f]; exact ⟨_, rfl, rfl⟩
        · obtain ⟨n, hn, rfl, hF⟩ := k3 rfl
          obtain ⟨p1, p2⟩ := place_m (i := i) (f := n) i3 (by omega)
          obtain ⟨-, -, -, -, a5, a6, a7, -, -⟩ := hI
          obtain ⟨t1, t2⟩ := a7 i n i1 i2 hn hF
          rw [if_neg b2i_t, if_neg b2i_t, valueOf_eq _ i1 i3 (by omega), ob_bs, ob_iv_i p1, p2, t1, contains_eq, in_eq, ob_bs, ob_bs, ob_nz_i (b2i_nz _)]
          exact ⟨_, rfl, by cases mem (s.S (8 * i + n)) t <;> rfl⟩
    by_cases ho : s.op = 0
    · rw [if_pos ho, if_pos ho, ob_bs, if_neg (by decide)]
      obtain ⟨K, hK⟩ := g1 ho
      exact fin _ _ _ _ hK.1
    · rw [if_neg ho, if_neg ho, ob_bs, if_pos rfl]
      exact fin _ _ _ _ (g2 ho).1
  · rw [if_neg hd, if_neg hd]; exact ⟨0, rfl, rfl⟩
theorem S_named {s : CS} (h : rCore s) (z : Int32) : ∃ r : Int32, f_OB_named s.dn s.op s.kn_ s.in_ z = some r ∧ f_M_named s.dn s.N z = some r := by
  unfold f_OB_named f_M_named f_OB_shown
  by_cases hd : s.dn = 0
  · rw [if_pos hd, if_pos hd, isName_eq, ob_bs]
    obtain ⟨g1, g2⟩ := shown_im h hd
    by_cases hz : 0 ≤ z.toInt ∧ z.toInt < 4
    · rw [decide_eq_true hz, if_neg b2i_t, if_neg (show ¬ z < 0 by rw [Int32.lt_iff_toInt_lt, i0]; omega), if_pos (show z ≤ 3 by rw [Int32.le_iff_toInt_le, i3]; omega)]
      obtain ⟨m, hm⟩ : ∃ m : Nat, z.toInt = (m : Int) := ⟨z.toInt.toNat, by omega⟩
      have e := nI_z hm (by omega)
      by_cases ho : s.op = 0
      · rw [if_pos ho, ob_bs, if_neg (by decide), ob_iv_i (by omega), ob_iv_i (by omega), e, nI_clamp (by omega)]
        obtain ⟨K, hK⟩ := g1 ho
        obtain ⟨t, t1, t2, t3⟩ := hK.1.2.2.2.2.2.2.2.2 m (by omega)
        exact ⟨nI t, by rw [t2], by rw [t3]⟩
      · rw [if_neg ho, ob_bs, if_pos rfl, ob_iv_i (by omega), ob_iv_i (by omega), e, nI_clamp (by omega)]
        obtain ⟨t, t1, t2, t3⟩ := (g2 ho).1.2.2.2.2.2.2.2.2 m (by omega)
        exact ⟨nI t, by rw [t2], by rw [t3]⟩
    · rw [decide_eq_false hz, if_pos b2i_f]
      by_cases h1 : z < 0
      · rw [if_pos h1]; exact ⟨-1, rfl, rfl⟩
      · rw [if_neg h1, if_neg (show ¬ z ≤ 3 by rw [Int32.lt_iff_toInt_lt, i0] at h1; rw [Int32.le_iff_toInt_le, i3]; omega)]; exact ⟨-1, rfl, rfl⟩
  · rw [if_neg hd, if_neg hd]; exact ⟨-4, rfl, rfl⟩
theorem rIm_sch {fc fc' : Nat} {par own par' own' cl : Nat → Nat} {so so' : Nat → Int32} {s K : Int64} {xc xn vs ns : Nat → Int32} {xv ss : Nat → Int64} (h : rIm fc 0 par own so cl s K xc xv xn vs ss ns) : rIm fc' 0 par' own' so' cl s K xc xv xn vs ss ns := by
  obtain ⟨⟨a1, a2, a3, a4, a5, a6, a7, a8, a9⟩, hz, ⟨b1, b2, b3, b4⟩, hK⟩ := h
  have hno : ∀ i, tb K i = true → False := fun i hi => by
    have h9 := hK i hi
    have h1 := (b1 i hi).1
    rw [a2 i (by omega)] at h9; cases h9
  exact ⟨⟨a1, a2, a3, a4, fun i f h1 h2 => by omega, fun i f h1 h2 => by omega, fun i f h1 h2 => by omega, fun i f h1 h2 h3 _ => a8 i f h1 h2 h3 (Or.inl (by omega)), a9⟩, fun i f h1 h2 h3 _ => hz i f h1 h2 h3 (Or.inl (by omega)), ⟨b1, b2, fun i f h1 => (hno i h1).elim, fun i f h1 => (hno i h1).elim⟩, hK⟩
theorem rc_sch {s : CS} (h : rCore s) (hb : s.bg = 0) {cc fc : Nat} {par own aim ab : Nat → Nat} {xab xow xkd xtg mpr mow mso mai : Nat → Int32} (hs : rSch cc fc par own aim ab mso (nI cc) (nI fc) xab xow xkd xtg (nI cc) (nI fc) mpr mow mso mai) : rCore (CS.mk s.bg s.dn s.op s.ar s.rn s.lg s.md s.ix s.ls s.kn s.ch s.sl s.fr cc fc s.mkd par own aim ab s.cl xab xow xkd xtg s.kc s.kn_ s.ic s.in_ mpr mow mso mai s.c1 s.dV s.dN s.V s.N s.kv s.iv s.dS s.S) := by
  obtain ⟨h0, ho⟩ := h.bg0 hb
  refine ⟨(hs), h.mk62, (fun i h1 h2 => ?_), h.bg, h.dn, h.op, h.rn, h.md, h.bg0, h.arm, h.ix, h.ich, h.dop, h.dlm, h.lg, h.lsz, (fun hm => ?_), (fun hm => ?_), (fun hh => absurd ho hh), h.dj, h.same⟩
  · have h3 : i ≤ s.mkd := h2
    omega
  · obtain ⟨K, hK⟩ := h.kp0 hm
    rw [h0] at hK
    refine ⟨K, ?_⟩
    show rIm fc s.mkd par own mso s.cl s.sl K s.kc s.kv s.kn_ s.dV s.dS s.dN
    rw [h0]; exact rIm_sch hK
  · obtain ⟨K, hK⟩ := h.kp1 hm
    rw [h0] at hK
    refine ⟨K, ?_⟩
    show rIm fc s.mkd par own mso s.cl (s.sl ||| s.fr) K s.kc s.kv s.kn_ s.V s.S s.N
    rw [h0]; exact rIm_sch hK
theorem rSch_so {cc fc : Nat} {par own aim ab : Nat → Nat} {so : Nat → Int32} {xcc xfc : Int32} {xab xow xkd xtg : Nat → Int32} {mcl mfd : Int32} {mpr mow mso mai : Nat → Int32} (hs : rSch cc fc par own aim ab so xcc xfc xab xow xkd xtg mcl mfd mpr mow mso mai) : rSch cc fc par own aim ab mso xcc xfc xab xow xkd xtg mcl mfd mpr mow mso mai := by
  obtain ⟨h1, h2, h3, h4, h5, h6, h7, h8, h9, hf⟩ := hs
  refine ⟨h1, h2, h3, h4, h5, h6, h7, h8, h9, fun f hlt => ?_⟩
  obtain ⟨a1, a2, a3, a4, a5, a6, a7, a8, a9⟩ := hf f hlt
  rw [a6]; exact ⟨a1, a2, a3, a4, a5, rfl, a7, a8, a9⟩
theorem SC_type {s : CS} (h : rCore s) (z : Int32) : ∃ (r : Int32) (cc : Nat) (par ab : Nat → Nat) (xab mpr : Nat → Int32), f_OB_type s.bg s.dn (nI s.cc) s.xab z = some (r, nI cc, xab) ∧ f_M_type (nI s.cc) s.bg s.dn s.mpr z = some (r, nI cc, mpr) ∧ s.cc ≤ cc ∧ rCore (CS.mk s.bg s.dn s.op s.ar s.rn s.lg s.md s.ix s.ls s.kn s.ch s.sl s.fr cc s.fc s.mkd par s.own s.aim ab s.cl xab s.xow s.xkd s.xtg s.kc s.kn_ s.ic s.in_ mpr s.mow s.mso s.mai s.c1 s.dV s.dN s.V s.N s.kv s.iv s.dS s.S) := by
  obtain ⟨⟨a, b, c⟩, ⟨a', b', c'⟩, e1, e2, e3, hh⟩ := S_type h.sch s.bg s.dn z
  simp only at e3 hh
  subst e3
  rcases hh with ⟨k1, k2⟩ | ⟨hb, p, hp, h5, hs⟩
  · obtain ⟨rfl, rfl⟩ := Prod.mk.inj k1
    obtain ⟨rfl, rfl⟩ := Prod.mk.inj k2
    exact ⟨a, s.cc, s.par, s.ab, s.xab, s.mpr, e1, e2, Nat.le_refl _, h⟩
  · have q1 : b = nI (s.cc + 1) := hs.2.2.1
    have q2 : b' = nI (s.cc + 1) := hs.2.2.2.1
    subst q1; subst q2
    exact ⟨a, s.cc + 1, _, _, c, c', e1, e2, by omega, rc_sch h hb hs⟩
theorem SC_field {s : CS} (h : rCore s) (z k t : Int32) : ∃ (r : Int32) (fc : Nat) (own aim : Nat → Nat) (xow xkd xtg mow mso mai : Nat → Int32), f_OB_field s.bg s.dn (nI s.cc) (nI s.fc) s.xow s.xkd s.xtg z k t = some (r, nI fc, xow, xkd, xtg) ∧ f_M_field (nI s.cc) (nI s.fc) s.bg s.dn s.mow s.mso s.mai z k t = some (r, nI fc, mow, mso, mai) ∧ rCore (CS.mk s.bg s.dn s.op s.ar s.rn s.lg s.md s.ix s.ls s.kn s.ch s.sl s.fr s.cc fc s.mkd s.par own aim s.ab s.cl s.xab xow xkd xtg s.kc s.kn_ s.ic s.in_ s.mpr mow mso mai s.c1 s.dV s.dN s.V s.N s.kv s.iv s.dS s.S) := by
  obtain ⟨⟨a, b, c, d, e⟩, ⟨a', b', c', d', e'⟩, e1, e2, e3, hh⟩ := S_field h.sch s.bg s.dn z k t
  simp only at e3 hh
  subst e3
  rcases hh with ⟨k1, k2⟩ | ⟨hb, own', aim', so', hp, hs⟩
  · simp only [Prod.mk.injEq] at k1 k2
    obtain ⟨rfl, rfl, rfl, rfl⟩ := k1
    obtain ⟨rfl, rfl, rfl, rfl⟩ := k2
    exact ⟨a, s.fc, s.own, s.aim, _, _, _, _, _, _, e1, e2, h⟩
  · have q1 : b = nI (s.fc + 1) := hs.2.2.2.2.1
    have q2 : b' = nI (s.fc + 1) := hs.2.2.2.2.2.1
    subst q1; subst q2
    exact ⟨a, s.fc + 1, _, _, c, d, e, c', d', e', e1, e2, rc_sch h hb (rSch_so hs)⟩

def chr (tx : Nat → Int32) (q len p : Nat) : Int32 := if len ≤ p then 0 else tx (64 * q + p)
def dig (c : Int32) : Bool := decide (48 ≤ c.toInt ∧ c.toInt ≤ 57)
def pathOk (c : Nat → Int32) (p : Nat) : Prop := ∀ j, (∀ i, i ≤ j → c (p + 1 + 2 * i) = 46) → ∃ n, n < 8 ∧ c (p + 2 + 2 * j) - 97 = nI n
def opOk (c : Nat → Int32) (p : Nat) : Prop := c p = 110 ∨ c p = 45 ∨ dig (c p) = true ∨ ((∃ n, n < 3 ∧ c p - 120 = nI n) ∧ pathOk c p)
theorem charAt_eq {le tx : Nat → Int32} {q len : Nat} (hq : q ≤ 12) (hl : le q = nI len) (h6 : len ≤ 60) {p : Nat} (hp : p ≤ 1000) : f_M_charAt (nI q) le tx (nI p) = some (chr tx q len p) := by
  unfold f_M_charAt chr
  rw [ob_iv_i (by rw [nI_toInt (by omega)]; omega), nI_clamp (by omega), hl]
  by_cases h : len ≤ p
  · rw [if_pos (nI_le h (by omega)), if_pos h]
  · have e : 64 * nI q + nI p = nI (64 * q + p) := by rw [show (64 : Int32) = nI 64 from rfl, pk_mul, nI_add]
    rw [if_neg (nI_ge (by omega) (by omega)), if_neg h, e, ob_iv_i (by rw [nI_toInt (by omega)]; omega), nI_clamp (by omega)]
theorem chr_lt {tx : Nat → Int32} {q len p : Nat} (h : ¬ chr tx q len p = 0) : p < len := by
  by_cases hh : len ≤ p
  · exact absurd (if_pos hh) h
  · omega
theorem i48 : (48 : Int32).toInt = 48 := by decide
theorem i57 : (57 : Int32).toInt = 57 := by decide
theorem digit_eq (c : Int32) : f_M_digit c = some (b2i (dig c)) := by
  unfold f_M_digit dig
  by_cases h1 : c < 48
  · rw [if_pos h1]; rw [Int32.lt_iff_toInt_lt, i48] at h1; rw [decide_eq_false (by omega)]; rfl
  · rw [if_neg h1]; rw [Int32.lt_iff_toInt_lt, i48] at h1
    by_cases h2 : 57 < c
    · rw [if_pos h2]; rw [Int32.lt_iff_toInt_lt, i57] at h2; rw [decide_eq_false (by omega)]; rfl
    · rw [if_neg h2]; rw [Int32.lt_iff_toInt_lt, i57] at h2; rw [decide_eq_true (by omega)]; rfl
theorem dig_0 : dig 0 = false := by decide
theorem Q_J99 (x1 x4 a : Int32) (x2 : Int64) : ∃ r : Int32, f_M_number_J99 x1 x2 x4 a = some (r, a) ∧ (r = 0 ∨ r = 1) := by
  unfold f_M_number_J99 f_M_number_J109
  by_cases h0 : x1 = 0
  · rw [if_pos h0]
    by_cases h1 : x4 ≤ 0
    · rw [if_pos h1]; exact ⟨0, rfl, Or.inl rfl⟩
    · rw [if_neg h1]
      by_cases h2 : 11 ≤ x4
      · rw [if_pos h2]; exact ⟨0, rfl, Or.inl rfl⟩
      · rw [if_neg h2]; split
        · exact ⟨1, rfl, Or.inr rfl⟩
        · exact ⟨0, rfl, Or.inl rfl⟩
  · rw [if_neg h0]
    by_cases h1 : x4 ≤ 0
    · rw [if_pos h1]; exact ⟨0, rfl, Or.inl rfl⟩
    · rw [if_neg h1]
      by_cases h2 : 11 ≤ x4
      · rw [if_pos h2]; exact ⟨0, rfl, Or.inl rfl⟩
      · rw [if_neg h2]; split
        · exact ⟨1, rfl, Or.inr rfl⟩
        · exact ⟨0, rfl, Or.inl rfl⟩
theorem Q_num_loop {le tx : Nat → Int32} {q len : Nat} (hq : q ≤ 12) (hl : le q = nI len) (h6 : len ≤ 60) (x1 : Int32) : ∀ (n a : Nat) (x2 : Int64) (x4 : Int32), a ≤ 100 → len - a < n → ∃ (r : Int32) (b : Nat), f_M_number_L42 (nI q) le tx n x1 x2 x4 (nI a) = some (r, nI b) ∧ (r = 0 ∨ r = 1) ∧ a ≤ b ∧ (b ≤ a ∨ b ≤ len) := by
  intro n
  induction n with
  | zero => intro a x2 x4 _ h; omega
  | succ n ih =>
    intro a x2 x4 ha h
    show ∃ (r : Int32) (b : Nat), f_M_number_B42 (nI q) le tx (f_M_number_L42 (nI q) le tx n) x1 x2 x4 (nI a) = some (r, nI b) ∧ _
    unfold f_M_number_B42
    rw [charAt_eq hq hl h6 (by omega), ob_bs, digit_eq, ob_bs, ob_bs]
    obtain ⟨r, e1, e2⟩ := Q_J99 x1 x4 (nI a) x2
    cases hd : dig (chr tx q len a)
    · rw [if_pos b2i_f]; exact ⟨r, a, e1, e2, by omega, by omega⟩
    · rw [if_neg b2i_t]
      by_cases h11 : 11 ≤ x4
      · rw [if_pos h11]; exact ⟨r, a, e1, e2, by omega, by omega⟩
      · rw [if_neg h11, nI_1]
        have hlt : a < len := chr_lt (tx := tx) (q := q) (fun e => by rw [e, dig_0] at hd; cases hd)
        obtain ⟨r, b, g1, g2, g3, g4⟩ := ih (a + 1) (10 * x2 + (chr tx q len a).toInt64 - 48) (x4 + 1) (by omega) (by omega)
        exact ⟨r, b, g1, g2, by omega, by omega⟩
theorem Q_number {le tx : Nat → Int32} {q len : Nat} (hq : q ≤ 12) (hl : le q = nI len) (h6 : len ≤ 60) {a : Nat} (ha : a ≤ 99) : ∃ (r : Int32) (b : Nat), f_M_number (nI q) (nI a) le tx = some (r, nI b) ∧ (r = 0 ∨ r = 1) ∧ a ≤ b ∧ (b ≤ a ∨ b ≤ len) := by
  unfold f_M_number f_M_number_J18 f_M_number_J33
  rw [charAt_eq hq hl h6 (by omega), ob_bs]
  by_cases h : chr tx q len a = 45
  · have hlt : a < len := chr_lt (tx := tx) (q := q) (fun e => by rw [e] at h; revert h; decide)
    rw [if_pos h, if_neg one_ne, nI_1]
    obtain ⟨r, b, g1, g2, g3, g4⟩ := Q_num_loop hq hl h6 1 1000 (a + 1) 0 0 (by omega) (by omega)
    exact ⟨r, b, g1, g2, by omega, by omega⟩
  · rw [if_neg h, if_pos rfl, Int32.add_zero]
    exact Q_num_loop hq hl h6 0 1000 a 0 0 (by omega) (by omega)
theorem Q_path_loop {s : CS} (h : rCore s) {le tx : Nat → Int32} {q len : Nat} (hq : q ≤ 12) (hl : le q = nI len) (h6 : len ≤ 60) {p : Nat} (hp : p ≤ 100) : ∀ (n j : Nat) (cz kd aimed : Int32), p + 1 + 2 * j ≤ 1 + p ∨ p + 1 + 2 * j ≤ len → (kd = 1 ∨ kd = 2 ∨ kd = 3) → (¬ kd = 1 → ∃ c : Nat, cz = nI c ∧ 1 ≤ c ∧ c ≤ s.cc) → (∀ i, i < j → chr tx q len (p + 1 + 2 * i) = 46 ∧ ∃ m, m < 8 ∧ chr tx q len (p + 2 + 2 * i) - 97 = nI m) → 100 - j < n →
    ∃ (r : Int32) (b : Nat) (am : Int32), f_M_path_L50 (nI q) le tx (nI s.fc) s.mow s.mpr s.mso s.mai n cz kd (nI (p + 1 + 2 * j)) aimed = some (r, nI b, am) ∧ p + 1 ≤ b ∧ (b ≤ p + 1 ∨ b ≤ len) ∧ (r = 0 ∨ r = 1 ∨ r = 2 ∨ r = 3) ∧ (¬ r = 0 → pathOk (chr tx q len) p) ∧ (r = 3 → ∃ c : Nat, am = nI c ∧ 1 ≤ c ∧ c ≤ s.cc) := by
  intro n
  induction n with
  | zero =>
    intro j cz kd aimed hb _ _ _ h9
    omega
  | succ n ih =>
    intro j cz kd aimed hb hk hc hi h9
    show ∃ (r : Int32) (b : Nat) (am : Int32), f_M_path_B50 (nI q) le tx (nI s.fc) s.mow s.mpr s.mso s.mai (f_M_path_L50 (nI q) le tx (nI s.fc) s.mow s.mpr s.mso s.mai n) cz kd (nI (p + 1 + 2 * j)) aimed = some (r, nI b, am) ∧ _
    unfold f_M_path_B50 f_M_path_J126
    have hfc := rc_8 h
    rw [charAt_eq hq hl h6 (by omega), ob_bs, nI_1, charAt_eq hq hl h6 (by omega), ob_bs]
    by_cases hdot : chr tx q len (p + 1 + 2 * j) = 46
    · have hlt : p + 1 + 2 * j < len := chr_lt (tx := tx) (q := q) (fun e => by rw [e] at hdot; revert hdot; decide)
      rw [if_pos hdot]
      have bad : ∃ (r : Int32) (b : Nat) (am : Int32), some ((0 : Int32), nI (p + 1 + 2 * j), aimed) = some (r, nI b, am) ∧ p + 1 ≤ b ∧ (b ≤ p + 1 ∨ b ≤ len) ∧ (r = 0 ∨ r = 1 ∨ r = 2 ∨ r = 3) ∧ (¬ r = 0 → pathOk (chr tx q len) p) ∧ (r = 3 → ∃ c : Nat, am = nI c ∧ 1 ≤ c ∧ c ≤ s.cc) := ⟨0, _, _, rfl, by omega, by omega, Or.inl rfl, fun hh => absurd rfl hh, fun hh => absurd hh (by decide)⟩
      by_cases h2 : kd = 2
      · rw [if_pos h2]
        obtain ⟨c, rfl, c1, c2⟩ := hc (by rw [h2]; decide)
        obtain ⟨b, -, e2, e3⟩ := field_eq h c2 (chr tx q len (p + 1 + 2 * j + 1) - 97)
        rw [e2, ob_bs]
        cases b
        · rw [if_pos b2i_f]; exact bad
        · obtain ⟨f, hf, ef, -⟩ := e3 rfl
          have hlt2 : p + 1 + 2 * j + 1 < len := chr_lt (tx := tx) (q := q) (fun e => by
            rw [e] at ef
            have := congrArg Int32.toInt ef
            rw [nI_toInt (by omega), show ((0 : Int32) - 97).toInt = -97 by decide] at this; omega)
          have g8 : 0 ≤ (nI f).toInt ∧ (nI f).toInt < (8 : Nat) := by rw [nI_toInt (by omega)]; omega
          rw [if_neg b2i_t, ef, ob_iv_i g8, ob_iv_i g8, ob_iv_i g8, ob_iv_i g8, ob_iv_i g8, nI_clamp (by omega), show (2 : Int32) = nI 2 from rfl, nI_add]
          have e4 : p + 1 + 2 * j + 2 = p + 1 + 2 * (j + 1) := by omega
          have hi' : ∀ i, i < j + 1 → chr tx q len (p + 1 + 2 * i) = 46 ∧ ∃ m, m < 8 ∧ chr tx q len (p + 2 + 2 * i) - 97 = nI m := fun i hlt9 => by
            by_cases e : i = j
            · subst e
              refine ⟨hdot, f, by omega, ?_⟩
              rw [show p + 2 + 2 * i = p + 1 + 2 * i + 1 by omega]; exact ef
            · exact hi i (by omega)
          rw [e4]
          by_cases s0 : s.mso f = 0
          · rw [if_pos s0]
            exact ih (j + 1) _ _ _ (by omega) (Or.inl rfl) (fun hh => absurd rfl hh) hi' (by omega)
          · obtain ⟨-, t2, t3, t4⟩ := (rc_f h hf).2.2.2.2.2.2 s0
            rw [if_neg s0]
            by_cases s1 : s.mso f = 1
            · rw [if_pos s1]
              exact ih (j + 1) _ _ _ (by omega) (Or.inr (Or.inl rfl)) (fun _ => ⟨_, t2, t3, t4⟩) hi' (by omega)
            · rw [if_neg s1]
              exact ih (j + 1) _ _ _ (by omega) (Or.inr (Or.inr rfl)) (fun _ => ⟨_, t2, t3, t4⟩) hi' (by omega)
      · rw [if_neg h2]; exact bad
    · rw [if_neg hdot]
      refine ⟨kd, _, _, rfl, by omega, by omega, Or.inr hk, fun _ j' hj' => ?_, fun hh => hc (by rw [hh]; decide)⟩
      have hjj : j' < j := by
        by_cases e : j' < j
        · exact e
        · exact absurd (hj' j (by omega)) hdot
      exact (hi j' hjj).2
theorem Q_path {s : CS} (h : rCore s) {le tx sd : Nat → Int32} {q len : Nat} (hq : q ≤ 12) (hl : le q = nI len) (h6 : len ≤ 60) (hsd : ∀ v, v < 3 → ∃ c : Nat, sd v = nI c ∧ c ≤ s.cc) {a : Nat} (ha : a ≤ 99) (aimed : Int32) :
    ∃ (r : Int32) (b : Nat) (am : Int32), f_M_path (nI s.fc) (nI q) (nI a) aimed le tx s.mow s.mpr s.mso s.mai sd = some (r, nI b, am) ∧ a ≤ b ∧ (b ≤ a ∨ b ≤ len) ∧ (r = 0 ∨ r = 1 ∨ r = 2 ∨ r = 3) ∧ (¬ r = 0 → opOk (chr tx q len) a) ∧ (r = 3 → ∃ c : Nat, am = nI c ∧ 1 ≤ c ∧ c ≤ s.cc) := by
  unfold f_M_path f_M_path_J30 f_M_path_J31
  rw [charAt_eq hq hl h6 (by omega), ob_bs]
  have hcc := rc_5 h
  have bad : ∃ (r : Int32) (b : Nat) (am : Int32), some ((0 : Int32), nI a, aimed) = some (r, nI b, am) ∧ a ≤ b ∧ (b ≤ a ∨ b ≤ len) ∧ (r = 0 ∨ r = 1 ∨ r = 2 ∨ r = 3) ∧ (¬ r = 0 → opOk (chr tx q len) a) ∧ (r = 3 → ∃ c : Nat, am = nI c ∧ 1 ≤ c ∧ c ≤ s.cc) := ⟨0, a, aimed, rfl, by omega, by omega, Or.inl rfl, fun hh => absurd rfl hh, fun hh => absurd hh (by decide)⟩
  by_cases h1 : chr tx q len a - 120 < 0
  · rw [if_pos h1, if_pos rfl]; exact bad
  · rw [if_neg h1]
    by_cases h2 : 3 ≤ chr tx q len a - 120
    · rw [if_pos h2, if_pos rfl]; exact bad
    · rw [if_neg h2]
      rw [Int32.lt_iff_toInt_lt, i0] at h1
      rw [Int32.le_iff_toInt_le, i3] at h2
      obtain ⟨v, hv⟩ : ∃ v : Nat, (chr tx q len a - 120).toInt = (v : Int) := ⟨(chr tx q len a - 120).toInt.toNat, by omega⟩
      have ev := nI_z hv (by omega)
      obtain ⟨c, ec, hc⟩ := hsd v (by omega)
      have hlt : a < len := chr_lt (tx := tx) (q := q) (fun e => by
        rw [e] at hv
        rw [show ((0 : Int32) - 120).toInt = -120 by decide] at hv; omega)
      rw [ob_iv_i (by omega), ev, nI_clamp (by omega), ec]
      by_cases h0 : c = 0
      · rw [if_pos (by rw [h0]; rfl)]; exact bad
      · rw [if_neg (nI_ne0 (by omega) (by omega)), nI_1]
        obtain ⟨r, b, am, g1, g2, g3, g4, g5, g6⟩ := Q_path_loop h (tx := tx) hq hl h6 (p := a) (by omega) 1000 0 (nI c) 2 aimed (by omega) (Or.inr (Or.inl rfl)) (fun _ => ⟨c, rfl, by omega, hc⟩) (fun i hi => by omega) (by omega)
        exact ⟨r, b, am, g1, by omega, by omega, g4, fun hh => Or.inr (Or.inr (Or.inr ⟨⟨v, by omega, ev⟩, g5 hh⟩)), g6⟩
theorem Q_operand {s : CS} (h : rCore s) {le tx sd : Nat → Int32} {q len : Nat} (hq : q ≤ 12) (hl : le q = nI len) (h6 : len ≤ 60) (hsd : ∀ v, v < 3 → ∃ c : Nat, sd v = nI c ∧ c ≤ s.cc) {a : Nat} (ha : a ≤ 99) (aimed : Int32) :
    ∃ (r : Int32) (b : Nat) (am : Int32), f_M_operand (nI s.fc) (nI q) (nI a) aimed le tx s.mow s.mpr s.mso s.mai sd = some (r, nI b, am) ∧ a ≤ b ∧ (b ≤ a ∨ b ≤ len) ∧ (¬ r = 0 → opOk (chr tx q len) a) := by
  unfold f_M_operand f_M_operand_J40
  rw [charAt_eq hq hl h6 (by omega), ob_bs]
  by_cases h1 : chr tx q len a = 110
  · have hlt : a < len := chr_lt (tx := tx) (q := q) (fun e => by rw [e] at h1; revert h1; decide)
    rw [if_pos h1, nI_1]; exact ⟨2, a + 1, aimed, rfl, by omega, by omega, fun _ => Or.inl h1⟩
  · rw [if_neg h1]
    obtain ⟨r, b, g1, -, g3, g4⟩ := Q_number (tx := tx) hq hl h6 ha
    by_cases h2 : chr tx q len a = 45
    · rw [if_pos h2, g1, ob_bs]; exact ⟨r, b, aimed, rfl, g3, g4, fun _ => Or.inr (Or.inl h2)⟩
    · rw [if_neg h2, digit_eq, ob_bs]
      cases hd : dig (chr tx q len a)
      · rw [if_pos b2i_f]
        obtain ⟨r, b, am, g1, g2, g3, g4, g5, g6⟩ := Q_path h hq hl h6 hsd ha (tx := tx) aimed
        rw [g1, ob_bs]; exact ⟨r, b, am, rfl, g2, g3, g5⟩
      · rw [if_neg b2i_t, g1, ob_bs]; exact ⟨r, b, aimed, rfl, g3, g4, fun _ => Or.inr (Or.inr (Or.inl hd))⟩

def sOk (ok : Nat → Prop) (w o t : Nat → Int32) (E : Nat → List Nat) (H : Nat → Nat) (P : List Nat) (n k : Nat) : Prop :=
  (w k = 1 ∧ E (k + 1) = E k ∧ H (k + 1) = H k + 1 ∧ ∃ p r b : Nat, o k = nI p ∧ t k = nI (2 * r + b) ∧ b ≤ 1 ∧ 1 ≤ r ∧ p ≤ 100 ∧ r ≤ 100 ∧ ok p ∧ ok r) ∨
  (w k = 2 ∧ E (k + 1) = E k ∧ H (k + 1) = H k ∧ 1 ≤ H k) ∨
  ((w k = 3 ∨ w k = 4) ∧ E (k + 1) = E k ∧ H (k + 1) + 1 = H k ∧ 2 ≤ H k) ∨
  (w k = 5 ∧ E (k + 1) = k :: E k ∧ H (k + 1) = H k ∧ (E k).length ≤ 1 ∧ ∃ p v : Nat, o k = nI p ∧ p ≤ 100 ∧ ok p ∧ 1 ≤ v ∧ v ≤ 2 ∧ ((k ∈ P ∧ t k = nI v) ∨ ∃ e : Nat, t k = nI (v + 4 * e) ∧ k < e ∧ e < n ∧ E (e + 1) = E k ∧ H (e + 1) = H k + 1)) ∨
  (w k = 6 ∧ ∃ k0 v : Nat, k0 < k ∧ E k = k0 :: E (k + 1) ∧ E (k0 + 1) = E k ∧ 1 ≤ H k ∧ H (k + 1) = H k ∧ H (k0 + 1) + 1 = H k ∧ t k = nI v ∧ 1 ≤ v ∧ v ≤ 2)
theorem sOk_mono {ok ok' : Nat → Prop} {w o t w' o' t' : Nat → Int32} {E E' : Nat → List Nat} {H H' : Nat → Nat} {P P' : List Nat} {n n' k : Nat} (hok : ∀ p, ok p → ok' p) (hE : ∀ j, j ≤ n → E' j = E j) (hH : ∀ j, j ≤ n → H' j = H j) (hw : w' k = w k) (ho : o' k = o k) (ht : t' k = t k) (hP : k ∈ P → k ∈ P') (hn : n ≤ n') (hk : k < n) (h : sOk ok w o t E H P n k) : sOk ok' w' o' t' E' H' P' n' k := by
  unfold sOk at h ⊢
  rw [hw, ho, ht, hE k (by omega), hE (k + 1) (by omega), hH k (by omega), hH (k + 1) (by omega)]
  rcases h with ⟨a1, a2, a3, p, r, b, a4, a5, a6, a7, a8, a9, a10, a11⟩ | h | h | ⟨a1, a2, a3, a4, p, v, a5, a6, a7, a8, a9, a10⟩ | ⟨a1, k0, v, a2, a3, a4, a5, a6, a7, a8, a9, a10⟩
  · exact Or.inl ⟨a1, a2, a3, p, r, b, a4, a5, a6, a7, a8, a9, hok p a10, hok r a11⟩
  · exact Or.inr (Or.inl h)
  · exact Or.inr (Or.inr (Or.inl h))
  · refine Or.inr (Or.inr (Or.inr (Or.inl ⟨a1, a2, a3, a4, p, v, a5, a6, hok p a7, a8, a9, ?_⟩)))
    rcases a10 with ⟨b1, b2⟩ | ⟨e, b1, b2, b3, b4, b5⟩
    · exact Or.inl ⟨hP b1, b2⟩
    · exact Or.inr ⟨e, b1, b2, by omega, by rw [hE (e + 1) (by omega)]; exact b4, by rw [hH (e + 1) (by omega)]; exact b5⟩
  · exact Or.inr (Or.inr (Or.inr (Or.inr ⟨a1, k0, v, a2, a3, by rw [hE (k0 + 1) (by omega)]; exact a4, a5, a6, by rw [hH (k0 + 1) (by omega)]; exact a7, a8, a9, a10⟩)))
def stk (opd oat : Nat → Int32) : List (Int32 × Nat) → Prop
  | [] => True
  | x :: r => opd r.length = x.1 ∧ (x.1 = 69 → oat r.length = nI x.2) ∧ stk opd oat r
def es : List (Int32 × Nat) → List Nat
  | [] => []
  | x :: r => if x.1 = 69 then x.2 :: es r else es r
def ops : List (Int32 × Nat) → Nat
  | [] => 0
  | x :: r => if x.1 = 38 ∨ x.1 = 124 then ops r + 1 else ops r
def pend (w t : Nat → Int32) (E : Nat → List Nat) (H : Nat → Nat) (n : Nat) : List (Int32 × Nat) → Prop
  | [] => True
  | x :: r => (x.1 = 69 → x.2 < n ∧ w x.2 = 5 ∧ E x.2 = es r ∧ H x.2 = ops r ∧ E (x.2 + 1) = x.2 :: es r ∧ H (x.2 + 1) = ops r ∧ (∀ y, y ∈ es r → y < x.2) ∧ ∃ v : Nat, 1 ≤ v ∧ v ≤ 2 ∧ t x.2 = nI v) ∧ pend w t E H n r
theorem stk_upd {opd oat : Nat → Int32} {c d : Int32} {m : Nat} : ∀ st : List (Int32 × Nat), st.length ≤ m → stk opd oat st → stk (upd opd m c) (upd oat m d) st := by
  intro st
  induction st with
  | nil => exact fun _ _ => trivial
  | cons x r ih =>
    intro h1 h2
    have hl : r.length < m := Nat.lt_of_succ_le h1
    obtain ⟨a1, a2, a3⟩ := h2
    exact ⟨by rw [pk_un (by omega)]; exact a1, fun h => by rw [pk_un (by omega)]; exact a2 h, ih (by omega) a3⟩
theorem pend_mono {w t w' t' : Nat → Int32} {E E' : Nat → List Nat} {H H' : Nat → Nat} {n n' : Nat} (hE : ∀ j, j ≤ n → E' j = E j) (hH : ∀ j, j ≤ n → H' j = H j) (hn : n ≤ n') : ∀ st : List (Int32 × Nat), (∀ k, k ∈ es st → k < n → w' k = w k ∧ t' k = t k) → pend w t E H n st → pend w' t' E' H' n' st := by
  intro st
  induction st with
  | nil => exact fun _ _ => trivial
  | cons x r ih =>
    intro hk h
    obtain ⟨a1, a2⟩ := h
    refine ⟨fun hx => ?_, ih (fun k hk9 => hk k ?_) a2⟩
    · obtain ⟨b1, b2, b3, b4, b5, b6, b7, v, b8, b9, b10⟩ := a1 hx
      have hm : x.2 ∈ es (x :: r) := by unfold es; rw [if_pos hx]; exact List.mem_cons_self
      obtain ⟨c1, c2⟩ := hk x.2 hm b1
      exact ⟨by omega, by rw [c1]; exact b2, by rw [hE _ (by omega)]; exact b3, by rw [hH _ (by omega)]; exact b4, by rw [hE _ (by omega)]; exact b5, by rw [hH _ (by omega)]; exact b6, b7, v, b8, b9, by rw [c2]; exact b10⟩
    · unfold es; by_cases hx : x.1 = 69
      · rw [if_pos hx]; exact List.mem_cons_of_mem _ hk9
      · rw [if_neg hx]; exact hk9
def cs (sd : Nat → Int32) : Nat := (if sd 1 = 0 then 0 else 1) + (if sd 2 = 0 then 0 else 1)
abbrev pOk (ok : Nat → Prop) (q : Nat) (st : List (Int32 × Nat)) (wt n : Nat) (opd oat sd w o t : Nat → Int32) (E : Nat → List Nat) (H : Nat → Nat) : Prop := (stk opd oat st) ∧ (∀ k, k < n → sOk ok (fun j => w (64 * q + j)) (fun j => o (64 * q + j)) (fun j => t (64 * q + j)) E H (es st) n k) ∧ (E n = es st) ∧ (H n = ops st + wt) ∧ (∀ k, k ≤ n → H k ≤ k) ∧ (pend (fun j => w (64 * q + j)) (fun j => t (64 * q + j)) E H n st) ∧ (E 0 = []) ∧ (H 0 = 0) ∧ ((es st).length ≤ cs sd)
theorem pOk.sk {ok : Nat → Prop} {q : Nat} {st : List (Int32 × Nat)} {wt n : Nat} {opd oat sd w o t : Nat → Int32} {E : Nat → List Nat} {H : Nat → Nat} (h9z : pOk ok q st wt n opd oat sd w o t E H) : stk opd oat st := h9z.1
theorem pOk.co {ok : Nat → Prop} {q : Nat} {st : List (Int32 × Nat)} {wt n : Nat} {opd oat sd w o t : Nat → Int32} {E : Nat → List Nat} {H : Nat → Nat} (h9z : pOk ok q st wt n opd oat sd w o t E H) : ∀ k, k < n → sOk ok (fun j => w (64 * q + j)) (fun j => o (64 * q + j)) (fun j => t (64 * q + j)) E H (es st) n k := h9z.2.1
theorem pOk.en {ok : Nat → Prop} {q : Nat} {st : List (Int32 × Nat)} {wt n : Nat} {opd oat sd w o t : Nat → Int32} {E : Nat → List Nat} {H : Nat → Nat} (h9z : pOk ok q st wt n opd oat sd w o t E H) : E n = es st := h9z.2.2.1
theorem pOk.hn {ok : Nat → Prop} {q : Nat} {st : List (Int32 × Nat)} {wt n : Nat} {opd oat sd w o t : Nat → Int32} {E : Nat → List Nat} {H : Nat → Nat} (h9z : pOk ok q st wt n opd oat sd w o t E H) : H n = ops st + wt := h9z.2.2.2.1
theorem pOk.hk {ok : Nat → Prop} {q : Nat} {st : List (Int32 × Nat)} {wt n : Nat} {opd oat sd w o t : Nat → Int32} {E : Nat → List Nat} {H : Nat → Nat} (h9z : pOk ok q st wt n opd oat sd w o t E H) : ∀ k, k ≤ n → H k ≤ k := h9z.2.2.2.2.1
theorem pOk.pe {ok : Nat → Prop} {q : Nat} {st : List (Int32 × Nat)} {wt n : Nat} {opd oat sd w o t : Nat → Int32} {E : Nat → List Nat} {H : Nat → Nat} (h9z : pOk ok q st wt n opd oat sd w o t E H) : pend (fun j => w (64 * q + j)) (fun j => t (64 * q + j)) E H n st := h9z.2.2.2.2.2.1
theorem pOk.e0 {ok : Nat → Prop} {q : Nat} {st : List (Int32 × Nat)} {wt n : Nat} {opd oat sd w o t : Nat → Int32} {E : Nat → List Nat} {H : Nat → Nat} (h9z : pOk ok q st wt n opd oat sd w o t E H) : E 0 = [] := h9z.2.2.2.2.2.2.1
theorem pOk.h0 {ok : Nat → Prop} {q : Nat} {st : List (Int32 × Nat)} {wt n : Nat} {opd oat sd w o t : Nat → Int32} {E : Nat → List Nat} {H : Nat → Nat} (h9z : pOk ok q st wt n opd oat sd w o t E H) : H 0 = 0 := h9z.2.2.2.2.2.2.2.1
theorem pOk.sc {ok : Nat → Prop} {q : Nat} {st : List (Int32 × Nat)} {wt n : Nat} {opd oat sd w o t : Nat → Int32} {E : Nat → List Nat} {H : Nat → Nat} (h9z : pOk ok q st wt n opd oat sd w o t E H) : (es st).length ≤ cs sd := h9z.2.2.2.2.2.2.2.2
theorem pOk_ok {ok ok' : Nat → Prop} {q : Nat} {st : List (Int32 × Nat)} {wt n : Nat} {opd oat sd w o t : Nat → Int32} {E : Nat → List Nat} {H : Nat → Nat} (hok : ∀ p, ok p → ok' p) (h : pOk ok q st wt n opd oat sd w o t E H) : pOk ok' q st wt n opd oat sd w o t E H :=
  ⟨h.sk, (fun k hk => sOk_mono hok (fun _ _ => rfl) (fun _ _ => rfl) rfl rfl rfl id (Nat.le_refl _) hk (h.co k hk)), h.en, h.hn, h.hk, h.pe, h.e0, h.h0, h.sc⟩
theorem step_eq {q n : Nat} (hq : q ≤ 12) {sp : Nat → Int32} (hs : sp q = nI n) (hn : n ≤ 63) (w o t : Nat → Int32) (a b c : Int32) : f_M_step (nI q) sp w o t a b c = some (upd sp q (nI (n + 1)), upd w (64 * q + n) a, upd o (64 * q + n) b, upd t (64 * q + n) c) := by
  unfold f_M_step
  have e : 64 * nI q + nI n = nI (64 * q + n) := by rw [show (64 : Int32) = nI 64 from rfl, pk_mul, nI_add]
  have g : 0 ≤ (nI q).toInt ∧ (nI q).toInt < (13 : Nat) := by rw [nI_toInt (by omega)]; omega
  have g2 : 0 ≤ (nI (64 * q + n)).toInt ∧ (nI (64 * q + n)).toInt < (832 : Nat) := by rw [nI_toInt (by omega)]; omega
  rw [nI_clamp (by omega), hs, e, ob_iv_i g, ob_iv_i g2, ob_iv_i g2, ob_iv_i g2, ob_iv_i g, ob_iv_i g, nI_1, nI_clamp (by omega)]
theorem top_eq {m : Nat} (hm : m ≤ 64) (opd : Nat → Int32) (c : Int32) : f_M_top (nI m) opd c = some (b2i (decide (0 < m ∧ opd (m - 1) = c))) := by
  unfold f_M_top
  by_cases h0 : m = 0
  · subst h0; rw [if_pos (by decide), decide_eq_false (by omega)]; rfl
  · have e : nI m - 1 = nI (m - 1) := by
      obtain ⟨j, rfl⟩ : ∃ j, m = j + 1 := ⟨m - 1, by omega⟩
      rw [nI_pred]; rfl
    rw [if_neg (show ¬ nI m ≤ 0 by rw [show (0 : Int32) = nI 0 from rfl]; exact nI_ge (by omega) (by omega)), e, ob_iv_i (by rw [nI_toInt (by omega)]; omega), nI_clamp (by omega)]
    by_cases hc : opd (m - 1) = c
    · rw [if_pos hc, decide_eq_true ⟨by omega, hc⟩]; rfl
    · rw [if_neg hc, decide_eq_false (fun h => hc h.2)]; rfl
def frm (q : Nat) (w w' : Nat → Int32) : Prop := ∀ k, k < 64 * q → w' k = w k
theorem frm_r (q : Nat) (w : Nat → Int32) : frm q w w := fun _ _ => rfl
theorem frm_t {q : Nat} {a b c : Nat → Int32} (h1 : frm q a b) (h2 : frm q b c) : frm q a c := fun k h => (h2 k h).trans (h1 k h)
theorem frm_u {q n : Nat} {a : Nat → Int32} {x : Int32} : frm q a (upd a (64 * q + n) x) := fun k h => pk_un (by omega)
def frs (q : Nat) (w w' : Nat → Int32) : Prop := ∀ k, k < q → w' k = w k
theorem frs_r (q : Nat) (w : Nat → Int32) : frs q w w := fun _ _ => rfl
theorem frs_t {q : Nat} {a b c : Nat → Int32} (h1 : frs q a b) (h2 : frs q b c) : frs q a c := fun k h => (h2 k h).trans (h1 k h)
theorem frs_u {q : Nat} {a : Nat → Int32} {x : Int32} : frs q a (upd a q x) := fun k h => pk_un (by omega)
def upE (E : Nat → List Nat) (k : Nat) (x : List Nat) : Nat → List Nat := fun j => if j = k then x else E j
theorem upE_s {E : Nat → List Nat} {k : Nat} {x : List Nat} : upE E k x k = x := if_pos rfl
theorem upE_n {E : Nat → List Nat} {k j : Nat} {x : List Nat} (h : j ≠ k) : upE E k x j = E j := if_neg h
theorem sh_ne {q n j : Nat} (h : j ≠ n) (a : Nat → Int32) (x : Int32) : upd a (64 * q + n) x (64 * q + j) = a (64 * q + j) := pk_un (by omega)
theorem es_lt {w t : Nat → Int32} {E : Nat → List Nat} {H : Nat → Nat} {n : Nat} : ∀ st : List (Int32 × Nat), pend w t E H n st → ∀ k, k ∈ es st → k < n := by
  intro st
  induction st with
  | nil => intro _ k hk; cases hk
  | cons x r ih =>
    intro h k hk
    obtain ⟨a1, a2⟩ := h
    unfold es at hk
    by_cases hx : x.1 = 69
    · rw [if_pos hx] at hk
      rcases List.mem_cons.mp hk with h9 | h9
      · rw [h9]; exact (a1 hx).1
      · exact ih a2 k h9
    · rw [if_neg hx] at hk; exact ih a2 k hk
theorem pOk_new {ok : Nat → Prop} {q : Nat} {st st' : List (Int32 × Nat)} {wt wt' n : Nat} {opd oat sd w o t opd' oat' sd' : Nat → Int32} {E : Nat → List Nat} {H : Nat → Nat} (h : pOk ok q st wt n opd oat sd w o t E H) (x y z : Int32) (hsk : stk opd' oat' st') (he : ∀ k, k ∈ es st → k ∈ es st') (hle : ops st' + wt' ≤ n + 1)
    (hs : sOk ok (upd (fun j => w (64 * q + j)) n x) (upd (fun j => o (64 * q + j)) n y) (upd (fun j => t (64 * q + j)) n z) (upE E (n + 1) (es st')) (upN H (n + 1) (ops st' + wt')) (es st') (n + 1) n)
    (hp : pend (fun j => upd w (64 * q + n) x (64 * q + j)) (fun j => upd t (64 * q + n) z (64 * q + j)) (upE E (n + 1) (es st')) (upN H (n + 1) (ops st' + wt')) (n + 1) st') (hsc : (es st').length ≤ cs sd') :
    pOk ok q st' wt' (n + 1) opd' oat' sd' (upd w (64 * q + n) x) (upd o (64 * q + n) y) (upd t (64 * q + n) z) (upE E (n + 1) (es st')) (upN H (n + 1) (ops st' + wt')) := by
  refine ⟨hsk, fun k hk => ?_, upE_s, upN_s, fun k hk => ?_, hp, ?_, ?_, hsc⟩
  · by_cases e : k = n
    · subst e
      refine sOk_mono (n := k + 1) (fun _ hp => hp) (fun _ _ => rfl) (fun _ _ => rfl) ?_ ?_ ?_ id (Nat.le_refl _) (by omega) hs
      · show upd w (64 * q + k) x (64 * q + k) = upd _ k x k; rw [pk_us, pk_us]
      · show upd o (64 * q + k) y (64 * q + k) = upd _ k y k; rw [pk_us, pk_us]
      · show upd t (64 * q + k) z (64 * q + k) = upd _ k z k; rw [pk_us, pk_us]
    · exact sOk_mono (n := n) (fun _ hp => hp) (fun j hj => upE_n (by omega)) (fun j hj => upN_n (by omega)) (sh_ne e w x) (sh_ne e o y) (sh_ne e t z) (he k) (by omega) (by omega) (h.co k (by omega))
  · by_cases e : k = n + 1
    · subst e; rw [upN_s]; exact hle
    · rw [upN_n e]; exact h.hk k (by omega)
  · rw [upE_n (by omega)]; exact h.e0
  · rw [upN_n (by omega)]; exact h.h0
theorem pend_new {q n : Nat} {w t : Nat → Int32} {E : Nat → List Nat} {H : Nat → Nat} {st : List (Int32 × Nat)} {x z : Int32} {e : List Nat} {g : Nat} (h : pend (fun j => w (64 * q + j)) (fun j => t (64 * q + j)) E H n st) : pend (fun j => upd w (64 * q + n) x (64 * q + j)) (fun j => upd t (64 * q + n) z (64 * q + j)) (upE E (n + 1) e) (upN H (n + 1) g) (n + 1) st :=
  pend_mono (fun j hj => upE_n (by omega)) (fun j hj => upN_n (by omega)) (by omega) st (fun k _ hk => ⟨sh_ne (by omega) w x, sh_ne (by omega) t z⟩) h

theorem nI_prd {m : Nat} (h : 1 ≤ m) : nI m - 1 = nI (m - 1) := by
  obtain ⟨j, rfl⟩ : ∃ j, m = j + 1 := ⟨m - 1, by omega⟩
  rw [nI_pred]; rfl
theorem ops_c {c : Int32} {k : Nat} {r : List (Int32 × Nat)} (h : c = 38 ∨ c = 124) : ops ((c, k) :: r) = ops r + 1 := if_pos h
theorem ops_n {c : Int32} {k : Nat} {r : List (Int32 × Nat)} (h : ¬ (c = 38 ∨ c = 124)) : ops ((c, k) :: r) = ops r := if_neg h
theorem es_c {c : Int32} {k : Nat} {r : List (Int32 × Nat)} (h : c = 69) : es ((c, k) :: r) = k :: es r := if_pos h
theorem es_n {c : Int32} {k : Nat} {r : List (Int32 × Nat)} (h : ¬ c = 69) : es ((c, k) :: r) = es r := if_neg h
theorem Q_close_loop {q : Nat} (hq : q ≤ 12) (opd : Nat → Int32) (p : Int32) : ∀ (f m n : Nat) (sp w o t : Nat → Int32), m + n ≤ 63 → sp q = nI n → m < f →
    ∃ (m' n' : Nat) (sp' w' o' t' : Nat → Int32), f_M_close_L0 opd p (nI q) f (nI m) sp w o t = some (nI m', sp', w', o', t') ∧ m' + n' = m + n ∧ m' ≤ m ∧ sp' q = nI n' ∧ frs q sp sp' ∧ frm q w w' ∧ frm q o o' ∧ frm q t t' ∧
      ∀ (ok : Nat → Prop) (st : List (Int32 × Nat)) (oat sd : Nat → Int32) (E : Nat → List Nat) (H : Nat → Nat), st.length = m → pOk ok q st 1 n opd oat sd w o t E H → ∃ (st' : List (Int32 × Nat)) (E' : Nat → List Nat) (H' : Nat → Nat), st'.length = m' ∧ pOk ok q st' 1 n' opd oat sd w' o' t' E' H' := by
  intro f
  induction f with
  | zero => intro m n sp w o t _ _ h; omega
  | succ f ih =>
    intro m n sp w o t hmn hsp hf
    show ∃ (m' n' : Nat) (sp' w' o' t' : Nat → Int32), f_M_close_B0 opd p (nI q) (f_M_close_L0 opd p (nI q) f) (nI m) sp w o t = some (nI m', sp', w', o', t') ∧ _
    unfold f_M_close_B0 f_M_close_J22 f_M_close_J52
    have stop : ∃ (m' n' : Nat) (sp' w' o' t' : Nat → Int32), some (nI m, sp, w, o, t) = some (nI m', sp', w', o', t') ∧ m' + n' = m + n ∧ m' ≤ m ∧ sp' q = nI n' ∧ frs q sp sp' ∧ frm q w w' ∧ frm q o o' ∧ frm q t t' ∧
      ∀ (ok : Nat → Prop) (st : List (Int32 × Nat)) (oat sd : Nat → Int32) (E : Nat → List Nat) (H : Nat → Nat), st.length = m → pOk ok q st 1 n opd oat sd w o t E H → ∃ (st' : List (Int32 × Nat)) (E' : Nat → List Nat) (H' : Nat → Nat), st'.length = m' ∧ pOk ok q st' 1 n' opd oat sd w' o' t' E' H' := ⟨m, n, sp, w, o, t, rfl, rfl, Nat.le_refl _, hsp, frs_r _ _, frm_r _ _, frm_r _ _, frm_r _ _, fun ok st oat sd E H h1 h2 => ⟨st, E, H, h1, h2⟩⟩
    have go : ∀ c : Int32, 0 < m → opd (m - 1) = c → (c = 38 ∨ c = 124) → ∃ (m' n' : Nat) (sp' w' o' t' : Nat → Int32), ob_iv (nI m - 1) 64 (if opd (nI m - 1).toNatClampNeg = 38 then (f_M_step (nI q) sp w o t 3 0 0).bind fun o54 => f_M_close_L0 opd p (nI q) f (nI m - 1) o54.1 o54.2.1 o54.2.2.1 o54.2.2.2 else (f_M_step (nI q) sp w o t 4 0 0).bind fun o54 => f_M_close_L0 opd p (nI q) f (nI m - 1) o54.1 o54.2.1 o54.2.2.1 o54.2.2.2) = some (nI m', sp', w', o', t') ∧ m' + n' = m + n ∧ m' ≤ m ∧ sp' q = nI n' ∧ frs q sp sp' ∧ frm q w w' ∧ frm q o o' ∧ frm q t t' ∧
      ∀ (ok : Nat → Prop) (st : List (Int32 × Nat)) (oat sd : Nat → Int32) (E : Nat → List Nat) (H : Nat → Nat), st.length = m → pOk ok q st 1 n opd oat sd w o t E H → ∃ (st' : List (Int32 × Nat)) (E' : Nat → List Nat) (H' : Nat → Nat), st'.length = m' ∧ pOk ok q st' 1 n' opd oat sd w' o' t' E' H' := fun c h0 hc hcc => by
      have key : ∀ x : Int32, (x = 3 ∨ x = 4) → ∃ (m' n' : Nat) (sp' w' o' t' : Nat → Int32), ((f_M_step (nI q) sp w o t x 0 0).bind fun o54 => f_M_close_L0 opd p (nI q) f (nI (m - 1)) o54.1 o54.2.1 o54.2.2.1 o54.2.2.2) = some (nI m', sp', w', o', t') ∧ m' + n' = m + n ∧ m' ≤ m ∧ sp' q = nI n' ∧ frs q sp sp' ∧ frm q w w' ∧ frm q o o' ∧ frm q t t' ∧
      ∀ (ok : Nat → Prop) (st : List (Int32 × Nat)) (oat sd : Nat → Int32) (E : Nat → List Nat) (H : Nat → Nat), st.length = m → pOk ok q st 1 n opd oat sd w o t E H → ∃ (st' : List (Int32 × Nat)) (E' : Nat → List Nat) (H' : Nat → Nat), st'.length = m' ∧ pOk ok q st' 1 n' opd oat sd w' o' t' E' H' := fun x hx => by
        rw [step_eq hq hsp (by omega), ob_bs]
        obtain ⟨m', n', sp', w', o', t', g1, g2, g3, g4, g5, g6, g7, g8, g9⟩ := ih (m - 1) (n + 1) (upd sp q (nI (n + 1))) (upd w (64 * q + n) x) (upd o (64 * q + n) 0) (upd t (64 * q + n) 0) (by omega) pk_us (by omega)
        refine ⟨m', n', sp', w', o', t', g1, by omega, by omega, g4, frs_t frs_u g5, frm_t frm_u g6, frm_t frm_u g7, frm_t frm_u g8, fun ok st oat sd E H hl hP => ?_⟩
        cases st with
        | nil => simp only [List.length_nil] at hl; omega
        | cons y r =>
          obtain ⟨yc, yk⟩ := y
          have hl2 : r.length = m - 1 := by simp only [List.length_cons] at hl; omega
          obtain ⟨s1, s2, s3⟩ := hP.sk
          have hyc : yc = c := by rw [← hc, ← hl2]; exact s1.symm
          have h69 : ¬ yc = 69 := by rw [hyc]; rcases hcc with h | h <;> (rw [h]; decide)
          have hop : ops ((yc, yk) :: r) = ops r + 1 := ops_c (by rw [hyc]; exact hcc)
          have hes : es ((yc, yk) :: r) = es r := es_n h69
          have hHn := hP.hn
          rw [hop] at hHn
          have hHk := hP.hk n (Nat.le_refl _)
          refine g9 ok r oat sd _ _ hl2 (pOk_new (wt := 1) (wt' := 1) (E := E) (H := H) hP x 0 0 s3 (fun k hk => by rw [hes] at hk; exact hk) (by omega) ?_ (pend_new hP.pe.2) ?_)
          · refine Or.inr (Or.inr (Or.inl ⟨?_, ?_, ?_, ?_⟩))
            · rw [pk_us]; exact hx
            · rw [upE_s, upE_n (by omega), hP.en, hes]
            · rw [upN_s, upN_n (by omega)]; omega
            · rw [upN_n (by omega)]; omega
          · rw [← hes]; exact hP.sc
      rw [nI_prd h0, ob_iv_i (by rw [nI_toInt (by omega)]; omega)]
      split
      · exact key 3 (Or.inl rfl)
      · exact key 4 (Or.inr rfl)
    rw [top_eq (by omega), ob_bs]
    by_cases h1 : 0 < m ∧ opd (m - 1) = 38
    · rw [decide_eq_true h1, if_neg b2i_t]; exact go 38 h1.1 h1.2 (Or.inl rfl)
    · rw [decide_eq_false h1, if_pos b2i_f]
      by_cases hp : p = 0
      · rw [if_pos hp]; exact stop
      · rw [if_neg hp, top_eq (by omega), ob_bs]
        by_cases h2 : 0 < m ∧ opd (m - 1) = 124
        · rw [decide_eq_true h2, if_neg b2i_t]; exact go 124 h2.1 h2.2 (Or.inr rfl)
        · rw [decide_eq_false h2, if_pos b2i_f]; exact stop
def sdOk (cc : Nat) (sd : Nat → Int32) : Prop := ∀ v, v < 3 → ∃ c : Nat, sd v = nI c ∧ c ≤ cc
theorem sdOk_u {cc : Nat} {sd : Nat → Int32} (h : sdOk cc sd) {v c : Nat} (hc : c ≤ cc) : sdOk cc (upd sd v (nI c)) := fun j hj => by
  by_cases e : j = v
  · subst e; exact ⟨c, pk_us, hc⟩
  · rw [pk_un e]; exact h j hj
theorem Q_fe_loop {q cc : Nat} (hq : q ≤ 12) (ok : Nat → Prop) (opd oat : Nat → Int32) : ∀ (f n : Nat) (st : List (Int32 × Nat)) (deep : Int32) (sd sp w o t : Nat → Int32) (E : Nat → List Nat) (H : Nat → Nat), st.length + n ≤ 63 → sp q = nI n → st.length < f → sdOk cc sd → pOk ok q st 1 n opd oat sd w o t E H →
    ∃ (st' : List (Int32 × Nat)) (n' : Nat) (deep' : Int32) (sd' sp' w' o' t' : Nat → Int32) (E' : Nat → List Nat) (H' : Nat → Nat), f_M_factorEnds_L0 opd (nI q) oat f (nI st.length) deep t sd sp w o = some (nI st'.length, deep', t', sd', sp', w', o') ∧ st'.length + n' = st.length + n ∧ st'.length ≤ st.length ∧ sp' q = nI n' ∧ frs q sp sp' ∧ frm q w w' ∧ frm q o o' ∧ frm q t t' ∧ sdOk cc sd' ∧ pOk ok q st' 1 n' opd oat sd' w' o' t' E' H' := by
  intro f
  induction f with
  | zero => intro n st deep sd sp w o t E H _ _ h; omega
  | succ f ih =>
    intro n st deep sd sp w o t E H hmn hsp hf hsd hP
    show ∃ (st' : List (Int32 × Nat)) (n' : Nat) (deep' : Int32) (sd' sp' w' o' t' : Nat → Int32) (E' : Nat → List Nat) (H' : Nat → Nat), f_M_factorEnds_B0 opd (nI q) oat (f_M_factorEnds_L0 opd (nI q) oat f) (nI st.length) deep t sd sp w o = _ ∧ _
    unfold f_M_factorEnds_B0 f_M_factorEnds_J18
    rw [top_eq (by omega), top_eq (by omega), ob_bs, ob_bs]
    have stop : ∃ (st' : List (Int32 × Nat)) (n' : Nat) (deep' : Int32) (sd' sp' w' o' t' : Nat → Int32) (E' : Nat → List Nat) (H' : Nat → Nat), some (nI st.length, deep, t, sd, sp, w, o) = some (nI st'.length, deep', t', sd', sp', w', o') ∧ st'.length + n' = st.length + n ∧ st'.length ≤ st.length ∧ sp' q = nI n' ∧ frs q sp sp' ∧ frm q w w' ∧ frm q o o' ∧ frm q t t' ∧ sdOk cc sd' ∧ pOk ok q st' 1 n' opd oat sd' w' o' t' E' H' := ⟨st, n, deep, sd, sp, w, o, t, E, H, rfl, rfl, Nat.le_refl _, hsp, frs_r _ _, frm_r _ _, frm_r _ _, frm_r _ _, hsd, hP⟩
    cases st with
    | nil =>
      rw [decide_eq_false (fun h => absurd h.1 (by simp)), decide_eq_false (fun h => absurd h.1 (by simp)), if_pos b2i_f, if_pos b2i_f]; exact stop
    | cons y r =>
      obtain ⟨yc, yk⟩ := y
      obtain ⟨s1, s2, s3⟩ := hP.sk
      have s1 : opd r.length = yc := s1
      have s2 : yc = 69 → oat r.length = nI yk := s2
      have hlen : ((yc, yk) :: r).length = r.length + 1 := rfl
      rw [hlen] at hmn hf ⊢
      have hHn := hP.hn
      have hHk := hP.hk n (Nat.le_refl _)
      rw [show r.length + 1 - 1 = r.length from rfl, s1, nI_pred]
      have hg : 0 ≤ (nI r.length).toInt ∧ (nI r.length).toInt < (64 : Nat) := by rw [nI_toInt (by omega)]; omega
      rw [ob_iv_i hg, ob_iv_i hg, nI_clamp (by omega), s1]
      by_cases h33 : yc = 33
      · rw [decide_eq_true ⟨by omega, h33⟩, if_neg b2i_t, if_pos h33, step_eq hq hsp (by omega), ob_bs]
        have hop : ops ((yc, yk) :: r) = ops r := ops_n (by rw [h33]; decide)
        have hes : es ((yc, yk) :: r) = es r := es_n (by rw [h33]; decide)
        rw [hop] at hHn
        obtain ⟨st', n', deep', sd', sp', w', o', t', E', H', g1, g2, g3, g4, g5, g6, g7, g8, g9, g10⟩ := ih (n + 1) r (deep - 1) sd (upd sp q (nI (n + 1))) (upd w (64 * q + n) 2) (upd o (64 * q + n) 0) (upd t (64 * q + n) 0) _ _ (by omega) pk_us (by omega) hsd (pOk_new (wt := 1) (wt' := 1) (E := E) (H := H) hP 2 0 0 s3 (fun k hk => by rw [hes] at hk; exact hk) (by omega) (Or.inr (Or.inl ⟨pk_us, by rw [upE_s, upE_n (by omega), hP.en, hes], by rw [upN_s, upN_n (by omega)]; omega, by rw [upN_n (by omega)]; omega⟩)) (pend_new hP.pe.2) (by rw [← hes]; exact hP.sc))
        exact ⟨st', n', deep', sd', sp', w', o', t', E', H', g1, by omega, by omega, g4, frs_t frs_u g5, frm_t frm_u g6, frm_t frm_u g7, frm_t frm_u g8, g9, g10⟩
      · rw [decide_eq_false (fun h => h33 h.2), if_pos b2i_f]
        by_cases h69 : yc = 69
        · rw [decide_eq_true ⟨by omega, h69⟩, if_neg b2i_t, if_neg h33, s2 h69]
          have hop : ops ((yc, yk) :: r) = ops r := ops_n (by rw [h69]; decide)
          have hes : es ((yc, yk) :: r) = yk :: es r := es_c h69
          rw [hop] at hHn
          obtain ⟨b1, b2, b3, b4, b5, b6, b7, v, b8, b9, b10⟩ := hP.pe.1 h69
          have b1 : yk < n := b1
          have b2 : w (64 * q + yk) = 5 := b2
          have b10 : t (64 * q + yk) = nI v := b10
          have ef : 64 * nI q + nI yk = nI (64 * q + yk) := by rw [show (64 : Int32) = nI 64 from rfl, pk_mul, nI_add]
          have gf : 0 ≤ (nI (64 * q + yk)).toInt ∧ (nI (64 * q + yk)).toInt < (832 : Nat) := by rw [nI_toInt (by omega)]; omega
          have em : nI (64 * q + yk) - 64 * nI q = nI yk := by
            rw [show (64 : Int32) = nI 64 from rfl, pk_mul, pk_sub (by omega)]; congr 1; omega
          unfold f_M_loopEnds
          rw [ef, ob_iv_i gf, nI_clamp (by omega), b10, ob_iv_i (by rw [nI_toInt (by omega)]; omega), ob_iv_i gf, em, step_eq hq hsp (by omega), ob_bs, ob_iv_i gf, ob_iv_i (by rw [nI_toInt (by omega)]; omega), ob_iv_i gf, ob_bs, nI_clamp (by omega), nI_clamp (by omega)]
          have e4 : upd t (64 * q + n) (nI v) (64 * q + yk) + 4 * (upd sp q (nI (n + 1)) q - 1) = nI (v + 4 * n) := by
            rw [pk_un (by omega), b10, pk_us, nI_pred, show (4 : Int32) = nI 4 from rfl, pk_mul, nI_add]
          simp only [e4]
          have hsO : ∃ p : Nat, o (64 * q + yk) = nI p ∧ p ≤ 100 ∧ ok p ∧ E (yk + 1) = yk :: E yk ∧ H (yk + 1) = H yk ∧ (E yk).length ≤ 1 := by
            rcases hP.co yk b1 with ⟨a1, _⟩ | ⟨a1, _⟩ | ⟨a1 | a1, _⟩ | ⟨a1, a2, a3, a4, p, v', a5, a6, a7, _⟩ | ⟨a1, _⟩
            · exact absurd (b2.symm.trans a1) (by decide)
            · exact absurd (b2.symm.trans a1) (by decide)
            · exact absurd (b2.symm.trans a1) (by decide)
            · exact absurd (b2.symm.trans a1) (by decide)
            · exact ⟨p, a5, a6, a7, a2, a3, a4⟩
            · exact absurd (b2.symm.trans a1) (by decide)
          obtain ⟨p, c1, c2, c3, c4, c5, c6⟩ := hsO
          have hT : ∀ j, j ≠ n → j ≠ yk → upd (upd t (64 * q + n) (nI v)) (64 * q + yk) (nI (v + 4 * n)) (64 * q + j) = t (64 * q + j) := fun j h1 h2 => by rw [pk_un (by omega), pk_un (by omega)]
          have hNew : pOk ok q r 1 (n + 1) opd oat (upd sd v (nI 0)) (upd w (64 * q + n) 6) (upd o (64 * q + n) (nI yk)) (upd (upd t (64 * q + n) (nI v)) (64 * q + yk) (nI (v + 4 * n))) (upE E (n + 1) (es r)) (upN H (n + 1) (ops r + 1)) := by
            refine ⟨s3, fun j hj => ?_, upE_s, upN_s, fun j hj => ?_, ?_, ?_, ?_, ?_⟩
            · by_cases ej : j = n
              · subst ej
                refine Or.inr (Or.inr (Or.inr (Or.inr ⟨pk_us, yk, v, b1, ?_, ?_, ?_, ?_, ?_, ?_, b8, b9⟩)))
                · rw [upE_n (by omega), upE_s, hP.en, hes]
                · rw [upE_n (by omega), upE_n (by omega), b5, hP.en, hes]
                · rw [upN_n (by omega)]; omega
                · rw [upN_s, upN_n (by omega)]; omega
                · rw [upN_n (by omega), upN_n (by omega), b6]; omega
                · show upd (upd t (64 * q + j) (nI v)) (64 * q + yk) (nI (v + 4 * j)) (64 * q + j) = nI v
                  rw [pk_un (by omega), pk_us]
              · by_cases ek : j = yk
                · subst ek
                  refine Or.inr (Or.inr (Or.inr (Or.inl ⟨?_, ?_, ?_, ?_, p, v, ?_, c2, c3, b8, b9, Or.inr ⟨n, ?_, b1, by omega, ?_, ?_⟩⟩)))
                  · exact (sh_ne (by omega) w 6).trans b2
                  · rw [upE_n (by omega), upE_n (by omega)]; exact c4
                  · rw [upN_n (by omega), upN_n (by omega)]; exact c5
                  · rw [upE_n (by omega)]; exact c6
                  · exact (sh_ne (by omega) o _).trans c1
                  · exact pk_us
                  · rw [upE_s, upE_n (by omega), b3]
                  · rw [upN_s, upN_n (by omega), b4]
                · refine sOk_mono (n := n) (fun _ hp => hp) (fun i hi => upE_n (by omega)) (fun i hi => upN_n (by omega)) (sh_ne (by omega) w 6) (sh_ne (by omega) o _) (hT j ej ek) (fun hm => ?_) (by omega) (by omega) (hP.co j (by omega))
                  rw [hes] at hm
                  rcases List.mem_cons.mp hm with h | h
                  · exact absurd h ek
                  · exact h
            · by_cases ej : j = n + 1
              · subst ej; rw [upN_s]; omega
              · rw [upN_n ej]; exact hP.hk j (by omega)
            · refine pend_mono (n := n) (fun i hi => upE_n (by omega)) (fun i hi => upN_n (by omega)) (by omega) r (fun i hi hi2 => ⟨sh_ne (by omega) w 6, hT i (by omega) ?_⟩) hP.pe.2
              have := b7 i hi
              omega
            · rw [upE_n (by omega)]; exact hP.e0
            · rw [upN_n (by omega)]; exact hP.h0
            · have hsc := hP.sc
              rw [hes] at hsc
              simp only [List.length_cons] at hsc
              have hv : v = 1 ∨ v = 2 := by omega
              unfold cs at hsc ⊢
              rcases hv with rfl | rfl
              · rw [pk_us, pk_un (by decide), if_pos (show nI 0 = 0 from rfl)]
                by_cases q1 : sd 1 = 0 <;> by_cases q2 : sd 2 = 0 <;> simp only [q1, q2, if_true, if_false] at hsc ⊢ <;> omega
              · rw [pk_us, pk_un (by decide), if_pos (show nI 0 = 0 from rfl)]
                by_cases q1 : sd 1 = 0 <;> by_cases q2 : sd 2 = 0 <;> simp only [q1, q2, if_true, if_false] at hsc ⊢ <;> omega
          obtain ⟨st', n', deep', sd', sp', w', o', t', E', H', g1, g2, g3, g4, g5, g6, g7, g8, g9, g10⟩ := ih (n + 1) r (deep - 1) (upd sd v (nI 0)) (upd sp q (nI (n + 1))) (upd w (64 * q + n) 6) (upd o (64 * q + n) (nI yk)) (upd (upd t (64 * q + n) (nI v)) (64 * q + yk) (nI (v + 4 * n))) _ _ (by omega) pk_us (by omega) (sdOk_u hsd (by omega)) hNew
          exact ⟨st', n', deep', sd', sp', w', o', t', E', H', g1, by omega, by omega, g4, frs_t frs_u g5, frm_t frm_u g6, frm_t frm_u g7, frm_t (frm_t frm_u frm_u) g8, g9, g10⟩
        · rw [decide_eq_false (fun h => h69 h.2), if_pos b2i_f]; exact stop
