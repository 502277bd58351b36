theorem Q_open {m : Nat} (hm : m ≤ 63) (bad deep : Int32) (opd oat : Nat → Int32) (c d : Int32) : ∃ (bad' deep' : Int32), f_M_open bad (nI m) deep opd oat c d = some (bad', nI (m + 1), deep', upd opd m c, upd oat m d) ∧ (bad' = 0 ∨ bad' = 1) ∧ (bad' = 0 → bad = 0) ∧ (¬ (c = 33 ∨ c = 40 ∨ c = 69) → bad = 0 → bad' = 0) := by
  have hg : 0 ≤ (nI m).toInt ∧ (nI m).toInt < (64 : Nat) := by rw [nI_toInt (by omega)]; omega
  have h40 : ∀ y : Int32, (y = 0 ∨ y = 1) → ∃ deep' : Int32, f_M_open_J40 c d y bad (nI m) deep opd oat = some (y, nI (m + 1), deep', upd opd m c, upd oat m d) := fun y hy => by
    unfold f_M_open_J40 f_M_open_J66 f_M_open_J71
    rw [ob_nz_i hy, ob_iv_i hg, ob_iv_i hg, ob_iv_i hg, ob_iv_i hg, nI_clamp (by omega), nI_1]
    split
    · exact ⟨_, rfl⟩
    · split
      · exact ⟨_, rfl⟩
      · split
        · exact ⟨_, rfl⟩
        · exact ⟨_, rfl⟩
  unfold f_M_open f_M_open_J26 f_M_open_J35 f_M_open_J39
  obtain ⟨d0, e0⟩ := h40 0 (Or.inl rfl)
  obtain ⟨d1, e1⟩ := h40 1 (Or.inr rfl)
  rw [e0, e1]
  by_cases hb : bad = 0
  · rw [if_pos hb]
    have yes : ∃ (bad' deep' : Int32), some ((0 : Int32), nI (m + 1), d0, upd opd m c, upd oat m d) = some (bad', nI (m + 1), deep', upd opd m c, upd oat m d) ∧ (bad' = 0 ∨ bad' = 1) ∧ (bad' = 0 → bad = 0) ∧ (¬ (c = 33 ∨ c = 40 ∨ c = 69) → bad = 0 → bad' = 0) := ⟨0, d0, rfl, Or.inl rfl, fun _ => hb, fun _ _ => rfl⟩
    have may : (c = 33 ∨ c = 40 ∨ c = 69) → ∃ (bad' deep' : Int32), (if deep = 12 then some ((1 : Int32), nI (m + 1), d1, upd opd m c, upd oat m d) else some ((0 : Int32), nI (m + 1), d0, upd opd m c, upd oat m d)) = some (bad', nI (m + 1), deep', upd opd m c, upd oat m d) ∧ (bad' = 0 ∨ bad' = 1) ∧ (bad' = 0 → bad = 0) ∧ (¬ (c = 33 ∨ c = 40 ∨ c = 69) → bad = 0 → bad' = 0) := fun hc => by
      split
      · exact ⟨1, d1, rfl, Or.inr rfl, fun _ => hb, fun h => absurd hc h⟩
      · exact yes
    by_cases c1 : c = 33
    · rw [if_pos c1]; exact may (Or.inl c1)
    · rw [if_neg c1]
      by_cases c2 : c = 40
      · rw [if_pos c2]; exact may (Or.inr (Or.inl c2))
      · rw [if_neg c2]
        by_cases c3 : c = 69
        · rw [if_pos c3]; exact may (Or.inr (Or.inr c3))
        · rw [if_neg c3]; exact yes
  · rw [if_neg hb]; exact ⟨1, d1, rfl, Or.inr rfl, fun h => absurd h one_ne, fun _ h => absurd h hb⟩
theorem pOk_push {ok : Nat → Prop} {q : Nat} {st : List (Int32 × Nat)} {wt wt' n : Nat} {opd oat sd w o t : Nat → Int32} {E : Nat → List Nat} {H : Nat → Nat} (h : pOk ok q st wt n opd oat sd w o t E H) {c d : Int32} {k m : Nat} (hm : st.length = m) (hc : ¬ c = 69) (hw : (if c = 38 ∨ c = 124 then wt' + 1 else wt') = wt) : pOk ok q ((c, k) :: st) wt' n (upd opd m c) (upd oat m d) sd w o t E H := by
  refine ⟨⟨by rw [hm]; exact pk_us, fun h9 => absurd h9 hc, stk_upd st (by omega) h.sk⟩, fun j hj => ?_, ?_, ?_, h.hk, ⟨fun h9 => absurd h9 hc, h.pe⟩, h.e0, h.h0, ?_⟩
  · rw [es_n hc]; exact h.co j hj
  · rw [es_n hc]; exact h.en
  · rw [h.hn]
    by_cases h9 : c = 38 ∨ c = 124
    · rw [if_pos h9] at hw; rw [ops_c h9]; omega
    · rw [if_neg h9] at hw; rw [ops_n h9]; omega
  · rw [es_n hc]; exact h.sc
theorem opOk_lt {tx : Nat → Int32} {q len p : Nat} (h : opOk (chr tx q len) p) : p < len := by
  refine chr_lt (tx := tx) (q := q) (fun e => ?_)
  rcases h with h | h | h | ⟨⟨n, h1, h2⟩, -⟩
  · rw [e] at h; revert h; decide
  · rw [e] at h; revert h; decide
  · rw [e, dig_0] at h; cases h
  · rw [e] at h2
    have := congrArg Int32.toInt h2
    rw [nI_toInt (by omega), show ((0 : Int32) - 120).toInt = -120 by decide] at this; omega
abbrev jOk (c : Nat → Int32) (q cc len wt a m n : Nat) (bad : Int32) (sd sp opd oat w o t sp0 w0 o0 t0 : Nat → Int32) : Prop := (sp q = nI n) ∧ (m + n ≤ a) ∧ (a ≤ 63) ∧ (bad = 0 ∨ bad = 1) ∧ (frs q sp0 sp) ∧ (frm q w0 w) ∧ (frm q o0 o) ∧ (frm q t0 t) ∧ (bad = 0 → a ≤ len ∧ sdOk cc sd ∧ ∃ (st : List (Int32 × Nat)) (E : Nat → List Nat) (H : Nat → Nat), st.length = m ∧ pOk (opOk c) q st wt n opd oat sd w o t E H)
theorem jOk.qsp {c : Nat → Int32} {q cc len wt a m n : Nat} {bad : Int32} {sd sp opd oat w o t sp0 w0 o0 t0 : Nat → Int32} (h9z : jOk c q cc len wt a m n bad sd sp opd oat w o t sp0 w0 o0 t0) : sp q = nI n := h9z.1
theorem jOk.qle {c : Nat → Int32} {q cc len wt a m n : Nat} {bad : Int32} {sd sp opd oat w o t sp0 w0 o0 t0 : Nat → Int32} (h9z : jOk c q cc len wt a m n bad sd sp opd oat w o t sp0 w0 o0 t0) : m + n ≤ a := h9z.2.1
theorem jOk.q63 {c : Nat → Int32} {q cc len wt a m n : Nat} {bad : Int32} {sd sp opd oat w o t sp0 w0 o0 t0 : Nat → Int32} (h9z : jOk c q cc len wt a m n bad sd sp opd oat w o t sp0 w0 o0 t0) : a ≤ 63 := h9z.2.2.1
theorem jOk.qb {c : Nat → Int32} {q cc len wt a m n : Nat} {bad : Int32} {sd sp opd oat w o t sp0 w0 o0 t0 : Nat → Int32} (h9z : jOk c q cc len wt a m n bad sd sp opd oat w o t sp0 w0 o0 t0) : bad = 0 ∨ bad = 1 := h9z.2.2.2.1
theorem jOk.qf1 {c : Nat → Int32} {q cc len wt a m n : Nat} {bad : Int32} {sd sp opd oat w o t sp0 w0 o0 t0 : Nat → Int32} (h9z : jOk c q cc len wt a m n bad sd sp opd oat w o t sp0 w0 o0 t0) : frs q sp0 sp := h9z.2.2.2.2.1
theorem jOk.qf2 {c : Nat → Int32} {q cc len wt a m n : Nat} {bad : Int32} {sd sp opd oat w o t sp0 w0 o0 t0 : Nat → Int32} (h9z : jOk c q cc len wt a m n bad sd sp opd oat w o t sp0 w0 o0 t0) : frm q w0 w := h9z.2.2.2.2.2.1
theorem jOk.qf3 {c : Nat → Int32} {q cc len wt a m n : Nat} {bad : Int32} {sd sp opd oat w o t sp0 w0 o0 t0 : Nat → Int32} (h9z : jOk c q cc len wt a m n bad sd sp opd oat w o t sp0 w0 o0 t0) : frm q o0 o := h9z.2.2.2.2.2.2.1
theorem jOk.qf4 {c : Nat → Int32} {q cc len wt a m n : Nat} {bad : Int32} {sd sp opd oat w o t sp0 w0 o0 t0 : Nat → Int32} (h9z : jOk c q cc len wt a m n bad sd sp opd oat w o t sp0 w0 o0 t0) : frm q t0 t := h9z.2.2.2.2.2.2.2.1
theorem jOk.qok {c : Nat → Int32} {q cc len wt a m n : Nat} {bad : Int32} {sd sp opd oat w o t sp0 w0 o0 t0 : Nat → Int32} (h9z : jOk c q cc len wt a m n bad sd sp opd oat w o t sp0 w0 o0 t0) : bad = 0 → a ≤ len ∧ sdOk cc sd ∧ ∃ (st : List (Int32 × Nat)) (E : Nat → List Nat) (H : Nat → Nat), st.length = m ∧ pOk (opOk c) q st wt n opd oat sd w o t E H := h9z.2.2.2.2.2.2.2.2
theorem Q_compare {s : CS} (h : rCore s) {le tx : Nat → Int32} {q len : Nat} (hq : q ≤ 12) (hl : le q = nI len) (h6 : len ≤ 60) {a m n : Nat} {sd sp opd oat w o t sp0 w0 o0 t0 : Nat → Int32} (hJ : jOk (chr tx q len) q s.cc len 0 a m n 0 sd sp opd oat w o t sp0 w0 o0 t0) (deep aimed : Int32) :
    ∃ (a' m' n' : Nat) (bad' deep' aimed' : Int32) (sd' sp' w' o' t' : Nat → Int32), f_M_compare (nI s.fc) (nI q) (nI a) 0 (nI m) deep aimed le tx s.mow s.mpr s.mso s.mai sd sp w o t opd oat = some (nI a', bad', nI m', deep', aimed', sd', sp', w', o', t') ∧ a < a' ∧ jOk (chr tx q len) q s.cc len 1 a' m' n' bad' sd' sp' opd oat w' o' t' sp0 w0 o0 t0 := by
  obtain ⟨ha, hsd, st, E, H, hst, hP⟩ := hJ.qok rfl
  have hle := hJ.qle
  obtain ⟨r1, b1, am1, x1, x2, x3, x4⟩ := Q_operand h hq hl h6 hsd (a := a) (by omega) (tx := tx) aimed
  obtain ⟨r2, b2, am2, y1, y2, y3, y4⟩ := Q_operand h hq hl h6 hsd (a := b1 + 1) (by omega) (tx := tx) am1
  have fin : ∀ (ok : Nat → Prop) (y : Int32), (y = 0 ∨ y = 1) → ok a → ok (b1 + 1) → pOk ok q st 0 n opd oat sd w o t E H → (y = 0 → b2 ≤ len ∧ ∀ p, ok p → opOk (chr tx q len) p) → ∃ (a' m' n' : Nat) (bad' deep' aimed' : Int32) (sd' sp' w' o' t' : Nat → Int32), f_M_compare_J92 (nI q) opd oat (nI a) (nI (b1 + 1)) y (nI b2) 0 (nI m) deep am2 sd sp w o t = some (nI a', bad', nI m', deep', aimed', sd', sp', w', o', t') ∧ a < a' ∧ jOk (chr tx q len) q s.cc len 1 a' m' n' bad' sd' sp' opd oat w' o' t' sp0 w0 o0 t0 := fun ok y hy k1 k2 hP hy0 => by
    have key : ∀ fl : Nat, fl ≤ 1 → ∃ (a' m' n' : Nat) (bad' deep' aimed' : Int32) (sd' sp' w' o' t' : Nat → Int32), f_M_compare_J114 (nI q) opd oat (nI fl) (2 * nI (b1 + 1)) (nI a) 1 (nI b2) y (nI m) deep am2 sd sp w o t = some (nI a', bad', nI m', deep', aimed', sd', sp', w', o', t') ∧ a < a' ∧ jOk (chr tx q len) q s.cc len 1 a' m' n' bad' sd' sp' opd oat w' o' t' sp0 w0 o0 t0 := fun fl hfl => by
      unfold f_M_compare_J114 f_M_factorEnds
      have e2 : 2 * nI (b1 + 1) + nI fl = nI (2 * (b1 + 1) + fl) := by rw [show (2 : Int32) = nI 2 from rfl, pk_mul, nI_add]
      have hHk := hP.hk n (Nat.le_refl _)
      have hHn := hP.hn
      have hN := pOk_new (wt := 0) (wt' := 1) (st' := st) (E := E) (H := H) (sd' := sd) hP 1 (nI a) (nI (2 * (b1 + 1) + fl)) hP.sk (fun _ hk => hk) (by omega) (Or.inl ⟨pk_us, by rw [upE_s, upE_n (by omega), hP.en], by rw [upN_s, upN_n (by omega)]; omega, a, b1 + 1, fl, pk_us, pk_us, hfl, by omega, by omega, by omega, k1, k2⟩) (pend_new hP.pe) hP.sc
      obtain ⟨st', n', deep', sd', sp', w', o', t', E', H', g1, g2, g3, g4, g5, g6, g7, g8, g9, g10⟩ := Q_fe_loop (cc := s.cc) hq ok opd oat 1000 (n + 1) st deep sd (upd sp q (nI (n + 1))) (upd w (64 * q + n) 1) (upd o (64 * q + n) (nI a)) (upd t (64 * q + n) (nI (2 * (b1 + 1) + fl))) _ _ (by omega) pk_us (by omega) hsd hN
      rw [e2, step_eq hq hJ.qsp (by omega), ob_bs]
      dsimp only
      rw [← hst, g1, ob_bs]
      dsimp only
      refine ⟨b2, st'.length, n', y, deep', am2, sd', sp', w', o', t', rfl, by omega, ⟨g4, by omega, by omega, hy, frs_t hJ.qf1 (frs_t frs_u g5), frm_t hJ.qf2 (frm_t frm_u g6), frm_t hJ.qf3 (frm_t frm_u g7), frm_t hJ.qf4 (frm_t frm_u g8), fun hy9 => ?_⟩⟩
      obtain ⟨z1, z2⟩ := hy0 hy9
      exact ⟨z1, g9, st', E', H', rfl, pOk_ok z2 g10⟩
    unfold f_M_compare_J92
    rw [ob_nz_i hy]
    by_cases hd : deep = 0
    · rw [if_pos hd]; exact key 1 (by omega)
    · rw [if_neg hd]; exact key 0 (by omega)
  have bad : ∃ (a' m' n' : Nat) (bad' deep' aimed' : Int32) (sd' sp' w' o' t' : Nat → Int32), f_M_compare_J92 (nI q) opd oat (nI a) (nI (b1 + 1)) 1 (nI b2) 0 (nI m) deep am2 sd sp w o t = some (nI a', bad', nI m', deep', aimed', sd', sp', w', o', t') ∧ a < a' ∧ jOk (chr tx q len) q s.cc len 1 a' m' n' bad' sd' sp' opd oat w' o' t' sp0 w0 o0 t0 :=
    fin (fun _ => True) 1 (Or.inr rfl) trivial trivial (pOk_ok (fun _ _ => trivial) hP) (fun h => absurd h one_ne)
  have good : ¬ r1 = 0 → ¬ r2 = 0 → ∃ (a' m' n' : Nat) (bad' deep' aimed' : Int32) (sd' sp' w' o' t' : Nat → Int32), f_M_compare_J92 (nI q) opd oat (nI a) (nI (b1 + 1)) 0 (nI b2) 0 (nI m) deep am2 sd sp w o t = some (nI a', bad', nI m', deep', aimed', sd', sp', w', o', t') ∧ a < a' ∧ jOk (chr tx q len) q s.cc len 1 a' m' n' bad' sd' sp' opd oat w' o' t' sp0 w0 o0 t0 := fun h1 h2 =>
    fin (opOk (chr tx q len)) 0 (Or.inl rfl) (x4 h1) (y4 h2) hP (fun _ => ⟨by have := opOk_lt (y4 h2); omega, fun _ hp => hp⟩)
  unfold f_M_compare f_M_compare_J82 f_M_compare_J87 f_M_compare_J91
  rw [x1, ob_bs]
  dsimp only
  rw [charAt_eq hq hl h6 (by omega), ob_bs, nI_1, y1, ob_bs]
  dsimp only
  rw [if_pos rfl]
  by_cases h1 : r1 = 0
  · rw [if_pos h1]; exact bad
  · rw [if_neg h1]
    by_cases h2 : r1 = r2
    · rw [if_pos h2]
      have h2' : ¬ r2 = 0 := by rw [← h2]; exact h1
      by_cases h3 : r1 = 3
      · rw [if_pos h3]; exact bad
      · rw [if_neg h3]
        by_cases k1 : chr tx q len b1 = 61
        · rw [if_pos k1]; exact good h1 h2'
        · rw [if_neg k1]
          have j82 : ∃ (a' m' n' : Nat) (bad' deep' aimed' : Int32) (sd' sp' w' o' t' : Nat → Int32), (if r1 = 1 then f_M_compare_J92 (nI q) opd oat (nI a) (nI (b1 + 1)) 0 (nI b2) 0 (nI m) deep am2 sd sp w o t else f_M_compare_J92 (nI q) opd oat (nI a) (nI (b1 + 1)) 1 (nI b2) 0 (nI m) deep am2 sd sp w o t) = some (nI a', bad', nI m', deep', aimed', sd', sp', w', o', t') ∧ a < a' ∧ jOk (chr tx q len) q s.cc len 1 a' m' n' bad' sd' sp' opd oat w' o' t' sp0 w0 o0 t0 := by
            split
            · exact good h1 h2'
            · exact bad
          by_cases k2 : chr tx q len b1 = 60
          · rw [if_pos k2]; exact j82
          · rw [if_neg k2]
            by_cases k3 : chr tx q len b1 = 62
            · rw [if_pos k3]; exact j82
            · rw [if_neg k3]; exact bad
    · rw [if_neg h2]; exact bad
theorem expect_bad (q at_ le tx : _) {bad : Int32} (hb : ¬ bad = 0) (c : Int32) : f_M_expect q at_ bad le tx c = some (at_ + 1, 1) := by
  unfold f_M_expect f_M_expect_J20 f_M_expect_J25
  rw [if_neg hb, ob_nz_i (Or.inr rfl)]
theorem expect_ok {le tx : Nat → Int32} {q len : Nat} (hq : q ≤ 12) (hl : le q = nI len) (h6 : len ≤ 60) {a : Nat} (ha : a ≤ 100) (c : Int32) : f_M_expect (nI q) (nI a) 0 le tx c = some (nI (a + 1), if chr tx q len a = c then 0 else 1) := by
  unfold f_M_expect f_M_expect_J20 f_M_expect_J25
  rw [if_pos rfl, charAt_eq hq hl h6 (by omega), ob_bs, nI_1, ob_nz_i (Or.inr rfl), ob_nz_i (Or.inl rfl)]
  by_cases hc : chr tx q len a = c
  · rw [if_pos hc, if_pos hc]
  · rw [if_neg hc, if_neg hc]
theorem cs_u1 {sd : Nat → Int32} {am : Int32} (h0 : sd 1 = 0) (ha : ¬ am = 0) : cs sd ≤ 1 ∧ cs (upd sd 1 am) = cs sd + 1 := by
  unfold cs; rw [h0, pk_us, pk_un (by decide), if_neg ha, if_pos rfl]; split <;> omega
theorem cs_u2 {sd : Nat → Int32} {am : Int32} (h0 : sd 2 = 0) (ha : ¬ am = 0) : cs sd ≤ 1 ∧ cs (upd sd 2 am) = cs sd + 1 := by
  unfold cs; rw [h0, pk_us, pk_un (by decide), if_neg ha, if_pos rfl]; split <;> omega
theorem Q_loop {s : CS} (h : rCore s) {le tx : Nat → Int32} {q len : Nat} (hq : q ≤ 12) (hl : le q = nI len) (h6 : len ≤ 60) {a m n : Nat} {sd sp opd oat w o t sp0 w0 o0 t0 : Nat → Int32} (hJ : jOk (chr tx q len) q s.cc len 0 a m n 0 sd sp opd oat w o t sp0 w0 o0 t0) (deep aimed : Int32) :
    ∃ (a' m' n' : Nat) (bad' deep' aimed' : Int32) (sd' sp' opd' oat' w' o' t' : Nat → Int32), f_M_loop (nI s.fc) (nI q) (nI a) 0 (nI m) deep aimed le tx sd sp opd oat w o t s.mow s.mpr s.mso s.mai = some (nI a', bad', nI m', deep', aimed', sd', sp', opd', oat', w', o', t') ∧ a < a' ∧ jOk (chr tx q len) q s.cc len 0 a' m' n' bad' sd' sp' opd' oat' w' o' t' sp0 w0 o0 t0 := by
  obtain ⟨ha, hsd, st, E, H, hst, hP⟩ := hJ.qok rfl
  have hle := hJ.qle
  have h5 := rc_5 h
  have bad85 : ∀ (b : Nat) (x1 x2 am yb : Int32), a + 2 ≤ b → b ≤ 62 → ∃ (a' m' n' : Nat) (bad' deep' aimed' : Int32) (sd' sp' opd' oat' w' o' t' : Nat → Int32), f_M_loop_J85 (nI q) le tx x1 x2 1 (nI b) yb (nI m) deep am sd sp opd oat w o t = some (nI a', bad', nI m', deep', aimed', sd', sp', opd', oat', w', o', t') ∧ a < a' ∧ jOk (chr tx q len) q s.cc len 0 a' m' n' bad' sd' sp' opd' oat' w' o' t' sp0 w0 o0 t0 := fun b x1 x2 am yb hb1 hb2 => by
    unfold f_M_loop_J85
    rw [ob_nz_i (Or.inr rfl), expect_bad _ _ _ _ one_ne, ob_bs, if_neg one_ne, nI_1]
    exact ⟨b + 1, m, n, 1, deep, am, sd, sp, opd, oat, w, o, t, rfl, by omega, ⟨hJ.qsp, by omega, by omega, Or.inr rfl, hJ.qf1, hJ.qf2, hJ.qf3, hJ.qf4, fun hh => absurd hh one_ne⟩⟩
  have bad56 : ∀ (x1 : Int32), ∃ (a' m' n' : Nat) (bad' deep' aimed' : Int32) (sd' sp' opd' oat' w' o' t' : Nat → Int32), f_M_loop_J56 (nI s.fc) (nI q) le tx s.mow s.mpr s.mso s.mai x1 1 (nI (a + 2)) 0 (nI m) deep aimed sd sp opd oat w o t = some (nI a', bad', nI m', deep', aimed', sd', sp', opd', oat', w', o', t') ∧ a < a' ∧ jOk (chr tx q len) q s.cc len 0 a' m' n' bad' sd' sp' opd' oat' w' o' t' sp0 w0 o0 t0 := fun x1 => by
    unfold f_M_loop_J56 f_M_loop_J80
    rw [ob_nz_i (Or.inr rfl), if_neg one_ne]
    exact bad85 (a + 2) _ _ _ _ (by omega) (by omega)
  have e2 : nI a + 2 = nI (a + 2) := by rw [show (2 : Int32) = nI 2 from rfl, nI_add]
  unfold f_M_loop f_M_loop_J51
  rw [nI_1, charAt_eq hq hl h6 (by omega), ob_bs, if_pos rfl, e2]
  by_cases h1 : chr tx q len (a + 1) - 120 < 1
  · rw [if_pos h1]; exact bad56 _
  · rw [if_neg h1]
    by_cases h2 : 2 < chr tx q len (a + 1) - 120
    · rw [if_pos h2]; exact bad56 _
    · rw [if_neg h2]
      rw [Int32.lt_iff_toInt_lt, i1] at h1
      rw [Int32.lt_iff_toInt_lt, show (2 : Int32).toInt = 2 by decide] at h2
      obtain ⟨v, hv⟩ : ∃ v : Nat, (chr tx q len (a + 1) - 120).toInt = (v : Int) := ⟨(chr tx q len (a + 1) - 120).toInt.toNat, by omega⟩
      have ev := nI_z hv (by omega)
      rw [ob_iv_i (by omega), ev, nI_clamp (by omega)]
      by_cases h0 : sd v = 0
      · rw [if_pos h0]
        unfold f_M_loop_J56 f_M_loop_J80
        obtain ⟨r, b, am, g1, g2, g3, g4, g5, g6⟩ := Q_path h hq hl h6 hsd (a := a + 2) (by omega) (tx := tx) aimed
        rw [ob_nz_i (Or.inl rfl), if_pos rfl, g1, ob_bs]
        simp only
        by_cases h3 : r = 3
        · rw [if_pos h3]
          unfold f_M_loop_J85
          rw [ob_nz_i (Or.inl rfl), expect_ok hq hl h6 (by omega), ob_bs]
          by_cases hc : chr tx q len b = 58
          · have hlt : b < len := chr_lt (tx := tx) (q := q) (fun e => by rw [e] at hc; revert hc; decide)
            obtain ⟨bad', deep', o1, o2, o3, -⟩ := Q_open (m := m) (by omega) 0 deep opd oat 69 (nI n)
            simp only [if_pos hc]
            rw [if_pos trivial, ob_iv_i (by rw [nI_toInt (by omega)]; omega), ob_iv_i (by rw [nI_toInt (by omega)]; omega), nI_clamp (by omega), nI_clamp (by omega), hJ.qsp, o1, ob_bs, step_eq hq hJ.qsp (by omega), ob_bs]
            refine ⟨b + 1, m + 1, n + 1, bad', deep', am, upd sd v am, _, _, _, _, _, _, rfl, by omega, ⟨pk_us, by omega, by omega, o2, frs_t hJ.qf1 frs_u, frm_t hJ.qf2 frm_u, frm_t hJ.qf3 frm_u, frm_t hJ.qf4 frm_u, fun _ => ?_⟩⟩
            obtain ⟨c, ec, c1, c2⟩ := g6 h3
            refine ⟨by omega, by rw [ec]; exact sdOk_u hsd c2, (69, n) :: st, upE E (n + 1) (es ((69, n) :: st)), upN H (n + 1) (ops ((69, n) :: st) + 0), by rw [List.length_cons, hst], ?_⟩
            have hes : es ((69, n) :: st) = n :: es st := es_c rfl
            have hop : ops ((69, n) :: st) = ops st := ops_n (by decide)
            have hHn := hP.hn
            have hHk := hP.hk n (Nat.le_refl _)
            have hcs : cs sd ≤ 1 ∧ cs (upd sd v am) = cs sd + 1 := by
              have hne : ¬ nI c = 0 := nI_ne0 (by omega) (by omega)
              rw [ec]
              rcases (show v = 1 ∨ v = 2 by omega) with rfl | rfl
              · exact cs_u1 h0 hne
              · exact cs_u2 h0 hne
            have hsc := hP.sc
            refine pOk_new (wt := 0) (wt' := 0) (E := E) (H := H) hP 5 (nI (a + 2)) (nI v) ⟨by rw [hst]; exact pk_us, fun _ => by rw [hst]; exact pk_us, stk_upd st (by omega) hP.sk⟩ (fun k hk => by rw [hes]; exact List.mem_cons_of_mem _ hk) (by omega) ?_ ⟨fun _ => ⟨by show n < n + 1; omega, by show upd w (64 * q + n) 5 (64 * q + n) = 5; exact pk_us, ?_, ?_, ?_, ?_, es_lt st hP.pe, v, by omega, by omega, pk_us⟩, pend_new hP.pe⟩ (by rw [hes]; simp only [List.length_cons]; omega)
            · refine Or.inr (Or.inr (Or.inr (Or.inl ⟨pk_us, ?_, ?_, ?_, a + 2, v, pk_us, by omega, g5 (by rw [h3]; decide), by omega, by omega, Or.inl ⟨by rw [hes]; exact List.mem_cons_self, pk_us⟩⟩)))
              · rw [upE_s, upE_n (by omega), hes, hP.en]
              · rw [upN_s, upN_n (by omega), hop]; omega
              · rw [upE_n (by omega), hP.en]; omega
            · show upE E (n + 1) _ n = es st
              rw [upE_n (by omega), hP.en]
            · show upN H (n + 1) _ n = ops st
              rw [upN_n (by omega)]; omega
            · show upE E (n + 1) (es ((69, n) :: st)) (n + 1) = n :: es st
              rw [upE_s, hes]
            · show upN H (n + 1) (ops ((69, n) :: st) + 0) (n + 1) = ops st
              rw [upN_s, hop]; omega
          · simp only [if_neg hc]
            rw [if_neg one_ne]
            exact ⟨b + 1, m, n, 1, deep, am, sd, sp, opd, oat, w, o, t, rfl, by omega, ⟨hJ.qsp, by omega, by omega, Or.inr rfl, hJ.qf1, hJ.qf2, hJ.qf3, hJ.qf4, fun hh => absurd hh one_ne⟩⟩
        · rw [if_neg h3]; exact bad85 b _ _ _ _ (by omega) (by omega)
      · rw [if_neg h0]; exact bad56 _
theorem Q_close {q : Nat} (hq : q ≤ 12) (opd : Nat → Int32) (p : Int32) {m n : Nat} {sp : Nat → Int32} (w o t : Nat → Int32) (hmn : m + n ≤ 63) (hsp : sp q = nI n) :
    ∃ (m' n' : Nat) (sp' w' o' t' : Nat → Int32), f_M_close (nI q) (nI m) opd sp w o t p = some (nI m', sp', w', o', t') ∧ m' + n' = m + n ∧ m' ≤ m ∧ sp' q = nI n' ∧ frs q sp sp' ∧ frm q w w' ∧ frm q o o' ∧ frm q t t' ∧
      ∀ (ok : Nat → Prop) (st : List (Int32 × Nat)) (oat sd : Nat → Int32) (E : Nat → List Nat) (H : Nat → Nat), st.length = m → pOk ok q st 1 n opd oat sd w o t E H → ∃ (st' : List (Int32 × Nat)) (E' : Nat → List Nat) (H' : Nat → Nat), st'.length = m' ∧ pOk ok q st' 1 n' opd oat sd w' o' t' E' H' :=
  Q_close_loop hq opd p 1000 m n sp w o t hmn hsp (by omega)
theorem Q_sign {q cc len : Nat} (hq : q ≤ 12) {c9 : Nat → Int32} {a m n : Nat} {sd sp opd oat w o t sp0 w0 o0 t0 : Nat → Int32} (ha : a < len) (h6 : len ≤ 60) (hJ : jOk c9 q cc len 1 a m n 0 sd sp opd oat w o t sp0 w0 o0 t0) (deep : Int32) (split : Nat → Int32) (c : Int32) :
    ∃ (m' n' : Nat) (bad' deep' : Int32) (sd' sp' opd' oat' w' o' t' split' : Nat → Int32), f_M_sign (nI q) 0 (nI m) deep opd sp w o t oat sd split c = some (bad', nI m', deep', opd', sp', w', o', t', oat', sd', split') ∧ jOk c9 q cc len (if c = 41 then 1 else 0) (a + 1) m' n' bad' sd' sp' opd' oat' w' o' t' sp0 w0 o0 t0 := by
  obtain ⟨-, hsd, st, E, H, hst, hP⟩ := hJ.qok rfl
  have hle := hJ.qle
  have j72 : ∀ (y : Int32) (m1 n1 : Nat) (sp1 w1 o1 t1 split1 : Nat → Int32), (y = 0 ∨ y = 1) → (y = 0 → c = 38 ∨ c = 124 ∨ c = 41) → m1 + n1 ≤ a → sp1 q = nI n1 → frs q sp0 sp1 → frm q w0 w1 → frm q o0 o1 → frm q t0 t1 → (∃ (st1 : List (Int32 × Nat)) (E1 : Nat → List Nat) (H1 : Nat → Nat), st1.length = m1 ∧ pOk (opOk c9) q st1 1 n1 opd oat sd w1 o1 t1 E1 H1) →
      ∃ (m' n' : Nat) (bad' deep' : Int32) (sd' sp' opd' oat' w' o' t' split' : Nat → Int32), f_M_sign_J72 c (nI q) y (nI m1) deep opd sp1 w1 o1 t1 oat sd split1 = some (bad', nI m', deep', opd', sp', w', o', t', oat', sd', split') ∧ jOk c9 q cc len (if c = 41 then 1 else 0) (a + 1) m' n' bad' sd' sp' opd' oat' w' o' t' sp0 w0 o0 t0 := fun y m1 n1 sp1 w1 o1 t1 split1 hy hyc hle1 hsp1 k1 k2 k3 k4 hst1 => by
    obtain ⟨st1, E1, H1, hl1, hP1⟩ := hst1
    unfold f_M_sign_J72 f_M_sign_J102
    by_cases hc : c = 41
    · rw [if_pos hc, if_pos hc]
      have bad : ∃ (m' n' : Nat) (bad' deep' : Int32) (sd' sp' opd' oat' w' o' t' split' : Nat → Int32), f_M_sign_J107 (nI q) 1 y (nI m1) deep opd sp1 w1 o1 t1 oat sd split1 = some (bad', nI m', deep', opd', sp', w', o', t', oat', sd', split') ∧ jOk c9 q cc len 1 (a + 1) m' n' bad' sd' sp' opd' oat' w' o' t' sp0 w0 o0 t0 := by
        unfold f_M_sign_J107
        rw [ob_nz_i (Or.inr rfl), if_neg one_ne]
        exact ⟨m1, n1, 1, deep, sd, sp1, opd, oat, w1, o1, t1, split1, rfl, ⟨hsp1, by omega, by omega, Or.inr rfl, k1, k2, k3, k4, fun hh => absurd hh one_ne⟩⟩
      by_cases hy0 : y = 0
      · rw [if_pos hy0, top_eq (by omega), ob_bs]
        by_cases ht : 0 < m1 ∧ opd (m1 - 1) = 40
        · rw [decide_eq_true ht, if_neg b2i_t]
          unfold f_M_sign_J107 f_M_factorEnds
          rw [ob_nz_i (Or.inl rfl), if_pos rfl]
          cases st1 with
          | nil => simp only [List.length_nil] at hl1; omega
          | cons z r =>
            obtain ⟨zc, zk⟩ := z
            simp only [List.length_cons] at hl1
            obtain ⟨s1, s2, s3⟩ := hP1.sk
            have hz : zc = 40 := by
              rw [← ht.2, ← hl1]; exact s1.symm
            have hes : es ((zc, zk) :: r) = es r := es_n (by rw [hz]; decide)
            have hop : ops ((zc, zk) :: r) = ops r := ops_n (by rw [hz]; decide)
            have hN : pOk (opOk c9) q r 1 n1 opd oat sd w1 o1 t1 E1 H1 := ⟨s3, by have := hP1.co; rw [hes] at this; exact this, by rw [← hes]; exact hP1.en, by rw [← hop]; exact hP1.hn, hP1.hk, hP1.pe.2, hP1.e0, hP1.h0, by rw [← hes]; exact hP1.sc⟩
            obtain ⟨st', n', deep', sd', sp', w', o', t', E', H', g1, g2, g3, g4, g5, g6, g7, g8, g9, g10⟩ := Q_fe_loop (cc := cc) hq (opOk c9) opd oat 1000 n1 r (deep - 1) sd sp1 w1 o1 t1 _ _ (by omega) hsp1 (by omega) hsd hN
            rw [nI_prd ht.1, show m1 - 1 = r.length by omega, g1, ob_bs]
            exact ⟨st'.length, n', 0, deep', sd', sp', opd, oat, w', o', t', split1, rfl, ⟨g4, by omega, by omega, Or.inl rfl, frs_t k1 g5, frm_t k2 g6, frm_t k3 g7, frm_t k4 g8, fun _ => ⟨by omega, g9, st', E', H', rfl, g10⟩⟩⟩
        · rw [decide_eq_false ht, if_pos b2i_f]; exact bad
      · rw [if_neg hy0]; exact bad
    · rw [if_neg hc, if_neg hc]
      obtain ⟨bad', deep', o1', o2', o3', -⟩ := Q_open (m := m1) (by omega) y deep opd oat c 0
      rw [o1', ob_bs]
      refine ⟨m1 + 1, n1, bad', deep', sd, sp1, _, _, w1, o1, t1, split1, rfl, ⟨hsp1, by omega, by omega, o2', k1, k2, k3, k4, fun hb => ⟨by omega, hsd, (c, 0) :: st1, E1, H1, by rw [List.length_cons, hl1], ?_⟩⟩⟩
      have hcc : c = 38 ∨ c = 124 := by rcases hyc (o3' hb) with h | h | h; exact Or.inl h; exact Or.inr h; exact absurd h hc
      exact pOk_push hP1 hl1 (by rcases hcc with h | h <;> (rw [h]; decide)) (by rw [if_pos hcc])
  have j31 : ∀ y : Int32, (y = 0 ∨ y = 1) → (y = 0 → c = 38 ∨ c = 124 ∨ c = 41) → ∃ (m' n' : Nat) (bad' deep' : Int32) (sd' sp' opd' oat' w' o' t' split' : Nat → Int32), f_M_sign_J31 c (nI q) y 0 (nI m) deep opd sp w o t oat sd split = some (bad', nI m', deep', opd', sp', w', o', t', oat', sd', split') ∧ jOk c9 q cc len (if c = 41 then 1 else 0) (a + 1) m' n' bad' sd' sp' opd' oat' w' o' t' sp0 w0 o0 t0 := fun y hy hyc => by
    have j46 : ∀ x : Int32, ∃ (m' n' : Nat) (bad' deep' : Int32) (sd' sp' opd' oat' w' o' t' split' : Nat → Int32), f_M_sign_J46 (nI q) c x y (nI m) deep opd sp w o t oat sd split = some (bad', nI m', deep', opd', sp', w', o', t', oat', sd', split') ∧ jOk c9 q cc len (if c = 41 then 1 else 0) (a + 1) m' n' bad' sd' sp' opd' oat' w' o' t' sp0 w0 o0 t0 := fun x => by
      obtain ⟨m1, n1, sp1, w1, o1, t1, g1, g2, g3, g4, g5, g6, g7, g8, g9⟩ := Q_close (m := m) (n := n) hq opd x w o t (by omega) hJ.qsp
      unfold f_M_sign_J46
      rw [g1, ob_bs]
      have go := fun sp9 => j72 y m1 n1 sp1 w1 o1 t1 sp9 hy hyc (by omega) g4 (frs_t hJ.qf1 g5) (frm_t hJ.qf2 g6) (frm_t hJ.qf3 g7) (frm_t hJ.qf4 g8) (g9 _ st oat sd E H hst hP)
      split
      · split
        · rw [ob_iv_i (by rw [nI_toInt (by omega)]; omega)]; exact go _
        · exact go _
      · exact go _
    unfold f_M_sign_J31
    rw [ob_nz_i hy]
    split
    · exact j46 0
    · exact j46 1
  unfold f_M_sign f_M_sign_J30 f_M_sign_J26
  rw [if_pos rfl]
  by_cases c1 : c = 38
  · rw [if_pos c1]; exact j31 0 (Or.inl rfl) (fun _ => Or.inl c1)
  · rw [if_neg c1]
    by_cases c2 : c = 124
    · rw [if_pos c2]; exact j31 0 (Or.inl rfl) (fun _ => Or.inr (Or.inl c2))
    · rw [if_neg c2]
      by_cases c3 : c = 41
      · rw [if_pos c3]; exact j31 0 (Or.inl rfl) (fun _ => Or.inr (Or.inr c3))
      · rw [if_neg c3]; exact j31 1 (Or.inr rfl) (fun h => absurd h one_ne)
def cdOk (c : Nat → Int32) (w o t : Nat → Int32) (n : Nat) : Prop := n ≤ 63 ∧ ∃ (E : Nat → List Nat) (H : Nat → Nat), E 0 = [] ∧ H 0 = 0 ∧ (∀ k, k ≤ n → H k ≤ k) ∧ ∀ k, k < n → sOk (opOk c) w o t E H [] n k

theorem Q_145 {q cc len : Nat} (hq : q ≤ 12) {c9 : Nat → Int32} {a m n : Nat} {bad : Int32} {sd sp opd oat w o t sp0 w0 o0 t0 : Nat → Int32} (hJ : jOk c9 q cc len 1 a m n bad sd sp opd oat w o t sp0 w0 o0 t0) (at_ deep aimed : Int32) (split : Nat → Int32) :
    ∃ (at' bad' ops' deep' aimed' : Int32) (opd' sp' w' o' t' oat' sd' split' : Nat → Int32), f_M_condition_J145 (nI q) at_ bad (nI m) deep aimed opd sp w o t oat sd split = some (at', bad', ops', deep', aimed', opd', sp', w', o', t', oat', sd', split') ∧ (bad' = 0 ∨ bad' = 1) ∧ frs q sp0 sp' ∧ frm q w0 w' ∧ frm q o0 o' ∧ frm q t0 t' ∧ (bad' = 0 → ∃ n' : Nat, sp' q = nI n' ∧ cdOk c9 (fun j => w' (64 * q + j)) (fun j => o' (64 * q + j)) (fun j => t' (64 * q + j)) n') := by
  have hle := hJ.qle
  have h63 := hJ.q63
  obtain ⟨m1, n1, sp1, w1, o1, t1, g1, g2, g3, g4, g5, g6, g7, g8, g9⟩ := Q_close (m := m) (n := n) hq opd 1 w o t (by omega) hJ.qsp
  unfold f_M_condition_J145 f_M_condition_J165 f_M_condition_J170
  rw [g1, ob_bs, ob_nz_i (Or.inl rfl), ob_nz_i (Or.inr rfl)]
  have bad1 : ∃ (at' bad' ops' deep' aimed' : Int32) (opd' sp' w' o' t' oat' sd' split' : Nat → Int32), some (at_, (1 : Int32), nI m1, deep, aimed, opd, sp1, w1, o1, t1, oat, sd, split) = some (at', bad', ops', deep', aimed', opd', sp', w', o', t', oat', sd', split') ∧ (bad' = 0 ∨ bad' = 1) ∧ frs q sp0 sp' ∧ frm q w0 w' ∧ frm q o0 o' ∧ frm q t0 t' ∧ (bad' = 0 → ∃ n' : Nat, sp' q = nI n' ∧ cdOk c9 (fun j => w' (64 * q + j)) (fun j => o' (64 * q + j)) (fun j => t' (64 * q + j)) n') := ⟨_, _, _, _, _, _, _, _, _, _, _, _, _, rfl, Or.inr rfl, frs_t hJ.qf1 g5, frm_t hJ.qf2 g6, frm_t hJ.qf3 g7, frm_t hJ.qf4 g8, fun hh => absurd hh one_ne⟩
  by_cases hb : bad = 0
  · rw [if_pos hb]
    by_cases hm : nI m1 ≤ 0
    · rw [if_pos hm]
      have hm0 : m1 = 0 := by
        rw [Int32.le_iff_toInt_le, nI_toInt (by omega), i0] at hm; omega
      obtain ⟨-, -, st, E, H, hst, hP⟩ := hJ.qok hb
      obtain ⟨st', E', H', k1, k2⟩ := g9 _ st oat sd E H hst hP
      have hnil : st' = [] := List.eq_nil_of_length_eq_zero (by omega)
      subst hnil
      exact ⟨_, _, _, _, _, _, _, _, _, _, _, _, _, rfl, Or.inl rfl, frs_t hJ.qf1 g5, frm_t hJ.qf2 g6, frm_t hJ.qf3 g7, frm_t hJ.qf4 g8, fun _ => ⟨n1, g4, by omega, E', H', k2.e0, k2.h0, k2.hk, k2.co⟩⟩
    · rw [if_neg hm]; exact bad1
  · rw [if_neg hb]; exact bad1
theorem jOk_bad {c9 : Nat → Int32} {q cc len wt wt' a m n : Nat} {bad : Int32} {sd sp opd oat w o t sp0 w0 o0 t0 : Nat → Int32} (hb : ¬ bad = 0) (h : jOk c9 q cc len wt a m n bad sd sp opd oat w o t sp0 w0 o0 t0) : jOk c9 q cc len wt' a m n bad sd sp opd oat w o t sp0 w0 o0 t0 :=
  ⟨h.qsp, h.qle, h.q63, h.qb, h.qf1, h.qf2, h.qf3, h.qf4, fun hh => absurd hh hb⟩
theorem Q_cond_loop {s : CS} (h : rCore s) {le tx : Nat → Int32} {q len : Nat} (hq : q ≤ 12) (hl : le q = nI len) (h6 : len ≤ 60) (sp0 w0 o0 t0 : Nat → Int32) : ∀ (f k wt a m n : Nat) (bad deep aimed : Int32) (sd sp opd oat w o t split : Nat → Int32), (wt = 0 ∨ wt = 1) → k ≤ a → 130 - k < f → jOk (chr tx q len) q s.cc len wt a m n bad sd sp opd oat w o t sp0 w0 o0 t0 →
    ∃ (at' bad' ops' deep' aimed' : Int32) (opd' sp' w' o' t' oat' sd' split' : Nat → Int32), f_M_condition_L4 (nI q) le tx (nI s.fc) s.mow s.mpr s.mso s.mai f (nI (1 - wt)) (nI k) (nI a) bad (nI m) deep aimed opd sp w o t oat sd split = some (at', bad', ops', deep', aimed', opd', sp', w', o', t', oat', sd', split') ∧ (bad' = 0 ∨ bad' = 1) ∧ frs q sp0 sp' ∧ frm q w0 w' ∧ frm q o0 o' ∧ frm q t0 t' ∧ (bad' = 0 → ∃ n' : Nat, sp' q = nI n' ∧ cdOk (chr tx q len) (fun j => w' (64 * q + j)) (fun j => o' (64 * q + j)) (fun j => t' (64 * q + j)) n') := by
  intro f
  induction f with
  | zero => intro k wt a m n bad deep aimed sd sp opd oat w o t split _ _ h9; omega
  | succ f ih =>
    intro k wt a m n bad deep aimed sd sp opd oat w o t split hwt hka hf hJ
    have h63 := hJ.q63
    show ∃ (at' bad' ops' deep' aimed' : Int32) (opd' sp' w' o' t' oat' sd' split' : Nat → Int32), f_M_condition_B4 (nI q) le tx (nI s.fc) s.mow s.mpr s.mso s.mai (f_M_condition_L4 (nI q) le tx (nI s.fc) s.mow s.mpr s.mso s.mai f) (nI (1 - wt)) (nI k) (nI a) bad (nI m) deep aimed opd sp w o t oat sd split = _ ∧ _
    unfold f_M_condition_B4
    rw [if_neg (show ¬ (130 : Int32) ≤ nI k from nI_ge (a := k) (b := 130) (by omega) (by omega))]
    by_cases hb : bad = 0
    · subst hb
      obtain ⟨ha, -⟩ := hJ.qok rfl
      rw [if_pos rfl]
      unfold f_M_condition_J38 f_M_condition_J82 f_M_condition_J63 f_M_condition_J99 f_M_condition_J133
      rw [charAt_eq hq hl h6 (by omega), ob_bs, nI_1]
      rcases hwt with rfl | rfl
      ·
        have hne : ¬ nI (1 - 0) = 0 := by decide
        simp only [if_neg hne]
        have hopen : ∀ c : Int32, (c = 33 ∨ c = 40) → chr tx q len a = c → ∃ (at' bad' ops' deep' aimed' : Int32) (opd' sp' w' o' t' oat' sd' split' : Nat → Int32), ((f_M_open 0 (nI m) deep opd oat (chr tx q len a) 0).bind fun o66 => f_M_condition_L4 (nI q) le tx (nI s.fc) s.mow s.mpr s.mso s.mai f (nI (1 - 0)) (nI (k + 1)) (nI a + 1) o66.1 o66.2.1 o66.2.2.1 aimed o66.2.2.2.1 sp w o t o66.2.2.2.2 sd split) = some (at', bad', ops', deep', aimed', opd', sp', w', o', t', oat', sd', split') ∧ (bad' = 0 ∨ bad' = 1) ∧ frs q sp0 sp' ∧ frm q w0 w' ∧ frm q o0 o' ∧ frm q t0 t' ∧ (bad' = 0 → ∃ n' : Nat, sp' q = nI n' ∧ cdOk (chr tx q len) (fun j => w' (64 * q + j)) (fun j => o' (64 * q + j)) (fun j => t' (64 * q + j)) n') := fun c hc ec => by
          have hlt : a < len := chr_lt (tx := tx) (q := q) (fun e => by rw [e] at ec; rcases hc with h | h <;> (rw [h] at ec; revert ec; decide))
          have hle := hJ.qle
          obtain ⟨bad', deep', o1, o2, o3, -⟩ := Q_open (m := m) (by omega) 0 deep opd oat (chr tx q len a) 0
          rw [o1, ob_bs, nI_1]
          refine ih (k + 1) 0 (a + 1) (m + 1) n bad' deep' aimed sd sp _ _ w o t split (Or.inl rfl) (by omega) (by omega) ⟨hJ.qsp, by omega, by omega, o2, hJ.qf1, hJ.qf2, hJ.qf3, hJ.qf4, fun _ => ?_⟩
          obtain ⟨-, hsd, st, E, H, hst, hP⟩ := hJ.qok rfl
          refine ⟨by omega, hsd, (chr tx q len a, 0) :: st, E, H, by rw [List.length_cons, hst], pOk_push hP hst ?_ ?_⟩
          · rw [ec]; rcases hc with h | h <;> (rw [h]; decide)
          · rw [ec]; rcases hc with h | h <;> (rw [h]; decide)
        by_cases c1 : chr tx q len a = 33
        · rw [if_pos c1]; exact hopen 33 (Or.inl rfl) c1
        · rw [if_neg c1]
          by_cases c2 : chr tx q len a = 40
          · rw [if_pos c2]; exact hopen 40 (Or.inr rfl) c2
          · rw [if_neg c2]
            by_cases c3 : chr tx q len a = 69
            · rw [if_pos c3]
              obtain ⟨a', m', n', bad', deep', aimed', sd', sp', opd', oat', w', o', t', g1, g2, g3⟩ := Q_loop h hq hl h6 hJ deep aimed
              rw [g1, ob_bs]
              exact ih (k + 1) 0 a' m' n' bad' deep' aimed' sd' sp' opd' oat' w' o' t' split (Or.inl rfl) (by omega) (by omega) g3
            · rw [if_neg c3]
              obtain ⟨a', m', n', bad', deep', aimed', sd', sp', w', o', t', g1, g2, g3⟩ := Q_compare h hq hl h6 hJ deep aimed
              rw [g1, ob_bs]
              exact ih (k + 1) 1 a' m' n' bad' deep' aimed' sd' sp' opd oat w' o' t' split (Or.inr rfl) (by omega) (by omega) g3
      ·
        have he : nI (1 - 1) = 0 := rfl
        simp only [if_pos he]
        rw [ob_iv_i (by rw [nI_toInt (by omega)]; omega), nI_clamp (by omega), hl]
        by_cases hal : len ≤ a
        · rw [if_pos (nI_le hal (by omega))]
          exact Q_145 hq hJ _ _ _ _
        · rw [if_neg (nI_ge (by omega) (by omega))]
          obtain ⟨m', n', bad', deep', sd', sp', opd', oat', w', o', t', split', g1, g2⟩ := Q_sign hq (by omega) h6 hJ deep split (chr tx q len a)
          rw [g1, ob_bs]
          by_cases c1 : chr tx q len a = 41
          · rw [if_pos c1, nI_1]
            rw [if_pos c1] at g2
            exact ih (k + 1) 1 (a + 1) m' n' bad' deep' aimed sd' sp' opd' oat' w' o' t' split' (Or.inr rfl) (by omega) (by omega) g2
          · rw [if_neg c1, nI_1]
            rw [if_neg c1] at g2
            exact ih (k + 1) 0 (a + 1) m' n' bad' deep' aimed sd' sp' opd' oat' w' o' t' split' (Or.inl rfl) (by omega) (by omega) g2
    · rw [if_neg hb]
      exact Q_145 hq (jOk_bad hb hJ) _ _ _ _

def qmOk (cc : Nat) (le tx cq sp w o t : Nat → Int32) (q : Nat) : Prop := ∃ len n c : Nat, le q = nI len ∧ len ≤ 60 ∧ sp q = nI n ∧ cdOk (chr tx q len) (fun j => w (64 * q + j)) (fun j => o (64 * q + j)) (fun j => t (64 * q + j)) n ∧ cq q = nI c ∧ 1 ≤ c ∧ c ≤ cc ∧ (chr tx q len 0 = 43 → opOk (chr tx q len) 1)
theorem cdOk_cong {c w o t w' o' t' : Nat → Int32} {n : Nat} (hw : ∀ j, j < 64 → w' j = w j) (ho : ∀ j, j < 64 → o' j = o j) (ht : ∀ j, j < 64 → t' j = t j) (h : cdOk c w o t n) : cdOk c w' o' t' n := by
  obtain ⟨h1, E, H, h2, h3, h4, h5⟩ := h
  exact ⟨h1, E, H, h2, h3, h4, fun k hk => sOk_mono (n := n) (fun _ hp => hp) (fun _ _ => rfl) (fun _ _ => rfl) (hw k (by omega)) (ho k (by omega)) (ht k (by omega)) id (Nat.le_refl _) hk (h5 k hk)⟩
theorem chr_cong {tx tx' : Nat → Int32} {q len : Nat} (h6 : len ≤ 60) (h : ∀ j, j < 60 → tx' (64 * q + j) = tx (64 * q + j)) : chr tx' q len = chr tx q len := by
  funext p; unfold chr
  by_cases hp : len ≤ p
  · rw [if_pos hp, if_pos hp]
  · rw [if_neg hp, if_neg hp]; exact h p (by omega)
theorem qmOk_cong {cc cc' k : Nat} (hcc : cc ≤ cc') {le tx cq sp w o t le' tx' cq' sp' w' o' t' : Nat → Int32} (h1 : frs k le le') (h2 : frm k tx tx') (h3 : frs k cq cq') (h4 : frs k sp sp') (h5 : frm k w w') (h6 : frm k o o') (h7 : frm k t t') {q : Nat} (hq : q < k) (h : qmOk cc le tx cq sp w o t q) : qmOk cc' le' tx' cq' sp' w' o' t' q := by
  obtain ⟨len, n, c, a1, a2, a3, a4, a5, a6, a7, a8⟩ := h
  have e : chr tx' q len = chr tx q len := chr_cong a2 (fun j hj => h2 _ (by omega))
  refine ⟨len, n, c, by rw [h1 q hq]; exact a1, a2, by rw [h4 q hq]; exact a3, ?_, by rw [h3 q hq]; exact a5, a6, by omega, by rw [e]; exact a8⟩
  rw [e]
  exact cdOk_cong (fun j hj => h5 _ (by omega)) (fun j hj => h6 _ (by omega)) (fun j hj => h7 _ (by omega)) a4
def prOk (cc k : Nat) (R : Option (Int32 × Int32 × Int32 × Int32 × Int32 × Int32 × Int32 × Int32 × (Nat → Int32) × (Nat → Int32) × (Nat → Int32) × (Nat → Int32) × (Nat → Int32) × (Nat → Int32) × (Nat → Int32) × (Nat → Int32) × (Nat → Int32) × (Nat → Int32) × (Nat → Int32))) : Prop := ∃ (r : Int32) (k' : Nat) (nw at_ bad ops_ deep aimed : Int32) (le sp split tx sd cq opd w o t oat : Nat → Int32), R = some (r, nI k', nw, at_, bad, ops_, deep, aimed, le, sp, split, tx, sd, cq, opd, w, o, t, oat) ∧ k' ≤ 12 ∧ ∀ q, q < k' → qmOk cc le tx cq sp w o t q
theorem Q_374 {cc k c : Nat} (hk : k ≤ 12) (at_ bad ops_ deep aimed : Int32) {le sp split tx sd cq opd w o t oat : Nat → Int32} (hq : ∀ q, q < k → qmOk cc le tx cq sp w o t q) (hn : bad = 0 → qmOk cc le tx (upd cq k (nI c)) sp w o t k) : prOk cc k (f_M_prepare_J374 (nI c) (nI k) (nI k) at_ bad ops_ deep aimed le sp split tx sd cq opd w o t oat) := by
  unfold f_M_prepare_J374
  by_cases hb : bad = 0
  · rw [if_pos hb]
    by_cases h12 : k = 12
    · rw [if_pos (show nI k = 12 by rw [h12]; rfl)]
      exact ⟨_, k, _, _, _, _, _, _, _, _, _, _, _, _, _, _, _, _, _, rfl, hk, hq⟩
    · have hne : ¬ nI k = 12 := fun h => h12 ((nI_eq (by omega) (by decide)).mp h)
      rw [if_neg hne, ob_iv_i (by rw [nI_toInt (by omega)]; omega), nI_clamp (by omega), nI_1]
      refine ⟨_, k + 1, _, _, _, _, _, _, _, _, _, _, _, _, _, _, _, _, _, rfl, by omega, fun q h => ?_⟩
      by_cases e : q = k
      · subst e; exact hn hb
      · exact qmOk_cong (k := k) (Nat.le_refl _) (frs_r _ _) (frm_r _ _) frs_u (frs_r _ _) (frm_r _ _) (frm_r _ _) (frm_r _ _) (by omega) (hq q (by omega))
  · rw [if_neg hb]; exact ⟨_, k, _, _, _, _, _, _, _, _, _, _, _, _, _, _, _, _, _, rfl, hk, hq⟩
theorem Q_340 {s : CS} (h : rCore s) {k len e c : Nat} (hk : k ≤ 12) (h6 : len ≤ 60) (he : e ≤ 60) {bad : Int32} (hb : bad = 0 ∨ bad = 1) (at_ deep aimed : Int32) {le sp split tx sd cq opd w o t oat : Nat → Int32} (hle : le k = nI len) (hsp : sp k = 0) (hc1 : 1 ≤ c) (hc2 : c ≤ s.cc) (hsd : sdOk s.cc sd) (hq : ∀ q, q < k → qmOk s.cc le tx cq sp w o t q) (hplus : bad = 0 → chr tx k len 0 = 43 → opOk (chr tx k len) 1) : prOk s.cc k (f_M_prepare_J340 (nI s.fc) s.mow s.mpr s.mso s.mai (nI c) (nI e) (nI k) (nI k) at_ bad 0 deep aimed le sp split tx sd cq opd w o t oat) := by
  unfold f_M_prepare_J340
  rw [ob_iv_i (by rw [nI_toInt (by omega)]; omega), nI_clamp (by omega), hle, nI_1]
  by_cases h1 : len ≤ e + 1
  · rw [if_pos (nI_le h1 (by omega))]
    refine Q_374 hk _ _ _ _ _ hq (fun hb0 => ⟨len, 0, c, hle, h6, hsp, ⟨by omega, fun _ => [], fun _ => 0, rfl, rfl, fun j _ => Nat.zero_le j, fun j hj => by omega⟩, pk_us, hc1, hc2, hplus hb0⟩)
  · rw [if_neg (nI_ge (by omega) (by omega))]
    obtain ⟨b2, hb2, ex, hx⟩ : ∃ b2 : Int32, (b2 = 0 ∨ b2 = 1) ∧ f_M_expect (nI k) (nI (e + 1)) bad le tx 63 = some (nI (e + 2), b2) ∧ (b2 = 0 → bad = 0 ∧ e + 2 ≤ len) := by
      rcases hb with rfl | rfl
      · rw [expect_ok hk hle h6 (by omega)]
        by_cases hc : chr tx k len (e + 1) = 63
        · rw [if_pos hc]; exact ⟨0, Or.inl rfl, rfl, fun _ => ⟨rfl, by omega⟩⟩
        · rw [if_neg hc]; exact ⟨1, Or.inr rfl, rfl, fun hh => absurd hh one_ne⟩
      · rw [expect_bad _ _ _ _ one_ne, nI_1]; exact ⟨1, Or.inr rfl, rfl, fun hh => absurd hh one_ne⟩
    rw [ex, ob_bs]
    dsimp only
    have hJ : jOk (chr tx k len) k s.cc len 0 (e + 2) 0 0 b2 sd sp opd oat w o t sp w o t := ⟨hsp, by omega, by omega, hb2, frs_r _ _, frm_r _ _, frm_r _ _, frm_r _ _, fun hh => ⟨(hx hh).2, hsd, [], fun _ => [], fun _ => 0, rfl, ⟨trivial, fun j hj => by omega, rfl, rfl, fun j _ => Nat.zero_le j, trivial, rfl, rfl, Nat.zero_le _⟩⟩⟩
    obtain ⟨at', bad', ops', deep', aimed', opd', sp', w', o', t', oat', sd', split', g1, g2, g3, g4, g5, g6, g7⟩ := Q_cond_loop h hk hle h6 sp w o t 1000 0 0 (e + 2) 0 0 b2 deep aimed sd sp opd oat w o t split (Or.inl rfl) (by omega) (by omega) hJ
    have g1' : f_M_condition (nI s.fc) (nI k) (nI (e + 2)) b2 0 deep aimed opd sp w o t le tx oat sd split s.mow s.mpr s.mso s.mai = _ := g1
    rw [g1', ob_bs]
    dsimp only
    refine Q_374 hk _ _ _ _ _ (fun q hqk => qmOk_cong (k := k) (Nat.le_refl _) (frs_r _ _) (frm_r _ _) (frs_r _ _) g3 g4 g5 g6 hqk (hq q hqk)) (fun hb0 => ?_)
    obtain ⟨n', z1, z2⟩ := g7 hb0
    refine ⟨len, n', c, hle, h6, z1, z2, pk_us, hc1, hc2, fun h43 => ?_⟩
    by_cases hbb : bad = 0
    · exact hplus hbb h43
    ·
      have hb2' : ¬ b2 = 0 := fun hh => hbb (hx hh).1
      exfalso
      have : bad' = 1 := by
        have e9 : f_M_condition_L4 (nI k) le tx (nI s.fc) s.mow s.mpr s.mso s.mai 1000 (nI (1 - 0)) (nI 0) (nI (e + 2)) b2 (nI 0) deep aimed opd sp w o t oat sd split = f_M_condition_J145 (nI k) (nI (e + 2)) b2 (nI 0) deep aimed opd sp w o t oat sd split := by
          show f_M_condition_B4 (nI k) le tx (nI s.fc) s.mow s.mpr s.mso s.mai (f_M_condition_L4 (nI k) le tx (nI s.fc) s.mow s.mpr s.mso s.mai 999) (nI (1 - 0)) (nI 0) (nI (e + 2)) b2 (nI 0) deep aimed opd sp w o t oat sd split = _
          unfold f_M_condition_B4
          rw [if_neg (by decide), if_neg hb2']
        rw [e9] at g1
        obtain ⟨m1, n1, sp1, w1, o1, t1, k1, -⟩ := Q_close (m := 0) (n := 0) hk opd 1 w o t (by omega) hsp
        unfold f_M_condition_J145 f_M_condition_J165 f_M_condition_J170 at g1
        rw [k1, ob_bs, if_neg hb2', ob_nz_i (Or.inr rfl)] at g1
        exact ((Prod.mk.inj (Prod.mk.inj (Option.some.inj g1)).2).1).symm
      rw [this] at hb0
      exact one_ne hb0
theorem Q_284 {s : CS} (h : rCore s) {k len e : Nat} (hk : k ≤ 12) (h6 : len ≤ 60) (he : e ≤ 60) {y : Int32} (hy : y = 0 ∨ y = 1) (c : Int32) (x1 at_ bad deep aimed : Int32) {le sp split tx sd cq opd w o t oat : Nat → Int32} (hle : le k = nI len) (hsp : sp k = 0) (hc : y = 0 → 1 ≤ c.toInt ∧ c.toInt ≤ s.cc) (hx1 : y = 0 → x1 = chr tx k len 0) (hsd : sdOk s.cc sd) (hq : ∀ q, q < k → qmOk s.cc le tx cq sp w o t q) : prOk s.cc k (f_M_prepare_J284 (nI s.fc) s.mow s.mpr s.mso s.mai x1 (nI 1) c (nI e) y (nI k) (nI k) at_ bad 0 deep aimed le sp split tx sd cq opd w o t oat) := by
  unfold f_M_prepare_J284
  rw [ob_nz_i hy]
  by_cases hy0 : y = 0
  · have h5 := rc_5 h
    obtain ⟨d, hd⟩ : ∃ d : Nat, c.toInt = (d : Int) := ⟨c.toInt.toNat, by have := hc hy0; omega⟩
    have ec := nI_z hd (by have := hc hy0; omega)
    have hd1 : 1 ≤ d ∧ d ≤ s.cc := by have := hc hy0; omega
    rw [if_pos hy0, ob_iv_i (by decide), ec]
    have hsd' : sdOk s.cc (upd sd (0 : Int32).toNatClampNeg (nI d)) := sdOk_u hsd hd1.2
    by_cases h43 : x1 = 43
    · rw [if_pos h43]
      obtain ⟨r, b, am, g1, g2, g3, g4, g5, g6⟩ := Q_path h hk hle h6 hsd' (a := 1) (by omega) (tx := tx) aimed
      rw [g1, ob_bs]
      dsimp only
      unfold f_M_prepare_J332 f_M_prepare_J337
      rw [ob_nz_i (Or.inl rfl), ob_nz_i (Or.inr rfl)]
      have bad1 : prOk s.cc k (f_M_prepare_J340 (nI s.fc) s.mow s.mpr s.mso s.mai (nI d) (nI e) (nI k) (nI k) (nI b) 1 0 deep am le sp split tx (upd sd (0 : Int32).toNatClampNeg (nI d)) cq opd w o t oat) := Q_340 h hk h6 he (Or.inr rfl) _ _ _ hle hsp hd1.1 hd1.2 hsd' hq (fun hh => absurd hh one_ne)
      by_cases hr : r = 1
      · rw [if_pos hr]
        split
        · exact Q_340 h hk h6 he (Or.inl rfl) _ _ _ hle hsp hd1.1 hd1.2 hsd' hq (fun _ _ => g5 (by rw [hr]; decide))
        · exact bad1
      · rw [if_neg hr]; exact bad1
    · rw [if_neg h43]
      rw [hy0]
      exact Q_340 h hk h6 he (Or.inl rfl) _ _ _ hle hsp hd1.1 hd1.2 hsd' hq (fun _ hh => absurd ((hx1 hy0).trans hh) h43)
  · rw [if_neg hy0]
    exact ⟨_, k, _, _, _, _, _, _, _, _, _, _, _, _, _, _, _, _, _, rfl, hk, hq⟩
theorem Q_165 {s : CS} (h : rCore s) {k len : Nat} (hk : k ≤ 12) (h6 : len ≤ 60) {bad : Int32} (hb : bad = 0 ∨ bad = 1) {le sp split tx sd cq opd w o t oat : Nat → Int32} (hle : le k = nI len) (hsp : sp k = 0) (hsd : sdOk s.cc sd) (hq : ∀ q, q < k → qmOk s.cc le tx cq sp w o t q) : ∀ (f a : Nat) (deep aimed : Int32), a ≤ 60 → 100 - a < f → prOk s.cc k (f_M_prepare_L165 (nI s.cc) (nI s.fc) s.mow s.mpr s.mso s.mai f (chr tx k len 0) (nI 1) (nI k) (nI k) (nI a) bad 0 deep aimed le sp split tx sd cq opd w o t oat) := by
  intro f
  induction f with
  | zero => intro a deep aimed _ h9; omega
  | succ f ih =>
    intro a deep aimed ha hf
    show prOk s.cc k (f_M_prepare_B165 (nI s.cc) (nI s.fc) s.mow s.mpr s.mso s.mai (f_M_prepare_L165 (nI s.cc) (nI s.fc) s.mow s.mpr s.mso s.mai f) (chr tx k len 0) (nI 1) (nI k) (nI k) (nI a) bad 0 deep aimed le sp split tx sd cq opd w o t oat)
    have h5 := rc_5 h
    have j243 : prOk s.cc k (f_M_prepare_J243 (nI s.cc) (nI s.fc) s.mow s.mpr s.mso s.mai (chr tx k len 0) (nI 1) (nI k) (nI k) (nI a) bad 0 deep aimed le sp split tx sd cq opd w o t oat) := by
      unfold f_M_prepare_J243 f_M_prepare_J279
      have hM : ∀ c : Int32, f_M_isClass (nI s.cc) c = some (b2i (decide (1 ≤ c.toInt ∧ c.toInt ≤ s.cc))) := hasClass_eq h5
      rw [charAt_eq hk hle h6 (by omega), ob_bs, hM, ob_bs]
      have bad1 : prOk s.cc k (f_M_prepare_J284 (nI s.fc) s.mow s.mpr s.mso s.mai (chr tx k len 0) (nI 1) (chr tx k len a - 65 + 1) (nI a) 1 (nI k) (nI k) (nI a) bad 0 deep aimed le sp split tx sd cq opd w o t oat) := Q_284 h hk h6 ha (Or.inr rfl) _ _ _ _ _ _ hle hsp (fun hh => absurd hh one_ne) (fun hh => absurd hh one_ne) hsd hq
      by_cases hb0 : bad = 0
      · rw [if_pos hb0]
        by_cases hc : 1 ≤ (chr tx k len a - 65 + 1).toInt ∧ (chr tx k len a - 65 + 1).toInt ≤ s.cc
        · rw [decide_eq_true hc, if_neg b2i_t]
          exact Q_284 h hk h6 ha (Or.inl rfl) _ _ _ _ _ _ hle hsp (fun _ => hc) (fun _ => rfl) hsd hq
        · rw [decide_eq_false hc, if_pos b2i_f]; exact bad1
      · rw [if_neg hb0]; exact bad1
    unfold f_M_prepare_B165 f_M_prepare_J230
    rw [charAt_eq hk hle h6 (by omega)]
    simp only [ob_bs]
    have go : ¬ chr tx k len a = 0 → prOk s.cc k (f_M_prepare_L165 (nI s.cc) (nI s.fc) s.mow s.mpr s.mso s.mai f (chr tx k len 0) (nI 1) (nI k) (nI k) (nI a + 1) bad 0 deep aimed le sp split tx sd cq opd w o t oat) := fun hne => by
      have hlt := chr_lt hne
      rw [nI_1]; exact ih (a + 1) deep aimed (by omega) (by omega)
    split
    · split
      · split
        · rename_i hx; exact go (by rw [hx]; decide)
        · split
          · rename_i hx; exact go (by rw [hx]; decide)
          · split
            · exact j243
            · split
              · exact j243
              · rename_i h97 h104
                exact go (fun h0 => h97 (by rw [h0]; decide))
      · exact j243
    · exact j243
theorem Q_109 {s : CS} (h : rCore s) {k len : Nat} (hk : k ≤ 12) (h6 : len ≤ 60) {le sp split tx cq opd w o t oat : Nat → Int32} (hle : le k = nI len) (hsp : sp k = 0) (hq : ∀ q, q < k → qmOk s.cc le tx cq sp w o t q) : ∀ (f v : Nat) (aimed : Int32) (sd : Nat → Int32), v ≤ 3 → 3 - v < f → (∀ j, j < v → sd j = 0) → prOk s.cc k (f_M_prepare_L109 (nI s.cc) (nI s.fc) s.mow s.mpr s.mso s.mai f (nI v) (nI k) (nI k) 1 0 0 0 aimed le sp split tx sd cq opd w o t oat) := by
  intro f
  induction f with
  | zero => intro v aimed sd _ h9; omega
  | succ f ih =>
    intro v aimed sd hv hf hz
    show prOk s.cc k (f_M_prepare_B109 (nI s.cc) (nI s.fc) s.mow s.mpr s.mso s.mai (f_M_prepare_L109 (nI s.cc) (nI s.fc) s.mow s.mpr s.mso s.mai f) (nI v) (nI k) (nI k) 1 0 0 0 aimed le sp split tx sd cq opd w o t oat)
    unfold f_M_prepare_B109
    by_cases h3 : v = 3
    · subst h3
      have hsd : sdOk s.cc sd := fun j hj => ⟨0, hz j hj, by omega⟩
      unfold f_M_prepare_J156 f_M_prepare_J157
      have e0 : f_M_charAt (nI k) le tx 0 = some (chr tx k len 0) := charAt_eq hk hle h6 (p := 0) (by omega)
      rw [if_pos (by decide), e0, ob_bs, ob_nz_i (Or.inl rfl), ob_nz_i (Or.inr rfl)]
      have g0 := Q_165 h hk h6 (Or.inl rfl) (split := split) (opd := opd) (oat := oat) hle hsp hsd hq 1000 1 0 aimed (by omega) (by omega)
      have g1 := Q_165 h hk h6 (Or.inr rfl) (split := split) (opd := opd) (oat := oat) hle hsp hsd hq 1000 1 0 aimed (by omega) (by omega)
      split
      · exact g0
      · split
        · exact g0
        · split
          · exact g0
          · exact g1
    · rw [if_neg (show ¬ (3 : Int32) ≤ nI v from nI_ge (a := v) (b := 3) (by omega) (by omega)), ob_iv_i (by rw [nI_toInt (by omega)]; omega), nI_1, nI_clamp (by omega)]
      refine ih (v + 1) aimed (upd sd v 0) (by omega) (by omega) (fun j hj => ?_)
      by_cases e : j = v
      · rw [e]; exact pk_us
      · rw [pk_un e]; exact hz j (by omega)
theorem Q_33 {s : CS} (h : rCore s) {k d : Nat} (hk : k ≤ 12) (h6 : d ≤ 60) {le cq w o t : Nat → Int32} (dr : Nat → Int32) (hle : le k = nI d) : ∀ (f j : Nat) (at_ bad ops_ deep aimed : Int32) (sp split tx sd opd oat : Nat → Int32), j ≤ d → d - j < f → (∀ q, q < k → qmOk s.cc le tx cq sp w o t q) → prOk s.cc k (f_M_prepare_L33 (nI d) (nI s.cc) (nI s.fc) s.mow s.mpr s.mso s.mai dr f (nI j) (nI k) (nI k) at_ bad ops_ deep aimed le sp split tx sd cq opd w o t oat) := by
  intro f
  induction f with
  | zero => intro j at_ bad ops_ deep aimed sp split tx sd opd oat _ h9; omega
  | succ f ih =>
    intro j at_ bad ops_ deep aimed sp split tx sd opd oat hj hf hq
    show prOk s.cc k (f_M_prepare_B33 (nI d) (nI s.cc) (nI s.fc) s.mow s.mpr s.mso s.mai dr (f_M_prepare_L33 (nI d) (nI s.cc) (nI s.fc) s.mow s.mpr s.mso s.mai dr f) (nI j) (nI k) (nI k) at_ bad ops_ deep aimed le sp split tx sd cq opd w o t oat)
    unfold f_M_prepare_B33
    have gk : 0 ≤ (nI k).toInt ∧ (nI k).toInt < (13 : Nat) := by rw [nI_toInt (by omega)]; omega
    by_cases hjd : j = d
    · subst hjd
      rw [if_pos (nI_le (Nat.le_refl _) (by omega)), ob_iv_i gk, ob_iv_i gk, nI_clamp (by omega)]
      exact Q_109 h hk h6 hle pk_us (fun q hqk => qmOk_cong (k := k) (Nat.le_refl _) (frs_r _ _) (frm_r _ _) (frs_r _ _) frs_u (frm_r _ _) (frm_r _ _) (frm_r _ _) hqk (hq q hqk)) 1000 0 aimed sd (by omega) (by omega) (fun i hi => by omega)
    · have e : 64 * nI k + nI j = nI (64 * k + j) := by rw [show (64 : Int32) = nI 64 from rfl, pk_mul, nI_add]
      rw [if_neg (nI_ge (by omega) (by omega)), ob_iv_i (by rw [nI_toInt (by omega)]; omega), e, ob_iv_i (by rw [nI_toInt (by omega)]; omega), nI_1, nI_clamp (by omega), nI_clamp (by omega)]
      exact ih (j + 1) at_ bad ops_ deep aimed sp split _ sd opd oat (by omega) (by omega) (fun q hqk => qmOk_cong (k := k) (Nat.le_refl _) (frs_r _ _) frm_u (frs_r _ _) (frs_r _ _) (frm_r _ _) (frm_r _ _) (frm_r _ _) hqk (hq q hqk))
theorem Q_prepare {s : CS} (h : rCore s) {k d : Nat} (hk : k ≤ 12) (h6 : d ≤ 60) (nw at_ bad ops_ deep aimed : Int32) {le sp split tx sd cq opd w o t oat dr : Nat → Int32} (hq : ∀ q, q < k → qmOk s.cc le tx cq sp w o t q) : prOk s.cc k (f_M_prepare (nI s.cc) (nI s.fc) s.dn (nI d) (nI k) nw at_ bad ops_ deep aimed le sp split tx sd cq opd w o t oat s.mow s.mpr s.mso s.mai dr) := by
  unfold f_M_prepare
  split
  · rw [ob_iv_i (by rw [nI_toInt (by omega)]; omega), nI_clamp (by omega)]
    exact Q_33 h hk h6 dr pk_us 1000 0 at_ bad ops_ deep aimed sp split tx sd opd oat (by omega) (by omega) (fun q hqk => qmOk_cong (k := k) (Nat.le_refl _) frs_u (frm_r _ _) (frs_r _ _) (frs_r _ _) (frm_r _ _) (frm_r _ _) (frm_r _ _) hqk (hq q hqk))
  · exact ⟨_, k, _, _, _, _, _, _, _, _, _, _, _, _, _, _, _, _, _, rfl, hk, hq⟩

def vOk (so V : Nat → Int32) (S : Nat → Int64) : Prop := ∀ i f, 1 ≤ i → i ≤ 62 → f < 8 → (so f = 1 → ∃ t : Nat, t ≤ 62 ∧ V (8 * i + f) = nI t) ∧ (¬ so f = 0 → ¬ so f = 1 → ids (S (8 * i + f)))
theorem vOk_of {s : CS} (h : rCore s) {sl K : Int64} {xc xn ns : Nat → Int32} {xv : Nat → Int64} {V : Nat → Int32} {S : Nat → Int64} (hI : rIm s.fc s.mkd s.par s.own s.mso s.cl sl K xc xv xn V S ns) : vOk s.mso V S := fun i f h1 h2 h3 => by
  obtain ⟨⟨-, -, -, -, -, a6, a7, -, -⟩, hz, -⟩ := hI
  by_cases hc : s.mkd < i ∨ s.fc ≤ f ∨ hasF s.par s.own s.mso (s.cl i) f (-1) = false
  · obtain ⟨z1, z2⟩ := hz i f h1 h2 h3 hc
    exact ⟨fun _ => ⟨0, by omega, z1⟩, fun _ _ => by rw [z2]; exact ids_0⟩
  · have e1 : i ≤ s.mkd := by
      by_cases hh : i ≤ s.mkd
      · exact hh
      · exact absurd (Or.inl (by omega)) hc
    have e2 : f < s.fc := by
      by_cases hh : f < s.fc
      · exact hh
      · exact absurd (Or.inr (Or.inl (by omega))) hc
    have e3 : isA s.par (s.cl i) (s.own f) = true := by
      cases hA : isA s.par (s.cl i) (s.own f)
      · exact absurd (Or.inr (Or.inr (by rw [hasF_any]; exact hA))) hc
      · rfl
    refine ⟨fun q => ?_, fun q0 q1 => ?_⟩
    · obtain ⟨t, t1, t2, -⟩ := a6 i f h1 e1 e2 (by rw [hasF_k (by decide), e3, q]; rfl)
      exact ⟨t, t1, t2⟩
    · have q2 : s.mso f = 2 := by
        rcases (rc_f h e2).2.2.2.2.2.1 with h | h | h
        · exact absurd h q0
        · exact absurd h q1
        · exact h
      exact (a7 i f h1 e1 e2 (by rw [hasF_k (by decide), e3, q2]; rfl)).2
def varOk (var : Nat → Int32) : Prop := ∀ v, v < 3 → ∃ t : Nat, t ≤ 62 ∧ var v = nI t
theorem varOk_u {var : Nat → Int32} (h : varOk var) {v t : Nat} (ht : t ≤ 62) : varOk (upd var v (nI t)) := fun j hj => by
  by_cases e : j = v
  · subst e; exact ⟨t, ht, pk_us⟩
  · rw [pk_un e]; exact h j hj
theorem Q_follow {so V : Nat → Int32} {S : Nat → Int64} (hv : vOk so V S) (vd : Int32) {t f : Nat} (ht : t ≤ 62) (hf : f < 8) (set : Int64) : ∃ (vd' vl' : Int32) (set' : Int64), f_M_follow vd (nI t) set so S V (nI f) = some (vd', vl', set') ∧ (vd' = 2 → ∃ t' : Nat, t' ≤ 62 ∧ vl' = nI t') ∧ (vd' = 3 → ids set') := by
  unfold f_M_follow f_M_follow_J52
  by_cases h0 : t = 0
  · rw [if_pos (by rw [h0]; rfl)]; exact ⟨0, _, _, rfl, fun h => absurd h (by decide), fun h => absurd h (by decide)⟩
  · have g8 : 0 ≤ (nI f).toInt ∧ (nI f).toInt < (8 : Nat) := by rw [nI_toInt (by omega)]; omega
    obtain ⟨p1, p2⟩ := place_m (i := t) (f := f) ht hf
    obtain ⟨v1, v2⟩ := hv t f (by omega) ht hf
    rw [if_neg (nI_ne0 (by omega) (by omega)), ob_iv_i g8, ob_iv_i g8, ob_iv_i p1, ob_iv_i p1, ob_iv_i p1, ob_iv_i p1, ob_iv_i p1, ob_iv_i p1, nI_clamp (by omega), p2]
    by_cases s0 : so f = 0
    · rw [if_pos s0]; exact ⟨1, _, _, rfl, fun h => absurd h (by decide), fun h => absurd h (by decide)⟩
    · rw [if_neg s0]
      by_cases s1 : so f = 1
      · rw [if_pos s1]; exact ⟨2, _, _, rfl, fun _ => v1 s1, fun h => absurd h (by decide)⟩
      · rw [if_neg s1]; exact ⟨3, _, _, rfl, fun h => absurd h (by decide), fun _ => v2 s0 s1⟩
theorem Q_ev_loop {so V le tx : Nat → Int32} {S : Nat → Int64} (hv : vOk so V S) {q len : Nat} (hq : q ≤ 12) (hl : le q = nI len) (h6 : len ≤ 60) {p : Nat} (hp : p ≤ 100) (hpath : pathOk (chr tx q len) p) : ∀ (n j : Nat) (vd vl : Int32) (set : Int64), j ≤ 100 → 100 - j < n → (∀ i, i < j → chr tx q len (p + 1 + 2 * i) = 46) → (vd = 2 → ∃ t : Nat, t ≤ 62 ∧ vl = nI t) → (vd = 3 → ids set) → ∃ (vd' vl' : Int32) (set' : Int64), f_M_evaluate_L134 (nI q) le tx so S V n (nI (p + 1 + 2 * j)) vd vl set = some (vd', vl', set') ∧ (vd' = 3 → ids set') := by
  intro n
  induction n with
  | zero => intro j vd vl set _ h9; omega
  | succ n ih =>
    intro j vd vl set hj h9 hd h2 h3
    show ∃ (vd' vl' : Int32) (set' : Int64), f_M_evaluate_B134 (nI q) le tx so S V (f_M_evaluate_L134 (nI q) le tx so S V n) (nI (p + 1 + 2 * j)) vd vl set = some (vd', vl', set') ∧ (vd' = 3 → ids set')
    unfold f_M_evaluate_B134
    rw [charAt_eq hq hl h6 (by omega), ob_bs]
    by_cases hdot : chr tx q len (p + 1 + 2 * j) = 46
    · have hlt := chr_lt (tx := tx) (q := q) (len := len) (p := p + 1 + 2 * j) (fun e => by rw [e] at hdot; revert hdot; decide)
      rw [if_pos hdot]
      by_cases hvd : vd = 2
      · rw [if_pos hvd, nI_1, charAt_eq hq hl h6 (by omega), ob_bs]
        obtain ⟨f, hf, ef⟩ := hpath j (fun i hi => by
          by_cases e : i = j
          · rw [e]; exact hdot
          · exact hd i (by omega))
        obtain ⟨t, ht, et⟩ := h2 hvd
        rw [show p + 1 + 2 * j + 1 = p + 2 + 2 * j by omega, ef, et]
        obtain ⟨vd', vl', set', g1, g2, g3⟩ := Q_follow hv vd ht hf set
        rw [g1, ob_bs, show (2 : Int32) = nI 2 from rfl, nI_add, show p + 1 + 2 * j + 2 = p + 1 + 2 * (j + 1) by omega]
        exact ih (j + 1) vd' vl' set' (by omega) (by omega) (fun i hi => by
          by_cases e : i = j
          · rw [e]; exact hdot
          · exact hd i (by omega)) g2 g3
      · rw [if_neg hvd]; exact ⟨_, _, _, rfl, h3⟩
    · rw [if_neg hdot]; exact ⟨_, _, _, rfl, h3⟩
theorem Q_ev_num {le tx : Nat → Int32} {q len : Nat} (hq : q ≤ 12) (hl : le q = nI len) (h6 : len ≤ 60) (x2 : Int32) : ∀ (n a : Nat) (x3 : Int64) (vd vl : Int32) (set : Int64), a ≤ 200 → 200 - a < n → (a ≤ len ∨ a ≤ 102) → ∃ (vl' : Int32) (set' : Int64), f_M_evaluate_L53 (nI q) le tx n x2 x3 (nI a) vd vl set = some (1, vl', set') := by
  intro n
  induction n with
  | zero => intro a x3 vd vl set _ h9; omega
  | succ n ih =>
    intro a x3 vd vl set ha h9 hb
    show ∃ (vl' : Int32) (set' : Int64), f_M_evaluate_B53 (nI q) le tx (f_M_evaluate_L53 (nI q) le tx n) x2 x3 (nI a) vd vl set = some (1, vl', set')
    unfold f_M_evaluate_B53 f_M_evaluate_J107
    rw [charAt_eq hq hl h6 (by omega), ob_bs, digit_eq, ob_bs, ob_bs]
    cases hd : dig (chr tx q len a)
    · rw [if_pos b2i_f]; split
      · exact ⟨_, _, rfl⟩
      · exact ⟨_, _, rfl⟩
    · rw [if_neg b2i_t, nI_1]
      have hlt : a < len := chr_lt (tx := tx) (q := q) (fun e => by rw [e, dig_0] at hd; cases hd)
      exact ih (a + 1) _ vd vl set (by omega) (by omega) (by omega)
theorem Q_eval {so V le tx var : Nat → Int32} {S : Nat → Int64} (hv : vOk so V S) (hvar : varOk var) {q len : Nat} (hq : q ≤ 12) (hl : le q = nI len) (h6 : len ≤ 60) {p : Nat} (hp : p ≤ 100) (hop : opOk (chr tx q len) p) (vd vl : Int32) (set : Int64) : ∃ (vd' vl' : Int32) (set' : Int64), f_M_evaluate (nI q) vd vl set le tx var so S V (nI p) = some (vd', vl', set') ∧ (vd' = 3 → ids set') := by
  unfold f_M_evaluate f_M_evaluate_J36
  rw [charAt_eq hq hl h6 (by omega), ob_bs]
  have num : ∃ (vd' vl' : Int32) (set' : Int64), (if chr tx q len p = 45 then f_M_evaluate_L53 (nI q) le tx 1000 (chr tx q len p) 0 (nI p + 1) vd vl set else f_M_evaluate_L53 (nI q) le tx 1000 (chr tx q len p) 0 (nI p) vd vl set) = some (vd', vl', set') ∧ (vd' = 3 → ids set') := by
    split
    · rw [nI_1]
      obtain ⟨vl', set', g⟩ := Q_ev_num (tx := tx) hq hl h6 (chr tx q len p) 1000 (p + 1) 0 vd vl set (by omega) (by omega) (by omega)
      exact ⟨1, vl', set', g, fun h => absurd h (by decide)⟩
    · obtain ⟨vl', set', g⟩ := Q_ev_num (tx := tx) hq hl h6 (chr tx q len p) 1000 p 0 vd vl set (by omega) (by omega) (by omega)
      exact ⟨1, vl', set', g, fun h => absurd h (by decide)⟩
  by_cases h1 : chr tx q len p = 110
  · rw [if_pos h1]; exact ⟨2, 0, set, rfl, fun h => absurd h (by decide)⟩
  · rw [if_neg h1]
    by_cases h2 : chr tx q len p = 45
    · rw [if_pos h2]; exact num
    · rw [if_neg h2, digit_eq, ob_bs]
      cases hd : dig (chr tx q len p)
      · rw [if_pos b2i_f]
        rcases hop with h | h | h | ⟨⟨n, h3, h4⟩, h5⟩
        · exact absurd h h1
        · exact absurd h h2
        · rw [hd] at h; cases h
        · obtain ⟨t, ht, et⟩ := hvar n h3
          rw [h4, ob_iv_i (by rw [nI_toInt (by omega)]; omega), nI_clamp (by omega), et, nI_1]
          exact Q_ev_loop hv hq hl h6 hp h5 1000 0 2 (nI t) set (by omega) (by omega) (fun i hi => by omega) (fun _ => ⟨t, ht, rfl⟩) (fun h => absurd h (by decide))
      · rw [if_neg b2i_t]; exact num
theorem Q_compares {so V le tx var : Nat → Int32} {S : Nat → Int64} (hv : vOk so V S) (hvar : varOk var) {q len : Nat} (hq : q ≤ 12) (hl : le q = nI len) (h6 : len ≤ 60) {p r : Nat} (hp : p ≤ 100) (hr : r ≤ 100) (hr1 : 1 ≤ r) (h1 : opOk (chr tx q len) p) (h2 : opOk (chr tx q len) r) (vd vl : Int32) (set : Int64) : ∃ (b vd' vl' : Int32) (set' : Int64), f_M_compares (nI q) vd vl set le tx var so S V (nI p) (nI r) = some (b, vd', vl', set') := by
  unfold f_M_compares
  obtain ⟨a1, a2, a3, g1, -⟩ := Q_eval hv hvar hq hl h6 hp h1 vd vl set
  obtain ⟨b1, b2, b3, g2, -⟩ := Q_eval hv hvar hq hl h6 hr h2 a1 a2 a3
  rw [g1, ob_bs]
  dsimp only
  rw [g2, ob_bs, nI_prd hr1, charAt_eq hq hl h6 (by omega), ob_bs]
  dsimp only
  repeat' split
  all_goals exact ⟨_, _, _, _, rfl⟩
def lps (la : Nat → Int32) (rs : Nat → Int64) : List Nat → Prop
  | [] => True
  | k :: r => la r.length = nI (k + 1) ∧ ids (rs r.length) ∧ lps la rs r
theorem lps_u {la : Nat → Int32} {rs : Nat → Int64} {m : Nat} {x : Int32} {y : Int64} : ∀ l : List Nat, l.length ≤ m → lps la rs l → lps (upd la m x) (vp_updL rs m y) l := by
  intro l
  induction l with
  | nil => exact fun _ _ => trivial
  | cons k r ih =>
    intro h1 h2
    have hl : r.length < m := Nat.lt_of_succ_le h1
    obtain ⟨a1, a2, a3⟩ := h2
    exact ⟨by rw [pk_un (by omega)]; exact a1, by rw [pk_uLn (by omega)]; exact a2, ih (by omega) a3⟩
theorem lps_r {la : Nat → Int32} {rs : Nat → Int64} {m : Nat} {y : Int64} : ∀ l : List Nat, l.length ≤ m → lps la rs l → lps la (vp_updL rs m y) l := by
  intro l
  induction l with
  | nil => exact fun _ _ => trivial
  | cons k r ih =>
    intro h1 h2
    have hl : r.length < m := Nat.lt_of_succ_le h1
    obtain ⟨a1, a2, a3⟩ := h2
    exact ⟨a1, by rw [pk_uLn (by omega)]; exact a2, ih (by omega) a3⟩
theorem Q_next_loop {l v : Nat} (hl : l < 3) (hv : v < 3) {rs : Nat → Int64} {var : Nat → Int32} (hid : ids (rs l)) (hne : ¬ rs l = 0) (hvar : varOk var) : ∀ (n x : Nat), 1 ≤ x → x ≤ 63 → 63 - x < n → (∀ i, i < x → tb (rs l) i = false) → ∃ (y : Int64) (t : Nat), f_M_nextOf_L2 (nI (l + 1)) (nI v) n (nI x) rs var = some (vp_updL rs l y, upd var v (nI t)) ∧ ids y ∧ t ≤ 62 := by
  intro n
  induction n with
  | zero => intro x _ _ h9; omega
  | succ n ih =>
    intro x h1 h2 h9 hno
    show ∃ (y : Int64) (t : Nat), f_M_nextOf_B2 (nI (l + 1)) (nI v) (f_M_nextOf_L2 (nI (l + 1)) (nI v) n) (nI x) rs var = some (vp_updL rs l y, upd var v (nI t)) ∧ ids y ∧ t ≤ 62
    unfold f_M_nextOf_B2 f_M_nextOf_J32
    by_cases h63 : x = 63
    · exfalso
      refine hne (ids_ext hid ids_0 (fun j j1 j2 => ?_))
      rw [hno j (by omega), tb_0]
    · have hg : 0 ≤ (nI l).toInt ∧ (nI l).toInt < (3 : Nat) := by rw [nI_toInt (by omega)]; omega
      rw [if_neg (show ¬ (63 : Int32) ≤ nI x from nI_ge (a := x) (b := 63) (by omega) (by omega)), nI_pred, ob_iv_i hg, nI_clamp (by omega), in_eq, ob_bs, mem_n _ h1 (by omega)]
      cases ht : tb (rs l) x
      · rw [if_pos b2i_f, nI_1]
        refine ih (x + 1) (by omega) (by omega) (by omega) (fun i hi => ?_)
        by_cases e : i = x
        · rw [e]; exact ht
        · exact hno i (by omega)
      · rw [if_neg b2i_t, ob_iv_i hg, (bi_setOf h1 (by omega)).2, ob_bs, ob_iv_i hg, ob_iv_i (by rw [nI_toInt (by omega)]; omega), nI_clamp (by omega)]
        exact ⟨_, x, rfl, ids_and hid, by omega⟩
theorem Q_next {l v : Nat} (hl : l < 3) (hv : v < 3) {rs : Nat → Int64} {var : Nat → Int32} (hid : ids (rs l)) (hne : ¬ rs l = 0) (hvar : varOk var) : ∃ (y : Int64) (t : Nat), f_M_nextOf (nI (l + 1)) rs var (nI v) = some (vp_updL rs l y, upd var v (nI t)) ∧ ids y ∧ t ≤ 62 :=
  Q_next_loop hl hv hid hne hvar 1000 1 (by omega) (by omega) (by omega) (fun i hi => by
    cases ht : tb (rs l) i
    · rfl
    · have := (hid i ht).1; omega)
