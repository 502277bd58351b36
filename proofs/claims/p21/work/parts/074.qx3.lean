theorem u16_r (y : UInt16) : 0 ≤ (y.toUInt32.toInt32).toInt ∧ (y.toUInt32.toInt32).toInt < 65536 := by
  have hlt : y.toNat < 65536 := y.toNat_lt
  have h : y.toUInt32.toInt32 = nI y.toNat := by
    apply Int32.toBitVec_inj.mp
    apply BitVec.eq_of_toNat_eq
    show y.toUInt32.toNat = (BitVec.ofNat 32 y.toNat).toNat
    rw [BitVec.toNat_ofNat, UInt16.toNat_toUInt32]; omega
  rw [h, nI_toInt (by omega)]; omega
theorem nar_c (x : Int32) : 0 ≤ (vp_nar .char x).toInt ∧ (vp_nar .char x).toInt < 65536 := u16_r x.toUInt32.toUInt16
theorem chOk_u {ch : Nat → Int32} (h : chOk ch) {k : Nat} {x : Int32} (hx : 0 ≤ x.toInt ∧ x.toInt < 65536) : chOk (upd ch k x) := fun i hi => by
  by_cases e : i = k
  · rw [e, pk_us]; exact hx
  · rw [pk_un e]; exact h i hi
theorem R_draft {d : Nat} (hd : d ≤ 60) {ch : Nat → Int32} (hc : chOk ch) (dn : Int32) (z : Int64) : ∃ (r : Int32) (d' : Nat) (ch' : Nat → Int32), f_OB_draft dn (nI d) ch z = some (r, nI d', ch') ∧ d' ≤ 60 ∧ chOk ch' := by
  have l74 : ∀ (f n j : Nat) (ch : Nat → Int32), chOk ch → j ≤ n → n ≤ 8 → d + n ≤ 60 → n - j < f → ∃ (r : Int32) (d' : Nat) (ch' : Nat → Int32), f_Text_append_L74 z f (nI n) (nI j) (nI d) ch = some (r, nI d', ch') ∧ (r = 0 ∨ r = 1) ∧ d' ≤ 60 ∧ chOk ch' := by
    intro f
    induction f with
    | zero => intro n j ch _ _ _ _ h9; omega
    | succ f ih =>
      intro n j ch hc h1 h8 h2 h9
      show ∃ (r : Int32) (d' : Nat) (ch' : Nat → Int32), f_Text_append_B74 z (f_Text_append_L74 z f) (nI n) (nI j) (nI d) ch = some (r, nI d', ch') ∧ (r = 0 ∨ r = 1) ∧ d' ≤ 60 ∧ chOk ch'
      unfold f_Text_append_B74 f_Text_byteOf
      by_cases hj : n ≤ j
      · rw [if_pos (nI_le hj (by omega)), nI_add]; exact ⟨_, _, _, rfl, Or.inr rfl, h2, hc⟩
      · rw [if_neg (nI_ge (by omega) (by omega)), ob_bs, nI_add, ob_iv_i (by rw [nI_toInt (by omega)]; omega), nI_1]
        exact ih n (j + 1) _ (chOk_u hc (nar_c _)) (by omega) h8 h2 (by omega)
  have j54 : ∀ (n : Nat), n ≤ 8 → ∃ (r : Int32) (d' : Nat) (ch' : Nat → Int32), f_Text_append_J54 z (nI n) (nI d) ch = some (r, nI d', ch') ∧ (r = 0 ∨ r = 1) ∧ d' ≤ 60 ∧ chOk ch' := fun n hn => by
    unfold f_Text_append_J54
    split
    · exact ⟨_, _, _, rfl, Or.inl rfl, hd, hc⟩
    · rw [nI_add]
      split
      · rename_i h60
        rw [Int32.le_iff_toInt_le, nI_toInt (by omega), show (60 : Int32).toInt = 60 by decide] at h60
        exact l74 1000 n 0 ch hc (by omega) hn (by omega) (by omega)
      · exact ⟨_, _, _, rfl, Or.inl rfl, hd, hc⟩
  have l5 : ∀ (f n : Nat), n ≤ 8 → 8 - n < f → ∃ (r : Int32) (d' : Nat) (ch' : Nat → Int32), f_Text_append_L5 z f (nI n) (nI n) (nI d) ch = some (r, nI d', ch') ∧ (r = 0 ∨ r = 1) ∧ d' ≤ 60 ∧ chOk ch' := by
    intro f
    induction f with
    | zero => intro n _ h9; omega
    | succ f ih =>
      intro n h8 h9
      show ∃ (r : Int32) (d' : Nat) (ch' : Nat → Int32), f_Text_append_B5 z (f_Text_append_L5 z f) (nI n) (nI n) (nI d) ch = some (r, nI d', ch') ∧ (r = 0 ∨ r = 1) ∧ d' ≤ 60 ∧ chOk ch'
      unfold f_Text_append_B5 f_Text_byteOf
      have g2 := j54 n h8
      by_cases h : n = 8
      · rw [if_pos (show (8 : Int32) ≤ nI n from nI_le (a := 8) (by omega) (by omega))]; exact g2
      · rw [if_neg (show ¬ (8 : Int32) ≤ nI n from nI_ge (a := n) (b := 8) (by omega) (by omega)), ob_bs, ob_bs, nI_1]
        have g0 := ih (n + 1) (by omega) (by omega)
        repeat' split
        all_goals first | exact g0 | exact g2 | exact ⟨_, _, _, rfl, Or.inl rfl, hd, hc⟩
  unfold f_OB_draft f_Text_append
  split
  · split
    · exact ⟨_, 0, _, rfl, by omega, hc⟩
    · obtain ⟨r, d', ch', g1, g2, g3, g4⟩ := l5 1000 0 (by omega) (by omega)
      have g1' : f_Text_append_L5 z 1000 0 0 (nI d) ch = some (r, nI d', ch') := g1
      rw [g1', ob_bs]
      dsimp only
      rw [ob_nz_i g2]
      exact ⟨_, d', _, rfl, g3, g4⟩
  · exact ⟨_, d, _, rfl, hd, hc⟩
abbrev xqOk (cc : Nat) (nc root asked mode tl : Int32) (tch kd inn nx lf rt : Nat → Int32) : Prop := (∃ len n : Nat, tl = nI len ∧ len ≤ 60 ∧ nc = nI n ∧ wfX (chx tch len) n kd inn nx lf rt ∧ (root = -1 ∨ ∃ m m2 : Nat, m < n ∧ m2 < n ∧ root = nI m ∧ inn m = nI m2)) ∧ (chOk tch) ∧ (∃ c : Nat, asked = nI c ∧ 1 ≤ c ∧ c ≤ cc) ∧ (0 ≤ mode.toInt ∧ mode.toInt < 65536)
theorem xqOk.qt {cc : Nat} {nc root asked mode tl : Int32} {tch kd inn nx lf rt : Nat → Int32} (h9z : xqOk cc nc root asked mode tl tch kd inn nx lf rt) : ∃ len n : Nat, tl = nI len ∧ len ≤ 60 ∧ nc = nI n ∧ wfX (chx tch len) n kd inn nx lf rt ∧ (root = -1 ∨ ∃ m m2 : Nat, m < n ∧ m2 < n ∧ root = nI m ∧ inn m = nI m2) := h9z.1
theorem xqOk.qc {cc : Nat} {nc root asked mode tl : Int32} {tch kd inn nx lf rt : Nat → Int32} (h9z : xqOk cc nc root asked mode tl tch kd inn nx lf rt) : chOk tch := h9z.2.1
theorem xqOk.qa {cc : Nat} {nc root asked mode tl : Int32} {tch kd inn nx lf rt : Nat → Int32} (h9z : xqOk cc nc root asked mode tl tch kd inn nx lf rt) : ∃ c : Nat, asked = nI c ∧ 1 ≤ c ∧ c ≤ cc := h9z.2.2.1
theorem xqOk.qm {cc : Nat} {nc root asked mode tl : Int32} {tch kd inn nx lf rt : Nat → Int32} (h9z : xqOk cc nc root asked mode tl tch kd inn nx lf rt) : 0 ≤ mode.toInt ∧ mode.toInt < 65536 := h9z.2.2.2
theorem R_end {ch : Nat → Int32} {len : Nat} (hc : chOk ch) (h6 : len ≤ 60) : ∀ (f i e : Nat), i ≤ 60 → 60 - i < f → e ≤ 2 + 2 * i → ∃ e' : Nat, f_Reader_endOfPath_L6 (nI len) ch f (nI e) (nI i) = some (nI e') ∧ e' ≤ 200 := by
  intro f
  induction f with
  | zero => intro i e _ h9; omega
  | succ f ih =>
    intro i e hi h9 he
    show ∃ e' : Nat, f_Reader_endOfPath_B6 (nI len) ch (f_Reader_endOfPath_L6 (nI len) ch f) (nI e) (nI i) = some (nI e') ∧ e' ≤ 200
    unfold f_Reader_endOfPath_B6
    by_cases h60 : i = 60
    · rw [if_pos (show (60 : Int32) ≤ nI i from nI_le (a := 60) (by omega) (by omega))]; exact ⟨e, rfl, by omega⟩
    · rw [if_neg (show ¬ (60 : Int32) ≤ nI i from nI_ge (a := i) (b := 60) (by omega) (by omega)), at_n hc h6 (by omega), ob_bs]
      split
      · rw [nI_1, show (2 : Int32) = nI 2 from rfl, nI_add]; exact ih (i + 1) (e + 2) (by omega) (by omega) (by omega)
      · exact ⟨e, rfl, by omega⟩
theorem R_head {s : CS} (h : rCore s) {ch : Nat → Int32} {len : Nat} (hc : chOk ch) (h6 : len ≤ 60) (pl led ask : Int32) (sd : Nat → Int32) : ∃ (r pl' led' ask' mod : Int32) (sd' : Nat → Int32), f_Reader_readHead pl led (nI len) ch ask (nI s.cc) (nI s.fc) sd s.xab s.xow s.xkd s.xtg = some (r, pl', led', ask', mod, sd') ∧ (¬ r = 0 → (∃ b : Nat, pl' = nI b ∧ b ≤ 61) ∧ (∃ c : Nat, ask' = nI c ∧ 1 ≤ c ∧ c ≤ s.cc) ∧ (0 ≤ mod.toInt ∧ mod.toInt < 65536) ∧ sdOk s.cc sd') := by
  have h5 := rc_5 h
  have hcr := chx_r hc h6 0
  have j74 : ∀ e : Nat, e ≤ 200 → ∃ (r pl' led' ask' mod : Int32) (sd' : Nat → Int32), f_Reader_readHead_J74 (nI len) ch (nI s.cc) (nI s.fc) s.xab s.xow s.xkd s.xtg (nI e) pl led ask (chx ch len 0) sd = some (r, pl', led', ask', mod, sd') ∧ (¬ r = 0 → (∃ b : Nat, pl' = nI b ∧ b ≤ 61) ∧ (∃ c : Nat, ask' = nI c ∧ 1 ≤ c ∧ c ≤ s.cc) ∧ (0 ≤ mod.toInt ∧ mod.toInt < 65536) ∧ sdOk s.cc sd') := fun e he => by
    unfold f_Reader_readHead_J74 f_Reader_readHead_J167
    rw [at_n hc h6 (by omega), ob_bs, hasClass_eq h5, ob_bs]
    by_cases hcl : 1 ≤ (chx ch len e - 65 + 1).toInt ∧ (chx ch len e - 65 + 1).toInt ≤ s.cc
    · have hlt : e < len := chx_lt (ch := ch) (fun e9 => by
        rw [e9] at hcl
        rw [show ((0 : Int32) - 65 + 1).toInt = -64 by decide] at hcl; omega)
      obtain ⟨c, ec⟩ : ∃ c : Nat, (chx ch len e - 65 + 1).toInt = (c : Int) := ⟨(chx ch len e - 65 + 1).toInt.toNat, by omega⟩
      have ecn := nI_z ec (by omega)
      rw [decide_eq_true hcl, if_neg b2i_t, ob_iv_i (by decide), ob_iv_i (by decide), ob_iv_i (by decide), ecn, nI_1]
      have hsd : sdOk s.cc (upd (upd (upd sd (0 : Int32).toNatClampNeg (nI c)) (1 : Int32).toNatClampNeg 0) (2 : Int32).toNatClampNeg 0) := fun v hv => by
        rw [show (2 : Int32).toNatClampNeg = 2 from rfl, show (1 : Int32).toNatClampNeg = 1 from rfl, show (0 : Int32).toNatClampNeg = 0 from rfl]
        rcases (show v = 0 ∨ v = 1 ∨ v = 2 by omega) with rfl | rfl | rfl
        · rw [pk_un (by omega), pk_un (by omega), pk_us]; exact ⟨c, rfl, by omega⟩
        · rw [pk_un (by omega), pk_us]; exact ⟨0, rfl, by omega⟩
        · rw [pk_us]; exact ⟨0, rfl, by omega⟩
      split
      · obtain ⟨r, b, led', g1, -⟩ := R_path h hc h6 (a := 1) (by omega) hsd led
        have g1' : f_Reader_readPath 1 led (nI len) ch _ (nI s.fc) s.xab s.xow s.xkd s.xtg = some (r, nI b, led') := g1
        rw [g1', ob_bs]
        dsimp only
        split
        · exact ⟨1, _, _, _, _, _, rfl, fun _ => ⟨⟨e + 1, rfl, by omega⟩, ⟨c, rfl, by omega, by omega⟩, hcr, hsd⟩⟩
        · exact ⟨0, _, _, _, _, _, rfl, fun hh => absurd rfl hh⟩
      · exact ⟨1, _, _, _, _, _, rfl, fun _ => ⟨⟨e + 1, rfl, by omega⟩, ⟨c, rfl, by omega, by omega⟩, hcr, hsd⟩⟩
    · rw [decide_eq_false hcl, if_pos b2i_f]
      exact ⟨0, _, _, _, _, _, rfl, fun hh => absurd rfl hh⟩
  have j53 : ∃ (r pl' led' ask' mod : Int32) (sd' : Nat → Int32), f_Reader_readHead_J53 (nI len) ch (nI s.cc) (nI s.fc) s.xab s.xow s.xkd s.xtg pl led ask (chx ch len 0) sd = some (r, pl', led', ask', mod, sd') ∧ (¬ r = 0 → (∃ b : Nat, pl' = nI b ∧ b ≤ 61) ∧ (∃ c : Nat, ask' = nI c ∧ 1 ≤ c ∧ c ≤ s.cc) ∧ (0 ≤ mod.toInt ∧ mod.toInt < 65536) ∧ sdOk s.cc sd') := by
    unfold f_Reader_readHead_J53 f_Reader_endOfPath
    split
    · obtain ⟨e', k1, k2⟩ := R_end hc h6 1000 0 2 (by omega) (by omega) (by omega)
      have k1' : f_Reader_endOfPath_L6 (nI len) ch 1000 (1 + 1) 0 = some (nI e') := k1
      rw [k1', ob_bs]; exact j74 e' k2
    · exact j74 1 (by omega)
  unfold f_Reader_readHead
  have e0 : f_Text_at (nI len) ch 0 = some (chx ch len 0) := at_n hc h6 (p := 0) (by omega)
  rw [e0, ob_bs, ob_nc_i hcr]
  repeat' split
  all_goals first | exact j53 | exact ⟨0, _, _, _, _, _, rfl, fun hh => absurd rfl hh⟩
theorem R_question {s : CS} (h : rCore s) {ch : Nat → Int32} {len : Nat} (hc : chOk ch) (h6 : len ≤ 60) (pl led ask : Int32) (sd kd inn nx num lf rt : Nat → Int32) : ∃ (r pl' led' nc root ask' mod : Int32) (sd' kd' inn' nx' num' lf' rt' : Nat → Int32), f_Reader_readQuestion pl led ask (nI s.cc) (nI s.fc) (nI len) ch sd s.xab s.xow s.xkd s.xtg kd inn nx num lf rt = some (r, pl', led', nc, root, ask', mod, sd', kd', inn', nx', num', lf', rt') ∧ (¬ r = 0 → xqOk s.cc nc root ask' mod (nI len) ch kd' inn' nx' lf' rt') := by
  unfold f_Reader_readQuestion f_Question_clear
  obtain ⟨r, pl1, led1, ask1, mod, sd1, g1, g2⟩ := R_head h hc h6 pl led ask sd
  rw [ob_bs, g1, ob_bs]
  dsimp only
  have w0 : wfX (chx ch len) 0 kd inn nx lf rt := ⟨by omega, fun j hj => by omega⟩
  by_cases hr : r = 0
  · rw [if_pos hr]; exact ⟨0, _, _, _, _, _, _, _, _, _, _, _, _, _, rfl, fun hh => absurd rfl hh⟩
  · rw [if_neg hr]
    obtain ⟨⟨b, rfl, hb⟩, ha, hm, hsd⟩ := g2 hr
    by_cases hend : nI b = nI len
    · rw [if_pos hend]
      exact ⟨1, _, _, _, _, _, _, _, _, _, _, _, _, _, rfl, fun _ => ⟨⟨len, 0, rfl, h6, rfl, w0, Or.inl rfl⟩, hc, ha, hm⟩⟩
    · rw [if_neg hend, take_n hc h6 (by omega), ob_bs]
      dsimp only
      by_cases h63 : chx ch len b = 63
      · rw [if_pos h63]
        have G := grX_all h hc h6 70 (by omega)
        have hL := G.lst 0 0 (b + 1) 0 led1 (-1) ask1 mod kd inn nx num sd1 lf rt (by omega) (by omega) (by omega) (by omega) hsd w0
        obtain ⟨r2, b2, led2, n2, kd2, inn2, nx2, num2, sd2, lf2, rt2, e, a1, a2, a3, a4, a5, a6⟩ := hL
        have e' : f_Reader_readList 70 (nI (b + 1)) led1 0 (-1) ask1 mod kd inn nx (nI len) ch (nI s.cc) (nI s.fc) num sd1 s.xab s.xow s.xkd s.xtg lf rt 0 0 = some (r2, nI b2, led2, nI n2, kd2, inn2, nx2, num2, sd2, lf2, rt2) := e
        rw [e', ob_bs]
        dsimp only
        rcases a2 with rfl | ⟨⟨m, m1, rfl, m3⟩, hbl⟩
        · rw [if_pos rfl]; exact ⟨0, _, _, _, _, _, _, _, _, _, _, _, _, _, rfl, fun hh => absurd rfl hh⟩
        · have hn2 := a4.1
          rw [if_neg (nI_m1 (by omega))]
          obtain ⟨m2, k1, k2⟩ := m3 rfl
          split
          · exact ⟨1, _, _, _, _, _, _, _, _, _, _, _, _, _, rfl, fun _ => ⟨⟨len, n2, rfl, h6, rfl, a4, Or.inr ⟨m, m2, m1, k1, rfl, k2⟩⟩, hc, ha, hm⟩⟩
          · exact ⟨0, _, _, _, _, _, _, _, _, _, _, _, _, _, rfl, fun hh => absurd rfl hh⟩
      · rw [if_neg h63]; exact ⟨0, _, _, _, _, _, _, _, _, _, _, _, _, _, rfl, fun hh => absurd rfl hh⟩

theorem fit_c {x : Int32} (h : 0 ≤ x.toInt ∧ x.toInt < 65536) : fits .char (.int x) = true := (ob_nc_g (x := x) (a := some ()) (r := ()) (by rw [ob_nc_i h])).1.2
theorem R_copy {d : Nat} {dch tch : Nat → Int32} (hc : chOk dch) : ∃ tch' : Nat → Int32, f_Text_copyFrom (nI d) dch tch = some (nI d, tch') ∧ chOk tch' := by
  unfold f_Text_copyFrom ob_fa
  rw [if_pos (List.all_eq_true.mpr (fun i hi => fit_c (by
    have hi2 := List.mem_range.mp hi
    have e : (0 : Int32).toNatClampNeg + i = i := by rw [show (0 : Int32).toNatClampNeg = 0 from rfl]; omega
    rw [e]; exact hc i hi2)))]
  refine ⟨_, rfl, fun i hi => ?_⟩
  rw [show (0 : Int32).toNatClampNeg = 0 from rfl, show (60 : Int32).toNatClampNeg = 60 from rfl, cpy0 dch tch 60 hi]; exact hc i hi
theorem R_prepare {s : CS} (h : rCore s) {k d : Nat} (hk : k ≤ 12) (hd : d ≤ 60) {dch : Nat → Int32} (hc : chOk dch) (aq aqt : Nat) (nc root asked mode tl : Int32) (tch : Nat → Int32) (rq rx : Value) (pl led : Int32) (sd kd inn nx num lf rt : Nat → Int32) : ∃ (r : Int32) (k' : Nat) (nc' root' ask' mode' tl' : Int32) (tch' : Nat → Int32) (rq' rx' : Value) (pl' led' : Int32) (sd' kd' inn' nx' num' lf' rt' : Nat → Int32), f_OB_prepare aq aqt (nI k) s.dn nc root asked mode (nI d) tl dch tch rq rx pl led (nI s.cc) (nI s.fc) sd s.xab s.xow s.xkd s.xtg kd inn nx num lf rt = some (r, nI k', nc', root', ask', mode', tl', tch', rq', rx', pl', led', sd', kd', inn', nx', num', lf', rt') ∧ (k' = k ∨ (k' = k + 1 ∧ k < 12 ∧ xqOk s.cc nc' root' ask' mode' tl' tch' kd' inn' nx' lf' rt')) := by
  unfold f_OB_prepare f_OB_spareQuestion f_OB_spareQuestion_J28
  by_cases hdn : s.dn = 0
  · rw [if_pos hdn]
    have hg : 0 ≤ (nI k).toInt ∧ (nI k).toInt < (13 : Nat) := by rw [nI_toInt (by omega)]; omega
    obtain ⟨tch1, e1, hc1⟩ := R_copy (d := d) (tch := tch) hc
    obtain ⟨r, pl1, led1, nc1, root1, ask1, mod1, sd1, kd1, inn1, nx1, num1, lf1, rt1, e2, hq⟩ := R_question h hc1 hd pl led asked sd kd inn nx num lf rt
    rw [ob_iv_i hg, ob_iv_i hg, ob_bs, e1, ob_bs]
    dsimp only
    rw [e2, ob_bs]
    dsimp only
    by_cases hr : r = 0
    · rw [if_pos hr]; exact ⟨_, k, _, _, _, _, _, _, _, _, _, _, _, _, _, _, _, _, _, rfl, Or.inl rfl⟩
    · rw [if_neg hr]
      by_cases h12 : k = 12
      · rw [if_pos (show nI k = 12 by rw [h12]; rfl)]; exact ⟨_, k, _, _, _, _, _, _, _, _, _, _, _, _, _, _, _, _, _, rfl, Or.inl rfl⟩
      · have hne : ¬ nI k = 12 := fun h9 => h12 ((nI_eq (by omega) (by decide)).mp h9)
        rw [if_neg hne, nI_1]; exact ⟨_, k + 1, _, _, _, _, _, _, _, _, _, _, _, _, _, _, _, _, _, rfl, Or.inr ⟨rfl, by omega, hq hr⟩⟩
  · rw [if_neg hdn]; exact ⟨_, k, _, _, _, _, _, _, _, _, _, _, _, _, _, _, _, _, _, rfl, Or.inl rfl⟩
theorem valueOf_any (v : Nat → Int64) (z f : Int32) : ∃ w : Int64, f_Image_valueOf v z f = some w := by
  unfold f_Image_valueOf
  by_cases h1 : z < 1
  · rw [if_pos h1]; exact ⟨_, rfl⟩
  · rw [if_neg h1]
    by_cases h2 : 62 < z
    · rw [if_pos h2]; exact ⟨_, rfl⟩
    · rw [if_neg h2]
      by_cases h3 : f < 0
      · rw [if_pos h3]; exact ⟨_, rfl⟩
      · rw [if_neg h3]
        by_cases h4 : f < 8
        · rw [Int32.lt_iff_toInt_lt, i1] at h1
          rw [Int32.lt_iff_toInt_lt, i62] at h2
          rw [Int32.lt_iff_toInt_lt, i0] at h3
          have h4' := h4
          rw [Int32.lt_iff_toInt_lt, show (8 : Int32).toInt = 8 by decide] at h4'
          have e1 := nI_z (z := z) (k := z.toInt.toNat) (by omega) (by omega)
          have e2 := nI_z (z := f) (k := f.toInt.toNat) (by omega) (by omega)
          rw [if_pos h4, e1, e2, show (8 : Int32) = nI 8 from rfl, pk_mul, nI_add, ob_iv_i (by rw [nI_toInt (by omega)]; omega)]
          exact ⟨_, rfl⟩
        · rw [if_neg h4]; exact ⟨_, rfl⟩
theorem J_val {ch : Nat → Int32} {len : Nat} (hc : chOk ch) (h6 : len ≤ 60) (num bnd : Nat → Int32) (xv : Nat → Int64) {p : Nat} (hp : p < 60) : ∃ w : Int64, f_Judge_valueFrom (nI len) ch num bnd xv (nI p) = some w := by
  have loop : ∀ (f i : Nat) (x4 : Int64) (x6 : Int32), i ≤ 60 → 60 - i < f → ∃ w : Int64, f_Judge_valueFrom_L62 (nI len) ch xv f x4 x6 (nI i) = some w := by
    intro f
    induction f with
    | zero => intro i x4 x6 _ h9; omega
    | succ f ih =>
      intro i x4 x6 hi h9
      show ∃ w : Int64, f_Judge_valueFrom_B62 (nI len) ch xv (f_Judge_valueFrom_L62 (nI len) ch xv f) x4 x6 (nI i) = some w
      unfold f_Judge_valueFrom_B62
      by_cases h60 : i = 60
      · rw [if_pos (show (60 : Int32) ≤ nI i from nI_le (a := 60) (by omega) (by omega))]; exact ⟨_, rfl⟩
      · obtain ⟨r1, e1, -⟩ := at_x hc h6 x6
        obtain ⟨r2, e2, -⟩ := at_x hc h6 (x6 + 1)
        obtain ⟨w, e3⟩ := valueOf_any xv x4.toInt32 (r2 - 97)
        rw [if_neg (show ¬ (60 : Int32) ≤ nI i from nI_ge (a := i) (b := 60) (by omega) (by omega)), e1, ob_bs, e2, ob_bs, e3, ob_bs, nI_1]
        have g := ih (i + 1) w (x6 + 2) (by omega) (by omega)
        repeat' split
        all_goals first | exact g | exact ⟨_, rfl⟩
  unfold f_Judge_valueFrom f_Judge_valueFrom_J34
  rw [at_n hc h6 (by omega), ob_bs, ob_iv_i (by rw [nI_toInt (by omega)]; omega)]
  by_cases h1 : chx ch len p = 110
  · rw [if_pos h1]; exact ⟨_, rfl⟩
  · rw [if_neg h1]
    by_cases h2 : chx ch len p - 120 < 0
    · rw [if_pos h2]; exact ⟨_, rfl⟩
    · rw [if_neg h2]
      by_cases h3 : chx ch len p - 120 < 3
      · rw [if_pos h3]
        rw [Int32.lt_iff_toInt_lt, i0] at h2
        rw [Int32.lt_iff_toInt_lt, i3] at h3
        rw [ob_iv_i (by omega)]
        exact loop 1000 0 _ _ (by omega) (by omega)
      · rw [if_neg h3]; exact ⟨_, rfl⟩
theorem J_equal {ch : Nat → Int32} {len : Nat} (hc : chOk ch) (h6 : len ≤ 60) (num bnd : Nat → Int32) (xv : Nat → Int64) {lf rt : Nat → Int32} {j l r : Nat} (hj : j < 60) (hl : l < 60) (hr : r < 60) (e1 : lf j = nI l) (e2 : rt j = nI r) : ∃ b : Bool, f_Judge_isEqual lf (nI len) ch num bnd xv rt (nI j) = some (b2i b) := by
  unfold f_Judge_isEqual
  obtain ⟨w1, g1⟩ := J_val hc h6 num bnd xv hl
  obtain ⟨w2, g2⟩ := J_val hc h6 num bnd xv hr
  have hg : 0 ≤ (nI j).toInt ∧ (nI j).toInt < (60 : Nat) := by rw [nI_toInt (by omega)]; omega
  simp only [ob_iv_i hg, nI_clamp (show j < 2 ^ 31 by omega), e1, e2, g1, g2, ob_bs]
  repeat' split
  all_goals first | exact ⟨false, rfl⟩ | exact ⟨true, rfl⟩
theorem J_order {ch : Nat → Int32} {len : Nat} (hc : chOk ch) (h6 : len ≤ 60) (num bnd kd : Nat → Int32) (xv : Nat → Int64) {lf rt : Nat → Int32} {j l r : Nat} (hj : j < 60) (hl : l < 60) (hr : r < 60) (e1 : lf j = nI l) (e2 : rt j = nI r) : ∃ b : Bool, f_Judge_isInOrder lf (nI len) ch num bnd xv rt kd (nI j) = some (b2i b) := by
  unfold f_Judge_isInOrder
  obtain ⟨w1, g1⟩ := J_val hc h6 num bnd xv hl
  obtain ⟨w2, g2⟩ := J_val hc h6 num bnd xv hr
  have hg : 0 ≤ (nI j).toInt ∧ (nI j).toInt < (60 : Nat) := by rw [nI_toInt (by omega)]; omega
  simp only [ob_iv_i hg, nI_clamp (show j < 2 ^ 31 by omega), e1, e2, g1, g2, ob_bs]
  repeat' split
  all_goals first | exact ⟨false, rfl⟩ | exact ⟨true, rfl⟩
abbrev jdX (ch : Nat → Int32) (len n : Nat) (kd inn nx lf rt num : Nat → Int32) (xv : Nat → Int64) (nc rot ask mod : Int32) (d : Nat) : Prop := (∀ (j l : Nat) (bnd : Nat → Int32), j < n → l ≤ 29 → 2 * (29 - l) + 1 ≤ d → ∃ (b : Bool) (bnd' : Nat → Int32), f_Judge_isTrue d nc rot ask mod kd (nI len) lf ch num bnd xv rt inn nx (nI j) (nI l) = some (b2i b, bnd')) ∧ (∀ (j l : Nat) (x : Int32) (bnd : Nat → Int32), j < n → l ≤ 28 → 2 * (29 - l) ≤ d → ∃ (b : Bool) (bnd' : Nat → Int32), f_Judge_hasInner d nc rot ask mod kd (nI len) lf ch num bnd xv rt inn nx (nI j) x (nI l) = some (b2i b, bnd')) ∧ (∀ (j l : Nat) (bnd : Nat → Int32), j < n → kd j = 3 → l ≤ 28 → 2 * (29 - l) ≤ d → ∃ (b : Bool) (bnd' : Nat → Int32), f_Judge_isTrueForSome d nc rot ask mod kd (nI len) lf ch num bnd xv rt inn nx (nI j) (nI l) = some (b2i b, bnd'))
theorem jdX.tr {ch : Nat → Int32} {len n : Nat} {kd inn nx lf rt num : Nat → Int32} {xv : Nat → Int64} {nc rot ask mod : Int32} {d : Nat} (h9z : jdX ch len n kd inn nx lf rt num xv nc rot ask mod d) : ∀ (j l : Nat) (bnd : Nat → Int32), j < n → l ≤ 29 → 2 * (29 - l) + 1 ≤ d → ∃ (b : Bool) (bnd' : Nat → Int32), f_Judge_isTrue d nc rot ask mod kd (nI len) lf ch num bnd xv rt inn nx (nI j) (nI l) = some (b2i b, bnd') := h9z.1
theorem jdX.inr {ch : Nat → Int32} {len n : Nat} {kd inn nx lf rt num : Nat → Int32} {xv : Nat → Int64} {nc rot ask mod : Int32} {d : Nat} (h9z : jdX ch len n kd inn nx lf rt num xv nc rot ask mod d) : ∀ (j l : Nat) (x : Int32) (bnd : Nat → Int32), j < n → l ≤ 28 → 2 * (29 - l) ≤ d → ∃ (b : Bool) (bnd' : Nat → Int32), f_Judge_hasInner d nc rot ask mod kd (nI len) lf ch num bnd xv rt inn nx (nI j) x (nI l) = some (b2i b, bnd') := h9z.2.1
theorem jdX.som {ch : Nat → Int32} {len n : Nat} {kd inn nx lf rt num : Nat → Int32} {xv : Nat → Int64} {nc rot ask mod : Int32} {d : Nat} (h9z : jdX ch len n kd inn nx lf rt num xv nc rot ask mod d) : ∀ (j l : Nat) (bnd : Nat → Int32), j < n → kd j = 3 → l ≤ 28 → 2 * (29 - l) ≤ d → ∃ (b : Bool) (bnd' : Nat → Int32), f_Judge_isTrueForSome d nc rot ask mod kd (nI len) lf ch num bnd xv rt inn nx (nI j) (nI l) = some (b2i b, bnd') := h9z.2.2
theorem jdX_all {ch : Nat → Int32} {len n : Nat} (hc : chOk ch) (h6 : len ≤ 60) {kd inn nx lf rt : Nat → Int32} (hw : wfX (chx ch len) n kd inn nx lf rt) (num : Nat → Int32) (xv : Nat → Int64) (nc rot ask mod : Int32) : ∀ d, jdX ch len n kd inn nx lf rt num xv nc rot ask mod d := by
  have hn := hw.1
  intro d
  induction d with
  | zero => exact ⟨fun _ _ _ _ _ h9 => by omega, fun _ _ _ _ _ _ h9 => by omega, fun _ _ _ _ _ _ h9 => by omega⟩
  | succ d G =>
    refine ⟨?_, ?_, ?_⟩
    · intro j l bnd hj hl hD
      show ∃ (b : Bool) (bnd' : Nat → Int32), b_Judge_isTrue (f_Judge_isTrue d) (f_Judge_hasInner d) (f_Judge_isTrueForSome d) nc rot ask mod kd (nI len) lf ch num bnd xv rt inn nx (nI j) (nI l) = some (b2i b, bnd')
      unfold b_Judge_isTrue
      by_cases hl28 : l ≤ 28
      · have hg : 0 ≤ (nI j).toInt ∧ (nI j).toInt < (60 : Nat) := by rw [nI_toInt (by omega)]; omega
        obtain ⟨n1, n2, n3, n4⟩ := hw.2 j hj
        rw [if_pos (show nI l ≤ 28 from nI_le (b := 28) hl28 (by omega)), ob_iv_i hg, nI_clamp (by omega)]
        by_cases k0 : kd j = 0
        · rw [if_pos k0]
          obtain ⟨b, bnd', g⟩ := G.inr j l 1 bnd hj hl28 (by omega)
          rw [g, ob_bs]; dsimp only; rw [ob_nz_i (b2i_nz b)]; exact ⟨b, bnd', rfl⟩
        · rw [if_neg k0]
          by_cases k1 : kd j = 1
          · rw [if_pos k1]
            obtain ⟨b, bnd', g⟩ := G.inr j l 0 bnd hj hl28 (by omega)
            rw [g, ob_bs]; split
            · exact ⟨true, _, rfl⟩
            · exact ⟨false, _, rfl⟩
          · rw [if_neg k1]
            by_cases k2 : kd j = 2
            · obtain ⟨m, m1, m2⟩ := n3 (Or.inl k2)
              obtain ⟨b, bnd', g⟩ := G.tr m (l + 1) bnd m1 (by omega) (by omega)
              rw [if_pos k2, ob_iv_i hg, m2, nI_1, g, ob_bs]; split
              · exact ⟨true, _, rfl⟩
              · exact ⟨false, _, rfl⟩
            · rw [if_neg k2]
              by_cases k3 : kd j = 3
              · obtain ⟨b, bnd', g⟩ := G.som j l bnd hj k3 hl28 (by omega)
                rw [if_pos k3, g, ob_bs]; dsimp only; rw [ob_nz_i (b2i_nz b)]; exact ⟨b, bnd', rfl⟩
              · rw [if_neg k3]
                rcases n4 with n4 | n4 | n4 | ⟨a, r, a1, a2, a3, a4, -⟩
                · exact absurd n4 k0
                · exact absurd n4 k1
                · exact absurd n4 k2
                · by_cases k4 : kd j = 4
                  · obtain ⟨b, g⟩ := J_equal hc h6 num bnd xv (j := j) (by omega) a1 a2 a3 a4
                    rw [if_pos k4, g, ob_bs, ob_nz_i (b2i_nz b)]; exact ⟨b, bnd, rfl⟩
                  · obtain ⟨b, g⟩ := J_order hc h6 num bnd kd xv (j := j) (by omega) a1 a2 a3 a4
                    rw [if_neg k4, g, ob_bs, ob_nz_i (b2i_nz b)]; exact ⟨b, bnd, rfl⟩
      · rw [if_neg (show ¬ nI l ≤ 28 from nI_ge (a := 28) (by omega) (by omega))]; exact ⟨false, bnd, rfl⟩
    · intro j l x bnd hj hl hD
      show ∃ (b : Bool) (bnd' : Nat → Int32), b_Judge_hasInner (f_Judge_isTrue d) (f_Judge_hasInner d) (f_Judge_isTrueForSome d) nc rot ask mod kd (nI len) lf ch num bnd xv rt inn nx (nI j) x (nI l) = some (b2i b, bnd')
      unfold b_Judge_hasInner
      have loop : ∀ (f i : Nat) (y : Int32) (bnd : Nat → Int32), i ≤ 60 → 60 - i < f → (y = -1 ∨ ∃ m, m < n ∧ y = nI m) → ∃ (b : Bool) (bnd' : Nat → Int32), f_Judge_hasInner_L14 (f_Judge_isTrue d) nc rot ask mod kd (nI len) lf ch num xv rt inn nx (nI l) x f y (nI i) bnd = some (b2i b, bnd') := by
        intro f
        induction f with
        | zero => intro i y bnd _ h9; omega
        | succ f ih =>
          intro i y bnd hi h9 hy
          show ∃ (b : Bool) (bnd' : Nat → Int32), f_Judge_hasInner_B14 (f_Judge_isTrue d) nc rot ask mod kd (nI len) lf ch num xv rt inn nx (nI l) x (f_Judge_hasInner_L14 (f_Judge_isTrue d) nc rot ask mod kd (nI len) lf ch num xv rt inn nx (nI l) x f) y (nI i) bnd = some (b2i b, bnd')
          unfold f_Judge_hasInner_B14
          by_cases h60 : i = 60
          · rw [if_pos (show (60 : Int32) ≤ nI i from nI_le (a := 60) (by omega) (by omega))]; exact ⟨false, _, rfl⟩
          · rw [if_neg (show ¬ (60 : Int32) ≤ nI i from nI_ge (a := i) (b := 60) (by omega) (by omega))]
            rcases hy with rfl | ⟨m, m1, rfl⟩
            · rw [if_pos rfl]; exact ⟨false, _, rfl⟩
            · obtain ⟨b, bnd', g⟩ := G.tr m (l + 1) bnd m1 (by omega) (by omega)
              rw [if_neg (nI_m1 (by omega)), nI_1, g, ob_bs]
              split
              · exact ⟨true, _, rfl⟩
              · rw [ob_iv_i (by rw [nI_toInt (by omega)]; omega), nI_1, nI_clamp (by omega)]
                exact ih (i + 1) _ _ (by omega) (by omega) (hw.2 m m1).dx
      rw [ob_iv_i (by rw [nI_toInt (by omega)]; omega), nI_clamp (by omega)]
      exact loop 1000 0 _ bnd (by omega) (by omega) (hw.2 j hj).di
    · intro j l bnd hj hk hl hD
      show ∃ (b : Bool) (bnd' : Nat → Int32), b_Judge_isTrueForSome (f_Judge_isTrue d) (f_Judge_hasInner d) (f_Judge_isTrueForSome d) nc rot ask mod kd (nI len) lf ch num bnd xv rt inn nx (nI j) (nI l) = some (b2i b, bnd')
      unfold b_Judge_isTrueForSome
      have hg : 0 ≤ (nI j).toInt ∧ (nI j).toInt < (60 : Nat) := by rw [nI_toInt (by omega)]; omega
      obtain ⟨n1, n2, n3, n4⟩ := hw.2 j hj
      obtain ⟨m, m1, m2⟩ := n3 (Or.inr hk)
      rcases n4 with n4 | n4 | n4 | ⟨a, r, a1, a2, a3, a4, a5⟩
      · rw [hk] at n4; exact absurd n4 (by decide)
      · rw [hk] at n4; exact absurd n4 (by decide)
      · rw [hk] at n4; exact absurd n4 (by decide)
      · obtain ⟨v, v1, v2⟩ := a5 hk
        obtain ⟨w, g⟩ := J_val hc h6 num bnd xv a2
        have hgv : 0 ≤ (nI v).toInt ∧ (nI v).toInt < (3 : Nat) := by rw [nI_toInt (by omega)]; omega
        simp only [ob_iv_i hg, nI_clamp (show j < 2 ^ 31 by omega), a4, a3, g, ob_bs, at_n hc h6 (show a < 2 ^ 31 by omega), v2]
        split
        · exact ⟨false, _, rfl⟩
        · have loop : ∀ (f i : Nat) (bnd : Nat → Int32), 1 ≤ i → i ≤ 63 → 63 - i < f → ∃ (b : Bool) (bnd' : Nat → Int32), f_Judge_isTrueForSome_L51 (nI j) (f_Judge_isTrue d) nc rot ask mod kd (nI len) lf ch num xv rt inn nx (nI l) f w (nI v) (nI i) bnd = some (b2i b, bnd') := by
            intro f
            induction f with
            | zero => intro i bnd _ _ h9; omega
            | succ f ih =>
              intro i bnd h1 hi h9
              show ∃ (b : Bool) (bnd' : Nat → Int32), f_Judge_isTrueForSome_B51 (nI j) (f_Judge_isTrue d) nc rot ask mod kd (nI len) lf ch num xv rt inn nx (nI l) (f_Judge_isTrueForSome_L51 (nI j) (f_Judge_isTrue d) nc rot ask mod kd (nI len) lf ch num xv rt inn nx (nI l) f) w (nI v) (nI i) bnd = some (b2i b, bnd')
              unfold f_Judge_isTrueForSome_B51
              by_cases h63 : i = 63
              · rw [if_pos (show (62 : Int32) < nI i from nI_lt (a := 62) (by omega) (by omega))]; exact ⟨false, _, rfl⟩
              · rw [if_neg (show ¬ (62 : Int32) < nI i from nI_nlt (b := i) (a := 62) (by omega) (by omega)), contains_eq, ob_bs, nI_1]
                split
                · exact ih (i + 1) bnd (by omega) (by omega) (by omega)
                · obtain ⟨b, bnd', g⟩ := G.tr m (l + 1) (upd bnd v (nI i)) m1 (by omega) (by omega)
                  rw [ob_iv_i hgv, ob_iv_i hg, nI_clamp (by omega), nI_clamp (by omega), m2, nI_1, g, ob_bs]
                  split
                  · exact ih (i + 1) bnd' (by omega) (by omega) (by omega)
                  · exact ⟨true, _, rfl⟩
          exact loop 1000 1 bnd (by omega) (by omega) (by omega)
theorem I_field {ch : Nat → Int32} {len : Nat} (hc : chOk ch) (h6 : len ≤ 60) (z : Int32) {k : Nat} (hk : k ≤ 3) : ∃ r : Int32, f_Text_fieldOfPath (nI len) ch z (nI k) = some r := by
  have loop : ∀ (f i : Nat), i ≤ k + 1 → k + 1 - i < f → ∃ r : Int32, f_Text_fieldOfPath_L2 (nI k) (nI len) ch z f (nI i) = some r := by
    intro f
    induction f with
    | zero => intro i _ h9; omega
    | succ f ih =>
      intro i hi h9
      show ∃ r : Int32, f_Text_fieldOfPath_B2 (nI k) (nI len) ch z (f_Text_fieldOfPath_L2 (nI k) (nI len) ch z f) (nI i) = some r
      unfold f_Text_fieldOfPath_B2
      obtain ⟨r1, e1, -⟩ := at_x hc h6 (z + 2 + 2 * nI k)
      obtain ⟨r2, e2, -⟩ := at_x hc h6 (z + 1 + 2 * nI i)
      rw [e1, e2, ob_bs, ob_bs]
      by_cases hh : k < i
      · rw [if_pos (nI_lt hh (by omega))]; exact ⟨_, rfl⟩
      · rw [if_neg (nI_nlt (by omega) (by omega)), nI_1]
        split
        · exact ih (i + 1) (by omega) (by omega)
        · exact ⟨_, rfl⟩
  exact loop 1000 0 (by omega) (by omega)
theorem I_path {ch : Nat → Int32} {len i : Nat} (hc : chOk ch) (h6 : len ≤ 60) (hi : i < 3) (z : Int32) (fs : Nat → Int32) : ∃ r : Int32, f_Indexes_isPathOf (nI len) ch fs (nI i) z = some r := by
  have loop : ∀ (f k : Nat), k ≤ 3 → 3 - k < f → ∃ r : Int32, f_Indexes_isPathOf_L3 (nI len) ch z (nI i) fs f (nI k) = some r := by
    intro f
    induction f with
    | zero => intro k _ h9; omega
    | succ f ih =>
      intro k hk h9
      show ∃ r : Int32, f_Indexes_isPathOf_B3 (nI len) ch z (nI i) fs (f_Indexes_isPathOf_L3 (nI len) ch z (nI i) fs f) (nI k) = some r
      unfold f_Indexes_isPathOf_B3
      obtain ⟨r1, e1⟩ := I_field hc h6 z (k := 3) (by omega)
      obtain ⟨r2, e2⟩ := I_field hc h6 z (k := k) hk
      have e1' : f_Text_fieldOfPath (nI len) ch z 3 = some r1 := e1
      rw [e1', e2, ob_bs, ob_bs]
      by_cases h3 : k = 3
      · rw [if_pos (show (3 : Int32) ≤ nI k from nI_le (a := 3) (by omega) (by omega))]
        split <;> exact ⟨_, rfl⟩
      · rw [if_neg (show ¬ (3 : Int32) ≤ nI k from nI_ge (a := k) (b := 3) (by omega) (by omega)), show (3 : Int32) = nI 3 from rfl, pk_mul, nI_add, ob_iv_i (by rw [nI_toInt (by omega)]; omega), nI_1]
        split
        · exact ih (k + 1) (by omega) (by omega)
        · exact ⟨_, rfl⟩
  exact loop 1000 0 (by omega) (by omega)
theorem I_hasPath {ch : Nat → Int32} {len x : Nat} (hc : chOk ch) (h6 : len ≤ 60) (hx : x ≤ 3) (ask z : Int32) (cs fs : Nat → Int32) : ∃ r : Int32, f_Indexes_hasPath (nI x) cs ask (nI len) ch fs z = some r := by
  have loop : ∀ (f i : Nat), i ≤ x → x - i < f → ∃ r : Int32, f_Indexes_hasPath_L2 (nI x) cs ask (nI len) ch fs z f (nI i) = some r := by
    intro f
    induction f with
    | zero => intro i _ h9; omega
    | succ f ih =>
      intro i hi h9
      show ∃ r : Int32, f_Indexes_hasPath_B2 (nI x) cs ask (nI len) ch fs z (f_Indexes_hasPath_L2 (nI x) cs ask (nI len) ch fs z f) (nI i) = some r
      unfold f_Indexes_hasPath_B2
      by_cases hh : x ≤ i
      · rw [if_pos (nI_le hh (by omega))]; exact ⟨_, rfl⟩
      · obtain ⟨r, e⟩ := I_path hc h6 (i := i) (by omega) z fs
        rw [if_neg (nI_ge (by omega) (by omega)), ob_iv_i (by rw [nI_toInt (by omega)]; omega), e, ob_bs, nI_1]
        have g := ih (i + 1) (by omega) (by omega)
        repeat' split
        all_goals first | exact g | exact ⟨_, rfl⟩
  exact loop 1000 0 (by omega) (by omega)
theorem I_keyForm {ch : Nat → Int32} {len m : Nat} (hc : chOk ch) (h6 : len ≤ 60) (hm : m < 60) (kd lf rt : Nat → Int32) : ∃ r : Int32, f_Question_isKeyForm kd lf (nI len) ch rt (nI m) = some r ∧ (¬ r = 0 → kd m = 4) := by
  unfold f_Question_isKeyForm
  have hg : 0 ≤ (nI m).toInt ∧ (nI m).toInt < (60 : Nat) := by rw [nI_toInt (by omega)]; omega
  obtain ⟨r1, e1, -⟩ := at_x hc h6 (lf m)
  obtain ⟨r2, e2, -⟩ := at_x hc h6 (rt m)
  simp only [ob_iv_i hg, nI_clamp (show m < 2 ^ 31 by omega), e1, e2, ob_bs, isDigit_eq]
  by_cases h4 : kd m = 4
  · rw [if_pos h4]
    repeat' split
    all_goals exact ⟨_, rfl, fun _ => h4⟩
  · rw [if_neg h4]; exact ⟨0, rfl, fun hh => absurd rfl hh⟩
theorem I_keyOf {cc x : Nat} (hx : x ≤ 3) {nc root asked mode tl : Int32} {tch kd inn nx lf rt : Nat → Int32} (hq : xqOk cc nc root asked mode tl tch kd inn nx lf rt) (cs fs : Nat → Int32) : ∃ key : Int32, f_Indexes_keyOf root asked inn nx tl kd lf tch rt (nI x) cs fs = some key ∧ (key = -1 ∨ ∃ m l r : Nat, m < 60 ∧ l < 60 ∧ r < 60 ∧ key = nI m ∧ lf m = nI l ∧ rt m = nI r) := by
  obtain ⟨⟨len, n, rfl, h6, rfl, hw, hr⟩, hc, -, -⟩ := hq
  have hn := hw.1
  unfold f_Indexes_keyOf
  have loop : ∀ (f i : Nat) (y : Int32), i ≤ 60 → 60 - i < f → (y = -1 ∨ ∃ m, m < n ∧ y = nI m) → ∃ key : Int32, f_Indexes_keyOf_L42 kd lf (nI len) tch rt nx (nI x) cs asked fs f y (nI i) = some key ∧ (key = -1 ∨ ∃ m l r : Nat, m < 60 ∧ l < 60 ∧ r < 60 ∧ key = nI m ∧ lf m = nI l ∧ rt m = nI r) := by
    intro f
    induction f with
    | zero => intro i y _ h9; omega
    | succ f ih =>
      intro i y hi h9 hy
      show ∃ key : Int32, f_Indexes_keyOf_B42 kd lf (nI len) tch rt nx (nI x) cs asked fs (f_Indexes_keyOf_L42 kd lf (nI len) tch rt nx (nI x) cs asked fs f) y (nI i) = some key ∧ _
      unfold f_Indexes_keyOf_B42 f_Indexes_keyOf_J78
      by_cases h60 : i = 60
      · rw [if_pos (show (60 : Int32) ≤ nI i from nI_le (a := 60) (by omega) (by omega))]; exact ⟨-1, rfl, Or.inl rfl⟩
      · rw [if_neg (show ¬ (60 : Int32) ≤ nI i from nI_ge (a := i) (b := 60) (by omega) (by omega))]
        rcases hy with rfl | ⟨m, m1, rfl⟩
        · rw [if_pos rfl]; exact ⟨-1, rfl, Or.inl rfl⟩
        · have hg : 0 ≤ (nI m).toInt ∧ (nI m).toInt < (60 : Nat) := by rw [nI_toInt (by omega)]; omega
          obtain ⟨r1, e1, k4⟩ := I_keyForm hc h6 (m := m) (by omega) kd lf rt
          obtain ⟨r2, e2⟩ := I_hasPath hc h6 hx asked (lf m) cs fs
          rw [if_neg (nI_m1 (by omega)), e1, ob_bs]
          simp only [ob_iv_i hg, nI_clamp (show m < 2 ^ 31 by omega), e2, ob_bs, nI_1]
          have go := ih (i + 1) (nx m) (by omega) (by omega) (hw.2 m m1).dx
          by_cases h0 : r1 = 0
          · rw [if_pos h0]; exact go
          · rw [if_neg h0]
            split
            · exact go
            · refine ⟨nI m, rfl, Or.inr ?_⟩
              have hk := k4 h0
              rcases (hw.2 m m1).dp with d | d | d | ⟨l, r, d1, d2, d3, d4, -⟩
              · rw [hk] at d; exact absurd d (by decide)
              · rw [hk] at d; exact absurd d (by decide)
              · rw [hk] at d; exact absurd d (by decide)
              · exact ⟨m, l, r, by omega, d1, d2, rfl, d3, d4⟩
  rcases hr with rfl | ⟨m, m2, a1, a2, rfl, a4⟩
  · rw [if_pos rfl]; exact ⟨-1, rfl, Or.inl rfl⟩
  · have hg1 : 0 ≤ (nI m).toInt ∧ (nI m).toInt < (60 : Nat) := by rw [nI_toInt (by omega)]; omega
    have hg2 : 0 ≤ (nI m2).toInt ∧ (nI m2).toInt < (60 : Nat) := by rw [nI_toInt (by omega)]; omega
    rw [if_neg (nI_m1 (by omega)), ob_iv_i hg1, nI_clamp (by omega), a4, ob_iv_i hg2, ob_iv_i hg2, nI_clamp (by omega)]
    split
    · exact loop 1000 0 _ (by omega) (by omega) (hw.2 m2 a2).di
    · exact ⟨-1, rfl, Or.inl rfl⟩
theorem isOf_any (ab : Nat → Int32) {c : Nat} (hc : c ≤ 5) (z : Int32) : ∃ b : Bool, f_Schema_isOf ab (nI c) z = some (b2i b) := by
  unfold f_Schema_isOf
  rw [ob_iv_i (by rw [nI_toInt (by omega)]; omega)]
  split
  · exact ⟨false, rfl⟩
  · exact ⟨true, rfl⟩
theorem A_answer {s : CS} (h : rCore s) (hd : s.dn = 0) {nc root asked mode tl : Int32} {tch kd inn nx lf rt : Nat → Int32} (hq : xqOk s.cc nc root asked mode tl tch kd inn nx lf rt) (num : Nat → Int32) (aq : Nat) (xic xif : Nat → Int32) (jq : Value) (bnd : Nat → Int32) : ∃ (mo : Int32) (fi to_ : Int64) (lk : Int32) (jq' : Value) (bnd' : Nat → Int32), f_OB_answerTo aq nc root asked mode s.ix tl inn nx kd lf tch rt xic xif (nI s.fc) s.kv s.xkd s.kn_ s.kc s.xab jq bnd num = some (mo, fi, to_, lk, jq', bnd') := by
  unfold f_OB_answerTo f_Answer_startFor
  obtain ⟨x, hx, ex⟩ := h.ix
  obtain ⟨key, e1, hkey⟩ := I_keyOf hx hq xic xif
  obtain ⟨⟨len, n, rfl, h6, rfl, hw, hr⟩, hc, -, hm⟩ := hq
  have hn := hw.1
  have h5 := rc_5 h
  obtain ⟨K, hK⟩ := h.kp0 (h.dlm hd).2
  obtain ⟨r, -, -, -, r4, -⟩ := reach_same2 h.sch hK h.mk62 h.cls
  rw [ob_nc_i hm, ob_bs, ex, e1, ob_bs, r4, ob_bs]
  dsimp only
  have loop : ∀ (f i : Nat) (jq : Value) (mo : Int32) (fi to_ : Int64) (lk : Int32) (bnd : Nat → Int32), 1 ≤ i → i ≤ 63 → 63 - i < f → ∃ (mo' : Int32) (fi' to' : Int64) (lk' : Int32) (jq' : Value) (bnd' : Nat → Int32), f_OB_answerTo_L35 s.kc s.xab asked (nI len) lf tch num s.kv rt aq (nI n) root mode kd inn nx f key r (nI i) jq mo fi to_ lk bnd = some (mo', fi', to', lk', jq', bnd') := by
    intro f
    induction f with
    | zero => intro i jq mo fi to_ lk bnd _ _ h9; omega
    | succ f ih =>
      intro i jq mo fi to_ lk bnd h1 hi h9
      show ∃ (mo' : Int32) (fi' to' : Int64) (lk' : Int32) (jq' : Value) (bnd' : Nat → Int32), f_OB_answerTo_B35 s.kc s.xab asked (nI len) lf tch num s.kv rt aq (nI n) root mode kd inn nx (f_OB_answerTo_L35 s.kc s.xab asked (nI len) lf tch num s.kv rt aq (nI n) root mode kd inn nx f) key r (nI i) jq mo fi to_ lk bnd = _
      unfold f_OB_answerTo_B35
      by_cases h63 : i = 63
      · rw [if_pos (show (62 : Int32) < nI i from nI_lt (a := 62) (by omega) (by omega))]; exact ⟨_, _, _, _, _, _, rfl⟩
      · have go := fun jq mo fi to_ lk bnd => ih (i + 1) jq mo fi to_ lk bnd (by omega) (by omega) (by omega)
        obtain ⟨c, ec, hc5⟩ : ∃ c : Nat, s.kc i = nI c ∧ c ≤ 5 := by
          have ha := hK.1.2.2.2.1 i h1 (by omega)
          cases ht : tb s.sl i
          · exact ⟨0, by rw [ha, ht]; rfl, by omega⟩
          · have hmk : i ≤ s.mkd := by
              by_cases hh : i ≤ s.mkd
              · exact hh
              · rw [hK.1.2.1 i (by omega)] at ht; cases ht
            exact ⟨s.cl i, by rw [ha, ht]; rfl, by have := (h.cls i h1 hmk).2.2; omega⟩
        obtain ⟨b, eb⟩ := isOf_any s.xab hc5 asked
        rw [if_neg (show ¬ (62 : Int32) < nI i from nI_nlt (b := i) (a := 62) (by omega) (by omega)), contains_eq, ob_bs, nI_1]
        split
        · exact go _ _ _ _ _ _
        · rw [X_classAt _ h1 (by omega), ob_bs, ec, eb, ob_bs]
          split
          · exact go _ _ _ _ _ _
          · unfold f_Judge_turnTo f_Judge_hasKey f_Judge_fits f_Judge_amount f_Answer_add
            rw [ob_iv_i (by decide), ob_bs]
            obtain ⟨kb, ekb⟩ : ∃ kb : Int32, (if key = -1 then some 1 else (f_Judge_isEqual lf (nI len) tch num (upd bnd (0 : Int32).toNatClampNeg (nI i)) s.kv rt key).bind fun o7 => if o7 = 0 then some 0 else some 1) = some kb := by
              rcases hkey with rfl | ⟨m, l, r9, m1, m2, m3, rfl, m5, m6⟩
              · exact ⟨1, if_pos rfl⟩
              · obtain ⟨b9, g9⟩ := J_equal hc h6 num (upd bnd (0 : Int32).toNatClampNeg (nI i)) s.kv m1 m2 m3 m5 m6
                rw [if_neg (nI_m1 (by omega)), g9, ob_bs]
                split <;> exact ⟨_, rfl⟩
            rw [ekb, ob_bs]
            split
            · exact go _ _ _ _ _ _
            · obtain ⟨b2, bnd2, e2⟩ : ∃ (b2 : Int32) (bnd2 : Nat → Int32), (if root = -1 then some ((1 : Int32), upd bnd (0 : Int32).toNatClampNeg (nI i)) else (f_Judge_isTrue 70 (nI n) root asked mode kd (nI len) lf tch num (upd bnd (0 : Int32).toNatClampNeg (nI i)) s.kv rt inn nx root 0).bind fun o20 => if o20.1 = 0 then some (0, o20.2) else some (1, o20.2)) = some (b2, bnd2) := by
                rcases hr with rfl | ⟨m, m2, a1, a2, rfl, a4⟩
                · exact ⟨1, _, if_pos rfl⟩
                · obtain ⟨b9, bnd9, g9⟩ := (jdX_all hc h6 hw num s.kv (nI n) (nI m) asked mode 70).tr m 0 (upd bnd (0 : Int32).toNatClampNeg (nI i)) a1 (by omega) (by omega)
                  have g9' : f_Judge_isTrue 70 (nI n) (nI m) asked mode kd (nI len) lf tch num (upd bnd (0 : Int32).toNatClampNeg (nI i)) s.kv rt inn nx (nI m) 0 = some (b2i b9, bnd9) := g9
                  rw [if_neg (nI_m1 (by omega)), g9', ob_bs]
                  split <;> exact ⟨_, _, rfl⟩
              rw [e2, ob_bs]
              dsimp only
              split
              · exact go _ _ _ _ _ _
              · obtain ⟨w, ew⟩ := J_val hc h6 num bnd2 s.kv (p := 1) (by omega)
                have ew' : f_Judge_valueFrom (nI len) tch num bnd2 s.kv 1 = some w := ew
                rw [ew', ob_bs, (bi_setOf h1 (by omega)).1]
                split
                · split
                  · rw [ob_bs, ob_bs, ob_bs]; exact go _ _ _ _ _ _
                  · rw [ob_bs, ob_bs, ob_bs]; exact go _ _ _ _ _ _
                · rw [ob_bs, ob_bs, ob_bs]; exact go _ _ _ _ _ _
  exact loop 1000 1 jq mode 0 0 0 bnd (by omega) (by omega) (by omega)
theorem A_hit (dn mo : Int32) (fi : Int64) (z : Int32) : ∃ r : Int32, f_OB_hit dn mo fi z = some r := by
  have loop : ∀ (f i : Nat) (x : Int32), 1 ≤ i → i ≤ 63 → 63 - i < f → ∃ r : Int32, f_Answer_idAt_L4 fi z f x (nI i) = some r := by
    intro f
    induction f with
    | zero => intro i x _ _ h9; omega
    | succ f ih =>
      intro i x h1 hi h9
      show ∃ r : Int32, f_Answer_idAt_B4 fi z (f_Answer_idAt_L4 fi z f) x (nI i) = some r
      unfold f_Answer_idAt_B4
      by_cases h63 : i = 63
      · rw [if_pos (show (62 : Int32) < nI i from nI_lt (a := 62) (by omega) (by omega))]; exact ⟨_, rfl⟩
      · rw [if_neg (show ¬ (62 : Int32) < nI i from nI_nlt (b := i) (a := 62) (by omega) (by omega)), contains_eq, ob_bs, nI_1]
        have g0 := ih (i + 1) x (by omega) (by omega) (by omega)
        have g1 := ih (i + 1) (x + 1) (by omega) (by omega) (by omega)
        repeat' split
        all_goals first | exact g0 | exact g1 | exact ⟨_, rfl⟩
  unfold f_OB_hit f_Answer_idAt
  obtain ⟨r, e⟩ := loop 1000 1 0 (by omega) (by omega) (by omega)
  have e' : f_Answer_idAt_L4 fi z 1000 0 1 = some r := e
  rw [e', ob_bs]
  repeat' split
  all_goals exact ⟨_, rfl⟩
theorem A_look {s : CS} (h : rCore s) (w hf lk z : Int32) : ∃ r : Int32, f_OB_look (nI s.mkd) w s.ar hf s.dn s.op s.kc (nI s.fc) s.kv s.xkd s.kn_ lk z = some r := by
  unfold f_OB_look
  by_cases hd : s.dn = 0
  · obtain ⟨K, hK⟩ := h.kp0 (h.dlm hd).2
    obtain ⟨r, -, -, -, r4, -⟩ := reach_same2 h.sch hK h.mk62 h.cls
    rw [xc_cnt (rc_5 h) hK.1 (fun i a b => (h.cls i a b).2), r4, ob_bs, ob_bs, bitCount_eq, ob_bs]
    repeat' split
    all_goals exact ⟨_, rfl⟩
  · simp only [if_neg hd]
    repeat' split
    all_goals exact ⟨_, rfl⟩

abbrev XR : Type := Int32 × Int32 × Int32 × Int32 × Int32 × Int32 × Int64 × Int64 × Nat × Nat × (Nat → Int32) × (Nat → Int32) × (Nat → Int32) × (Nat → Int32) × (Nat → Int32) × (Nat → Option Nat) × Value × Value × Value
def XR.w (z9 : XR) : Int32 := z9.1
def XR.hf (z9 : XR) : Int32 := z9.2.1
def XR.lm (z9 : XR) : Int32 := z9.2.2.1
def XR.ll (z9 : XR) : Int32 := z9.2.2.2.1
def XR.rp (z9 : XR) : Int32 := z9.2.2.2.2.1
def XR.rl (z9 : XR) : Int32 := z9.2.2.2.2.2.1
def XR.lf (z9 : XR) : Int64 := z9.2.2.2.2.2.2.1
def XR.lt (z9 : XR) : Int64 := z9.2.2.2.2.2.2.2.1
def XR.dl (z9 : XR) : Nat := z9.2.2.2.2.2.2.2.2.1
def XR.qn (z9 : XR) : Nat := z9.2.2.2.2.2.2.2.2.2.1
def XR.dch (z9 : XR) : Nat → Int32 := z9.2.2.2.2.2.2.2.2.2.2.1
def XR.ixc (z9 : XR) : Nat → Int32 := z9.2.2.2.2.2.2.2.2.2.2.2.1
def XR.ixf (z9 : XR) : Nat → Int32 := z9.2.2.2.2.2.2.2.2.2.2.2.2.1
def XR.rs (z9 : XR) : Nat → Int32 := z9.2.2.2.2.2.2.2.2.2.2.2.2.2.1
def XR.jb (z9 : XR) : Nat → Int32 := z9.2.2.2.2.2.2.2.2.2.2.2.2.2.2.1
def XR.qs (z9 : XR) : Nat → Option Nat := z9.2.2.2.2.2.2.2.2.2.2.2.2.2.2.2.1
def XR.rq (z9 : XR) : Value := z9.2.2.2.2.2.2.2.2.2.2.2.2.2.2.2.2.1
def XR.rx (z9 : XR) : Value := z9.2.2.2.2.2.2.2.2.2.2.2.2.2.2.2.2.2.1
def XR.jq (z9 : XR) : Value := z9.2.2.2.2.2.2.2.2.2.2.2.2.2.2.2.2.2.2
def XR.mk (w : Int32) (hf : Int32) (lm : Int32) (ll : Int32) (rp : Int32) (rl : Int32) (lf : Int64) (lt : Int64) (dl : Nat) (qn : Nat) (dch : Nat → Int32) (ixc : Nat → Int32) (ixf : Nat → Int32) (rs : Nat → Int32) (jb : Nat → Int32) (qs : Nat → Option Nat) (rq : Value) (rx : Value) (jq : Value) : XR := (w, hf, lm, ll, rp, rl, lf, lt, dl, qn, dch, ixc, ixf, rs, jb, qs, rq, rx, jq)
abbrev MR : Type := Int32 × Int32 × Int32 × Int32 × Int32 × Int32 × Int32 × Int32 × Int32 × Int32 × Int32 × Int32 × Int32 × Int32 × Int64 × Int64 × Nat × Nat × Nat × (Nat → Int32) × (Nat → Int32) × (Nat → Int32) × (Nat → Int32) × (Nat → Int32) × (Nat → Int32) × (Nat → Int32) × (Nat → Int32) × (Nat → Int32) × (Nat → Int32) × (Nat → Int32) × (Nat → Int32) × (Nat → Int32) × (Nat → Int32) × (Nat → Int32) × (Nat → Int32) × (Nat → Int32) × (Nat → Int32) × (Nat → Int32) × (Nat → Int64)
def MR.hf (z9 : MR) : Int32 := z9.1
def MR.w (z9 : MR) : Int32 := z9.2.1
def MR.nw (z9 : MR) : Int32 := z9.2.2.1
def MR.at_ (z9 : MR) : Int32 := z9.2.2.2.1
def MR.bad (z9 : MR) : Int32 := z9.2.2.2.2.1
def MR.ops_ (z9 : MR) : Int32 := z9.2.2.2.2.2.1
def MR.dp (z9 : MR) : Int32 := z9.2.2.2.2.2.2.1
def MR.am (z9 : MR) : Int32 := z9.2.2.2.2.2.2.2.1
def MR.tru (z9 : MR) : Int32 := z9.2.2.2.2.2.2.2.2.1
def MR.loo (z9 : MR) : Int32 := z9.2.2.2.2.2.2.2.2.2.1
def MR.vd (z9 : MR) : Int32 := z9.2.2.2.2.2.2.2.2.2.2.1
def MR.vl (z9 : MR) : Int32 := z9.2.2.2.2.2.2.2.2.2.2.2.1
def MR.lt (z9 : MR) : Int32 := z9.2.2.2.2.2.2.2.2.2.2.2.2.1
def MR.lk (z9 : MR) : Int32 := z9.2.2.2.2.2.2.2.2.2.2.2.2.2.1
def MR.set (z9 : MR) : Int64 := z9.2.2.2.2.2.2.2.2.2.2.2.2.2.2.1
def MR.tot (z9 : MR) : Int64 := z9.2.2.2.2.2.2.2.2.2.2.2.2.2.2.2.1
def MR.dd (z9 : MR) : Nat := z9.2.2.2.2.2.2.2.2.2.2.2.2.2.2.2.2.1
def MR.qk (z9 : MR) : Nat := z9.2.2.2.2.2.2.2.2.2.2.2.2.2.2.2.2.2.1
def MR.fi (z9 : MR) : Nat := z9.2.2.2.2.2.2.2.2.2.2.2.2.2.2.2.2.2.2.1
def MR.ixc (z9 : MR) : Nat → Int32 := z9.2.2.2.2.2.2.2.2.2.2.2.2.2.2.2.2.2.2.2.1
def MR.ixp (z9 : MR) : Nat → Int32 := z9.2.2.2.2.2.2.2.2.2.2.2.2.2.2.2.2.2.2.2.2.1
def MR.dr (z9 : MR) : Nat → Int32 := z9.2.2.2.2.2.2.2.2.2.2.2.2.2.2.2.2.2.2.2.2.2.1
def MR.le (z9 : MR) : Nat → Int32 := z9.2.2.2.2.2.2.2.2.2.2.2.2.2.2.2.2.2.2.2.2.2.2.1
def MR.tx (z9 : MR) : Nat → Int32 := z9.2.2.2.2.2.2.2.2.2.2.2.2.2.2.2.2.2.2.2.2.2.2.2.1
def MR.cq (z9 : MR) : Nat → Int32 := z9.2.2.2.2.2.2.2.2.2.2.2.2.2.2.2.2.2.2.2.2.2.2.2.2.1
def MR.sp (z9 : MR) : Nat → Int32 := z9.2.2.2.2.2.2.2.2.2.2.2.2.2.2.2.2.2.2.2.2.2.2.2.2.2.1
def MR.st (z9 : MR) : Nat → Int32 := z9.2.2.2.2.2.2.2.2.2.2.2.2.2.2.2.2.2.2.2.2.2.2.2.2.2.2.1
def MR.wh (z9 : MR) : Nat → Int32 := z9.2.2.2.2.2.2.2.2.2.2.2.2.2.2.2.2.2.2.2.2.2.2.2.2.2.2.2.1
def MR.on (z9 : MR) : Nat → Int32 := z9.2.2.2.2.2.2.2.2.2.2.2.2.2.2.2.2.2.2.2.2.2.2.2.2.2.2.2.2.1
def MR.tw (z9 : MR) : Nat → Int32 := z9.2.2.2.2.2.2.2.2.2.2.2.2.2.2.2.2.2.2.2.2.2.2.2.2.2.2.2.2.2.1
def MR.opd (z9 : MR) : Nat → Int32 := z9.2.2.2.2.2.2.2.2.2.2.2.2.2.2.2.2.2.2.2.2.2.2.2.2.2.2.2.2.2.2.1
def MR.oat (z9 : MR) : Nat → Int32 := z9.2.2.2.2.2.2.2.2.2.2.2.2.2.2.2.2.2.2.2.2.2.2.2.2.2.2.2.2.2.2.2.1
def MR.sd (z9 : MR) : Nat → Int32 := z9.2.2.2.2.2.2.2.2.2.2.2.2.2.2.2.2.2.2.2.2.2.2.2.2.2.2.2.2.2.2.2.2.1
def MR.var (z9 : MR) : Nat → Int32 := z9.2.2.2.2.2.2.2.2.2.2.2.2.2.2.2.2.2.2.2.2.2.2.2.2.2.2.2.2.2.2.2.2.2.1
def MR.tr (z9 : MR) : Nat → Int32 := z9.2.2.2.2.2.2.2.2.2.2.2.2.2.2.2.2.2.2.2.2.2.2.2.2.2.2.2.2.2.2.2.2.2.2.1
def MR.la (z9 : MR) : Nat → Int32 := z9.2.2.2.2.2.2.2.2.2.2.2.2.2.2.2.2.2.2.2.2.2.2.2.2.2.2.2.2.2.2.2.2.2.2.2.1
def MR.lf (z9 : MR) : Nat → Int32 := z9.2.2.2.2.2.2.2.2.2.2.2.2.2.2.2.2.2.2.2.2.2.2.2.2.2.2.2.2.2.2.2.2.2.2.2.2.1
def MR.hits (z9 : MR) : Nat → Int32 := z9.2.2.2.2.2.2.2.2.2.2.2.2.2.2.2.2.2.2.2.2.2.2.2.2.2.2.2.2.2.2.2.2.2.2.2.2.2.1
def MR.rs (z9 : MR) : Nat → Int64 := z9.2.2.2.2.2.2.2.2.2.2.2.2.2.2.2.2.2.2.2.2.2.2.2.2.2.2.2.2.2.2.2.2.2.2.2.2.2.2
def MR.mk (hf : Int32) (w : Int32) (nw : Int32) (at_ : Int32) (bad : Int32) (ops_ : Int32) (dp : Int32) (am : Int32) (tru : Int32) (loo : Int32) (vd : Int32) (vl : Int32) (lt : Int32) (lk : Int32) (set : Int64) (tot : Int64) (dd : Nat) (qk : Nat) (fi : Nat) (ixc : Nat → Int32) (ixp : Nat → Int32) (dr : Nat → Int32) (le : Nat → Int32) (tx : Nat → Int32) (cq : Nat → Int32) (sp : Nat → Int32) (st : Nat → Int32) (wh : Nat → Int32) (on : Nat → Int32) (tw : Nat → Int32) (opd : Nat → Int32) (oat : Nat → Int32) (sd : Nat → Int32) (var : Nat → Int32) (tr : Nat → Int32) (la : Nat → Int32) (lf : Nat → Int32) (hits : Nat → Int32) (rs : Nat → Int64) : MR := (hf, w, nw, at_, bad, ops_, dp, am, tru, loo, vd, vl, lt, lk, set, tot, dd, qk, fi, ixc, ixp, dr, le, tx, cq, sp, st, wh, on, tw, opd, oat, sd, var, tr, la, lf, hits, rs)
abbrev QC : Type := Nat × Nat × Nat × Nat × Nat × Nat × Nat × Nat × Nat × Int32 × Int32 × Int32 × Int32 × Int32 × (Nat → Int32) × (Nat → Int32) × (Nat → Int32) × (Nat → Int32) × (Nat → Int32) × (Nat → Int32) × (Nat → Int32)
def QC.a (z9 : QC) : Nat := z9.1
def QC.a0 (z9 : QC) : Nat := z9.2.1
def QC.a1 (z9 : QC) : Nat := z9.2.2.1
def QC.a2 (z9 : QC) : Nat := z9.2.2.2.1
def QC.a3 (z9 : QC) : Nat := z9.2.2.2.2.1
def QC.a4 (z9 : QC) : Nat := z9.2.2.2.2.2.1
def QC.a5 (z9 : QC) : Nat := z9.2.2.2.2.2.2.1
def QC.a6 (z9 : QC) : Nat := z9.2.2.2.2.2.2.2.1
def QC.a7 (z9 : QC) : Nat := z9.2.2.2.2.2.2.2.2.1
def QC.nc (z9 : QC) : Int32 := z9.2.2.2.2.2.2.2.2.2.1
def QC.root (z9 : QC) : Int32 := z9.2.2.2.2.2.2.2.2.2.2.1
def QC.asked (z9 : QC) : Int32 := z9.2.2.2.2.2.2.2.2.2.2.2.1
def QC.mode (z9 : QC) : Int32 := z9.2.2.2.2.2.2.2.2.2.2.2.2.1
def QC.tl (z9 : QC) : Int32 := z9.2.2.2.2.2.2.2.2.2.2.2.2.2.1
def QC.tch (z9 : QC) : Nat → Int32 := z9.2.2.2.2.2.2.2.2.2.2.2.2.2.2.1
def QC.num (z9 : QC) : Nat → Int32 := z9.2.2.2.2.2.2.2.2.2.2.2.2.2.2.2.1
def QC.kd (z9 : QC) : Nat → Int32 := z9.2.2.2.2.2.2.2.2.2.2.2.2.2.2.2.2.1
def QC.inn (z9 : QC) : Nat → Int32 := z9.2.2.2.2.2.2.2.2.2.2.2.2.2.2.2.2.2.1
def QC.nx (z9 : QC) : Nat → Int32 := z9.2.2.2.2.2.2.2.2.2.2.2.2.2.2.2.2.2.2.1
def QC.lf (z9 : QC) : Nat → Int32 := z9.2.2.2.2.2.2.2.2.2.2.2.2.2.2.2.2.2.2.2.1
def QC.rt (z9 : QC) : Nat → Int32 := z9.2.2.2.2.2.2.2.2.2.2.2.2.2.2.2.2.2.2.2.2
def QC.mk (a : Nat) (a0 : Nat) (a1 : Nat) (a2 : Nat) (a3 : Nat) (a4 : Nat) (a5 : Nat) (a6 : Nat) (a7 : Nat) (nc : Int32) (root : Int32) (asked : Int32) (mode : Int32) (tl : Int32) (tch : Nat → Int32) (num : Nat → Int32) (kd : Nat → Int32) (inn : Nat → Int32) (nx : Nat → Int32) (lf : Nat → Int32) (rt : Nat → Int32) : QC := (a, a0, a1, a2, a3, a4, a5, a6, a7, nc, root, asked, mode, tl, tch, num, kd, inn, nx, lf, rt)
abbrev lInv (u : CS) (xr : XR) (mr : MR) (ql : List QC) : Prop := (rCore u) ∧ (xr.dl ≤ 60) ∧ (chOk xr.dch) ∧ (xr.qn ≤ 12) ∧ (xr.qn ≤ ql.length) ∧ (ql.length ≤ xr.qn + 1) ∧ (∀ j Q, j < xr.qn → ql[j]? = some Q → xqOk u.cc Q.nc Q.root Q.asked Q.mode Q.tl Q.tch Q.kd Q.inn Q.nx Q.lf Q.rt) ∧ (∀ j, j < 13 → xr.qs j = (ql[j]?).map QC.a) ∧ (mr.dd ≤ 60) ∧ (mr.qk ≤ 12) ∧ (∀ q, q < mr.qk → qmOk u.cc mr.le mr.tx mr.cq mr.st mr.wh mr.on mr.tw q) ∧ (varOk mr.var) ∧ (mr.fi ≤ 62)
theorem lInv.co {u : CS} {xr : XR} {mr : MR} {ql : List QC} (h9z : lInv u xr mr ql) : rCore u := h9z.1
theorem lInv.dl {u : CS} {xr : XR} {mr : MR} {ql : List QC} (h9z : lInv u xr mr ql) : xr.dl ≤ 60 := h9z.2.1
theorem lInv.dc {u : CS} {xr : XR} {mr : MR} {ql : List QC} (h9z : lInv u xr mr ql) : chOk xr.dch := h9z.2.2.1
theorem lInv.qn {u : CS} {xr : XR} {mr : MR} {ql : List QC} (h9z : lInv u xr mr ql) : xr.qn ≤ 12 := h9z.2.2.2.1
theorem lInv.ql1 {u : CS} {xr : XR} {mr : MR} {ql : List QC} (h9z : lInv u xr mr ql) : xr.qn ≤ ql.length := h9z.2.2.2.2.1
theorem lInv.ql2 {u : CS} {xr : XR} {mr : MR} {ql : List QC} (h9z : lInv u xr mr ql) : ql.length ≤ xr.qn + 1 := h9z.2.2.2.2.2.1
theorem lInv.qo {u : CS} {xr : XR} {mr : MR} {ql : List QC} (h9z : lInv u xr mr ql) : ∀ j Q, j < xr.qn → ql[j]? = some Q → xqOk u.cc Q.nc Q.root Q.asked Q.mode Q.tl Q.tch Q.kd Q.inn Q.nx Q.lf Q.rt := h9z.2.2.2.2.2.2.1
theorem lInv.qa {u : CS} {xr : XR} {mr : MR} {ql : List QC} (h9z : lInv u xr mr ql) : ∀ j, j < 13 → xr.qs j = (ql[j]?).map QC.a := h9z.2.2.2.2.2.2.2.1
theorem lInv.dd {u : CS} {xr : XR} {mr : MR} {ql : List QC} (h9z : lInv u xr mr ql) : mr.dd ≤ 60 := h9z.2.2.2.2.2.2.2.2.1
theorem lInv.qk {u : CS} {xr : XR} {mr : MR} {ql : List QC} (h9z : lInv u xr mr ql) : mr.qk ≤ 12 := h9z.2.2.2.2.2.2.2.2.2.1
theorem lInv.mq {u : CS} {xr : XR} {mr : MR} {ql : List QC} (h9z : lInv u xr mr ql) : ∀ q, q < mr.qk → qmOk u.cc mr.le mr.tx mr.cq mr.st mr.wh mr.on mr.tw q := h9z.2.2.2.2.2.2.2.2.2.2.1
theorem lInv.va {u : CS} {xr : XR} {mr : MR} {ql : List QC} (h9z : lInv u xr mr ql) : varOk mr.var := h9z.2.2.2.2.2.2.2.2.2.2.2.1
theorem lInv.fi {u : CS} {xr : XR} {mr : MR} {ql : List QC} (h9z : lInv u xr mr ql) : mr.fi ≤ 62 := h9z.2.2.2.2.2.2.2.2.2.2.2.2
theorem xqOk_w {cc cc' : Nat} (hcc : cc ≤ cc') {nc root asked mode tl : Int32} {tch kd inn nx lf rt : Nat → Int32} (h : xqOk cc nc root asked mode tl tch kd inn nx lf rt) : xqOk cc' nc root asked mode tl tch kd inn nx lf rt := by
  obtain ⟨a, b, ⟨c, c1, c2, c3⟩, d⟩ := h
  exact ⟨a, b, ⟨c, c1, c2, by omega⟩, d⟩
theorem qmOk_w {cc cc' : Nat} (hcc : cc ≤ cc') {le tx cq sp w o t : Nat → Int32} {q : Nat} (h : qmOk cc le tx cq sp w o t q) : qmOk cc' le tx cq sp w o t q := by
  obtain ⟨len, n, c, a1, a2, a3, a4, a5, a6, a7, a8⟩ := h
  exact ⟨len, n, c, a1, a2, a3, a4, a5, a6, by omega, a8⟩
theorem lInv_core {u u' : CS} {xr : XR} {mr : MR} {ql : List QC} (h : lInv u xr mr ql) (hc : rCore u') (hcc : u.cc ≤ u'.cc) : lInv u' xr mr ql :=
  ⟨(hc), h.dl, h.dc, h.qn, h.ql1, h.ql2, (fun j Q hj hq => xqOk_w hcc (h.qo j Q hj hq)), h.qa, h.dd, h.qk, (fun q hq => qmOk_w hcc (h.mq q hq)), h.va, h.fi⟩
def u0 : CS := CS.mk 0 0 0 (-1) 0 0 0 0 0 0 0 0 0 0 0 0 (fun _ => 0) (fun _ => 0) (fun _ => 0) (fun _ => 0) (fun _ => 0) (fun _ => 0) (fun _ => 0) (fun _ => 0) (fun _ => 0) (fun _ => 0) (fun _ => 0) (fun _ => 0) (fun _ => 0) (fun _ => 0) (fun _ => 0) (fun _ => 0) (fun _ => 0) (fun _ => 0) (fun _ => 0) (fun _ => 0) (fun _ => 0) (fun _ => 0) (fun _ => 0) (fun _ => 0) (fun _ => 0) (fun _ => 0)
theorem rIm_0 : rIm 0 0 (fun _ => 0) (fun _ => 0) (fun _ => 0) (fun _ => 0) 0 0 (fun _ => 0) (fun _ => 0) (fun _ => 0) (fun _ => 0) (fun _ => 0) (fun _ => 0) := by
  refine ⟨⟨ids_0, fun i _ => tb_0 i, rfl, fun i _ _ => by rw [tb_0]; rfl, fun i f _ h => by omega, fun i f _ h => by omega, fun i f _ h => by omega, fun _ _ _ _ _ _ => rfl, fun n _ => ⟨0, by omega, rfl, rfl⟩⟩, fun _ _ _ _ _ _ => ⟨rfl, rfl⟩, ⟨ids_0, fun n _ => ⟨0, by omega, rfl, Or.inl rfl⟩, fun i f h => ?_, fun i f h => ?_⟩, fun i h => h⟩
  · rw [tb_0] at h; cases h
  · rw [tb_0] at h; cases h
theorem rCore_0 : rCore u0 := ⟨
  (by
    refine ⟨by decide, by decide, rfl, rfl, rfl, rfl, fun c hc => ⟨rfl, by show 0 ≤ 5; omega, fun h => by show 0 < c; omega⟩, fun _ _ _ => rfl, ⟨fun c hc => ⟨rfl, by show 0 < 64; omega⟩, rfl, fun c h1 h2 => ?_⟩, fun f hf => ?_⟩
    · have h2 : c ≤ 0 := h2
      omega
    · have hf : f < 0 := hf
      omega),
  (by decide),
  (fun i h1 h2 => by
    have h2 : i ≤ 0 := h2
    omega),
  (Or.inl rfl),
  (Or.inl rfl),
  (Or.inl rfl),
  (Or.inl rfl),
  (Or.inl rfl),
  (fun _ => ⟨rfl, rfl⟩),
  (Or.inl rfl),
  (⟨0, by omega, rfl⟩),
  (ids_0),
  (fun _ => rfl),
  (fun _ => ⟨rfl, rfl⟩),
  (⟨0, by omega, rfl⟩),
  (fun _ => rfl),
  (fun _ => ⟨0, rIm_0⟩),
  (fun h => absurd rfl h),
  (fun h => absurd rfl h),
  (fun h => absurd rfl h),
  (fun _ _ => ⟨fun _ _ => ⟨rfl, rfl⟩, fun _ _ => rfl⟩)⟩
def xr0 : XR := XR.mk 0 0 0 0 0 0 0 0 0 0 (fun _ => 0) (fun _ => 0) (fun _ => 0) (fun _ => 0) (fun _ => 0) (fun _ => none) .null .null .null
def mr0 : MR := MR.mk 0 0 0 0 0 0 0 0 0 0 0 0 0 0 0 0 0 0 0 (fun _ => 0) (fun _ => 0) (fun _ => 0) (fun _ => 0) (fun _ => 0) (fun _ => 0) (fun _ => 0) (fun _ => 0) (fun _ => 0) (fun _ => 0) (fun _ => 0) (fun _ => 0) (fun _ => 0) (fun _ => 0) (fun _ => 0) (fun _ => 0) (fun _ => 0) (fun _ => 0) (fun _ => 0) (fun _ => 0)
theorem lInv_0 : lInv u0 xr0 mr0 [] := ⟨
  (rCore_0),
  (by decide),
  (fun i _ => by show 0 ≤ (0 : Int32).toInt ∧ (0 : Int32).toInt < 65536; decide),
  (by decide),
  (by decide),
  (by decide),
  (fun j Q hj => by
    have hj : j < 0 := hj
    omega),
  (fun j _ => rfl),
  (by decide),
  (by decide),
  (fun q hq => by
    have hq : q < 0 := hq
    omega),
  (fun v _ => ⟨0, by omega, rfl⟩),
  (by decide)⟩

theorem A_sum (dn : Int32) (t : Int64) : ∃ r : Int64, f_OB_sum dn t = some r := by
  unfold f_OB_sum; split <;> exact ⟨_, rfl⟩
theorem Q_sum (dn : Int32) (t : Int64) : ∃ r : Int64, f_M_sum dn t = some r := by
  unfold f_M_sum; split <;> exact ⟨_, rfl⟩
theorem fi_ok {fi : Int32} {n : Nat} (hn : n ≤ 62) (h : fi = nI n ∨ fi = 0) : ∃ m : Nat, m ≤ 62 ∧ fi = nI m := by
  rcases h with rfl | rfl
  · exact ⟨n, hn, rfl⟩
  · exact ⟨0, by omega, rfl⟩
theorem A_ask0 (qn : Int32) (dn op z : Int32) (h : ¬ (dn = 0 ∧ op = 0 ∧ 0 ≤ z.toInt ∧ z.toInt < qn.toInt)) : ∃ r : Int32, f_OB_ask0 qn dn op z = some r := by
  unfold f_OB_ask0
  by_cases h1 : dn = 0
  · rw [if_pos h1]
    by_cases h2 : op = 0
    · rw [if_pos h2]
      by_cases h3 : z < 0
      · rw [if_pos h3]; exact ⟨_, rfl⟩
      · rw [if_neg h3]
        by_cases h4 : z < qn
        · rw [Int32.lt_iff_toInt_lt, i0] at h3
          rw [Int32.lt_iff_toInt_lt] at h4
          exact absurd ⟨h1, h2, by omega, h4⟩ h
        · rw [if_neg h4]; exact ⟨_, rfl⟩
    · rw [if_neg h2]; exact ⟨_, rfl⟩
  · rw [if_neg h1]; exact ⟨_, rfl⟩

theorem A_ask {s : CS} (h : rCore s) {k : Nat} (hk : k ≤ 12) (hd : s.dn = 0) (ho : s.op = 0) {z : Int32} (h1 : 0 ≤ z.toInt) (h2 : z.toInt < (nI k).toInt) {nc root asked mode tl : Int32} {tch kd inn nx lf rt : Nat → Int32} (hq : xqOk s.cc nc root asked mode tl tch kd inn nx lf rt) (aq : Nat) (jq : Value) (lm : Int32) (lfi lto : Int64) (ll : Int32) (xic xif jb num : Nat → Int32) : ∃ o : Int32 × Value × Int32 × Int64 × Int64 × Int32 × (Nat → Int32), f_OB_ask aq (nI k) s.dn s.op nc root asked mode tl s.ix (nI s.fc) jq lm lfi lto ll inn nx kd lf tch rt xic xif s.kv s.xkd s.kn_ s.kc s.xab jb num z = some o := by
  unfold f_OB_ask f_Answer_count
  obtain ⟨mo, fi, to_, lk, jq', bnd', e⟩ := A_answer h hd hq num aq xic xif jq jb
  have h2' := h2
  rw [nI_toInt (by omega)] at h2'
  rw [if_pos hd, if_pos ho, if_neg (show ¬ z < 0 by rw [Int32.lt_iff_toInt_lt, i0]; omega), if_pos (show z < nI k by rw [Int32.lt_iff_toInt_lt]; exact h2), ob_iv_i (by omega), e, ob_bs]
  dsimp only
  rw [bitCount_eq, ob_bs, ob_bs]
  exact ⟨_, rfl⟩

theorem ob_PM {D : va_G} {cl : List vw_C} {ws : va_W} {H : Heap} : va_P D cl ws H ↔ ∀ q, q ∈ ws → va_at D cl q H := by
  constructor
  · intro h q hq
    obtain ⟨k, hk⟩ := List.getElem?_of_mem hq
    exact h k q hk
  · intro h k q hk
    exact h q (List.mem_of_getElem? hk)
theorem ob_DM {A : Nat → Prop} {ws : va_W} : va_D A ws ↔ (ws.map Prod.fst).Nodup ∧ ∀ q, q ∈ ws → A q.1 := by
  constructor
  · intro h
    refine ⟨?_, fun q hq => ?_⟩
    · rw [List.Nodup, List.pairwise_iff_getElem]
      intro i j hi hj hij e
      have hi' : i < ws.length := by simpa using hi
      have hj' : j < ws.length := by simpa using hj
      rw [List.getElem_map, List.getElem_map] at e
      have := h.1 i j ws[i] ws[j] (List.getElem?_eq_getElem hi') (List.getElem?_eq_getElem hj') e
      omega
    · obtain ⟨k, hk⟩ := List.getElem?_of_mem hq
      exact h.2 k q hk
  · intro h
    refine ⟨fun i j x y hx hy hxy => ?_, fun k q hk => h.2 q (List.mem_of_getElem? hk)⟩
    have hi := (List.getElem?_eq_some_iff.mp hx).1
    have e : (ws.map Prod.fst)[i]? = (ws.map Prod.fst)[j]? := by
      rw [List.getElem?_map, List.getElem?_map, hx, hy]; exact congrArg some hxy
    exact (List.getElem?_inj (by simpa using hi) h.1).mp e
theorem ob_permP {D : va_G} {cl : List vw_C} {ws ws' : va_W} {H : Heap} (hp : ws.Perm ws') (h : va_P D cl ws H) : va_P D cl ws' H := by
  rw [ob_PM] at h ⊢
  exact fun q hq => h q (hp.mem_iff.mpr hq)
theorem ob_permD {A : Nat → Prop} {ws ws' : va_W} (hp : ws.Perm ws') (h : va_D A ws) : va_D A ws' := by
  rw [ob_DM] at h ⊢
  exact ⟨(hp.map Prod.fst).nodup_iff.mp h.1, fun q hq => h.2 q (hp.mem_iff.mpr hq)⟩
theorem ob_joinN {A0 : Nat → Prop} {D : va_G} {cl : List vw_C} {ws wc w1 wn : va_W} {H H1 : Heap} (hP : va_P D cl ws H) (hD : va_D A0 ws) (isC : List Nat) (hC : isC.map (fun i => ws[i]?) = wc.map some) (hn : va_nd isC = true) (ha : w1.map Prod.fst = wc.map Prod.fst)
    (hk : ∀ q : Nat, q < H.size → ¬ va_A wc H.size q → H1[q]? = H[q]?) (hF : ∀ q, va_A wc H.size q → A0 q) (hP1 : va_P D cl (w1 ++ wn) H1) (hD1 : va_D (va_A wc H.size) (w1 ++ wn)) : va_P D cl (ob_put ws isC w1 ++ wn) H1 ∧ va_D A0 (ob_put ws isC w1 ++ wn) := by
  have hPa : va_P D cl w1 H1 := ob_PM.mpr (fun q hq => ob_PM.mp hP1 q (List.mem_append_left _ hq))
  have hPb : ∀ q, q ∈ wn → va_at D cl q H1 := fun q hq => ob_PM.mp hP1 q (List.mem_append_right _ hq)
  obtain ⟨nd, hA1⟩ := ob_DM.mp hD1
  rw [List.map_append, List.nodup_append] at nd
  have hDa : va_D (va_A wc H.size) w1 := ob_DM.mpr ⟨nd.1, fun q hq => hA1 q (List.mem_append_left _ hq)⟩
  obtain ⟨hPj, hDj⟩ := ob_join hP hD isC hC hn ha hk hF hPa hDa
  refine ⟨ob_PM.mpr (fun q hq => ?_), ?_⟩
  · rcases List.mem_append.mp hq with h | h
    · exact ob_PM.mp hPj q h
    · exact hPb q h
  · have hold : ∀ q, q ∈ ob_put ws isC w1 → q.1 < H.size := fun q hq => by
      have hadr : (ob_put ws isC w1).map Prod.fst = ws.map Prod.fst := by
        have key : ∀ (is : List Nat) (cs : va_W) (ws : va_W), (∀ (j k : Nat) (c : Nat × va_E), is[j]? = some k → cs[j]? = some c → ∃ e, ws[k]? = some (c.1, e)) → (ob_put ws is cs).map Prod.fst = ws.map Prod.fst := by
          intro is
          induction is with
          | nil => intro cs ws _; cases cs <;> rfl
          | cons i is ih =>
            intro cs ws h
            cases cs with
            | nil => rfl
            | cons c cs =>
              have h0 : (ws.set i c).map Prod.fst = ws.map Prod.fst := by
                obtain ⟨e, he⟩ := h 0 i c rfl rfl
                obtain ⟨hi, hv⟩ := List.getElem?_eq_some_iff.mp he
                apply List.ext_getElem?
                intro k
                rw [List.getElem?_map, List.getElem?_map, List.getElem?_set]
                by_cases hk : i = k
                · subst hk
                  rw [if_pos rfl, if_pos hi, he]; rfl
                · rw [if_neg hk]
              show (ob_put (ws.set i c) is cs).map Prod.fst = _
              rw [ih cs (ws.set i c) (fun j k d h1 h2 => ?_), h0]
              obtain ⟨e, he⟩ := h (j + 1) k d (by simpa using h1) (by simpa using h2)
              have h3 : ((ws.set i c).map Prod.fst)[k]? = some d.1 := by rw [h0, List.getElem?_map, he]; rfl
              rw [List.getElem?_map] at h3
              cases h4 : (ws.set i c)[k]? with
              | none => rw [h4] at h3; cases h3
              | some z =>
                rw [h4] at h3
                have h5 : z.1 = d.1 := Option.some.inj h3
                exact ⟨z.2, by rw [← h5]⟩
        refine key isC w1 ws (fun j k c h1 h2 => ?_)
        have g1 := ob_map_get hC h1
        have g2 : (w1.map Prod.fst)[j]? = (wc.map Prod.fst)[j]? := by rw [ha]
        rw [List.getElem?_map, List.getElem?_map, h2] at g2
        cases h3 : wc[j]? with
        | none => rw [h3] at g2; cases g2
        | some z =>
          rw [h3] at g2
          have h5 : c.1 = z.1 := Option.some.inj g2
          exact ⟨z.2, by rw [g1.1, h3, h5]⟩
      have hm : q.1 ∈ ws.map Prod.fst := by rw [← hadr]; exact List.mem_map_of_mem hq
      obtain ⟨z, hz, ez⟩ := List.mem_map.mp hm
      rw [← ez]
      exact (ob_PM.mp hP z hz).lt
    obtain ⟨ndj, hAj⟩ := ob_DM.mp hDj
    refine ob_DM.mpr ⟨?_, fun q hq => ?_⟩
    · rw [List.map_append, List.nodup_append]
      refine ⟨ndj, nd.2.1, fun x hx y hy e => ?_⟩
      obtain ⟨q, hq, rfl⟩ := List.mem_map.mp hx
      obtain ⟨z, hz, rfl⟩ := List.mem_map.mp hy
      have h1 := hold q hq
      rcases hA1 z (List.mem_append_right _ hz) with ⟨k, e9, h9⟩ | h9
      ·
        have hmem : z.1 ∈ w1.map Prod.fst := by
          rw [ha]; exact List.mem_map.mpr ⟨(z.1, e9), List.mem_of_getElem? h9, rfl⟩
        exact nd.2.2 z.1 hmem z.1 (List.mem_map_of_mem hz) rfl
      · rw [e] at h1; omega
    · rcases List.mem_append.mp hq with h | h
      · exact hAj q h
      · exact hF q.1 (hA1 q (List.mem_append_right _ h))

theorem lInv_prep {u : CS} {xr : XR} {mr : MR} {l1 l2 : List QC} {Q Q' : QC} (h : lInv u xr mr (l1 ++ Q :: l2)) (hl : l1.length = xr.qn) (ha : Q'.a = Q.a) {k : Nat} (hk : k = xr.qn ∨ (k = xr.qn + 1 ∧ xr.qn < 12 ∧ xqOk u.cc Q'.nc Q'.root Q'.asked Q'.mode Q'.tl Q'.tch Q'.kd Q'.inn Q'.nx Q'.lf Q'.rt)) (rq rx : Value) (rp rl : Int32) (rs : Nat → Int32) : lInv u (XR.mk xr.w xr.hf xr.lm xr.ll rp rl xr.lf xr.lt xr.dl k xr.dch xr.ixc xr.ixf rs xr.jb xr.qs rq rx xr.jq) mr (l1 ++ Q' :: l2) := by
  have h2 := h.ql2
  have hlen : (l1 ++ Q' :: l2).length = (l1 ++ Q :: l2).length := by rw [List.length_append, List.length_append, List.length_cons, List.length_cons]
  have hl2 : l2.length = 0 := by rw [List.length_append, List.length_cons] at h2; omega
  have hq12 := h.qn
  have hget : ∀ j, j < xr.qn → (l1 ++ Q' :: l2)[j]? = (l1 ++ Q :: l2)[j]? := fun j hj => by
    rw [List.getElem?_append_left (by omega), List.getElem?_append_left (by omega)]
  have hgq : (l1 ++ Q' :: l2)[xr.qn]? = some Q' := by
    rw [List.getElem?_append_right (by omega), hl, Nat.sub_self]; rfl
  refine ⟨h.co, h.dl, h.dc, ?_, ?_, ?_, (fun j P hj hP => ?_), (fun j hj => ?_), h.dd, h.qk, h.mq, h.va, h.fi⟩
  · show k ≤ 12; omega
  · show k ≤ _; rw [List.length_append, List.length_cons]; omega
  · show _ ≤ k + 1; rw [List.length_append, List.length_cons]; omega
  · have hj : j < k := hj
    by_cases e : j < xr.qn
    · rw [hget j e] at hP; exact h.qo j P e hP
    · rcases hk with hk | ⟨hk, -, hx⟩
      · omega
      · have e2 : j = xr.qn := by omega
        subst e2
        rw [hgq] at hP
        cases hP
        exact hx
  · show xr.qs j = _
    rw [h.qa j hj]
    by_cases e : j < l1.length
    · rw [List.getElem?_append_left e, List.getElem?_append_left e]
    · rw [List.getElem?_append_right (by omega), List.getElem?_append_right (by omega)]
      cases hjj : j - l1.length with
      | zero => show some Q.a = some Q'.a; rw [ha]
      | succ n => rfl
theorem lInv_prepN {u : CS} {xr : XR} {mr : MR} {ql : List QC} {Q' : QC} (h : lInv u xr mr ql) (hl : ql.length = xr.qn) {k q : Nat} (hk : k = xr.qn ∨ (k = xr.qn + 1 ∧ xr.qn < 12 ∧ xqOk u.cc Q'.nc Q'.root Q'.asked Q'.mode Q'.tl Q'.tch Q'.kd Q'.inn Q'.nx Q'.lf Q'.rt)) (ha : Q'.a = q) (rq rx : Value) (rp rl : Int32) (rs : Nat → Int32) : lInv u (XR.mk xr.w xr.hf xr.lm xr.ll rp rl xr.lf xr.lt xr.dl k xr.dch xr.ixc xr.ixf rs xr.jb (va_up xr.qs (nI xr.qn).toNatClampNeg (some q)) rq rx xr.jq) mr (ql ++ [Q']) := by
  have hq12 := h.qn
  have hgq : (ql ++ [Q'])[xr.qn]? = some Q' := by
    rw [List.getElem?_append_right (by omega), hl, Nat.sub_self]; rfl
  refine ⟨h.co, h.dl, h.dc, ?_, ?_, ?_, (fun j P hj hP => ?_), (fun j hj => ?_), h.dd, h.qk, h.mq, h.va, h.fi⟩
  · show k ≤ 12; omega
  · show k ≤ _; rw [List.length_append, List.length_singleton]; omega
  · show _ ≤ k + 1; rw [List.length_append, List.length_singleton]; omega
  · have hj : j < k := hj
    by_cases e : j < xr.qn
    · rw [List.getElem?_append_left (by omega)] at hP; exact h.qo j P e hP
    · rcases hk with hk | ⟨hk, -, hx⟩
      · omega
      · have e2 : j = xr.qn := by omega
        subst e2
        rw [hgq] at hP
        cases hP
        exact hx
  · show va_up xr.qs (nI xr.qn).toNatClampNeg (some q) j = _
    rw [nI_clamp (by omega)]
    unfold va_up
    by_cases e : j = xr.qn
    · rw [if_pos e, e, hgq]; show some q = some Q'.a; rw [ha]
    · rw [if_neg e, h.qa j hj]
      by_cases e2 : j < ql.length
      · rw [List.getElem?_append_left e2]
      · rw [List.getElem?_eq_none (by omega), List.getElem?_eq_none (by rw [List.length_append, List.length_singleton]; omega)]
