abbrev cdW (c w o t : Nat → Int32) (n : Nat) (E : Nat → List Nat) (H : Nat → Nat) : Prop := (n ≤ 63) ∧ (E 0 = []) ∧ (H 0 = 0) ∧ (∀ k, k ≤ n → H k ≤ k) ∧ (∀ k, k < n → sOk (opOk c) w o t E H [] n k)
theorem cdW.n63 {c w o t : Nat → Int32} {n : Nat} {E : Nat → List Nat} {H : Nat → Nat} (h9z : cdW c w o t n E H) : n ≤ 63 := h9z.1
theorem cdW.e0 {c w o t : Nat → Int32} {n : Nat} {E : Nat → List Nat} {H : Nat → Nat} (h9z : cdW c w o t n E H) : E 0 = [] := h9z.2.1
theorem cdW.h0 {c w o t : Nat → Int32} {n : Nat} {E : Nat → List Nat} {H : Nat → Nat} (h9z : cdW c w o t n E H) : H 0 = 0 := h9z.2.2.1
theorem cdW.hk {c w o t : Nat → Int32} {n : Nat} {E : Nat → List Nat} {H : Nat → Nat} (h9z : cdW c w o t n E H) : ∀ k, k ≤ n → H k ≤ k := h9z.2.2.2.1
theorem cdW.co {c w o t : Nat → Int32} {n : Nat} {E : Nat → List Nat} {H : Nat → Nat} (h9z : cdW c w o t n E H) : ∀ k, k < n → sOk (opOk c) w o t E H [] n k := h9z.2.2.2.2
theorem cdW_len {c w o t : Nat → Int32} {n : Nat} {E : Nat → List Nat} {H : Nat → Nat} (h : cdW c w o t n E H) : ∀ k, k ≤ n → (E k).length ≤ 2 := by
  intro k
  induction k with
  | zero => intro _; rw [h.e0]; exact Nat.zero_le _
  | succ k ih =>
    intro hk
    have h1 := ih (by omega)
    rcases h.co k (by omega) with ⟨-, a, -⟩ | ⟨-, a, -⟩ | ⟨-, a, -⟩ | ⟨-, a, -, b, -⟩ | ⟨-, k0, v, -, a, -⟩
    · rw [a]; exact h1
    · rw [a]; exact h1
    · rw [a]; exact h1
    · rw [a]; simp only [List.length_cons]; omega
    · rw [a] at h1; simp only [List.length_cons] at h1; omega
theorem Q_push {m : Nat} (hm : m ≤ 63) (tr : Nat → Int32) (x : Int32) : ∃ tr' : Nat → Int32, f_M_push (nI m) tr x = some (nI (m + 1), tr') := by
  unfold f_M_push
  rw [ob_iv_i (by rw [nI_toInt (by omega)]; omega), nI_1]; exact ⟨_, rfl⟩
abbrev stW (n : Nat) (E : Nat → List Nat) (H : Nat → Nat) (k : Nat) (tru loo : Int32) (rs : Nat → Int64) (var la : Nat → Int32) : Prop := (k ≤ n) ∧ (tru = nI (H k)) ∧ (loo = nI (E k).length) ∧ (lps la rs (E k)) ∧ (varOk var)
theorem stW.wk {n : Nat} {E : Nat → List Nat} {H : Nat → Nat} {k : Nat} {tru loo : Int32} {rs : Nat → Int64} {var la : Nat → Int32} (h9z : stW n E H k tru loo rs var la) : k ≤ n := h9z.1
theorem stW.wt {n : Nat} {E : Nat → List Nat} {H : Nat → Nat} {k : Nat} {tru loo : Int32} {rs : Nat → Int64} {var la : Nat → Int32} (h9z : stW n E H k tru loo rs var la) : tru = nI (H k) := h9z.2.1
theorem stW.wl {n : Nat} {E : Nat → List Nat} {H : Nat → Nat} {k : Nat} {tru loo : Int32} {rs : Nat → Int64} {var la : Nat → Int32} (h9z : stW n E H k tru loo rs var la) : loo = nI (E k).length := h9z.2.2.1
theorem stW.wp {n : Nat} {E : Nat → List Nat} {H : Nat → Nat} {k : Nat} {tru loo : Int32} {rs : Nat → Int64} {var la : Nat → Int32} (h9z : stW n E H k tru loo rs var la) : lps la rs (E k) := h9z.2.2.2.1
theorem stW.wv {n : Nat} {E : Nat → List Nat} {H : Nat → Nat} {k : Nat} {tru loo : Int32} {rs : Nat → Int64} {var la : Nat → Int32} (h9z : stW n E H k tru loo rs var la) : varOk var := h9z.2.2.2.2
theorem div2 {r b : Nat} (hb : b ≤ 1) (hr : r ≤ 1000) : nI (2 * r + b) / 2 = nI r := by
  rw [show (2 : Int32) = nI 2 from rfl, pk_div (by omega) (by omega) (by omega)]; congr 1; omega
theorem div4 {v e : Nat} (hv : v ≤ 3) (he : e ≤ 1000) : nI (v + 4 * e) / 4 = nI e ∧ nI (v + 4 * e) - nI (v + 4 * e) / 4 * 4 = nI v := by
  have h : nI (v + 4 * e) / 4 = nI e := by
    rw [show (4 : Int32) = nI 4 from rfl, pk_div (by omega) (by omega) (by omega)]; congr 1; omega
  refine ⟨h, ?_⟩
  rw [h, show (4 : Int32) = nI 4 from rfl, pk_mul, pk_sub (by omega)]; congr 1; omega
theorem Q_perform {so V le tx : Nat → Int32} {S : Nat → Int64} (hv : vOk so V S) {q len n : Nat} (hq : q ≤ 12) (hl : le q = nI len) (h6 : len ≤ 60) {w o t : Nat → Int32} {E : Nat → List Nat} {H : Nat → Nat} (hW : cdW (chr tx q len) (fun j => w (64 * q + j)) (fun j => o (64 * q + j)) (fun j => t (64 * q + j)) n E H) {k : Nat} (hkn : k < n) {tru loo : Int32} {rs : Nat → Int64} {var la : Nat → Int32} (hS : stW n E H k tru loo rs var la) (vd vl : Int32) (set : Int64) (tr lf : Nat → Int32) :
    ∃ (k' : Nat) (tru' loo' vd' vl' : Int32) (set' : Int64) (tr' lf' : Nat → Int32) (rs' : Nat → Int64) (var' la' : Nat → Int32), f_M_perform (nI q) tru loo vd vl set o t w tr lf rs var la le tx so S V (nI k) = some (nI k', tru', loo', vd', vl', set', tr', lf', rs', var', la') ∧ stW n E H k' tru' loo' rs' var' la' := by
  obtain ⟨-, rfl, rfl, hlp, hvar⟩ := hS
  have h63 := hW.n63
  have hHk := hW.hk k (by omega)
  have hEl := cdW_len hW k (by omega)
  have e : 64 * nI q + nI k = nI (64 * q + k) := by rw [show (64 : Int32) = nI 64 from rfl, pk_mul, nI_add]
  have g : 0 ≤ (nI (64 * q + k)).toInt ∧ (nI (64 * q + k)).toInt < (832 : Nat) := by rw [nI_toInt (by omega)]; omega
  unfold f_M_perform
  rw [e, ob_iv_i g, ob_iv_i g, ob_iv_i g, nI_clamp (by omega)]
  rcases hW.co k hkn with ⟨a1, a2, a3, p, r, b, a4, a5, a6, a7, a8, a9, a10, a11⟩ | ⟨a1, a2, a3, a4⟩ | ⟨a1, a2, a3, a4⟩ | ⟨a1, a2, a3, a4, p, v, a5, a6, a7, a8, a9, a10⟩ | ⟨a1, k0, v, a2, a3, a4, a5, a6, a7, a8, a9, a10⟩
  ·
    have a1 : w (64 * q + k) = 1 := a1
    have a4 : o (64 * q + k) = nI p := a4
    have a5 : t (64 * q + k) = nI (2 * r + b) := a5
    rw [if_pos a1, a4, a5, div2 a6 (by omega)]
    obtain ⟨b9, vd', vl', set', g1⟩ := Q_compares hv hvar hq hl h6 a8 a9 a7 a10 a11 vd vl set
    obtain ⟨tr', g2⟩ := Q_push (m := H k) (by omega) tr b9
    rw [g1, ob_bs]
    dsimp only
    rw [g2, ob_bs, nI_1]
    exact ⟨k + 1, _, _, _, _, _, _, _, _, _, _, rfl, ⟨by omega, by rw [a3], by rw [a2], by rw [a2]; exact hlp, hvar⟩⟩
  ·
    have a1 : w (64 * q + k) = 2 := a1
    rw [if_neg (by rw [a1]; decide), if_pos a1, nI_prd a4, ob_iv_i (by rw [nI_toInt (by omega)]; omega)]
    unfold f_M_perform_J110
    rw [ob_iv_i (by rw [nI_toInt (by omega)]; omega), ob_iv_i (by rw [nI_toInt (by omega)]; omega), nI_1]
    split
    · exact ⟨k + 1, _, _, _, _, _, _, _, _, _, _, rfl, ⟨by omega, by rw [a3], by rw [a2], by rw [a2]; exact hlp, hvar⟩⟩
    · exact ⟨k + 1, _, _, _, _, _, _, _, _, _, _, rfl, ⟨by omega, by rw [a3], by rw [a2], by rw [a2]; exact hlp, hvar⟩⟩
  ·
    have hg1 : 0 ≤ (nI (H k - 1)).toInt ∧ (nI (H k - 1)).toInt < (64 : Nat) := by rw [nI_toInt (by omega)]; omega
    have hg2 : 0 ≤ (nI (H k - 1 - 1)).toInt ∧ (nI (H k - 1 - 1)).toInt < (64 : Nat) := by rw [nI_toInt (by omega)]; omega
    have fin : ∀ x : Nat → Int32, ∃ (k' : Nat) (tru' loo' vd' vl' : Int32) (set' : Int64) (tr' lf' : Nat → Int32) (rs' : Nat → Int64) (var' la' : Nat → Int32), some (nI (k + 1), nI (H k - 1), nI (E k).length, vd, vl, set, x, lf, rs, var, la) = some (nI k', tru', loo', vd', vl', set', tr', lf', rs', var', la') ∧ stW n E H k' tru' loo' rs' var' la' := fun x => ⟨k + 1, _, _, _, _, _, _, _, _, _, _, rfl, ⟨by omega, by congr 1; omega, by rw [a2], by rw [a2]; exact hlp, hvar⟩⟩
    unfold f_M_perform_J165 f_M_perform_J166 f_M_perform_J217 f_M_perform_J222
    rw [nI_prd (m := H k) (by omega), nI_prd (m := H k - 1) (by omega), nI_1]
    simp only [ob_iv_i hg1, ob_iv_i hg2]
    rcases a1 with a1 | a1
    · have a1 : w (64 * q + k) = 3 := a1
      rw [if_neg (by rw [a1]; decide), if_neg (by rw [a1]; decide), if_pos a1]
      repeat' split
      all_goals exact fin _
    · have a1 : w (64 * q + k) = 4 := a1
      rw [if_neg (by rw [a1]; decide), if_neg (by rw [a1]; decide), if_neg (by rw [a1]; decide), if_pos a1]
      repeat' split
      all_goals exact fin _
  ·
    have a1 : w (64 * q + k) = 5 := a1
    have a5 : o (64 * q + k) = nI p := a5
    rw [if_neg (by rw [a1]; decide), if_neg (by rw [a1]; decide), if_neg (by rw [a1]; decide), if_neg (by rw [a1]; decide), if_pos a1, a5]
    rcases a10 with ⟨b1, -⟩ | ⟨e9, b1, b2, b3, b4, b5⟩
    · cases b1
    · have b1 : t (64 * q + k) = nI (v + 4 * e9) := b1
      obtain ⟨d1, d2⟩ := div4 (v := v) (e := e9) (by omega) (by omega)
      unfold f_M_enter
      obtain ⟨vd', vl', set', g1, g2⟩ := Q_eval hv hvar hq hl h6 a6 a7 vd vl set
      rw [g1, ob_bs, b1]
      dsimp only
      have j21 : ∀ y : Int64, ids y → ∃ (k' : Nat) (tru' loo' vd'' vl'' : Int32) (set'' : Int64) (var' : Nat → Int32) (rs' : Nat → Int64) (la' lf' tr' : Nat → Int32), f_M_enter_J21 (nI (v + 4 * e9)) (nI k) y (nI (H k)) (nI (E k).length) vd' vl' set' var rs la lf tr = some (nI k', tru', loo', vd'', vl'', set'', var', rs', la', lf', tr') ∧ stW n E H k' tru' loo' rs' var' la' := fun y hy => by
        unfold f_M_enter_J21
        by_cases hz : y = 0
        · obtain ⟨tr', g3⟩ := Q_push (m := H k) (by omega) tr 0
          rw [if_pos ((lg_cmp_eq y 0).mpr hz), g3, ob_bs, d1, nI_1]
          exact ⟨e9 + 1, _, _, _, _, _, _, _, _, _, _, rfl, ⟨by omega, by rw [b5], by rw [b4], by rw [b4]; exact hlp, hvar⟩⟩
        · have hgl : 0 ≤ (nI (E k).length).toInt ∧ (nI (E k).length).toInt < (3 : Nat) := by rw [nI_toInt (by omega)]; omega
          rw [if_neg (fun h => hz ((lg_cmp_eq y 0).mp h)), ob_iv_i hgl, ob_iv_i hgl, ob_iv_i hgl, d2, nI_1, nI_clamp (by omega)]
          obtain ⟨y2, t2, g3, g4, g5⟩ := Q_next (l := (E k).length) (v := v) (rs := vp_updL rs (E k).length y) (var := var) (by omega) (by omega) (by rw [pk_uLs]; exact hy) (by rw [pk_uLs]; exact hz) hvar
          rw [g3, ob_bs, nI_1]
          dsimp only
          refine ⟨k + 1, _, _, _, _, _, _, _, _, _, _, rfl, ⟨by omega, by rw [a3], by rw [a2]; rfl, ?_, varOk_u hvar g5⟩⟩
          rw [a2]
          refine ⟨pk_us, by rw [pk_uLs]; exact g4, ?_⟩
          exact lps_r (E k) (Nat.le_refl _) (lps_u (E k) (Nat.le_refl _) hlp)
      by_cases h3 : vd' = 3
      · rw [if_pos h3]
        obtain ⟨k', tru', loo', vd'', vl'', set'', var', rs', la', lf', tr', z1, z2⟩ := j21 set' (g2 h3)
        rw [z1, ob_bs]
        exact ⟨k', _, _, _, _, _, _, _, _, _, _, rfl, z2⟩
      · rw [if_neg h3]
        obtain ⟨k', tru', loo', vd'', vl'', set'', var', rs', la', lf', tr', z1, z2⟩ := j21 0 ids_0
        rw [z1, ob_bs]
        exact ⟨k', _, _, _, _, _, _, _, _, _, _, rfl, z2⟩
  ·
    have a1 : w (64 * q + k) = 6 := a1
    have a8 : t (64 * q + k) = nI v := a8
    rw [if_neg (by rw [a1]; decide), if_neg (by rw [a1]; decide), if_neg (by rw [a1]; decide), if_neg (by rw [a1]; decide), if_neg (by rw [a1]; decide), a8]
    rw [a3] at hlp hEl ⊢
    simp only [List.length_cons] at hEl ⊢
    obtain ⟨l1, l2, l3⟩ := hlp
    have hgl : 0 ≤ (nI (E (k + 1)).length).toInt ∧ (nI (E (k + 1)).length).toInt < (3 : Nat) := by rw [nI_toInt (by omega)]; omega
    have hgt : 0 ≤ (nI (H k - 1)).toInt ∧ (nI (H k - 1)).toInt < (64 : Nat) := by rw [nI_toInt (by omega)]; omega
    have j51 : ∀ y : Int32, ∃ (k' : Nat) (tru' loo' : Int32) (lf' : Nat → Int32) (rs' : Nat → Int64) (tr' var' : Nat → Int32), f_M_again_J51 (nI k) (nI v) la y (nI (E (k + 1)).length) (nI (H k - 1)) (nI ((E (k + 1)).length + 1)) lf rs tr var = some (nI k', tru', loo', lf', rs', tr', var') ∧ stW n E H k' tru' loo' rs' var' la := fun y => by
      unfold f_M_again_J51
      simp only [nI_pred, ob_iv_i hgl, nI_clamp (show (E (k + 1)).length < 2 ^ 31 by omega)]
      by_cases hz : rs (E (k + 1)).length = 0
      · obtain ⟨tr', g3⟩ := Q_push (m := H k - 1) (by omega) tr (upd lf (E (k + 1)).length (vp_nar .boolean y) (E (k + 1)).length)
        rw [if_pos ((lg_cmp_eq _ 0).mpr hz), g3, ob_bs, nI_1]
        exact ⟨k + 1, _, _, _, _, _, _, rfl, ⟨by omega, by rw [a6, show H k - 1 + 1 = H k by omega], rfl, l3, hvar⟩⟩
      · obtain ⟨y2, t2, g3, g4, g5⟩ := Q_next (l := (E (k + 1)).length) (v := v) (rs := rs) (var := var) (by omega) (by omega) l2 hz hvar
        rw [if_neg (fun h => hz ((lg_cmp_eq _ 0).mp h)), g3, ob_bs, l1]
        dsimp only
        refine ⟨k0 + 1, _, _, _, _, _, _, rfl, ⟨by omega, by congr 1; omega, by rw [a4, a3]; rfl, ?_, varOk_u hvar g5⟩⟩
        rw [a4, a3]
        exact ⟨l1, by rw [pk_uLs]; exact g4, lps_r _ (Nat.le_refl _) l3⟩
    unfold f_M_again f_M_again_J46
    rw [nI_pred, ob_iv_i hgl, nI_prd a5, ob_iv_i hgt]
    split
    · split
      · obtain ⟨k', tru', loo', lf', rs', tr', var', z1, z2⟩ := j51 0
        rw [z1, ob_bs]; exact ⟨k', _, _, _, _, _, _, _, _, _, _, rfl, z2⟩
      · obtain ⟨k', tru', loo', lf', rs', tr', var', z1, z2⟩ := j51 1
        rw [z1, ob_bs]; exact ⟨k', _, _, _, _, _, _, _, _, _, _, rfl, z2⟩
    · obtain ⟨k', tru', loo', lf', rs', tr', var', z1, z2⟩ := j51 1
      rw [z1, ob_bs]; exact ⟨k', _, _, _, _, _, _, _, _, _, _, rfl, z2⟩
theorem Q_meets_loop {so V le tx : Nat → Int32} {S : Nat → Int64} (hv : vOk so V S) {q len n : Nat} (hq : q ≤ 12) (hl : le q = nI len) (h6 : len ≤ 60) {sp w o t : Nat → Int32} {E : Nat → List Nat} {H : Nat → Nat} (hsp : sp q = nI n) (hW : cdW (chr tx q len) (fun j => w (64 * q + j)) (fun j => o (64 * q + j)) (fun j => t (64 * q + j)) n E H) : ∀ (f k c : Nat) (tru loo vd vl : Int32) (set : Int64) (tr lf : Nat → Int32) (rs : Nat → Int64) (var la : Nat → Int32), c ≤ 20000 → 20000 - c < f → stW n E H k tru loo rs var la →
    ∃ (r tru' loo' vd' vl' : Int32) (set' : Int64) (var' tr' lf' : Nat → Int32) (rs' : Nat → Int64) (la' : Nat → Int32), f_M_meets_L21 (nI q) sp o t w le tx so S V f (nI k) (nI c) tru loo vd vl set var tr lf rs la = some (r, tru', loo', vd', vl', set', var', tr', lf', rs', la') ∧ varOk var' := by
  intro f
  induction f with
  | zero => intro k c tru loo vd vl set tr lf rs var la _ h9; omega
  | succ f ih =>
    intro k c tru loo vd vl set tr lf rs var la hc h9 hS
    show ∃ (r tru' loo' vd' vl' : Int32) (set' : Int64) (var' tr' lf' : Nat → Int32) (rs' : Nat → Int64) (la' : Nat → Int32), f_M_meets_B21 (nI q) sp o t w le tx so S V (f_M_meets_L21 (nI q) sp o t w le tx so S V f) (nI k) (nI c) tru loo vd vl set var tr lf rs la = _ ∧ _
    have h63 := hW.n63
    have j53 : ∃ (r tru' loo' vd' vl' : Int32) (set' : Int64) (var' tr' lf' : Nat → Int32) (rs' : Nat → Int64) (la' : Nat → Int32), f_M_meets_J53 tru loo vd vl set var tr lf rs la = some (r, tru', loo', vd', vl', set', var', tr', lf', rs', la') ∧ varOk var' := by
      unfold f_M_meets_J53
      rw [ob_iv_i (by decide)]
      repeat' split
      all_goals exact ⟨_, _, _, _, _, _, _, _, _, _, _, rfl, hS.wv⟩
    unfold f_M_meets_B21
    rw [ob_iv_i (by rw [nI_toInt (by omega)]; omega), nI_clamp (by omega), hsp]
    have hk := hS.wk
    by_cases hkn : n ≤ k
    · rw [if_pos (nI_le hkn (by omega))]; exact j53
    · rw [if_neg (nI_ge (by omega) (by omega))]
      by_cases h2 : c = 20000
      · rw [if_pos (show (20000 : Int32) ≤ nI c from nI_le (a := 20000) (by omega) (by omega))]; exact j53
      · rw [if_neg (show ¬ (20000 : Int32) ≤ nI c from nI_ge (a := c) (b := 20000) (by omega) (by omega))]
        obtain ⟨k', tru', loo', vd', vl', set', tr', lf', rs', var', la', g1, g2⟩ := Q_perform hv hq hl h6 hW (by omega) hS vd vl set tr lf
        rw [g1, ob_bs, nI_1]
        exact ih k' (c + 1) _ _ _ _ _ _ _ _ _ _ (by omega) (by omega) g2
theorem Q_meets {so V le tx : Nat → Int32} {S : Nat → Int64} (hv : vOk so V S) {q len n : Nat} (hq : q ≤ 12) (hl : le q = nI len) (h6 : len ≤ 60) {sp w o t : Nat → Int32} {E : Nat → List Nat} {H : Nat → Nat} (hsp : sp q = nI n) (hW : cdW (chr tx q len) (fun j => w (64 * q + j)) (fun j => o (64 * q + j)) (fun j => t (64 * q + j)) n E H) (vd vl : Int32) (set : Int64) (tr lf : Nat → Int32) (rs : Nat → Int64) {var : Nat → Int32} (la : Nat → Int32) (hvar : varOk var) {i : Nat} (hi : i ≤ 62) :
    ∃ (r tru' loo' vd' vl' : Int32) (set' : Int64) (var' tr' lf' : Nat → Int32) (rs' : Nat → Int64) (la' : Nat → Int32), f_M_meets (nI q) vd vl set var sp tr o t w lf rs la le tx so S V (nI i) = some (r, tru', loo', vd', vl', set', var', tr', lf', rs', la') ∧ varOk var' := by
  unfold f_M_meets
  rw [ob_iv_i (by decide)]
  exact Q_meets_loop hv hq hl h6 hsp hW 20001 0 0 0 0 vd vl set tr lf rs _ la (by omega) (by omega) ⟨Nat.zero_le _, by rw [hW.h0]; rfl, by rw [hW.e0]; rfl, by rw [hW.e0]; trivial, varOk_u hvar hi⟩
theorem Q_served_loop {le tx : Nat → Int32} {q len : Nat} (hq : q ≤ 12) (hl : le q = nI len) (h6 : len ≤ 60) {r i : Nat} (hr : 1 ≤ r) (hr2 : r ≤ 100) (hi : i < 3) (ip : Nat → Int32) : ∀ (f a k : Nat), k ≤ 3 → 3 - k < f → a ≤ 200 + 2 * k → ∃ b : Int32, f_M_served_L50 (nI q) le tx (nI r) (nI i) ip f (nI a) (nI k) = some b := by
  intro f
  induction f with
  | zero => intro a k _ h9; omega
  | succ f ih =>
    intro a k hk h9 ha
    show ∃ b : Int32, f_M_served_B50 (nI q) le tx (nI r) (nI i) ip (f_M_served_L50 (nI q) le tx (nI r) (nI i) ip f) (nI a) (nI k) = some b
    unfold f_M_served_B50 f_M_served_J103
    by_cases h3 : k = 3
    · rw [if_pos (show (3 : Int32) ≤ nI k from nI_le (a := 3) (by omega) (by omega)), charAt_eq hq hl h6 (by omega), ob_bs, digit_eq, ob_bs]
      repeat' split
      all_goals exact ⟨_, rfl⟩
    · have e : 3 * nI i + nI k = nI (3 * i + k) := by rw [show (3 : Int32) = nI 3 from rfl, pk_mul, nI_add]
      rw [if_neg (show ¬ (3 : Int32) ≤ nI k from nI_ge (a := k) (b := 3) (by omega) (by omega)), e, ob_iv_i (by rw [nI_toInt (by omega)]; omega), nI_clamp (by omega), charAt_eq hq hl h6 (p := a) (by omega), ob_bs, nI_1, nI_1, charAt_eq hq hl h6 (p := a + 1) (by omega), ob_bs, Int32.add_zero, show (2 : Int32) = nI 2 from rfl, nI_add]
      have g1 := ih a (k + 1) (by omega) (by omega) (by omega)
      have g2 := ih (a + 2) (k + 1) (by omega) (by omega) (by omega)
      repeat' split
      all_goals first | exact g1 | exact g2 | exact ⟨_, rfl⟩
theorem Q_served {le tx : Nat → Int32} {q len : Nat} (hq : q ≤ 12) (hl : le q = nI len) (h6 : len ≤ 60) {p r i : Nat} (hp : p ≤ 100) (hr : 1 ≤ r) (hr2 : r ≤ 100) (hi : i < 3) (ixc cq ip : Nat → Int32) : ∃ b : Int32, f_M_served (nI q) ixc cq le tx ip (nI i) (nI p) (nI r) = some b := by
  unfold f_M_served
  rw [ob_iv_i (by rw [nI_toInt (by omega)]; omega), ob_iv_i (by rw [nI_toInt (by omega)]; omega), charAt_eq hq hl h6 (by omega), ob_bs, nI_prd hr, charAt_eq hq hl h6 (by omega), ob_bs, nI_1]
  have g := Q_served_loop (tx := tx) hq hl h6 hr hr2 hi ip 1000 (p + 1) 0 (by omega) (by omega) (by omega)
  repeat' split
  all_goals first | exact g | exact ⟨_, rfl⟩
def plOk (q n : Nat) (w : Nat → Int32) (x : Int32) : Prop := x = -1 ∨ ∃ k : Nat, k < n ∧ x = nI (64 * q + k) ∧ w (64 * q + k) = 1
theorem Q_planned {le tx : Nat → Int32} {q len n x : Nat} (hq : q ≤ 12) (hl : le q = nI len) (h6 : len ≤ 60) {sp w o t : Nat → Int32} {E : Nat → List Nat} {H : Nat → Nat} (hsp : sp q = nI n) (hW : cdW (chr tx q len) (fun j => w (64 * q + j)) (fun j => o (64 * q + j)) (fun j => t (64 * q + j)) n E H) (hx : x ≤ 3) (split_ ixc cq ip : Nat → Int32) : ∃ y : Int32, f_M_planned (nI x) (nI q) sp split_ w t o ixc cq le tx ip = some y ∧ plOk q n w y := by
  have h63 := hW.n63
  have outer : ∀ (f k : Nat), k ≤ n → n - k < f → ∃ y : Int32, f_M_planned_L2 (nI q) sp split_ (nI x) w t ixc cq le tx ip o f (nI k) = some y ∧ plOk q n w y := by
    intro f
    induction f with
    | zero => intro k _ h9; omega
    | succ f ih =>
      intro k hk h9
      show ∃ y : Int32, f_M_planned_B2 (nI q) sp split_ (nI x) w t ixc cq le tx ip o (f_M_planned_L2 (nI q) sp split_ (nI x) w t ixc cq le tx ip o f) (nI k) = some y ∧ plOk q n w y
      unfold f_M_planned_B2
      have gq : 0 ≤ (nI q).toInt ∧ (nI q).toInt < (13 : Nat) := by rw [nI_toInt (by omega)]; omega
      rw [ob_iv_i gq, ob_iv_i gq, nI_clamp (by omega), hsp]
      by_cases hkn : n ≤ k
      · rw [if_pos (nI_le hkn (by omega))]; exact ⟨_, rfl, Or.inl rfl⟩
      · rw [if_neg (nI_ge (by omega) (by omega))]
        split
        · have e : 64 * nI q + nI k = nI (64 * q + k) := by rw [show (64 : Int32) = nI 64 from rfl, pk_mul, nI_add]
          rw [e]
          have inner : ∀ (g i : Nat), i ≤ x → x - i < g → ∃ y : Int32, f_M_planned_L39 (nI x) (f_M_planned_L2 (nI q) sp split_ (nI x) w t ixc cq le tx ip o f) w t (nI q) ixc cq le tx ip o g (nI k) (nI (64 * q + k)) (nI i) = some y ∧ plOk q n w y := by
            intro g
            induction g with
            | zero => intro i _ h9; omega
            | succ g ihg =>
              intro i hi h9
              show ∃ y : Int32, f_M_planned_B39 (nI x) (f_M_planned_L2 (nI q) sp split_ (nI x) w t ixc cq le tx ip o f) w t (nI q) ixc cq le tx ip o (f_M_planned_L39 (nI x) (f_M_planned_L2 (nI q) sp split_ (nI x) w t ixc cq le tx ip o f) w t (nI q) ixc cq le tx ip o g) (nI k) (nI (64 * q + k)) (nI i) = some y ∧ plOk q n w y
              unfold f_M_planned_B39
              by_cases hix : x ≤ i
              · rw [if_pos (nI_le hix (by omega)), nI_1]; exact ih (k + 1) (by omega) (by omega)
              · have gs : 0 ≤ (nI (64 * q + k)).toInt ∧ (nI (64 * q + k)).toInt < (832 : Nat) := by rw [nI_toInt (by omega)]; omega
                rw [if_neg (nI_ge (by omega) (by omega)), ob_iv_i gs, ob_iv_i gs, ob_iv_i gs, ob_iv_i gs, nI_clamp (by omega), nI_1]
                have go := ihg (i + 1) (by omega) (by omega)
                by_cases h1 : w (64 * q + k) = 1
                · rw [if_pos h1]
                  split
                  · rcases hW.co k (by omega) with ⟨a1, a2, a3, p, r, b, a4, a5, a6, a7, a8, a9, a10, a11⟩ | ⟨a1, -⟩ | ⟨a1 | a1, -⟩ | ⟨a1, -⟩ | ⟨a1, -⟩
                    · have a4 : o (64 * q + k) = nI p := a4
                      have a5 : t (64 * q + k) = nI (2 * r + b) := a5
                      obtain ⟨b9, g9⟩ := Q_served (tx := tx) hq hl h6 a8 a7 a9 (i := i) (by omega) ixc cq ip
                      rw [a4, a5, div2 a6 (by omega), g9, ob_bs]
                      split
                      · exact go
                      · exact ⟨_, rfl, Or.inr ⟨k, by omega, rfl, h1⟩⟩
                    · exact absurd (h1.symm.trans a1) (by decide)
                    · exact absurd (h1.symm.trans a1) (by decide)
                    · exact absurd (h1.symm.trans a1) (by decide)
                    · exact absurd (h1.symm.trans a1) (by decide)
                    · exact absurd (h1.symm.trans a1) (by decide)
                  · exact go
                · rw [if_neg h1]; exact go
          exact inner 1000 0 (by omega) (by omega)
        · exact ⟨_, rfl, Or.inl rfl⟩
  exact outer 1000 0 (by omega) (by omega)
theorem Q_question {so V le tx : Nat → Int32} {S : Nat → Int64} (hv : vOk so V S) {q len n : Nat} (hq : q ≤ 12) (hl : le q = nI len) (h6 : len ≤ 60) {sp w o t : Nat → Int32} {E : Nat → List Nat} {H : Nat → Nat} (hsp : sp q = nI n) (hW : cdW (chr tx q len) (fun j => w (64 * q + j)) (fun j => o (64 * q + j)) (fun j => t (64 * q + j)) n E H) (hplus : chr tx q len 0 = 43 → opOk (chr tx q len) 1) {pl : Int32} (hpl : plOk q n w pl) (tru loo vd vl : Int32) (set tot : Int64) (lk : Int32) (tr lf hits : Nat → Int32) (rs : Nat → Int64) {var : Nat → Int32} (la : Nat → Int32) (hvar : varOk var) {i fi : Nat} (hi : i ≤ 62) (hfi : fi < 62) :
    ∃ (tru' loo' vd' vl' : Int32) (set' : Int64) (fi' : Nat) (tot' : Int64) (lk' : Int32) (var' tr' lf' : Nat → Int32) (rs' : Nat → Int64) (la' hits' : Nat → Int32), f_M_question (nI q) tru loo vd vl set (chr tx q len 0) (nI fi) tot lk var sp tr o t w lf rs la le tx so S V hits (nI i) pl = some (tru', loo', vd', vl', set', nI fi', tot', lk', var', tr', lf', rs', la', hits') ∧ varOk var' ∧ fi' ≤ fi + 1 := by
  have h63 := hW.n63
  have hvar0 : varOk (upd var (0 : Int32).toNatClampNeg (nI i)) := varOk_u hvar hi
  have j42 : ∀ (vd vl : Int32) (set : Int64) (lk : Int32), ∃ (tru' loo' vd' vl' : Int32) (set' : Int64) (fi' : Nat) (tot' : Int64) (lk' : Int32) (var' tr' lf' : Nat → Int32) (rs' : Nat → Int64) (la' hits' : Nat → Int32), f_M_question_J42 (nI q) sp o t w le tx so S V (nI i) (chr tx q len 0) tru loo vd vl set (nI fi) tot lk (upd var (0 : Int32).toNatClampNeg (nI i)) tr lf rs la hits = some (tru', loo', vd', vl', set', nI fi', tot', lk', var', tr', lf', rs', la', hits') ∧ varOk var' ∧ fi' ≤ fi + 1 := fun vd vl set lk => by
    unfold f_M_question_J42 f_M_question_J118
    obtain ⟨r, tru', loo', vd', vl', set', var', tr', lf', rs', la', g1, g2⟩ := Q_meets hv hq hl h6 hsp hW vd vl set tr lf rs la hvar0 hi
    rw [g1, ob_bs]
    dsimp only
    split
    · exact ⟨_, _, _, _, _, fi, _, _, _, _, _, _, _, _, rfl, g2, by omega⟩
    · rw [ob_iv_i (by rw [nI_toInt (by omega)]; omega), nI_1]
      split
      · rename_i h43
        obtain ⟨a1, a2, a3, k1, -⟩ := Q_eval hv g2 hq hl h6 (p := 1) (by omega) (hplus h43) vd' vl' set'
        have k1' : f_M_evaluate (nI q) vd' vl' set' le tx var' so S V 1 = some (a1, a2, a3) := k1
        rw [k1', ob_bs]
        dsimp only
        split
        · exact ⟨_, _, _, _, _, fi + 1, _, _, _, _, _, _, _, _, rfl, g2, by omega⟩
        · exact ⟨_, _, _, _, _, fi + 1, _, _, _, _, _, _, _, _, rfl, g2, by omega⟩
      · exact ⟨_, _, _, _, _, fi + 1, _, _, _, _, _, _, _, _, rfl, g2, by omega⟩
  unfold f_M_question f_M_question_J32
  rw [ob_iv_i (by decide)]
  rcases hpl with rfl | ⟨k, hk, rfl, hw⟩
  · rw [if_pos (by decide)]; exact j42 vd vl set (lk + 1)
  · have gs : 0 ≤ (nI (64 * q + k)).toInt ∧ (nI (64 * q + k)).toInt < (832 : Nat) := by rw [nI_toInt (by omega)]; omega
    rw [if_neg (nI_pos (by omega)), ob_iv_i gs, ob_iv_i gs, nI_clamp (by omega)]
    rcases hW.co k (by omega) with ⟨a1, a2, a3, p, r, b, a4, a5, a6, a7, a8, a9, a10, a11⟩ | ⟨a1, -⟩ | ⟨a1 | a1, -⟩ | ⟨a1, -⟩ | ⟨a1, -⟩
    · have a4 : o (64 * q + k) = nI p := a4
      have a5 : t (64 * q + k) = nI (2 * r + b) := a5
      obtain ⟨b9, vd', vl', set', g1⟩ := Q_compares hv hvar0 hq hl h6 a8 a9 a7 a10 a11 vd vl set
      rw [a4, a5, div2 a6 (by omega), g1, ob_bs]
      dsimp only
      split
      · exact j42 vd' vl' set' lk
      · exact j42 vd' vl' set' (lk + 1)
    · exact absurd (hw.symm.trans a1) (by decide)
    · exact absurd (hw.symm.trans a1) (by decide)
    · exact absurd (hw.symm.trans a1) (by decide)
    · exact absurd (hw.symm.trans a1) (by decide)
    · exact absurd (hw.symm.trans a1) (by decide)

theorem Q_ask_loop {s : CS} (h : rCore s) {so V le tx : Nat → Int32} {S : Nat → Int64} (hv : vOk so V S) {q len n c : Nat} (hq : q ≤ 12) (hl : le q = nI len) (h6 : len ≤ 60) {sp w o t cq : Nat → Int32} {E : Nat → List Nat} {H : Nat → Nat} (hsp : sp q = nI n) (hW : cdW (chr tx q len) (fun j => w (64 * q + j)) (fun j => o (64 * q + j)) (fun j => t (64 * q + j)) n E H) (hplus : chr tx q len 0 = 43 → opOk (chr tx q len) 1) (hcq : cq q = nI c) (hc : c ≤ s.cc) {pl : Int32} (hpl : plOk q n w pl) (all : Int64) :
    ∀ (f i fi : Nat) (tru loo vd vl : Int32) (set tot : Int64) (lk : Int32) (var tr lf : Nat → Int32) (rs : Nat → Int64) (la hits : Nat → Int32), 1 ≤ i → i ≤ s.mkd + 1 → s.mkd + 1 - i < f → fi < i → varOk var →
    ∃ (r nw tru' loo' vd' vl' : Int32) (set' : Int64) (lt : Int32) (fi' : Nat) (tot' : Int64) (lk' : Int32) (var' tr' lf' : Nat → Int32) (rs' : Nat → Int64) (la' hits' : Nat → Int32), f_M_ask_L74 (nI s.mkd) (nI q) s.mpr s.c1 cq sp o t w le tx so S V f pl all (nI i) (nI q) tru loo vd vl set (chr tx q len 0) (nI fi) tot lk var tr lf rs la hits = some (r, nw, tru', loo', vd', vl', set', lt, nI fi', tot', lk', var', tr', lf', rs', la', hits') ∧ varOk var' ∧ fi' ≤ 62 := by
  have h62 := h.mk62
  have h5 := rc_5 h
  intro f
  induction f with
  | zero => intro i fi tru loo vd vl set tot lk var tr lf rs la hits _ _ h9; omega
  | succ f ih =>
    intro i fi tru loo vd vl set tot lk var tr lf rs la hits h1 h2 h9 hfi hvar
    show ∃ (r nw tru' loo' vd' vl' : Int32) (set' : Int64) (lt : Int32) (fi' : Nat) (tot' : Int64) (lk' : Int32) (var' tr' lf' : Nat → Int32) (rs' : Nat → Int64) (la' hits' : Nat → Int32), f_M_ask_B74 (nI s.mkd) (nI q) s.mpr s.c1 cq sp o t w le tx so S V (f_M_ask_L74 (nI s.mkd) (nI q) s.mpr s.c1 cq sp o t w le tx so S V f) pl all (nI i) (nI q) tru loo vd vl set (chr tx q len 0) (nI fi) tot lk var tr lf rs la hits = _ ∧ _
    unfold f_M_ask_B74
    by_cases he : i = s.mkd + 1
    · rw [if_pos (nI_lt (by omega) (by omega))]
      exact ⟨_, _, _, _, _, _, _, _, fi, _, _, _, _, _, _, _, _, rfl, hvar, by omega⟩
    · rw [if_neg (nI_nlt (by omega) (by omega)), in_eq, ob_bs, nI_1]
      have go := fun fi' (hf : fi' < i + 1) tru loo vd vl set tot lk var tr lf rs la hits hvar => ih (i + 1) fi' tru loo vd vl set tot lk var tr lf rs la hits (by omega) (by omega) (by omega) hf hvar
      split
      · exact go fi (by omega) _ _ _ _ _ _ _ _ _ _ _ _ _ hvar
      · obtain ⟨c1, c2, c3⟩ := h.cls i h1 (by omega)
        rw [ob_iv_i (by rw [nI_toInt (by omega)]; omega), ob_iv_i (by rw [nI_toInt (by omega)]; omega), nI_clamp (by omega), nI_clamp (by omega), c1, hcq, M_is h.sch.2.2.2.2.2.2.1 (by omega) (by omega), ob_bs]
        split
        · exact go fi (by omega) _ _ _ _ _ _ _ _ _ _ _ _ _ hvar
        · obtain ⟨tru', loo', vd', vl', set', fi', tot', lk', var', tr', lf', rs', la', hits', g1, g2, g3⟩ := Q_question hv hq hl h6 hsp hW hplus hpl tru loo vd vl set tot lk tr lf hits rs la hvar (i := i) (fi := fi) (by omega) (by omega)
          rw [g1, ob_bs]
          exact go fi' (by omega) _ _ _ _ _ _ _ _ _ _ _ _ _ g2
theorem Q_ask {s : CS} (h : rCore s) {k : Nat} (hk : k ≤ 12) {le tx cq sp w o t : Nat → Int32} (hqs : ∀ q, q < k → qmOk s.cc le tx cq sp w o t q) {var : Nat → Int32} (hvar : varOk var) (split ixc ip tr lf hits la : Nat → Int32) (rs : Nat → Int64) (nw tru loo vd vl lt : Int32) {fi : Nat} (hfi : fi ≤ 62) (set tot : Int64) (lk z : Int32) :
    ∃ (r nw' tru' loo' vd' vl' : Int32) (set' : Int64) (lt' : Int32) (fi' : Nat) (tot' : Int64) (lk' : Int32) (var' tr' lf' : Nat → Int32) (rs' : Nat → Int64) (la' hits' : Nat → Int32), f_M_ask (nI s.fc) s.ix (nI s.mkd) s.op s.dn (nI k) nw tru loo vd vl set lt (nI fi) tot lk le tx sp split w t o ixc cq ip s.c1 s.mow s.mpr s.mso s.S s.dS s.V s.dV s.N s.dN var tr lf rs la hits z = some (r, nw', tru', loo', vd', vl', set', lt', nI fi', tot', lk', var', tr', lf', rs', la', hits') ∧ varOk var' ∧ fi' ≤ 62 := by
  have no : ∀ r0 : Int32, ∃ (r nw' tru' loo' vd' vl' : Int32) (set' : Int64) (lt' : Int32) (fi' : Nat) (tot' : Int64) (lk' : Int32) (var' tr' lf' : Nat → Int32) (rs' : Nat → Int64) (la' hits' : Nat → Int32), some (r0, nw, tru, loo, vd, vl, set, lt, nI fi, tot, lk, var, tr, lf, rs, la, hits) = some (r, nw', tru', loo', vd', vl', set', lt', nI fi', tot', lk', var', tr', lf', rs', la', hits') ∧ varOk var' ∧ fi' ≤ 62 := fun r0 => ⟨r0, _, _, _, _, _, _, _, fi, _, _, _, _, _, _, _, _, rfl, hvar, hfi⟩
  unfold f_M_ask
  by_cases hd : s.dn = 0
  · rw [if_pos hd]
    by_cases h1 : z < 0
    · rw [if_pos h1]; exact no (-1)
    · rw [if_neg h1]
      by_cases h2 : nI k ≤ z
      · rw [if_pos h2]; exact no (-1)
      · rw [if_neg h2]
        by_cases ho : s.op = 0
        · rw [if_pos ho]
          rw [Int32.lt_iff_toInt_lt, i0] at h1
          rw [Int32.le_iff_toInt_le, nI_toInt (by omega)] at h2
          obtain ⟨q, hq9⟩ : ∃ q : Nat, z.toInt = (q : Int) := ⟨z.toInt.toNat, by omega⟩
          have ez := nI_z hq9 (by omega)
          obtain ⟨len, n, c, a1, a2, a3, ⟨b1, E, H, b2, b3, b4, b5⟩, a5, a6, a7, a8⟩ := hqs q (by omega)
          have hW : cdW (chr tx q len) (fun j => w (64 * q + j)) (fun j => o (64 * q + j)) (fun j => t (64 * q + j)) n E H := ⟨b1, b2, b3, b4, b5⟩
          obtain ⟨x, hx, ex⟩ := h.ix
          obtain ⟨y, g1, g2⟩ := Q_planned (tx := tx) (by omega) a1 a2 a3 hW hx split ixc cq ip
          obtain ⟨K, hK⟩ := (shown_im h hd).1 ho
          obtain ⟨K2, hK2⟩ := h.kp0 (h.dlm hd).2
          obtain ⟨r, -, -, -, -, r5⟩ := reach_same2 h.sch hK2 h.mk62 h.cls
          have e0 : f_M_charAt (nI q) le tx 0 = some (chr tx q len 0) := charAt_eq (by omega) a1 a2 (p := 0) (by omega)
          rw [ez, e0, ob_bs, ex, g1, ob_bs, r5 s.V s.dV s.N s.dN s.S s.dS 1 (if_neg (by decide)) (if_neg (by decide)) (if_neg (by decide)), ob_bs]
          exact Q_ask_loop h (vOk_of h hK) (by omega) a1 a2 a3 hW a8 a5 a7 g2 r 1000 1 0 tru loo vd vl set 0 0 var tr lf rs la hits (by omega) (by omega) (by have := h.mk62; omega) (by omega) hvar
        · rw [if_neg ho]; exact no (-1)
  · rw [if_neg hd]; exact no (-4)
theorem Q_draft {d : Nat} (hd : d ≤ 60) (dr : Nat → Int32) (z : Int64) : ∃ (r : Int32) (d' : Nat) (dr' : Nat → Int32), f_M_draft (nI d) dr z = some (r, nI d', dr') ∧ d' ≤ 60 := by
  have l112 : ∀ (f n j : Nat) (dr : Nat → Int32), j ≤ n → n ≤ 8 → d + n ≤ 60 → n - j < f → ∃ (r : Int32) (d' : Nat) (dr' : Nat → Int32), f_M_draft_L112 z f (nI n) (nI j) (nI d) dr = some (r, nI d', dr') ∧ d' ≤ 60 := by
    intro f
    induction f with
    | zero => intro n j dr _ _ _ h9; omega
    | succ f ih =>
      intro n j dr h1 h8 h2 h9
      show ∃ (r : Int32) (d' : Nat) (dr' : Nat → Int32), f_M_draft_B112 z (f_M_draft_L112 z f) (nI n) (nI j) (nI d) dr = some (r, nI d', dr') ∧ d' ≤ 60
      unfold f_M_draft_B112
      by_cases hj : n ≤ j
      · rw [if_pos (nI_le hj (by omega)), nI_add]; exact ⟨_, _, _, rfl, h2⟩
      · rw [if_neg (nI_ge (by omega) (by omega)), nI_add, ob_iv_i (by rw [nI_toInt (by omega)]; omega), nI_1]
        exact ih n (j + 1) _ (by omega) h8 h2 (by omega)
  have j87 : ∀ (n : Nat) (x4 : Int32) (dr : Nat → Int32), n ≤ 8 → ∃ (r : Int32) (d' : Nat) (dr' : Nat → Int32), f_M_draft_J87 z (nI n) x4 (nI d) dr = some (r, nI d', dr') ∧ d' ≤ 60 := fun n x4 dr hn => by
    unfold f_M_draft_J87
    split
    · exact ⟨_, _, _, rfl, hd⟩
    · split
      · exact ⟨_, _, _, rfl, hd⟩
      · rw [nI_add]
        split
        · rename_i h60
          rw [Int32.le_iff_toInt_le, nI_toInt (by omega), show (60 : Int32).toInt = 60 by decide] at h60
          exact l112 1000 n 0 dr (by omega) hn (by omega) (by omega)
        · exact ⟨_, _, _, rfl, hd⟩
  have l18 : ∀ (f n : Nat) (x4 : Int32), n ≤ 8 → 8 - n < f → ∃ (r : Int32) (d' : Nat) (dr' : Nat → Int32), f_M_draft_L18 z f (nI n) x4 (nI d) dr = some (r, nI d', dr') ∧ d' ≤ 60 := by
    intro f
    induction f with
    | zero => intro n x4 _ h9; omega
    | succ f ih =>
      intro n x4 h8 h9
      show ∃ (r : Int32) (d' : Nat) (dr' : Nat → Int32), f_M_draft_B18 z (f_M_draft_L18 z f) (nI n) x4 (nI d) dr = some (r, nI d', dr') ∧ d' ≤ 60
      unfold f_M_draft_B18
      by_cases h : n = 8
      · rw [if_pos (show (8 : Int32) ≤ nI n from nI_le (a := 8) (by omega) (by omega))]; exact j87 n x4 dr h8
      · rw [if_neg (show ¬ (8 : Int32) ≤ nI n from nI_ge (a := n) (b := 8) (by omega) (by omega)), nI_1]
        have g0 := ih (n + 1) 0 (by omega) (by omega)
        have g1 := ih (n + 1) 1 (by omega) (by omega)
        have g2 := j87 n x4 dr h8
        repeat' split
        all_goals first | exact g0 | exact g1 | exact g2
  unfold f_M_draft
  split
  · exact ⟨_, 0, _, rfl, by omega⟩
  · exact l18 1000 0 1 (by omega) (by omega)
theorem Q_hit {fi : Nat} (hfi : fi ≤ 62) (dn lt z : Int32) (hits : Nat → Int32) : ∃ r : Int32, f_M_hit dn lt (nI fi) hits z = some r := by
  unfold f_M_hit
  split
  · split
    · split
      · exact ⟨_, rfl⟩
      · split
        · exact ⟨_, rfl⟩
        · rename_i h1 h2
          rw [Int32.lt_iff_toInt_lt, i0] at h1
          rw [Int32.le_iff_toInt_le, nI_toInt (by omega)] at h2
          rw [ob_iv_i (by omega)]; exact ⟨_, rfl⟩
    · exact ⟨_, rfl⟩
  · exact ⟨_, rfl⟩
theorem Q_look {s : CS} (h : rCore s) (mh mw lk z : Int32) : ∃ r : Int32, f_M_look (nI s.fc) (nI s.mkd) s.sl mh s.op s.dn s.ar mw lk s.c1 s.mow s.mpr s.mso s.S s.dS s.V s.dV s.N s.dN z = some r := by
  have j19 : (s.dn = 0 ∨ ¬ z = 1) → ∃ r : Int32, f_M_look_J19 z s.sl (nI s.fc) (nI s.mkd) s.c1 s.mow s.mpr s.mso s.S s.dS s.V s.dV s.N s.dN mh mw s.ar s.dn s.op lk = some r := fun hc => by
    unfold f_M_look_J19
    rw [count_eq, ob_bs]
    split
    · exact ⟨_, rfl⟩
    · split
      · rename_i h1
        have hd : s.dn = 0 := hc.elim id (fun hh => absurd h1 hh)
        obtain ⟨K2, hK2⟩ := h.kp0 (h.dlm hd).2
        obtain ⟨r, -, -, -, -, r5⟩ := reach_same2 h.sch hK2 h.mk62 h.cls
        rw [r5 s.V s.dV s.N s.dN s.S s.dS 1 (if_neg (by decide)) (if_neg (by decide)) (if_neg (by decide)), ob_bs, count_eq, ob_bs]
        exact ⟨_, rfl⟩
      · repeat' split
        all_goals exact ⟨_, rfl⟩
  unfold f_M_look
  split
  · rename_i hd; exact j19 (Or.inl hd)
  · split
    · rename_i h0; exact j19 (Or.inr (fun e => by rw [e] at h0; revert h0; decide))
    · split
      · rename_i h0; exact j19 (Or.inr (fun e => by rw [e] at h0; revert h0; decide))
      · exact ⟨_, rfl⟩

def chOk (ch : Nat → Int32) : Prop := ∀ i, i < 60 → 0 ≤ (ch i).toInt ∧ (ch i).toInt < 65536
def chx (ch : Nat → Int32) (len p : Nat) : Int32 := if len ≤ p then 0 else ch p
theorem chx_lt {ch : Nat → Int32} {len p : Nat} (h : ¬ chx ch len p = 0) : p < len := by
  by_cases hh : len ≤ p
  · exact absurd (if_pos hh) h
  · omega
theorem chx_r {ch : Nat → Int32} {len : Nat} (hc : chOk ch) (h6 : len ≤ 60) (p : Nat) : 0 ≤ (chx ch len p).toInt ∧ (chx ch len p).toInt < 65536 := by
  unfold chx
  by_cases h : len ≤ p
  · rw [if_pos h]; decide
  · rw [if_neg h]; exact hc p (by omega)
theorem at_n {ch : Nat → Int32} {len : Nat} (hc : chOk ch) (h6 : len ≤ 60) {p : Nat} (hp : p < 2 ^ 31) : f_Text_at (nI len) ch (nI p) = some (chx ch len p) := by
  unfold f_Text_at chx
  rw [if_neg (nI_pos hp)]
  by_cases h : len ≤ p
  · rw [if_pos (nI_le h (by omega)), if_pos h]
  · rw [if_neg (nI_ge (by omega) (by omega)), if_neg h, ob_iv_i (by rw [nI_toInt (by omega)]; omega), nI_clamp (by omega), ob_nc_i (hc p (by omega))]
theorem at_x {ch : Nat → Int32} {len : Nat} (hc : chOk ch) (h6 : len ≤ 60) (z : Int32) : ∃ r : Int32, f_Text_at (nI len) ch z = some r ∧ 0 ≤ r.toInt ∧ r.toInt < 65536 := by
  by_cases h : 0 ≤ z.toInt
  · obtain ⟨p, hp⟩ : ∃ p : Nat, z.toInt = (p : Int) := ⟨z.toInt.toNat, by omega⟩
    have hlt : p < 2 ^ 31 := by have := Int32.toInt_lt z; omega
    rw [nI_z hp hlt, at_n hc h6 hlt]
    exact ⟨_, rfl, chx_r hc h6 p⟩
  · unfold f_Text_at
    rw [if_pos (by rw [Int32.lt_iff_toInt_lt, i0]; omega)]
    exact ⟨0, rfl, by decide, by decide⟩
theorem peek_n {ch : Nat → Int32} {len : Nat} (hc : chOk ch) (h6 : len ≤ 60) {p : Nat} (hp : p ≤ 100000) : f_Reader_peek (nI p) (nI len) ch = some (chx ch len p) := by
  unfold f_Reader_peek chx
  by_cases h : len ≤ p
  · rw [if_pos (nI_le h (by omega)), if_pos h]
  · rw [if_neg (nI_ge (by omega) (by omega)), if_neg h, ob_iv_i (by rw [nI_toInt (by omega)]; omega), nI_clamp (by omega), ob_nc_i (hc p (by omega))]
theorem take_n {ch : Nat → Int32} {len : Nat} (hc : chOk ch) (h6 : len ≤ 60) {p : Nat} (hp : p ≤ 100000) : f_Reader_take (nI p) (nI len) ch = some (chx ch len p, nI (p + 1)) := by
  unfold f_Reader_take f_Reader_take_J30 chx
  by_cases h : len ≤ p
  · rw [if_pos (nI_le h (by omega)), if_pos h, ob_nc_i (by decide), nI_1]
  · rw [if_neg (nI_ge (by omega) (by omega)), if_neg h, ob_iv_i (by rw [nI_toInt (by omega)]; omega), nI_clamp (by omega), ob_nc_i (hc p (by omega)), nI_1]
theorem isDigit_eq (c : Int32) : f_OB_isDigit c = some (b2i (dig c)) := digit_eq c
theorem R_num_loop {ch : Nat → Int32} {len a : Nat} (hc : chOk ch) (h6 : len ≤ 60) (ha : a < len) (x2 : Int32) : ∀ (f k b : Nat) (x3 : Int64) (num : Nat → Int32), k ≤ 11 → 11 - k < f → b ≤ len → ∃ (r : Int32) (b' : Nat) (num' : Nat → Int32), f_Reader_readNumber_L39 (nI len) ch f (nI a) x2 x3 (nI k) (nI b) num = some (r, nI b', num') ∧ (r = -1 ∨ r = 0) ∧ b' ≤ len := by
  intro f
  induction f with
  | zero => intro k b x3 num _ h9; omega
  | succ f ih =>
    intro k b x3 num hk h9 hb
    show ∃ (r : Int32) (b' : Nat) (num' : Nat → Int32), f_Reader_readNumber_B39 (nI len) ch (f_Reader_readNumber_L39 (nI len) ch f) (nI a) x2 x3 (nI k) (nI b) num = some (r, nI b', num') ∧ (r = -1 ∨ r = 0) ∧ b' ≤ len
    have j87 : ∀ y : Int64, ∃ (r : Int32) (b' : Nat) (num' : Nat → Int32), f_Reader_readNumber_J87 (nI a) (nI k) y (nI b) num = some (r, nI b', num') ∧ (r = -1 ∨ r = 0) ∧ b' ≤ len := fun y => by
      unfold f_Reader_readNumber_J87
      rw [ob_iv_i (by rw [nI_toInt (by omega)]; omega)]
      repeat' split
      all_goals first | exact ⟨_, b, _, rfl, Or.inl rfl, hb⟩ | exact ⟨_, b, _, rfl, Or.inr rfl, hb⟩
    have j77 : ∃ (r : Int32) (b' : Nat) (num' : Nat → Int32), f_Reader_readNumber_J77 (nI a) x2 x3 (nI k) (nI b) num = some (r, nI b', num') ∧ (r = -1 ∨ r = 0) ∧ b' ≤ len := by
      unfold f_Reader_readNumber_J77
      split
      · exact j87 _
      · exact j87 _
    unfold f_Reader_readNumber_B39
    by_cases h10 : 10 < k
    · rw [if_pos (show (10 : Int32) < nI k from nI_lt (a := 10) h10 (by omega))]; exact j77
    · rw [if_neg (show ¬ (10 : Int32) < nI k from nI_nlt (a := 10) (by omega) (by omega)), peek_n hc h6 (by omega), ob_bs, isDigit_eq, ob_bs, take_n hc h6 (by omega), ob_bs, nI_1]
      cases hd : dig (chx ch len b)
      · rw [if_pos b2i_f]; exact j77
      · rw [if_neg b2i_t]
        have hlt : b < len := chx_lt (ch := ch) (fun e => by rw [e, dig_0] at hd; cases hd)
        exact ih (k + 1) (b + 1) _ num (by omega) (by omega) (by omega)
theorem R_number {ch : Nat → Int32} {len a : Nat} (hc : chOk ch) (h6 : len ≤ 60) (ha : a < len) (num : Nat → Int32) : ∃ (r : Int32) (b : Nat) (num' : Nat → Int32), f_Reader_readNumber (nI a) (nI len) ch num = some (r, nI b, num') ∧ (r = -1 ∨ r = 0) ∧ b ≤ len := by
  unfold f_Reader_readNumber f_Reader_readNumber_J19
  rw [peek_n hc h6 (by omega), ob_bs, if_pos rfl, if_neg one_ne, nI_1]
  split
  · exact R_num_loop hc h6 ha 1 1000 0 (a + 1) 0 num (by omega) (by omega) (by omega)
  · exact R_num_loop hc h6 ha 0 1000 0 a 0 num (by omega) (by omega) (by omega)
theorem xtg_ok {s : CS} (h : rCore s) {f : Nat} (hf : f < s.fc) : ∃ c : Nat, s.xtg f = nI c ∧ c ≤ s.cc := by
  obtain ⟨-, -, -, -, -, -, -, a8, a9⟩ := h.sch.2.2.2.2.2.2.2.2.2 f hf
  by_cases h0 : s.mso f = 0
  · exact ⟨0, a9 h0, by omega⟩
  · obtain ⟨b1, -, -, b4⟩ := a8 h0; exact ⟨_, b1, b4⟩
theorem R_path_loop {s : CS} (h : rCore s) {ch : Nat → Int32} {len : Nat} (hc : chOk ch) (h6 : len ≤ 60) : ∀ (f i b c : Nat) (kd : Int32), i ≤ 60 → 60 - i < f → b ≤ len → c ≤ s.cc → (kd = 0 ∨ kd = 1 ∨ kd = 2) → ∃ (r : Int32) (b' : Nat) (led : Int32), f_Reader_readPath_L42 (nI len) ch (nI s.fc) s.xab s.xow s.xkd s.xtg f kd (nI i) (nI b) (nI c) = some (r, nI b', led) ∧ (r = -1 ∨ r = 0 ∨ r = 1 ∨ r = 2) ∧ b' ≤ len + 1 ∧ (¬ r = -1 → b' ≤ len ∧ ∃ c : Nat, led = nI c ∧ c ≤ s.cc) := by
  intro f
  induction f with
  | zero => intro i b c kd _ h9; omega
  | succ f ih =>
    intro i b c kd hi h9 hb hcc hk
    show ∃ (r : Int32) (b' : Nat) (led : Int32), f_Reader_readPath_B42 (nI len) ch (nI s.fc) s.xab s.xow s.xkd s.xtg (f_Reader_readPath_L42 (nI len) ch (nI s.fc) s.xab s.xow s.xkd s.xtg f) kd (nI i) (nI b) (nI c) = _ ∧ _
    have h8 := rc_8 h
    have stop : ∃ (r : Int32) (b' : Nat) (led : Int32), some (kd, nI b, nI c) = some (r, nI b', led) ∧ (r = -1 ∨ r = 0 ∨ r = 1 ∨ r = 2) ∧ b' ≤ len + 1 ∧ (¬ r = -1 → b' ≤ len ∧ ∃ c : Nat, led = nI c ∧ c ≤ s.cc) := ⟨kd, b, _, rfl, Or.inr hk, by omega, fun _ => ⟨hb, c, rfl, hcc⟩⟩
    unfold f_Reader_readPath_B42
    by_cases h60 : i = 60
    · rw [if_pos (show (60 : Int32) ≤ nI i from nI_le (a := 60) (by omega) (by omega))]; exact stop
    · rw [if_neg (show ¬ (60 : Int32) ≤ nI i from nI_ge (a := i) (b := 60) (by omega) (by omega)), peek_n hc h6 (by omega), ob_bs]
      by_cases hd : chx ch len b = 46
      · have hlt : b < len := chx_lt (ch := ch) (fun e => by rw [e] at hd; revert hd; decide)
        rw [if_pos hd, nI_1, take_n hc h6 (by omega), ob_bs]
        dsimp only
        have bad : ∃ (r : Int32) (b' : Nat) (led : Int32), some ((-1 : Int32), nI (b + 1 + 1), nI c) = some (r, nI b', led) ∧ (r = -1 ∨ r = 0 ∨ r = 1 ∨ r = 2) ∧ b' ≤ len + 1 ∧ (¬ r = -1 → b' ≤ len ∧ ∃ c : Nat, led = nI c ∧ c ≤ s.cc) := ⟨-1, _, _, rfl, Or.inl rfl, by omega, fun hh => absurd rfl hh⟩
        by_cases h1 : kd = 1
        · rw [if_pos h1]
          obtain ⟨bb, e1, -, e3⟩ := field_eq h hcc (chx ch len (b + 1) - 97)
          rw [e1, ob_bs]
          cases bb
          · rw [if_pos b2i_f]; exact bad
          · obtain ⟨g, hg, eg, -⟩ := e3 rfl
            have hlt2 : b + 1 < len := chx_lt (ch := ch) (fun e => by
              rw [e] at eg
              have := congrArg Int32.toInt eg
              rw [nI_toInt (by omega), show ((0 : Int32) - 97).toInt = -97 by decide] at this; omega)
            obtain ⟨c2, ec, hc2⟩ := xtg_ok h hg
            have hgg : 0 ≤ (nI g).toInt ∧ (nI g).toInt < (8 : Nat) := by rw [nI_toInt (by omega)]; omega
            rw [if_neg b2i_t, eg, ob_iv_i hgg, ob_iv_i hgg, nI_clamp (by omega), nI_1, ec, (rc_f h hg).2.2.2.2.1]
            exact ih (i + 1) (b + 1 + 1) c2 _ (by omega) (by omega) (by omega) hc2 (rc_f h hg).2.2.2.2.2.1
        · rw [if_neg h1]; exact bad
      · rw [if_neg hd]; exact stop
theorem R_path {s : CS} (h : rCore s) {ch sd : Nat → Int32} {len a : Nat} (hc : chOk ch) (h6 : len ≤ 60) (ha : a ≤ 10000) (hsd : sdOk s.cc sd) (led : Int32) : ∃ (r : Int32) (b : Nat) (led' : Int32), f_Reader_readPath (nI a) led (nI len) ch sd (nI s.fc) s.xab s.xow s.xkd s.xtg = some (r, nI b, led') ∧ (r = -1 ∨ r = 0 ∨ r = 1 ∨ r = 2) ∧ (b ≤ a + 1 ∨ b ≤ len + 1) ∧ (¬ r = -1 → a < len ∧ b ≤ len ∧ ∃ c : Nat, led' = nI c ∧ c ≤ s.cc) := by
  unfold f_Reader_readPath
  rw [take_n hc h6 (by omega), ob_bs]
  dsimp only
  have bad : ∃ (r : Int32) (b : Nat) (led' : Int32), some ((-1 : Int32), nI (a + 1), led) = some (r, nI b, led') ∧ (r = -1 ∨ r = 0 ∨ r = 1 ∨ r = 2) ∧ (b ≤ a + 1 ∨ b ≤ len + 1) ∧ (¬ r = -1 → a < len ∧ b ≤ len ∧ ∃ c : Nat, led' = nI c ∧ c ≤ s.cc) := ⟨-1, _, _, rfl, Or.inl rfl, by omega, fun hh => absurd rfl hh⟩
  by_cases h1 : chx ch len a - 120 < 0
  · rw [if_pos h1]; exact bad
  · rw [if_neg h1]
    by_cases h2 : 3 ≤ chx ch len a - 120
    · rw [if_pos h2]; exact bad
    · rw [if_neg h2]
      rw [Int32.lt_iff_toInt_lt, i0] at h1
      rw [Int32.le_iff_toInt_le, i3] at h2
      obtain ⟨v, hv⟩ : ∃ v : Nat, (chx ch len a - 120).toInt = (v : Int) := ⟨(chx ch len a - 120).toInt.toNat, by omega⟩
      have ev := nI_z hv (by omega)
      obtain ⟨c, ec, hcc⟩ := hsd v (by omega)
      have hlt : a < len := chx_lt (ch := ch) (fun e => by
        rw [e] at hv
        rw [show ((0 : Int32) - 120).toInt = -120 by decide] at hv; omega)
      rw [ob_iv_i (by omega), ob_iv_i (by omega), ev, nI_clamp (by omega), ec]
      split
      · exact bad
      · obtain ⟨r, b, led', g1, g2, g3, g4⟩ := R_path_loop h hc h6 1000 0 (a + 1) c 1 (by omega) (by omega) (by omega) hcc (Or.inr (Or.inl rfl))
        exact ⟨r, b, led', g1, g2, by omega, fun hh => ⟨hlt, (g4 hh).1, (g4 hh).2⟩⟩
theorem R_operand {s : CS} (h : rCore s) {ch sd : Nat → Int32} {len a : Nat} (hc : chOk ch) (h6 : len ≤ 60) (ha : a ≤ 10000) (hsd : sdOk s.cc sd) (led : Int32) (num : Nat → Int32) : ∃ (r : Int32) (b : Nat) (led' : Int32) (num' : Nat → Int32), f_Reader_readOperand (nI a) led (nI len) ch num (nI s.fc) sd s.xab s.xow s.xkd s.xtg = some (r, nI b, led', num') ∧ (r = -1 ∨ r = 0 ∨ r = 1 ∨ r = 2) ∧ (b ≤ a + 1 ∨ b ≤ len + 1) ∧ (¬ r = -1 → a < len ∧ b ≤ len) := by
  unfold f_Reader_readOperand f_Reader_readOperand_J40
  rw [peek_n hc h6 (by omega), ob_bs, ob_bs, ob_bs, isDigit_eq, ob_bs]
  by_cases h1 : chx ch len a = 110
  · have hlt : a < len := chx_lt (ch := ch) (fun e => by rw [e] at h1; revert h1; decide)
    rw [if_pos h1, nI_1]; exact ⟨1, a + 1, _, _, rfl, Or.inr (Or.inr (Or.inl rfl)), by omega, fun _ => by omega⟩
  · rw [if_neg h1]
    by_cases h2 : chx ch len a = 45
    · have hlt : a < len := chx_lt (ch := ch) (fun e => by rw [e] at h2; revert h2; decide)
      obtain ⟨r, b, num', g1, g2, g3⟩ := R_number hc h6 hlt num
      rw [if_pos h2, g1, ob_bs]
      exact ⟨r, b, _, _, rfl, g2.elim Or.inl (fun e => Or.inr (Or.inl e)), by omega, fun _ => by omega⟩
    · rw [if_neg h2]
      cases hd : dig (chx ch len a)
      · rw [if_pos b2i_f]
        obtain ⟨r, b, led', g1, g2, g3, g4⟩ := R_path h hc h6 ha hsd led
        rw [g1, ob_bs]
        exact ⟨r, b, _, _, rfl, g2, g3, fun hh => ⟨(g4 hh).1, (g4 hh).2.1⟩⟩
      · have hlt : a < len := chx_lt (ch := ch) (fun e => by rw [e, dig_0] at hd; cases hd)
        obtain ⟨r, b, num', g1, g2, g3⟩ := R_number hc h6 hlt num
        rw [if_neg b2i_t, g1, ob_bs]
        exact ⟨r, b, _, _, rfl, g2.elim Or.inl (fun e => Or.inr (Or.inl e)), by omega, fun _ => by omega⟩

abbrev ndOk (c : Nat → Int32) (n : Nat) (kd inn nx lf rt : Nat → Int32) (j : Nat) : Prop := (inn j = -1 ∨ ∃ m, m < n ∧ inn j = nI m) ∧ (nx j = -1 ∨ ∃ m, m < n ∧ nx j = nI m) ∧ ((kd j = 2 ∨ kd j = 3) → ∃ m, m < n ∧ inn j = nI m) ∧ (kd j = 0 ∨ kd j = 1 ∨ kd j = 2 ∨ ∃ l r : Nat, l < 60 ∧ r < 60 ∧ lf j = nI l ∧ rt j = nI r ∧ (kd j = 3 → ∃ v, v < 3 ∧ c l - 120 = nI v))
theorem ndOk.di {c : Nat → Int32} {n : Nat} {kd inn nx lf rt : Nat → Int32} {j : Nat} (h9z : ndOk c n kd inn nx lf rt j) : inn j = -1 ∨ ∃ m, m < n ∧ inn j = nI m := h9z.1
theorem ndOk.dx {c : Nat → Int32} {n : Nat} {kd inn nx lf rt : Nat → Int32} {j : Nat} (h9z : ndOk c n kd inn nx lf rt j) : nx j = -1 ∨ ∃ m, m < n ∧ nx j = nI m := h9z.2.1
theorem ndOk.dd {c : Nat → Int32} {n : Nat} {kd inn nx lf rt : Nat → Int32} {j : Nat} (h9z : ndOk c n kd inn nx lf rt j) : (kd j = 2 ∨ kd j = 3) → ∃ m, m < n ∧ inn j = nI m := h9z.2.2.1
theorem ndOk.dp {c : Nat → Int32} {n : Nat} {kd inn nx lf rt : Nat → Int32} {j : Nat} (h9z : ndOk c n kd inn nx lf rt j) : kd j = 0 ∨ kd j = 1 ∨ kd j = 2 ∨ ∃ l r : Nat, l < 60 ∧ r < 60 ∧ lf j = nI l ∧ rt j = nI r ∧ (kd j = 3 → ∃ v, v < 3 ∧ c l - 120 = nI v) := h9z.2.2.2
def wfX (c : Nat → Int32) (n : Nat) (kd inn nx lf rt : Nat → Int32) : Prop := n ≤ 60 ∧ ∀ j, j < n → ndOk c n kd inn nx lf rt j
theorem ndOk_mono {c : Nat → Int32} {n n' : Nat} {kd inn nx lf rt kd' inn' nx' lf' rt' : Nat → Int32} {j : Nat} (hn : n ≤ n') (h1 : kd' j = kd j) (h2 : inn' j = inn j) (h3 : nx' j = nx j) (h4 : lf' j = lf j) (h5 : rt' j = rt j) (h : ndOk c n kd inn nx lf rt j) : ndOk c n' kd' inn' nx' lf' rt' j := by
  obtain ⟨a1, a2, a3, a4⟩ := h
  refine ⟨?_, ?_, ?_, ?_⟩
  · rw [h2]; exact a1.elim Or.inl (fun ⟨m, b1, b2⟩ => Or.inr ⟨m, by omega, b2⟩)
  · rw [h3]; exact a2.elim Or.inl (fun ⟨m, b1, b2⟩ => Or.inr ⟨m, by omega, b2⟩)
  · rw [h1, h2]; intro h; obtain ⟨m, b1, b2⟩ := a3 h; exact ⟨m, by omega, b2⟩
  · rw [h1, h4, h5]; exact a4
theorem addNode_eq {n : Nat} (hn : n < 60) (kd inn nx : Nat → Int32) (k x : Int32) : f_Question_addNode (nI n) kd inn nx k x = some (nI n, nI (n + 1), upd kd n k, upd inn n x, upd nx n (-1)) := by
  unfold f_Question_addNode
  have hne : ¬ nI n = 60 := fun h => absurd ((nI_eq (a := n) (b := 60) (by omega) (by decide)).mp h) (by omega)
  have hg : 0 ≤ (nI n).toInt ∧ (nI n).toInt < (60 : Nat) := by rw [nI_toInt (by omega)]; omega
  rw [if_neg hne, ob_iv_i hg, ob_iv_i hg, ob_iv_i hg, nI_1, nI_clamp (by omega)]
theorem addNode_full (kd inn nx : Nat → Int32) (k x : Int32) : f_Question_addNode (nI 60) kd inn nx k x = some (-1, nI 60, kd, inn, nx) := by
  unfold f_Question_addNode; rw [if_pos (show nI 60 = 60 from rfl)]
theorem wfX_add {c : Nat → Int32} {n : Nat} {kd inn nx lf rt kd' inn' nx' lf' rt' : Nat → Int32} (hn : n < 60) (h : wfX c n kd inn nx lf rt) (h1 : ∀ j, j < n → kd' j = kd j) (h2 : ∀ j, j < n → inn' j = inn j) (h3 : ∀ j, j < n → nx' j = nx j) (h4 : ∀ j, j < n → lf' j = lf j) (h5 : ∀ j, j < n → rt' j = rt j) (hN : ndOk c (n + 1) kd' inn' nx' lf' rt' n) : wfX c (n + 1) kd' inn' nx' lf' rt' := by
  refine ⟨by omega, fun j hj => ?_⟩
  by_cases e : j = n
  · rw [e]; exact hN
  · exact ndOk_mono (by omega) (h1 j (by omega)) (h2 j (by omega)) (h3 j (by omega)) (h4 j (by omega)) (h5 j (by omega)) (h.2 j (by omega))
def rdOk (c : Nat → Int32) (len cc bnd n : Nat) (inn : Nat → Int32) (ls : Bool) (R : Option (Int32 × Int32 × Int32 × Int32 × (Nat → Int32) × (Nat → Int32) × (Nat → Int32) × (Nat → Int32) × (Nat → Int32) × (Nat → Int32) × (Nat → Int32))) : Prop :=
  ∃ (r : Int32) (b : Nat) (led : Int32) (n' : Nat) (kd inn' nx num sd lf rt : Nat → Int32), R = some (r, nI b, led, nI n', kd, inn', nx, num, sd, lf, rt) ∧ b ≤ bnd ∧ (r = -1 ∨ ((∃ m, m < n' ∧ r = nI m ∧ (ls = true → ∃ m2, m2 < n' ∧ inn' m = nI m2)) ∧ b ≤ len)) ∧ n ≤ n' ∧ wfX c n' kd inn' nx lf rt ∧ (∀ j, j < n → inn' j = inn j) ∧ sdOk cc sd
theorem R_addPair {c : Nat → Int32} {n : Nat} {kd inn nx lf rt : Nat → Int32} (h : wfX c n kd inn nx lf rt) {k x : Int32} {l r : Nat} (hl : l < 60) (hr : r < 60) (hk : k = 3 ∨ k = 4 ∨ k = 5 ∨ k = 6) (hx : x = -1 ∧ ¬ k = 3 ∨ ∃ m, m < n ∧ x = nI m) (hv : k = 3 → ∃ v, v < 3 ∧ c l - 120 = nI v) : ∃ (y : Int32) (n' : Nat) (kd' inn' nx' lf' rt' : Nat → Int32), f_Question_addPair (nI n) kd inn nx lf rt k x (nI l) (nI r) = some (y, nI n', kd', inn', nx', lf', rt') ∧ (y = -1 ∨ ∃ m, m < n' ∧ y = nI m) ∧ n ≤ n' ∧ wfX c n' kd' inn' nx' lf' rt' ∧ ∀ j, j < n → inn' j = inn j := by
  unfold f_Question_addPair
  by_cases hn : n = 60
  · subst hn
    rw [addNode_full, ob_bs, if_pos rfl]
    exact ⟨-1, 60, _, _, _, _, _, rfl, Or.inl rfl, Nat.le_refl _, h, fun _ _ => rfl⟩
  · have hlt : n < 60 := by have := h.1; omega
    have hg : 0 ≤ (nI n).toInt ∧ (nI n).toInt < (60 : Nat) := by rw [nI_toInt (by omega)]; omega
    rw [addNode_eq hlt, ob_bs]
    dsimp only
    rw [if_neg (nI_m1 (by omega)), ob_iv_i hg, ob_iv_i hg, nI_clamp (by omega)]
    refine ⟨nI n, n + 1, _, _, _, _, _, rfl, Or.inr ⟨n, by omega, rfl⟩, by omega, wfX_add hlt h (fun j hj => pk_un (by omega)) (fun j hj => pk_un (by omega)) (fun j hj => pk_un (by omega)) (fun j hj => pk_un (by omega)) (fun j hj => pk_un (by omega)) ⟨?_, Or.inl pk_us, ?_, ?_⟩, fun j hj => pk_un (by omega)⟩
    · rw [pk_us]; rcases hx with ⟨e, -⟩ | ⟨m, m1, m2⟩
      · exact Or.inl e
      · exact Or.inr ⟨m, by omega, m2⟩
    · rw [pk_us, pk_us]; intro hh
      rcases hx with ⟨-, e⟩ | ⟨m, m1, m2⟩
      · rcases hh with hh | hh
        · rcases hk with k9 | k9 | k9 | k9 <;> (rw [k9] at hh; exact absurd hh (by decide))
        · exact absurd hh e
      · exact ⟨m, by omega, m2⟩
    · rw [pk_us, pk_us, pk_us]; exact Or.inr (Or.inr (Or.inr ⟨l, r, hl, hr, rfl, rfl, hv⟩))
theorem R_comparison {s : CS} (h : rCore s) {ch sd : Nat → Int32} {len a n : Nat} (hc : chOk ch) (h6 : len ≤ 60) (ha : a ≤ 5000) (hsd : sdOk s.cc sd) {kd inn nx lf rt : Nat → Int32} (hw : wfX (chx ch len) n kd inn nx lf rt) (led : Int32) (num : Nat → Int32) {bnd : Nat} (hb1 : a + 3 ≤ bnd) (hb2 : len + 3 ≤ bnd) : ∃ (r : Int32) (b : Nat) (led' : Int32) (n' : Nat) (num' kd' inn' nx' lf' rt' : Nat → Int32), f_Reader_readComparison (nI a) led (nI n) (nI s.fc) (nI len) ch num sd s.xab s.xow s.xkd s.xtg kd inn nx lf rt = some (r, nI b, led', nI n', num', kd', inn', nx', lf', rt') ∧ b ≤ bnd ∧ (r = -1 ∨ ((∃ m, m < n' ∧ r = nI m) ∧ b ≤ len)) ∧ n ≤ n' ∧ wfX (chx ch len) n' kd' inn' nx' lf' rt' ∧ ∀ j, j < n → inn' j = inn j := by
  unfold f_Reader_readComparison
  obtain ⟨t, b, led1, num1, g1, g2, g3, g4⟩ := R_operand h hc h6 (a := a) (by omega) hsd led num
  rw [g1, ob_bs]
  dsimp only
  have j21 : ¬ t = -1 → ∃ (r : Int32) (b' : Nat) (led' : Int32) (n' : Nat) (num' kd' inn' nx' lf' rt' : Nat → Int32), f_Reader_readComparison_J21 (nI len) ch (nI s.fc) sd s.xab s.xow s.xkd s.xtg (nI a) t (nI b) led1 (nI n) num1 kd inn nx lf rt = some (r, nI b', led', nI n', num', kd', inn', nx', lf', rt') ∧ b' ≤ bnd ∧ (r = -1 ∨ ((∃ m, m < n' ∧ r = nI m) ∧ b' ≤ len)) ∧ n ≤ n' ∧ wfX (chx ch len) n' kd' inn' nx' lf' rt' ∧ ∀ j, j < n → inn' j = inn j := fun ht => by
    obtain ⟨hlt, hbl⟩ := g4 ht
    unfold f_Reader_readComparison_J21 f_Reader_kindOfSign
    rw [take_n hc h6 (by omega), ob_bs]
    dsimp only
    have bad : ∃ (r : Int32) (b' : Nat) (led' : Int32) (n' : Nat) (num' kd' inn' nx' lf' rt' : Nat → Int32), some ((-1 : Int32), nI (b + 1), led1, nI n, num1, kd, inn, nx, lf, rt) = some (r, nI b', led', nI n', num', kd', inn', nx', lf', rt') ∧ b' ≤ bnd ∧ (r = -1 ∨ ((∃ m, m < n' ∧ r = nI m) ∧ b' ≤ len)) ∧ n ≤ n' ∧ wfX (chx ch len) n' kd' inn' nx' lf' rt' ∧ ∀ j, j < n → inn' j = inn j := ⟨-1, b + 1, _, n, _, _, _, _, _, _, rfl, by omega, Or.inl rfl, Nat.le_refl _, hw, fun _ _ => rfl⟩
    have j45 : ∀ k : Int32, (k = 4 ∨ k = 5 ∨ k = 6) → ∃ (r : Int32) (b' : Nat) (led' : Int32) (n' : Nat) (num' kd' inn' nx' lf' rt' : Nat → Int32), f_Reader_readComparison_J45 (nI len) ch (nI s.fc) sd s.xab s.xow s.xkd s.xtg (nI a) t k (nI (b + 1)) led1 (nI n) num1 kd inn nx lf rt = some (r, nI b', led', nI n', num', kd', inn', nx', lf', rt') ∧ b' ≤ bnd ∧ (r = -1 ∨ ((∃ m, m < n' ∧ r = nI m) ∧ b' ≤ len)) ∧ n ≤ n' ∧ wfX (chx ch len) n' kd' inn' nx' lf' rt' ∧ ∀ j, j < n → inn' j = inn j := fun k hk => by
      unfold f_Reader_readComparison_J45
      obtain ⟨t2, b2, led2, num2, k1, k2, k3, k4⟩ := R_operand h hc h6 (a := b + 1) (by omega) hsd led1 num1
      rw [k1, ob_bs]
      dsimp only
      by_cases ht2 : t2 = t
      · rw [if_pos ht2]
        obtain ⟨hlt2, hbl2⟩ := k4 (by rw [ht2]; exact ht)
        obtain ⟨y, n', kd', inn', nx', lf', rt', z1, z2, z3, z4, z5⟩ := R_addPair hw (k := k) (x := -1) (l := a) (r := b + 1) (by omega) (by omega) (Or.inr hk) (Or.inl ⟨rfl, by rcases hk with e | e | e <;> (rw [e]; decide)⟩) (fun e => by rcases hk with e9 | e9 | e9 <;> (rw [e9] at e; exact absurd e (by decide)))
        rw [z1, ob_bs]
        exact ⟨y, b2, _, n', _, _, _, _, _, _, rfl, by omega, z2.elim Or.inl (fun hm => Or.inr ⟨hm, hbl2⟩), z3, z4, z5⟩
      · rw [if_neg ht2]
        exact ⟨-1, b2, _, n, _, _, _, _, _, _, rfl, by omega, Or.inl rfl, Nat.le_refl _, hw, fun _ _ => rfl⟩
    by_cases c1 : chx ch len b = 61
    · rw [if_pos c1, ob_bs, if_neg (by decide), if_pos rfl]; exact j45 4 (Or.inl rfl)
    · rw [if_neg c1]
      by_cases c2 : chx ch len b = 60
      · rw [if_pos c2, ob_bs, if_neg (by decide), if_neg (by decide)]
        split
        · exact j45 5 (Or.inr (Or.inl rfl))
        · exact bad
      · rw [if_neg c2]
        by_cases c3 : chx ch len b = 62
        · rw [if_pos c3, ob_bs, if_neg (by decide), if_neg (by decide)]
          split
          · exact j45 6 (Or.inr (Or.inr rfl))
          · exact bad
        · rw [if_neg c3, ob_bs, if_pos rfl]; exact bad
  split
  · rename_i e; exact j21 (by rw [e]; decide)
  · split
    · rename_i e; exact j21 (by rw [e]; decide)
    · exact ⟨-1, b, _, n, _, _, _, _, _, _, rfl, by omega, Or.inl rfl, Nat.le_refl _, hw, fun _ _ => rfl⟩
abbrev grX (s : CS) (ch : Nat → Int32) (len d : Nat) : Prop := (∀ (p a n : Nat) (led rot ask mod : Int32) (kd inn nx num sd lf rt : Nat → Int32), p ≤ 12 → 4 * (12 - p) + 1 ≤ d → a ≤ 100 → sdOk s.cc sd → wfX (chx ch len) n kd inn nx lf rt → rdOk (chx ch len) len s.cc (max a len + 3 + d) n inn false (f_Reader_readFactor d (nI a) led (nI n) rot ask mod kd inn nx (nI len) ch (nI s.cc) (nI s.fc) num sd s.xab s.xow s.xkd s.xtg lf rt (nI p))) ∧ (∀ (k p a n : Nat) (led rot ask mod : Int32) (kd inn nx num sd lf rt : Nat → Int32), k ≤ 1 → p ≤ 12 → 4 * (12 - p) + 3 - k ≤ d → a ≤ 100 → sdOk s.cc sd → wfX (chx ch len) n kd inn nx lf rt → rdOk (chx ch len) len s.cc (max a len + 3 + d) n inn true (f_Reader_readList d (nI a) led (nI n) rot ask mod kd inn nx (nI len) ch (nI s.cc) (nI s.fc) num sd s.xab s.xow s.xkd s.xtg lf rt (nI k) (nI p))) ∧ (∀ (p a n : Nat) (led rot ask mod : Int32) (kd inn nx num sd lf rt : Nat → Int32), p ≤ 12 → 4 * (12 - p) + 2 ≤ d → a ≤ 100 → sdOk s.cc sd → wfX (chx ch len) n kd inn nx lf rt → rdOk (chx ch len) len s.cc (max a len + 3 + d) n inn false (f_Reader_readNot d (nI a) led (nI n) rot ask mod kd inn nx (nI len) ch (nI s.cc) (nI s.fc) num sd s.xab s.xow s.xkd s.xtg lf rt (nI p))) ∧ (∀ (p a n : Nat) (led rot ask mod : Int32) (kd inn nx num sd lf rt : Nat → Int32), p ≤ 12 → 4 * (12 - p) + 4 ≤ d → a ≤ 100 → sdOk s.cc sd → wfX (chx ch len) n kd inn nx lf rt → rdOk (chx ch len) len s.cc (max a len + 3 + d) n inn false (f_Reader_readBrackets d (nI a) led (nI n) rot ask mod kd inn nx (nI len) ch (nI s.cc) (nI s.fc) num sd s.xab s.xow s.xkd s.xtg lf rt (nI p))) ∧ (∀ (p a n : Nat) (led rot ask mod : Int32) (kd inn nx num sd lf rt : Nat → Int32), p ≤ 12 → 4 * (12 - p) + 2 ≤ d → a ≤ 100 → sdOk s.cc sd → wfX (chx ch len) n kd inn nx lf rt → rdOk (chx ch len) len s.cc (max a len + 3 + d) n inn false (f_Reader_readSome d (nI a) led (nI n) rot ask mod kd inn nx (nI len) ch (nI s.cc) (nI s.fc) num sd s.xab s.xow s.xkd s.xtg lf rt (nI p)))
theorem grX.fac {s : CS} {ch : Nat → Int32} {len d : Nat} (h9z : grX s ch len d) : ∀ (p a n : Nat) (led rot ask mod : Int32) (kd inn nx num sd lf rt : Nat → Int32), p ≤ 12 → 4 * (12 - p) + 1 ≤ d → a ≤ 100 → sdOk s.cc sd → wfX (chx ch len) n kd inn nx lf rt → rdOk (chx ch len) len s.cc (max a len + 3 + d) n inn false (f_Reader_readFactor d (nI a) led (nI n) rot ask mod kd inn nx (nI len) ch (nI s.cc) (nI s.fc) num sd s.xab s.xow s.xkd s.xtg lf rt (nI p)) := h9z.1
theorem grX.lst {s : CS} {ch : Nat → Int32} {len d : Nat} (h9z : grX s ch len d) : ∀ (k p a n : Nat) (led rot ask mod : Int32) (kd inn nx num sd lf rt : Nat → Int32), k ≤ 1 → p ≤ 12 → 4 * (12 - p) + 3 - k ≤ d → a ≤ 100 → sdOk s.cc sd → wfX (chx ch len) n kd inn nx lf rt → rdOk (chx ch len) len s.cc (max a len + 3 + d) n inn true (f_Reader_readList d (nI a) led (nI n) rot ask mod kd inn nx (nI len) ch (nI s.cc) (nI s.fc) num sd s.xab s.xow s.xkd s.xtg lf rt (nI k) (nI p)) := h9z.2.1
theorem grX.nt {s : CS} {ch : Nat → Int32} {len d : Nat} (h9z : grX s ch len d) : ∀ (p a n : Nat) (led rot ask mod : Int32) (kd inn nx num sd lf rt : Nat → Int32), p ≤ 12 → 4 * (12 - p) + 2 ≤ d → a ≤ 100 → sdOk s.cc sd → wfX (chx ch len) n kd inn nx lf rt → rdOk (chx ch len) len s.cc (max a len + 3 + d) n inn false (f_Reader_readNot d (nI a) led (nI n) rot ask mod kd inn nx (nI len) ch (nI s.cc) (nI s.fc) num sd s.xab s.xow s.xkd s.xtg lf rt (nI p)) := h9z.2.2.1
theorem grX.br {s : CS} {ch : Nat → Int32} {len d : Nat} (h9z : grX s ch len d) : ∀ (p a n : Nat) (led rot ask mod : Int32) (kd inn nx num sd lf rt : Nat → Int32), p ≤ 12 → 4 * (12 - p) + 4 ≤ d → a ≤ 100 → sdOk s.cc sd → wfX (chx ch len) n kd inn nx lf rt → rdOk (chx ch len) len s.cc (max a len + 3 + d) n inn false (f_Reader_readBrackets d (nI a) led (nI n) rot ask mod kd inn nx (nI len) ch (nI s.cc) (nI s.fc) num sd s.xab s.xow s.xkd s.xtg lf rt (nI p)) := h9z.2.2.2.1
theorem grX.sm {s : CS} {ch : Nat → Int32} {len d : Nat} (h9z : grX s ch len d) : ∀ (p a n : Nat) (led rot ask mod : Int32) (kd inn nx num sd lf rt : Nat → Int32), p ≤ 12 → 4 * (12 - p) + 2 ≤ d → a ≤ 100 → sdOk s.cc sd → wfX (chx ch len) n kd inn nx lf rt → rdOk (chx ch len) len s.cc (max a len + 3 + d) n inn false (f_Reader_readSome d (nI a) led (nI n) rot ask mod kd inn nx (nI len) ch (nI s.cc) (nI s.fc) num sd s.xab s.xow s.xkd s.xtg lf rt (nI p)) := h9z.2.2.2.2
theorem rdOk_w {c : Nat → Int32} {len cc bnd bnd' n n0 : Nat} {inn inn0 : Nat → Int32} {ls ls' : Bool} {R : Option (Int32 × Int32 × Int32 × Int32 × (Nat → Int32) × (Nat → Int32) × (Nat → Int32) × (Nat → Int32) × (Nat → Int32) × (Nat → Int32) × (Nat → Int32))} (hb : bnd ≤ bnd') (hl : ls' = true → ls = true) (hn : n0 ≤ n) (hi : ∀ j, j < n0 → inn j = inn0 j) (h : rdOk c len cc bnd n inn ls R) : rdOk c len cc bnd' n0 inn0 ls' R := by
  obtain ⟨r, b, led, n', kd, inn', nx, num, sd, lf, rt, e, a1, a2, a3, a4, a5, a6⟩ := h
  refine ⟨r, b, led, n', kd, inn', nx, num, sd, lf, rt, e, by omega, ?_, by omega, a4, fun j hj => (a5 j (by omega)).trans (hi j hj), a6⟩
  rcases a2 with a2 | ⟨⟨m, m1, m2, m3⟩, a2⟩
  · exact Or.inl a2
  · exact Or.inr ⟨⟨m, m1, m2, fun h9 => m3 (hl h9)⟩, a2⟩
theorem grX_all {s : CS} (h : rCore s) {ch : Nat → Int32} {len : Nat} (hc : chOk ch) (h6 : len ≤ 60) : ∀ d, d ≤ 100 → grX s ch len d := by
  intro d
  induction d with
  | zero => intro _; exact ⟨fun _ _ _ _ _ _ _ _ _ _ _ _ _ _ _ h9 => by omega, fun _ _ _ _ _ _ _ _ _ _ _ _ _ _ _ _ _ h9 => by omega, fun _ _ _ _ _ _ _ _ _ _ _ _ _ _ _ h9 => by omega, fun _ _ _ _ _ _ _ _ _ _ _ _ _ _ _ h9 => by omega, fun _ _ _ _ _ _ _ _ _ _ _ _ _ _ _ h9 => by omega⟩
  | succ d ih =>
    intro hd
    have G := ih (by omega)
    refine ⟨?_, ?_, ?_, ?_, ?_⟩
    ·
      intro p a n led rot ask mod kd inn nx num sd lf rt hp hD ha hsd hw
      show rdOk (chx ch len) len s.cc (max a len + 3 + (d + 1)) n inn false (b_Reader_readFactor (f_Reader_readList d) (f_Reader_readFactor d) (f_Reader_readNot d) (f_Reader_readBrackets d) (f_Reader_readSome d) (nI a) led (nI n) rot ask mod kd inn nx (nI len) ch (nI s.cc) (nI s.fc) num sd s.xab s.xow s.xkd s.xtg lf rt (nI p))
      unfold b_Reader_readFactor
      rw [peek_n hc h6 (by omega), ob_bs]
      have j28 : ¬ chx ch len a = 0 → rdOk (chx ch len) len s.cc (max a len + 3 + (d + 1)) n inn false (f_Reader_readFactor_J28 (nI p) (f_Reader_readNot d) rot ask mod (nI len) ch (nI s.cc) (nI s.fc) s.xab s.xow s.xkd s.xtg (f_Reader_readBrackets d) (f_Reader_readSome d) (chx ch len a) (nI a) led (nI n) kd inn nx num sd lf rt) := fun hne => by
        have hlt := chx_lt hne
        unfold f_Reader_readFactor_J28
        by_cases hp12 : p < 12
        · rw [if_pos (show nI p < 12 from nI_lt (b := 12) hp12 (by omega)), nI_1, nI_1]
          split
          · have := G.nt (p + 1) (a + 1) n led rot ask mod kd inn nx num sd lf rt (by omega) (by omega) (by omega) hsd hw
            obtain ⟨r, b, led, n', kd, inn', nx, num, sd, lf, rt, e, a1, a2, a3, a4, a5, a6⟩ := this
            rw [e, ob_bs]
            exact ⟨r, b, led, n', kd, inn', nx, num, sd, lf, rt, rfl, by omega, a2, a3, a4, a5, a6⟩
          · split
            · have := G.br (p + 1) (a + 1) n led rot ask mod kd inn nx num sd lf rt (by omega) (by omega) (by omega) hsd hw
              obtain ⟨r, b, led, n', kd, inn', nx, num, sd, lf, rt, e, a1, a2, a3, a4, a5, a6⟩ := this
              rw [e, ob_bs]
              exact ⟨r, b, led, n', kd, inn', nx, num, sd, lf, rt, rfl, by omega, a2, a3, a4, a5, a6⟩
            · have := G.sm (p + 1) (a + 1) n led rot ask mod kd inn nx num sd lf rt (by omega) (by omega) (by omega) hsd hw
              obtain ⟨r, b, led, n', kd, inn', nx, num, sd, lf, rt, e, a1, a2, a3, a4, a5, a6⟩ := this
              rw [e, ob_bs]
              exact ⟨r, b, led, n', kd, inn', nx, num, sd, lf, rt, rfl, by omega, a2, a3, a4, a5, a6⟩
        · rw [if_neg (show ¬ nI p < 12 from nI_nlt (b := 12) (by omega) (by omega))]
          exact ⟨-1, a, led, n, kd, inn, nx, num, sd, lf, rt, rfl, by omega, Or.inl rfl, Nat.le_refl _, hw, fun _ _ => rfl, hsd⟩
      split
      · rename_i e; exact j28 (by rw [e]; decide)
      · split
        · rename_i e; exact j28 (by rw [e]; decide)
        · split
          · rename_i e; exact j28 (by rw [e]; decide)
          · obtain ⟨r, b, led', n', num', kd', inn', nx', lf', rt', g1, g2, g3, g4, g5, g6⟩ := R_comparison h hc h6 (a := a) (by omega) hsd hw led num (bnd := max a len + 3 + (d + 1)) (by omega) (by omega)
            rw [g1, ob_bs]
            refine ⟨r, b, led', n', kd', inn', nx', num', sd, lf', rt', rfl, g2, ?_, g4, g5, g6, hsd⟩
            rcases g3 with g3 | ⟨⟨m, m1, m2⟩, g3⟩
            · exact Or.inl g3
            · exact Or.inr ⟨⟨m, m1, m2, fun h9 => by cases h9⟩, g3⟩
    ·
      intro k p a n led rot ask mod kd inn nx num sd lf rt hk hp hD ha hsd hw
      show rdOk (chx ch len) len s.cc (max a len + 3 + (d + 1)) n inn true (b_Reader_readList (f_Reader_readList d) (f_Reader_readFactor d) (f_Reader_readNot d) (f_Reader_readBrackets d) (f_Reader_readSome d) (nI a) led (nI n) rot ask mod kd inn nx (nI len) ch (nI s.cc) (nI s.fc) num sd s.xab s.xow s.xkd s.xtg lf rt (nI k) (nI p))
      have loop : ∀ (f i b n1 : Nat) (led btw last : Int32) (kd1 inn1 nx1 num1 sd1 lf1 rt1 : Nat → Int32), ¬ btw = 0 → i ≤ 60 → 60 - i < f → b ≤ max a len → sdOk s.cc sd1 → wfX (chx ch len) n1 kd1 inn1 nx1 lf1 rt1 → n < n1 → (∀ j, j < n → inn1 j = inn j) → (last = -1 ∨ ((∃ m, m < n1 ∧ last = nI m) ∧ ∃ m2, m2 < n1 ∧ inn1 n = nI m2)) → rdOk (chx ch len) len s.cc (max a len + 3 + (d + 1)) n inn true (f_Reader_readList_L29 (nI k) (f_Reader_readList d) rot ask mod (nI len) ch (nI s.cc) (nI s.fc) s.xab s.xow s.xkd s.xtg (nI p) (f_Reader_readFactor d) f (nI n) btw last (nI i) (nI b) led (nI n1) kd1 inn1 nx1 num1 sd1 lf1 rt1) := by
        intro f
        induction f with
        | zero => intro i b n1 led btw last kd1 inn1 nx1 num1 sd1 lf1 rt1 _ _ h9; omega
        | succ f ihf =>
          intro i b n1 led btw last kd1 inn1 nx1 num1 sd1 lf1 rt1 hbtw hi h9 hb hsd1 hw1 hn1 hinn hlast
          show rdOk (chx ch len) len s.cc (max a len + 3 + (d + 1)) n inn true (f_Reader_readList_B29 (nI k) (f_Reader_readList d) rot ask mod (nI len) ch (nI s.cc) (nI s.fc) s.xab s.xow s.xkd s.xtg (nI p) (f_Reader_readFactor d) (f_Reader_readList_L29 (nI k) (f_Reader_readList d) rot ask mod (nI len) ch (nI s.cc) (nI s.fc) s.xab s.xow s.xkd s.xtg (nI p) (f_Reader_readFactor d) f) (nI n) btw last (nI i) (nI b) led (nI n1) kd1 inn1 nx1 num1 sd1 lf1 rt1)
          have hn60 := hw1.1
          unfold f_Reader_readList_B29
          by_cases h60 : i = 60
          · rw [if_pos (show (60 : Int32) ≤ nI i from nI_le (a := 60) (by omega) (by omega))]
            exact ⟨-1, b, _, n1, _, _, _, _, _, _, _, rfl, by omega, Or.inl rfl, by omega, hw1, hinn, hsd1⟩
          · rw [if_neg (show ¬ (60 : Int32) ≤ nI i from nI_ge (a := i) (b := 60) (by omega) (by omega)), if_neg (nI_m1 (by omega))]
            have j59 : ∀ R, rdOk (chx ch len) len s.cc (max a len + 3 + d) n1 inn1 false R → rdOk (chx ch len) len s.cc (max a len + 3 + (d + 1)) n inn true (R.bind fun o => f_Reader_readList_J59 (nI len) ch (f_Reader_readList_L29 (nI k) (f_Reader_readList d) rot ask mod (nI len) ch (nI s.cc) (nI s.fc) s.xab s.xow s.xkd s.xtg (nI p) (f_Reader_readFactor d) f) (nI n) btw last (nI i) o.1 o.2.1 o.2.2.1 o.2.2.2.1 o.2.2.2.2.1 o.2.2.2.2.2.1 o.2.2.2.2.2.2.1 o.2.2.2.2.2.2.2.1 o.2.2.2.2.2.2.2.2.1 o.2.2.2.2.2.2.2.2.2.1 o.2.2.2.2.2.2.2.2.2.2) := fun R hR => by
              obtain ⟨r, b2, led2, n2, kd2, inn2, nx2, num2, sd2, lf2, rt2, e, a1, a2, a3, a4, a5, a6⟩ := hR
              rw [e, ob_bs]
              dsimp only
              unfold f_Reader_readList_J59
              have hn2 := a4.1
              have hinn2 : ∀ j, j < n → inn2 j = inn j := fun j hj => (a5 j (by omega)).trans (hinn j hj)
              rcases a2 with rfl | ⟨⟨m, m1, rfl, -⟩, hbl⟩
              · rw [if_pos rfl]
                exact ⟨-1, b2, _, n2, _, _, _, _, _, _, _, rfl, by omega, Or.inl rfl, by omega, a4, hinn2, a6⟩
              · rw [if_neg (nI_m1 (by omega))]
                obtain ⟨nx3, inn3, l1, l2, l3, l4⟩ : ∃ nx3 inn3 : Nat → Int32, f_Question_link nx2 inn2 (nI n) last (nI m) = some (nx3, inn3) ∧ wfX (chx ch len) n2 kd2 inn3 nx3 lf2 rt2 ∧ (∀ j, j < n → inn3 j = inn j) ∧ (∃ m2, m2 < n2 ∧ inn3 n = nI m2) := by
                  unfold f_Question_link
                  rcases hlast with rfl | ⟨⟨q, q1, rfl⟩, m2, q2, q3⟩
                  · rw [if_pos rfl, ob_iv_i (by rw [nI_toInt (by omega)]; omega), nI_clamp (by omega)]
                    refine ⟨_, _, rfl, ⟨hn2, fun j hj => ?_⟩, fun j hj => by rw [pk_un (by omega)]; exact hinn2 j hj, m, m1, pk_us⟩
                    by_cases ej : j = n
                    · subst ej
                      obtain ⟨z1, z2, z3, z4⟩ := a4.2 j hj
                      exact ⟨Or.inr ⟨m, m1, pk_us⟩, z2, fun _ => ⟨m, m1, pk_us⟩, z4⟩
                    · exact ndOk_mono (Nat.le_refl _) rfl (pk_un ej) rfl rfl rfl (a4.2 j hj)
                  · rw [if_neg (nI_m1 (by omega)), ob_iv_i (by rw [nI_toInt (by omega)]; omega), nI_clamp (by omega)]
                    refine ⟨_, _, rfl, ⟨hn2, fun j hj => ?_⟩, hinn2, m2, by omega, by rw [a5 n hn1]; exact q3⟩
                    by_cases ej : j = q
                    · subst ej
                      obtain ⟨z1, z2, z3, z4⟩ := a4.2 j hj
                      exact ⟨z1, Or.inr ⟨m, m1, pk_us⟩, z3, z4⟩
                    · exact ndOk_mono (Nat.le_refl _) rfl rfl (pk_un ej) rfl rfl (a4.2 j hj)
                rw [l1, ob_bs, peek_n hc h6 (by omega), ob_bs]
                dsimp only
                by_cases hpk : chx ch len b2 = btw
                · have hlt2 : b2 < len := chx_lt (ch := ch) (by rw [hpk]; exact hbtw)
                  rw [if_pos hpk, nI_1, nI_1]
                  exact ihf (i + 1) (b2 + 1) n2 led2 btw (nI m) kd2 inn3 nx3 num2 sd2 lf2 rt2 hbtw (by omega) (by omega) (by omega) a6 l2 (by omega) l3 (Or.inr ⟨⟨m, m1, rfl⟩, l4⟩)
                · rw [if_neg hpk]
                  exact ⟨nI n, b2, _, n2, _, _, _, _, _, _, _, rfl, by omega, Or.inr ⟨⟨n, by omega, rfl, fun _ => l4⟩, hbl⟩, by omega, l2, l3, a6⟩
            rcases (show k = 0 ∨ k = 1 by omega) with rfl | rfl
            · rw [if_pos (show nI 0 = 0 from rfl)]
              exact j59 _ (rdOk_w (by omega) (fun h9 => by cases h9) (Nat.le_refl _) (fun _ _ => rfl) (G.lst 1 p b n1 led rot ask mod kd1 inn1 nx1 num1 sd1 lf1 rt1 (by omega) hp (by omega) (by omega) hsd1 hw1))
            · rw [if_neg (show ¬ nI 1 = 0 from one_ne)]
              exact j59 _ (rdOk_w (by omega) (fun h9 => by cases h9) (Nat.le_refl _) (fun _ _ => rfl) (G.fac p b n1 led rot ask mod kd1 inn1 nx1 num1 sd1 lf1 rt1 hp (by omega) (by omega) hsd1 hw1))
      unfold b_Reader_readList
      by_cases hn : n = 60
      · subst hn
        rw [addNode_full, ob_bs]
        dsimp only
        have none9 : ∀ btw : Int32, rdOk (chx ch len) len s.cc (max a len + 3 + (d + 1)) 60 inn true (f_Reader_readList_L29 (nI k) (f_Reader_readList d) rot ask mod (nI len) ch (nI s.cc) (nI s.fc) s.xab s.xow s.xkd s.xtg (nI p) (f_Reader_readFactor d) 1000 (-1) btw (-1) 0 (nI a) led (nI 60) kd inn nx num sd lf rt) := fun btw => by
          show rdOk (chx ch len) len s.cc (max a len + 3 + (d + 1)) 60 inn true (f_Reader_readList_B29 (nI k) (f_Reader_readList d) rot ask mod (nI len) ch (nI s.cc) (nI s.fc) s.xab s.xow s.xkd s.xtg (nI p) (f_Reader_readFactor d) (f_Reader_readList_L29 (nI k) (f_Reader_readList d) rot ask mod (nI len) ch (nI s.cc) (nI s.fc) s.xab s.xow s.xkd s.xtg (nI p) (f_Reader_readFactor d) 999) (-1) btw (-1) 0 (nI a) led (nI 60) kd inn nx num sd lf rt)
          unfold f_Reader_readList_B29
          rw [if_neg (by decide), if_pos rfl]
          exact ⟨-1, a, _, 60, _, _, _, _, _, _, _, rfl, by omega, Or.inl rfl, by omega, hw, fun _ _ => rfl, hsd⟩
        split
        · exact none9 124
        · exact none9 38
      · have hlt : n < 60 := by have := hw.1; omega
        rw [addNode_eq hlt, ob_bs]
        dsimp only
        have hw1 : wfX (chx ch len) (n + 1) (upd kd n (nI k)) (upd inn n (-1)) (upd nx n (-1)) lf rt := wfX_add hlt hw (fun j hj => pk_un (by omega)) (fun j hj => pk_un (by omega)) (fun j hj => pk_un (by omega)) (fun _ _ => rfl) (fun _ _ => rfl) ⟨Or.inl pk_us, Or.inl pk_us, fun hh => by rw [pk_us] at hh; rcases (show k = 0 ∨ k = 1 by omega) with rfl | rfl <;> (rcases hh with hh | hh <;> exact absurd hh (by decide)), by rw [pk_us]; rcases (show k = 0 ∨ k = 1 by omega) with rfl | rfl; exact Or.inl rfl; exact Or.inr (Or.inl rfl)⟩
        have go := fun btw (hb9 : ¬ btw = 0) => loop 1000 0 a (n + 1) led btw (-1) (upd kd n (nI k)) (upd inn n (-1)) (upd nx n (-1)) num sd lf rt hb9 (by omega) (by omega) (by omega) hsd hw1 (by omega) (fun j hj => pk_un (by omega)) (Or.inl rfl)
        split
        · exact go 124 (by decide)
        · exact go 38 (by decide)
    ·
      intro p a n led rot ask mod kd inn nx num sd lf rt hp hD ha hsd hw
      show rdOk (chx ch len) len s.cc (max a len + 3 + (d + 1)) n inn false (b_Reader_readNot (f_Reader_readList d) (f_Reader_readFactor d) (f_Reader_readNot d) (f_Reader_readBrackets d) (f_Reader_readSome d) (nI a) led (nI n) rot ask mod kd inn nx (nI len) ch (nI s.cc) (nI s.fc) num sd s.xab s.xow s.xkd s.xtg lf rt (nI p))
      unfold b_Reader_readNot
      obtain ⟨r, b2, led2, n2, kd2, inn2, nx2, num2, sd2, lf2, rt2, e, a1, a2, a3, a4, a5, a6⟩ := G.fac p a n led rot ask mod kd inn nx num sd lf rt hp (by omega) ha hsd hw
      rw [e, ob_bs]
      dsimp only
      have hn2 := a4.1
      rcases a2 with rfl | ⟨⟨m, m1, rfl, -⟩, hbl⟩
      · rw [if_pos rfl]
        exact ⟨-1, b2, _, n2, _, _, _, _, _, _, _, rfl, by omega, Or.inl rfl, a3, a4, a5, a6⟩
      · rw [if_neg (nI_m1 (by omega))]
        by_cases hn : n2 = 60
        · subst hn
          rw [addNode_full, ob_bs]
          exact ⟨-1, b2, _, 60, _, _, _, _, _, _, _, rfl, by omega, Or.inl rfl, a3, a4, a5, a6⟩
        · rw [addNode_eq (by omega), ob_bs]
          refine ⟨nI n2, b2, _, n2 + 1, _, _, _, _, _, _, _, rfl, by omega, Or.inr ⟨⟨n2, by omega, rfl, fun h9 => by cases h9⟩, hbl⟩, by omega, wfX_add (by omega) a4 (fun j hj => pk_un (by omega)) (fun j hj => pk_un (by omega)) (fun j hj => pk_un (by omega)) (fun _ _ => rfl) (fun _ _ => rfl) ⟨Or.inr ⟨m, by omega, pk_us⟩, Or.inl pk_us, fun _ => ⟨m, by omega, pk_us⟩, Or.inr (Or.inr (Or.inl pk_us))⟩, fun j hj => ?_, a6⟩
          exact (pk_un (by omega)).trans (a5 j hj)
    ·
      intro p a n led rot ask mod kd inn nx num sd lf rt hp hD ha hsd hw
      show rdOk (chx ch len) len s.cc (max a len + 3 + (d + 1)) n inn false (b_Reader_readBrackets (f_Reader_readList d) (f_Reader_readFactor d) (f_Reader_readNot d) (f_Reader_readBrackets d) (f_Reader_readSome d) (nI a) led (nI n) rot ask mod kd inn nx (nI len) ch (nI s.cc) (nI s.fc) num sd s.xab s.xow s.xkd s.xtg lf rt (nI p))
      unfold b_Reader_readBrackets
      have hL := G.lst 0 p a n led rot ask mod kd inn nx num sd lf rt (by omega) hp (by omega) ha hsd hw
      obtain ⟨r, b2, led2, n2, kd2, inn2, nx2, num2, sd2, lf2, rt2, e, a1, a2, a3, a4, a5, a6⟩ := hL
      rw [show (0 : Int32) = nI 0 from rfl, e, ob_bs]
      dsimp only
      rw [take_n hc h6 (by omega), ob_bs]
      dsimp only
      by_cases h41 : chx ch len b2 = 41
      · have hlt := chx_lt (ch := ch) (len := len) (p := b2) (by rw [h41]; decide)
        rw [if_pos h41]
        refine ⟨r, b2 + 1, _, n2, _, _, _, _, _, _, _, rfl, by omega, ?_, a3, a4, a5, a6⟩
        rcases a2 with a2 | ⟨⟨m, m1, m2, -⟩, -⟩
        · exact Or.inl a2
        · exact Or.inr ⟨⟨m, m1, m2, fun h9 => by cases h9⟩, by omega⟩
      · rw [if_neg h41]
        exact ⟨-1, b2 + 1, _, n2, _, _, _, _, _, _, _, rfl, by omega, Or.inl rfl, a3, a4, a5, a6⟩
    ·
      intro p a n led rot ask mod kd inn nx num sd lf rt hp hD ha hsd hw
      show rdOk (chx ch len) len s.cc (max a len + 3 + (d + 1)) n inn false (b_Reader_readSome (f_Reader_readList d) (f_Reader_readFactor d) (f_Reader_readNot d) (f_Reader_readBrackets d) (f_Reader_readSome d) (nI a) led (nI n) rot ask mod kd inn nx (nI len) ch (nI s.cc) (nI s.fc) num sd s.xab s.xow s.xkd s.xtg lf rt (nI p))
      unfold b_Reader_readSome
      rw [take_n hc h6 (by omega), ob_bs]
      dsimp only
      have bad : ∀ (b : Nat) (led : Int32), b ≤ max a len + 3 → rdOk (chx ch len) len s.cc (max a len + 3 + (d + 1)) n inn false (some (-1, nI b, led, nI n, kd, inn, nx, num, sd, lf, rt)) := fun b led hb => ⟨-1, b, _, n, _, _, _, _, _, _, _, rfl, by omega, Or.inl rfl, Nat.le_refl _, hw, fun _ _ => rfl, hsd⟩
      by_cases h1 : chx ch len a - 120 < 1
      · rw [if_pos h1]; exact bad _ _ (by omega)
      · rw [if_neg h1]
        by_cases h2 : 3 ≤ chx ch len a - 120
        · rw [if_pos h2]; exact bad _ _ (by omega)
        · rw [if_neg h2]
          rw [Int32.lt_iff_toInt_lt, i1] at h1
          rw [Int32.le_iff_toInt_le, i3] at h2
          obtain ⟨v, hv⟩ : ∃ v : Nat, (chx ch len a - 120).toInt = (v : Int) := ⟨(chx ch len a - 120).toInt.toNat, by omega⟩
          have ev := nI_z hv (by omega)
          have hlt : a < len := chx_lt (ch := ch) (fun e => by
            rw [e] at hv
            rw [show ((0 : Int32) - 120).toInt = -120 by decide] at hv; omega)
          have hgv : 0 ≤ (nI v).toInt ∧ (nI v).toInt < (3 : Nat) := by rw [nI_toInt (by omega)]; omega
          rw [ev, ob_iv_i hgv, nI_clamp (by omega)]
          split
          · obtain ⟨r, b, led', g1, g2, g3, g4⟩ := R_path h hc h6 (a := a + 1) (by omega) hsd led
            rw [g1, ob_bs]
            dsimp only
            by_cases hr : r = 2
            · obtain ⟨k1, k2, c, k3, k4⟩ := g4 (by rw [hr]; decide)
              rw [if_pos hr, take_n hc h6 (by omega), ob_bs]
              dsimp only
              by_cases h58 : chx ch len b = 58
              · have hlt2 : b < len := chx_lt (ch := ch) (by rw [h58]; decide)
                rw [if_pos h58, ob_iv_i hgv]
                have hF := G.fac p (b + 1) n led' rot ask mod kd inn nx num (upd sd v led') lf rt hp (by omega) (by omega) (by rw [k3]; exact sdOk_u hsd k4) hw
                obtain ⟨r2, b2, led2, n2, kd2, inn2, nx2, num2, sd2, lf2, rt2, e, a1, a2, a3, a4, a5, a6⟩ := hF
                have hsd2 : sdOk s.cc (upd sd2 v 0) := sdOk_u a6 (v := v) (c := 0) (by omega)
                have hn2 := a4.1
                rw [e, ob_bs, ob_iv_i hgv]
                dsimp only
                rcases a2 with rfl | ⟨⟨m, m1, rfl, -⟩, hbl⟩
                · rw [if_pos rfl]
                  exact ⟨-1, b2, _, n2, _, _, _, _, _, _, _, rfl, by omega, Or.inl rfl, a3, a4, a5, hsd2⟩
                · rw [if_neg (nI_m1 (by omega))]
                  obtain ⟨y, n', kd', inn', nx', lf', rt', z1, z2, z3, z4, z5⟩ := R_addPair a4 (k := 3) (x := nI m) (l := a) (r := a + 1) (by omega) (by omega) (Or.inl rfl) (Or.inr ⟨m, m1, rfl⟩) (fun _ => ⟨v, by omega, ev⟩)
                  rw [z1, ob_bs]
                  refine ⟨y, b2, _, n', _, _, _, _, _, _, _, rfl, by omega, ?_, by omega, z4, fun j hj => (z5 j (by omega)).trans (a5 j hj), hsd2⟩
                  rcases z2 with z2 | ⟨q, q1, q2⟩
                  · exact Or.inl z2
                  · exact Or.inr ⟨⟨q, q1, q2, fun h9 => by cases h9⟩, hbl⟩
              · rw [if_neg h58]; exact bad _ _ (by omega)
            · rw [if_neg hr]; exact bad _ _ (by omega)
          · exact bad _ _ (by omega)
