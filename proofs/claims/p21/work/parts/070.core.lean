def rClo (fc : Nat) (par own : Nat → Nat) (so : Nat → Int32) (cl : Nat → Nat) (K : Int64) (vs : Nat → Int32) (ss : Nat → Int64) (ns : Nat → Int32) : Prop :=
  ids K ∧ (∀ n, n < 4 → ∃ t : Nat, t ≤ 62 ∧ ns n = nI t ∧ (t = 0 ∨ tb K t = true)) ∧
  (∀ i f, tb K i = true → f < fc → hasF par own so (cl i) f 1 = true → ∃ t : Nat, t ≤ 62 ∧ vs (8 * i + f) = nI t ∧ (t = 0 ∨ tb K t = true)) ∧
  (∀ i f, tb K i = true → f < fc → hasF par own so (cl i) f 2 = true → ∀ j, tb (ss (8 * i + f)) j = true → tb K j = true)
def rZer (fc mk : Nat) (par own : Nat → Nat) (so : Nat → Int32) (cl : Nat → Nat) (vs : Nat → Int32) (ss : Nat → Int64) : Prop :=
  ∀ i f, 1 ≤ i → i ≤ 62 → f < 8 → (mk < i ∨ fc ≤ f ∨ hasF par own so (cl i) f (-1) = false) → vs (8 * i + f) = 0 ∧ ss (8 * i + f) = 0
def rIm (fc mk : Nat) (par own : Nat → Nat) (so : Nat → Int32) (cl : Nat → Nat) (s K : Int64) (xc : Nat → Int32) (xv : Nat → Int64) (xn : Nat → Int32) (vs : Nat → Int32) (ss : Nat → Int64) (ns : Nat → Int32) : Prop :=
  rImg fc mk par own so cl s xc xv xn vs ss ns ∧ rZer fc mk par own so cl vs ss ∧ rClo fc par own so cl K vs ss ns ∧ (∀ i, tb K i = true → tb s i = true)
theorem rIm_cong {fc mk : Nat} {par own cl : Nat → Nat} {so : Nat → Int32} {s K : Int64} {xc xn vs ns xc' xn' vs' ns' : Nat → Int32} {xv ss xv' ss' : Nat → Int64} (hmk : mk ≤ 62) (hfc : fc ≤ 8)
    (h : rIm fc mk par own so cl s K xc xv xn vs ss ns) (hc : ∀ i, i ≤ 62 → xc' i = xc i) (hv : ∀ k, k < 504 → xv' k = xv k) (hn : ∀ n, n < 4 → xn' n = xn n) (hvs : ∀ k, k < 504 → vs' k = vs k) (hss : ∀ k, k < 504 → ss' k = ss k) (hns : ∀ n, n < 4 → ns' n = ns n) :
    rIm fc mk par own so cl s K xc' xv' xn' vs' ss' ns' := by
  obtain ⟨⟨a1, a2, a3, a4, a5, a6, a7, a8, a9⟩, hz, ⟨b1, b2, b3, b4⟩, hK⟩ := h
  have hi : ∀ i, tb K i = true → 1 ≤ i ∧ i ≤ 62 := fun i h => b1 i h
  refine ⟨⟨a1, a2, (hc 0 (by omega)).trans a3, fun i h1 h2 => (hc i h2).trans (a4 i h1 h2), fun i f h1 h2 h3 h4 => ?_, fun i f h1 h2 h3 h4 => ?_, fun i f h1 h2 h3 h4 => ?_, fun i f h1 h2 h3 h4 => ?_, fun n h => ?_⟩, fun i f h1 h2 h3 h4 => ?_, ⟨b1, fun n h => ?_, fun i f h1 h2 h3 => ?_, fun i f h1 h2 h3 => ?_⟩, hK⟩
  · rw [hv _ (by omega), hvs _ (by omega)]; exact a5 i f h1 h2 h3 h4
  · rw [hv _ (by omega), hvs _ (by omega)]; exact a6 i f h1 h2 h3 h4
  · rw [hv _ (by omega), hss _ (by omega)]; exact a7 i f h1 h2 h3 h4
  · rw [hv _ (by omega)]; exact a8 i f h1 h2 h3 h4
  · rw [hn _ h, hns _ h]; exact a9 n h
  · rw [hvs _ (by omega), hss _ (by omega)]; exact hz i f h1 h2 h3 h4
  · rw [hns _ h]; exact b2 n h
  · have := hi i h1; rw [hvs _ (by omega)]; exact b3 i f h1 h2 h3
  · have := hi i h1; rw [hss _ (by omega)]; exact b4 i f h1 h2 h3
theorem nbM_clo {fc : Nat} {par own cl : Nat → Nat} {so vs : Nat → Int32} {ss : Nat → Int64} {i j : Nat} : ∀ m : Nat, tb (nbM par own so cl vs ss i m) j = true ↔ ∃ f, f < m ∧ ((hasF par own so (cl i) f 1 = true ∧ tb (bitI (vs (8 * i + f))) j = true) ∨ (hasF par own so (cl i) f 2 = true ∧ tb (ss (8 * i + f)) j = true)) := by
  intro m
  induction m with
  | zero =>
    constructor
    · intro h; rw [show nbM par own so cl vs ss i 0 = 0 from rfl, tb_0] at h; cases h
    · rintro ⟨f, h, -⟩; omega
  | succ m ih =>
    have hm : nbM par own so cl vs ss i (m + 1) = (nbM par own so cl vs ss i m ||| (if hasF par own so (cl i) m 1 then bitI (vs (8 * i + m)) else 0)) ||| (if hasF par own so (cl i) m 2 then ss (8 * i + m) else 0) := rfl
    rw [hm, tb_or, tb_or, Bool.or_eq_true, Bool.or_eq_true, ih]
    constructor
    · rintro ((⟨f, h1, h2⟩ | h) | h)
      · exact ⟨f, by omega, h2⟩
      · by_cases e : hasF par own so (cl i) m 1 = true
        · rw [if_pos e] at h; exact ⟨m, by omega, Or.inl ⟨e, h⟩⟩
        · rw [if_neg e, tb_0] at h; cases h
      · by_cases e : hasF par own so (cl i) m 2 = true
        · rw [if_pos e] at h; exact ⟨m, by omega, Or.inr ⟨e, h⟩⟩
        · rw [if_neg e, tb_0] at h; cases h
    · rintro ⟨f, h1, h2⟩
      by_cases e : f = m
      · subst e
        rcases h2 with ⟨k1, k2⟩ | ⟨k1, k2⟩
        · left; right; rw [if_pos k1]; exact k2
        · right; rw [if_pos k1]; exact k2
      · left; left; exact ⟨f, by omega, h2⟩
theorem tb_setI {t j : Nat} (ht : t ≤ 62) : tb (setI (nI t)) j = true ↔ t ≠ 0 ∧ j = t := by
  rw [setI_n (by omega)]
  by_cases h : t = 0
  · rw [if_pos h, tb_0]; constructor
    · intro h; cases h
    · rintro ⟨h1, -⟩; exact absurd h h1
  · rw [if_neg h, tb_bi _ _ (by omega), decide_eq_true_iff]
    exact ⟨fun e => ⟨h, e⟩, fun e => e.2⟩
theorem itr_sub {nb : Nat → Int64} {s K : Int64} (hK : ∀ i j, tb K i = true → tb (nb i) j = true → tb K j = true) (hs : ∀ j, tb s j = true → tb K j = true) : ∀ (k j : Nat), tb (itr nb k s) j = true → tb K j = true := by
  intro k
  induction k with
  | zero => exact hs
  | succ k ih =>
    intro j h
    rw [show itr nb (k + 1) s = stp nb (itr nb k s) from rfl, tb_stp] at h
    rcases h with h | ⟨i, -, h2, h3⟩
    · exact ih j h
    · exact hK i j (ih i h2) h3
theorem itr_mono {nb : Nat → Int64} {s : Int64} : ∀ (k j : Nat), tb s j = true → tb (itr nb k s) j = true := by
  intro k
  induction k with
  | zero => exact fun _ h => h
  | succ k ih => exact fun j h => tb_stp.mpr (Or.inl (ih j h))
theorem tb_rootM {ns : Nat → Int32} {j : Nat} : ∀ m : Nat, tb (rootM ns m) j = true ↔ ∃ n, n < m ∧ tb (bitI (ns n)) j = true := by
  intro m
  induction m with
  | zero =>
    constructor
    · intro h; rw [show rootM ns 0 = 0 from rfl, tb_0] at h; cases h
    · rintro ⟨n, h, -⟩; omega
  | succ m ih =>
    rw [show rootM ns (m + 1) = rootM ns m ||| bitI (ns m) from rfl, tb_or, Bool.or_eq_true, ih]
    constructor
    · rintro (⟨n, h1, h2⟩ | h)
      · exact ⟨n, by omega, h2⟩
      · exact ⟨m, by omega, h⟩
    · rintro ⟨n, h1, h2⟩
      by_cases e : n = m
      · subst e; exact Or.inr h2
      · exact Or.inl ⟨n, by omega, h2⟩
theorem reach_same2 {cc fc mk : Nat} {par own aim ab cl : Nat → Nat} {so : Nat → Int32} {xcc xfc : Int32} {xab xow xkd xtg : Nat → Int32} {mcl mfd : Int32} {mpr mow mso mai c1 : Nat → Int32} (hs : rSch cc fc par own aim ab so xcc xfc xab xow xkd xtg mcl mfd mpr mow mso mai)
    {s K : Int64} {xc xn vs ns : Nat → Int32} {xv ss : Nat → Int64} (him : rIm fc mk par own so cl s K xc xv xn vs ss ns) (hmk : mk ≤ 62) (hcl : ∀ i, 1 ≤ i → i ≤ mk → c1 i = nI (cl i) ∧ 1 ≤ cl i ∧ cl i ≤ cc) :
    ∃ r : Int64, ids r ∧ rClo fc par own so cl r vs ss ns ∧ (∀ i, tb r i = true → tb K i = true) ∧ f_Image_reachedIds xfc xv xkd xn = some r ∧ ∀ (vs0 dv0 nm0 dn0 : Nat → Int32) (ss0 ds0 : Nat → Int64) (dk : Int32), (if dk = 0 then vs0 else dv0) = vs → (if dk = 0 then ss0 else ds0) = ss → (if dk = 0 then nm0 else dn0) = ns → f_M_reachedFrom mfd (nI mk) c1 mow mpr so ss0 ds0 vs0 dv0 nm0 dn0 dk = some r := by
  obtain ⟨hi, hz, ⟨k1, k2, k3, k4⟩, hKs⟩ := him
  have hs0 := hs
  have hi0 := hi
  obtain ⟨hcc, hfc, -, -, exfc, emfd, hpar, -, -, hf⟩ := hs
  obtain ⟨i1, i2, -, -, -, hv1, hv2, -, hnm⟩ := hi
  obtain ⟨hroot, hids⟩ := root_same hnm 4 (Nat.le_refl _)
  have hn : ∀ i, 1 ≤ i → i ≤ 62 → ids ((fun i => if i ≤ mk then nbM par own so cl vs ss i fc else 0) i) := fun i h1 h2 => by
    have h := nb_same hs0 hi0 h1 h2 fc (Nat.le_refl _)
    show ids (if i ≤ mk then nbM par own so cl vs ss i fc else 0)
    rw [← h.1]; exact h.2
  have hmkK : ∀ i, tb K i = true → i ≤ mk := fun i h => by
    by_cases hh : i ≤ mk
    · exact hh
    · exact absurd (hKs i h) (by rw [i2 i (by omega)]; decide)
  have hids2 : ids (reach (fun i => if i ≤ mk then nbM par own so cl vs ss i fc else 0) (rootF xn 4)) := ids_itr hn hids 62
  have hsub : ∀ j, tb (reach (fun i => if i ≤ mk then nbM par own so cl vs ss i fc else 0) (rootF xn 4)) j = true → tb K j = true := by
    refine itr_sub (fun i j h1 h2 => ?_) (fun j h => ?_) 62
    · have hlt := hmkK i h1
      simp only [if_pos hlt] at h2
      rw [nbM_clo (fc := fc) fc] at h2
      obtain ⟨f, hf1, (⟨e1, e2⟩ | ⟨e1, e2⟩)⟩ := h2
      · obtain ⟨t, ht, et, ho⟩ := k3 i f h1 hf1 e1
        rw [et, bitI_n (by omega), tb_setI ht] at e2
        rcases ho with h | h
        · exact absurd h e2.1
        · rw [e2.2]; exact h
      · exact k4 i f h1 hf1 e1 j e2
    · rw [hroot, tb_rootM] at h
      obtain ⟨n, h1, h2⟩ := h
      obtain ⟨t, ht, et, ho⟩ := k2 n h1
      rw [et, bitI_n (by omega), tb_setI ht] at h2
      rcases ho with h | h
      · exact absurd h h2.1
      · rw [h2.2]; exact h
  have hfix := itr_62 hn hids
  have hstep : ∀ i j, tb (reach (fun i => if i ≤ mk then nbM par own so cl vs ss i fc else 0) (rootF xn 4)) i = true → tb (nbM par own so cl vs ss i fc) j = true → tb (reach (fun i => if i ≤ mk then nbM par own so cl vs ss i fc else 0) (rootF xn 4)) j = true := fun i j h1 h2 => by
    have hlt := hids2 i h1
    have hlm := hmkK i (hsub i h1)
    show tb (itr _ 62 _) j = true
    rw [← hfix, tb_stp]
    refine Or.inr ⟨i, by omega, h1, ?_⟩
    simp only [if_pos hlm]; exact h2
  refine ⟨reach (fun i => if i ≤ mk then nbM par own so cl vs ss i fc else 0) (rootF xn 4), hids2, ⟨hids2, fun n h => ?_, fun i f h1 h2 h3 => ?_, fun i f h1 h2 h3 j h4 => ?_⟩, hsub, ?_, ?_⟩
  · obtain ⟨t, ht, et, ho⟩ := k2 n h
    refine ⟨t, ht, et, ?_⟩
    by_cases h0 : t = 0
    · exact Or.inl h0
    · refine Or.inr (itr_mono 62 t ?_)
      rw [hroot, tb_rootM]
      exact ⟨n, h, by rw [et, bitI_n (by omega), tb_setI ht]; exact ⟨h0, rfl⟩⟩
  · obtain ⟨t, ht, et, ho⟩ := k3 i f (hsub i h1) h2 h3
    refine ⟨t, ht, et, ?_⟩
    by_cases h0 : t = 0
    · exact Or.inl h0
    · refine Or.inr (hstep i t h1 ?_)
      rw [nbM_clo (fc := fc) fc]
      exact ⟨f, h2, Or.inl ⟨h3, by rw [et, bitI_n (by omega), tb_setI ht]; exact ⟨h0, rfl⟩⟩⟩
  · refine hstep i j h1 ?_
    rw [nbM_clo (fc := fc) fc]
    exact ⟨f, h2, Or.inr ⟨h3, h4⟩⟩
  · rw [exfc]
    exact rx_eq hfc (fun i h1 h2 => ((nb_same hs0 hi0 h1 h2 fc (Nat.le_refl _)).1).symm) hn hids
  · intro vs0 dv0 nm0 dn0 ss0 ds0 dk e1 e2 e3
    rw [emfd, hroot, ← e3]
    refine rm_eq hmk (fun i h1 h2 => ?_) (fun i h => if_neg (by omega)) hn (by rw [e3, ← hroot]; exact hids)
    have hc := hcl i h1 h2
    rw [M_from hpar hfc (fun f hlt => ⟨(hf f hlt).2.1, (hf f hlt).2.2.1, Nat.le_trans (hf f hlt).2.2.2.1 hcc⟩) h1 (by omega) ⟨hc.1, by omega⟩ dk, e1, e2]
    show some _ = some (if i ≤ mk then _ else _)
    rw [if_pos h2]
abbrev CS : Type := Int32 × Int32 × Int32 × Int32 × Int32 × Int32 × Int32 × Int32 × Int32 × Int64 × Int64 × Int64 × Int64 × Nat × Nat × Nat × (Nat → Nat) × (Nat → Nat) × (Nat → Nat) × (Nat → Nat) × (Nat → Nat) × (Nat → Int32) × (Nat → Int32) × (Nat → Int32) × (Nat → Int32) × (Nat → Int32) × (Nat → Int32) × (Nat → Int32) × (Nat → Int32) × (Nat → Int32) × (Nat → Int32) × (Nat → Int32) × (Nat → Int32) × (Nat → Int32) × (Nat → Int32) × (Nat → Int32) × (Nat → Int32) × (Nat → Int32) × (Nat → Int64) × (Nat → Int64) × (Nat → Int64) × (Nat → Int64)
def CS.bg (z9 : CS) : Int32 := z9.1
def CS.dn (z9 : CS) : Int32 := z9.2.1
def CS.op (z9 : CS) : Int32 := z9.2.2.1
def CS.ar (z9 : CS) : Int32 := z9.2.2.2.1
def CS.rn (z9 : CS) : Int32 := z9.2.2.2.2.1
def CS.lg (z9 : CS) : Int32 := z9.2.2.2.2.2.1
def CS.md (z9 : CS) : Int32 := z9.2.2.2.2.2.2.1
def CS.ix (z9 : CS) : Int32 := z9.2.2.2.2.2.2.2.1
def CS.ls (z9 : CS) : Int32 := z9.2.2.2.2.2.2.2.2.1
def CS.kn (z9 : CS) : Int64 := z9.2.2.2.2.2.2.2.2.2.1
def CS.ch (z9 : CS) : Int64 := z9.2.2.2.2.2.2.2.2.2.2.1
def CS.sl (z9 : CS) : Int64 := z9.2.2.2.2.2.2.2.2.2.2.2.1
def CS.fr (z9 : CS) : Int64 := z9.2.2.2.2.2.2.2.2.2.2.2.2.1
def CS.cc (z9 : CS) : Nat := z9.2.2.2.2.2.2.2.2.2.2.2.2.2.1
def CS.fc (z9 : CS) : Nat := z9.2.2.2.2.2.2.2.2.2.2.2.2.2.2.1
def CS.mkd (z9 : CS) : Nat := z9.2.2.2.2.2.2.2.2.2.2.2.2.2.2.2.1
def CS.par (z9 : CS) : Nat → Nat := z9.2.2.2.2.2.2.2.2.2.2.2.2.2.2.2.2.1
def CS.own (z9 : CS) : Nat → Nat := z9.2.2.2.2.2.2.2.2.2.2.2.2.2.2.2.2.2.1
def CS.aim (z9 : CS) : Nat → Nat := z9.2.2.2.2.2.2.2.2.2.2.2.2.2.2.2.2.2.2.1
def CS.ab (z9 : CS) : Nat → Nat := z9.2.2.2.2.2.2.2.2.2.2.2.2.2.2.2.2.2.2.2.1
def CS.cl (z9 : CS) : Nat → Nat := z9.2.2.2.2.2.2.2.2.2.2.2.2.2.2.2.2.2.2.2.2.1
def CS.xab (z9 : CS) : Nat → Int32 := z9.2.2.2.2.2.2.2.2.2.2.2.2.2.2.2.2.2.2.2.2.2.1
def CS.xow (z9 : CS) : Nat → Int32 := z9.2.2.2.2.2.2.2.2.2.2.2.2.2.2.2.2.2.2.2.2.2.2.1
def CS.xkd (z9 : CS) : Nat → Int32 := z9.2.2.2.2.2.2.2.2.2.2.2.2.2.2.2.2.2.2.2.2.2.2.2.1
def CS.xtg (z9 : CS) : Nat → Int32 := z9.2.2.2.2.2.2.2.2.2.2.2.2.2.2.2.2.2.2.2.2.2.2.2.2.1
def CS.kc (z9 : CS) : Nat → Int32 := z9.2.2.2.2.2.2.2.2.2.2.2.2.2.2.2.2.2.2.2.2.2.2.2.2.2.1
def CS.kn_ (z9 : CS) : Nat → Int32 := z9.2.2.2.2.2.2.2.2.2.2.2.2.2.2.2.2.2.2.2.2.2.2.2.2.2.2.1
def CS.ic (z9 : CS) : Nat → Int32 := z9.2.2.2.2.2.2.2.2.2.2.2.2.2.2.2.2.2.2.2.2.2.2.2.2.2.2.2.1
def CS.in_ (z9 : CS) : Nat → Int32 := z9.2.2.2.2.2.2.2.2.2.2.2.2.2.2.2.2.2.2.2.2.2.2.2.2.2.2.2.2.1
def CS.mpr (z9 : CS) : Nat → Int32 := z9.2.2.2.2.2.2.2.2.2.2.2.2.2.2.2.2.2.2.2.2.2.2.2.2.2.2.2.2.2.1
def CS.mow (z9 : CS) : Nat → Int32 := z9.2.2.2.2.2.2.2.2.2.2.2.2.2.2.2.2.2.2.2.2.2.2.2.2.2.2.2.2.2.2.1
def CS.mso (z9 : CS) : Nat → Int32 := z9.2.2.2.2.2.2.2.2.2.2.2.2.2.2.2.2.2.2.2.2.2.2.2.2.2.2.2.2.2.2.2.1
def CS.mai (z9 : CS) : Nat → Int32 := z9.2.2.2.2.2.2.2.2.2.2.2.2.2.2.2.2.2.2.2.2.2.2.2.2.2.2.2.2.2.2.2.2.1
def CS.c1 (z9 : CS) : Nat → Int32 := z9.2.2.2.2.2.2.2.2.2.2.2.2.2.2.2.2.2.2.2.2.2.2.2.2.2.2.2.2.2.2.2.2.2.1
def CS.dV (z9 : CS) : Nat → Int32 := z9.2.2.2.2.2.2.2.2.2.2.2.2.2.2.2.2.2.2.2.2.2.2.2.2.2.2.2.2.2.2.2.2.2.2.1
def CS.dN (z9 : CS) : Nat → Int32 := z9.2.2.2.2.2.2.2.2.2.2.2.2.2.2.2.2.2.2.2.2.2.2.2.2.2.2.2.2.2.2.2.2.2.2.2.1
def CS.V (z9 : CS) : Nat → Int32 := z9.2.2.2.2.2.2.2.2.2.2.2.2.2.2.2.2.2.2.2.2.2.2.2.2.2.2.2.2.2.2.2.2.2.2.2.2.1
def CS.N (z9 : CS) : Nat → Int32 := z9.2.2.2.2.2.2.2.2.2.2.2.2.2.2.2.2.2.2.2.2.2.2.2.2.2.2.2.2.2.2.2.2.2.2.2.2.2.1
def CS.kv (z9 : CS) : Nat → Int64 := z9.2.2.2.2.2.2.2.2.2.2.2.2.2.2.2.2.2.2.2.2.2.2.2.2.2.2.2.2.2.2.2.2.2.2.2.2.2.2.1
def CS.iv (z9 : CS) : Nat → Int64 := z9.2.2.2.2.2.2.2.2.2.2.2.2.2.2.2.2.2.2.2.2.2.2.2.2.2.2.2.2.2.2.2.2.2.2.2.2.2.2.2.1
def CS.dS (z9 : CS) : Nat → Int64 := z9.2.2.2.2.2.2.2.2.2.2.2.2.2.2.2.2.2.2.2.2.2.2.2.2.2.2.2.2.2.2.2.2.2.2.2.2.2.2.2.2.1
def CS.S (z9 : CS) : Nat → Int64 := z9.2.2.2.2.2.2.2.2.2.2.2.2.2.2.2.2.2.2.2.2.2.2.2.2.2.2.2.2.2.2.2.2.2.2.2.2.2.2.2.2.2
def CS.mk (bg : Int32) (dn : Int32) (op : Int32) (ar : Int32) (rn : Int32) (lg : Int32) (md : Int32) (ix : Int32) (ls : Int32) (kn : Int64) (ch : Int64) (sl : Int64) (fr : Int64) (cc : Nat) (fc : Nat) (mkd : Nat) (par : Nat → Nat) (own : Nat → Nat) (aim : Nat → Nat) (ab : Nat → Nat) (cl : Nat → Nat) (xab : Nat → Int32) (xow : Nat → Int32) (xkd : Nat → Int32) (xtg : Nat → Int32) (kc : Nat → Int32) (kn_ : Nat → Int32) (ic : Nat → Int32) (in_ : Nat → Int32) (mpr : Nat → Int32) (mow : Nat → Int32) (mso : Nat → Int32) (mai : Nat → Int32) (c1 : Nat → Int32) (dV : Nat → Int32) (dN : Nat → Int32) (V : Nat → Int32) (N : Nat → Int32) (kv : Nat → Int64) (iv : Nat → Int64) (dS : Nat → Int64) (S : Nat → Int64) : CS := (bg, dn, op, ar, rn, lg, md, ix, ls, kn, ch, sl, fr, cc, fc, mkd, par, own, aim, ab, cl, xab, xow, xkd, xtg, kc, kn_, ic, in_, mpr, mow, mso, mai, c1, dV, dN, V, N, kv, iv, dS, S)
abbrev rCore (s : CS) : Prop := (rSch s.cc s.fc s.par s.own s.aim s.ab s.mso (nI s.cc) (nI s.fc) s.xab s.xow s.xkd s.xtg (nI s.cc) (nI s.fc) s.mpr s.mow s.mso s.mai) ∧ (s.mkd ≤ 62) ∧ (∀ i, 1 ≤ i → i ≤ s.mkd → s.c1 i = nI (s.cl i) ∧ 1 ≤ s.cl i ∧ s.cl i ≤ s.cc) ∧ (s.bg = 0 ∨ s.bg = 1) ∧ (s.dn = 0 ∨ s.dn = 1) ∧ (s.op = 0 ∨ s.op = 1) ∧ (s.rn = 0 ∨ s.rn = 1) ∧ (s.md = 0 ∨ s.md = 1) ∧ (s.bg = 0 → s.mkd = 0 ∧ s.op = 0) ∧ (armOk s.ar) ∧ (∃ n, n ≤ 3 ∧ s.ix = nI n) ∧ (ids s.ch) ∧ (¬ s.dn = 0 → s.op = 0) ∧ (s.dn = 0 → s.lg = 0 ∧ s.md = 0) ∧ (∃ n, n ≤ 63 ∧ s.lg = nI n) ∧ (¬ s.md = 0 → s.ls = s.lg) ∧ (s.md = 0 → ∃ K, rIm s.fc s.mkd s.par s.own s.mso s.cl s.sl K s.kc s.kv s.kn_ s.dV s.dS s.dN) ∧ (¬ s.md = 0 → ∃ K, rIm s.fc s.mkd s.par s.own s.mso s.cl (s.sl ||| s.fr) K s.kc s.kv s.kn_ s.V s.S s.N) ∧ (¬ s.op = 0 → rIm s.fc s.mkd s.par s.own s.mso s.cl (s.sl ||| s.fr) s.kn s.ic s.iv s.in_ s.V s.S s.N) ∧ (¬ s.op = 0 → ∀ i, ¬ (tb s.sl i = true ∧ tb s.fr i = true)) ∧ (s.op = 0 → s.md = 0 → (∀ k, k < 504 → s.V k = s.dV k ∧ s.S k = s.dS k) ∧ ∀ n, n < 4 → s.N n = s.dN n)
theorem rCore.sch {s : CS} (h9z : rCore s) : rSch s.cc s.fc s.par s.own s.aim s.ab s.mso (nI s.cc) (nI s.fc) s.xab s.xow s.xkd s.xtg (nI s.cc) (nI s.fc) s.mpr s.mow s.mso s.mai := h9z.1
theorem rCore.mk62 {s : CS} (h9z : rCore s) : s.mkd ≤ 62 := h9z.2.1
theorem rCore.cls {s : CS} (h9z : rCore s) : ∀ i, 1 ≤ i → i ≤ s.mkd → s.c1 i = nI (s.cl i) ∧ 1 ≤ s.cl i ∧ s.cl i ≤ s.cc := h9z.2.2.1
theorem rCore.bg {s : CS} (h9z : rCore s) : s.bg = 0 ∨ s.bg = 1 := h9z.2.2.2.1
theorem rCore.dn {s : CS} (h9z : rCore s) : s.dn = 0 ∨ s.dn = 1 := h9z.2.2.2.2.1
theorem rCore.op {s : CS} (h9z : rCore s) : s.op = 0 ∨ s.op = 1 := h9z.2.2.2.2.2.1
theorem rCore.rn {s : CS} (h9z : rCore s) : s.rn = 0 ∨ s.rn = 1 := h9z.2.2.2.2.2.2.1
theorem rCore.md {s : CS} (h9z : rCore s) : s.md = 0 ∨ s.md = 1 := h9z.2.2.2.2.2.2.2.1
theorem rCore.bg0 {s : CS} (h9z : rCore s) : s.bg = 0 → s.mkd = 0 ∧ s.op = 0 := h9z.2.2.2.2.2.2.2.2.1
theorem rCore.arm {s : CS} (h9z : rCore s) : armOk s.ar := h9z.2.2.2.2.2.2.2.2.2.1
theorem rCore.ix {s : CS} (h9z : rCore s) : ∃ n, n ≤ 3 ∧ s.ix = nI n := h9z.2.2.2.2.2.2.2.2.2.2.1
theorem rCore.ich {s : CS} (h9z : rCore s) : ids s.ch := h9z.2.2.2.2.2.2.2.2.2.2.2.1
theorem rCore.dop {s : CS} (h9z : rCore s) : ¬ s.dn = 0 → s.op = 0 := h9z.2.2.2.2.2.2.2.2.2.2.2.2.1
theorem rCore.dlm {s : CS} (h9z : rCore s) : s.dn = 0 → s.lg = 0 ∧ s.md = 0 := h9z.2.2.2.2.2.2.2.2.2.2.2.2.2.1
theorem rCore.lg {s : CS} (h9z : rCore s) : ∃ n, n ≤ 63 ∧ s.lg = nI n := h9z.2.2.2.2.2.2.2.2.2.2.2.2.2.2.1
theorem rCore.lsz {s : CS} (h9z : rCore s) : ¬ s.md = 0 → s.ls = s.lg := h9z.2.2.2.2.2.2.2.2.2.2.2.2.2.2.2.1
theorem rCore.kp0 {s : CS} (h9z : rCore s) : s.md = 0 → ∃ K, rIm s.fc s.mkd s.par s.own s.mso s.cl s.sl K s.kc s.kv s.kn_ s.dV s.dS s.dN := h9z.2.2.2.2.2.2.2.2.2.2.2.2.2.2.2.2.1
theorem rCore.kp1 {s : CS} (h9z : rCore s) : ¬ s.md = 0 → ∃ K, rIm s.fc s.mkd s.par s.own s.mso s.cl (s.sl ||| s.fr) K s.kc s.kv s.kn_ s.V s.S s.N := h9z.2.2.2.2.2.2.2.2.2.2.2.2.2.2.2.2.2.1
theorem rCore.im {s : CS} (h9z : rCore s) : ¬ s.op = 0 → rIm s.fc s.mkd s.par s.own s.mso s.cl (s.sl ||| s.fr) s.kn s.ic s.iv s.in_ s.V s.S s.N := h9z.2.2.2.2.2.2.2.2.2.2.2.2.2.2.2.2.2.2.1
theorem rCore.dj {s : CS} (h9z : rCore s) : ¬ s.op = 0 → ∀ i, ¬ (tb s.sl i = true ∧ tb s.fr i = true) := h9z.2.2.2.2.2.2.2.2.2.2.2.2.2.2.2.2.2.2.2.1
theorem rCore.same {s : CS} (h9z : rCore s) : s.op = 0 → s.md = 0 → (∀ k, k < 504 → s.V k = s.dV k ∧ s.S k = s.dS k) ∧ ∀ n, n < 4 → s.N n = s.dN n := h9z.2.2.2.2.2.2.2.2.2.2.2.2.2.2.2.2.2.2.2.2

theorem pl_ne {i f j g : Nat} (hf : f < 8) (hg : g < 8) (h : ¬ (j = i ∧ g = f)) : j * 8 + g ≠ i * 8 + f ∧ 8 * j + g ≠ 8 * i + f := by
  constructor <;> (intro e; exact h (by omega))
theorem hasF_2 {par own : Nat → Nat} {so : Nat → Int32} {c f : Nat} {k l : Int32} (hk : ¬ k < 0) (hl : ¬ l < 0) (h1 : hasF par own so c f k = true) (h2 : hasF par own so c f l = true) : k = l := by
  rw [hasF_k hk, Bool.and_eq_true, decide_eq_true_iff] at h1
  rw [hasF_k hl, Bool.and_eq_true, decide_eq_true_iff] at h2
  exact h1.2.symm.trans h2.2
theorem hasF_a {par own : Nat → Nat} {so : Nat → Int32} {c f : Nat} {k : Int32} (hk : ¬ k < 0) (h1 : hasF par own so c f k = true) : hasF par own so c f (-1) = true := by
  rw [hasF_k hk, Bool.and_eq_true] at h1
  rw [hasF_any]; exact h1.1
theorem rIm_put {fc mk : Nat} {par own cl : Nat → Nat} {so : Nat → Int32} {s K : Int64} {xc xn vs ns : Nat → Int32} {xv ss : Nat → Int64} (hfc : fc ≤ 8)
    (h : rIm fc mk par own so cl s K xc xv xn vs ss ns) {i f : Nat} (h1 : 1 ≤ i) (h2 : i ≤ mk) (hf : f < fc) (hk : hasF par own so (cl i) f 0 = true) (v : Int32) :
    rIm fc mk par own so cl s K xc (vp_updL xv (i * 8 + f) v.toInt64) xn (upd vs (8 * i + f) v) ss ns := by
  obtain ⟨⟨a1, a2, a3, a4, a5, a6, a7, a8, a9⟩, hz, ⟨b1, b2, b3, b4⟩, hK⟩ := h
  refine ⟨⟨a1, a2, a3, a4, fun j g k1 k2 k3 k4 => ?_, fun j g k1 k2 k3 k4 => ?_, fun j g k1 k2 k3 k4 => ?_, fun j g k1 k2 k3 k4 => ?_, a9⟩, fun j g k1 k2 k3 k4 => ?_, ⟨b1, b2, fun j g k1 k2 k3 => ?_, b4⟩, hK⟩
  · by_cases e : j = i ∧ g = f
    · obtain ⟨rfl, rfl⟩ := e
      rw [pk_us, pk_uLs]
    · rw [pk_un (pl_ne (by omega) (by omega) e).2, pk_uLn (pl_ne (by omega) (by omega) e).1]; exact a5 j g k1 k2 k3 k4
  · by_cases e : j = i ∧ g = f
    · obtain ⟨rfl, rfl⟩ := e
      exact absurd (hasF_2 (by decide) (by decide) k4 hk) (by decide)
    · rw [pk_un (pl_ne (by omega) (by omega) e).2, pk_uLn (pl_ne (by omega) (by omega) e).1]; exact a6 j g k1 k2 k3 k4
  · by_cases e : j = i ∧ g = f
    · obtain ⟨rfl, rfl⟩ := e
      exact absurd (hasF_2 (by decide) (by decide) k4 hk) (by decide)
    · rw [pk_uLn (pl_ne (by omega) (by omega) e).1]; exact a7 j g k1 k2 k3 k4
  · by_cases e : j = i ∧ g = f
    · obtain ⟨rfl, rfl⟩ := e
      rcases k4 with k4 | k4 | k4
      · omega
      · omega
      · rw [hasF_a (by decide) hk] at k4; cases k4
    · rw [pk_uLn (pl_ne (by omega) (by omega) e).1]; exact a8 j g k1 k2 k3 k4
  · by_cases e : j = i ∧ g = f
    · obtain ⟨rfl, rfl⟩ := e
      rcases k4 with k4 | k4 | k4
      · omega
      · omega
      · rw [hasF_a (by decide) hk] at k4; cases k4
    · rw [pk_un (pl_ne (by omega) (by omega) e).2]; exact hz j g k1 k2 k3 k4
  · by_cases e : j = i ∧ g = f
    · obtain ⟨rfl, rfl⟩ := e
      exact absurd (hasF_2 (by decide) (by decide) k3 hk) (by decide)
    · rw [pk_un (pl_ne (by omega) (by omega) e).2]; exact b3 j g k1 k2 k3
theorem rIm_point {fc mk : Nat} {par own cl : Nat → Nat} {so : Nat → Int32} {s K : Int64} {xc xn vs ns : Nat → Int32} {xv ss : Nat → Int64} (hfc : fc ≤ 8)
    (h : rIm fc mk par own so cl s K xc xv xn vs ss ns) {i f : Nat} (h1 : 1 ≤ i) (h2 : i ≤ mk) (hf : f < fc) (hk : hasF par own so (cl i) f 1 = true) {t : Nat} (ht : t ≤ 62) (hK2 : t = 0 ∨ tb K t = true) :
    rIm fc mk par own so cl s K xc (vp_updL xv (i * 8 + f) (lN t)) xn (upd vs (8 * i + f) (nI t)) ss ns := by
  obtain ⟨⟨a1, a2, a3, a4, a5, a6, a7, a8, a9⟩, hz, ⟨b1, b2, b3, b4⟩, hK⟩ := h
  refine ⟨⟨a1, a2, a3, a4, fun j g k1 k2 k3 k4 => ?_, fun j g k1 k2 k3 k4 => ?_, fun j g k1 k2 k3 k4 => ?_, fun j g k1 k2 k3 k4 => ?_, a9⟩, fun j g k1 k2 k3 k4 => ?_, ⟨b1, b2, fun j g k1 k2 k3 => ?_, b4⟩, hK⟩
  · by_cases e : j = i ∧ g = f
    · obtain ⟨rfl, rfl⟩ := e
      exact absurd (hasF_2 (by decide) (by decide) k4 hk) (by decide)
    · rw [pk_un (pl_ne (by omega) (by omega) e).2, pk_uLn (pl_ne (by omega) (by omega) e).1]; exact a5 j g k1 k2 k3 k4
  · by_cases e : j = i ∧ g = f
    · obtain ⟨rfl, rfl⟩ := e
      rw [pk_us, pk_uLs]; exact ⟨t, ht, rfl, rfl⟩
    · rw [pk_un (pl_ne (by omega) (by omega) e).2, pk_uLn (pl_ne (by omega) (by omega) e).1]; exact a6 j g k1 k2 k3 k4
  · by_cases e : j = i ∧ g = f
    · obtain ⟨rfl, rfl⟩ := e
      exact absurd (hasF_2 (by decide) (by decide) k4 hk) (by decide)
    · rw [pk_uLn (pl_ne (by omega) (by omega) e).1]; exact a7 j g k1 k2 k3 k4
  · by_cases e : j = i ∧ g = f
    · obtain ⟨rfl, rfl⟩ := e
      rcases k4 with k4 | k4 | k4
      · omega
      · omega
      · rw [hasF_a (by decide) hk] at k4; cases k4
    · rw [pk_uLn (pl_ne (by omega) (by omega) e).1]; exact a8 j g k1 k2 k3 k4
  · by_cases e : j = i ∧ g = f
    · obtain ⟨rfl, rfl⟩ := e
      rcases k4 with k4 | k4 | k4
      · omega
      · omega
      · rw [hasF_a (by decide) hk] at k4; cases k4
    · rw [pk_un (pl_ne (by omega) (by omega) e).2]; exact hz j g k1 k2 k3 k4
  · by_cases e : j = i ∧ g = f
    · obtain ⟨rfl, rfl⟩ := e
      rw [pk_us]; exact ⟨t, ht, rfl, hK2⟩
    · rw [pk_un (pl_ne (by omega) (by omega) e).2]; exact b3 j g k1 k2 k3
theorem rIm_join {fc mk : Nat} {par own cl : Nat → Nat} {so : Nat → Int32} {s K : Int64} {xc xn vs ns : Nat → Int32} {xv ss : Nat → Int64} (hfc : fc ≤ 8)
    (h : rIm fc mk par own so cl s K xc xv xn vs ss ns) {i f : Nat} (h1 : 1 ≤ i) (h2 : i ≤ mk) (hf : f < fc) (hk : hasF par own so (cl i) f 2 = true) {w : Int64} (hw : ids w) (hK2 : tb K i = true → ∀ j, tb w j = true → tb K j = true) :
    rIm fc mk par own so cl s K xc (vp_updL xv (i * 8 + f) w) xn vs (vp_updL ss (8 * i + f) w) ns := by
  obtain ⟨⟨a1, a2, a3, a4, a5, a6, a7, a8, a9⟩, hz, ⟨b1, b2, b3, b4⟩, hK⟩ := h
  refine ⟨⟨a1, a2, a3, a4, fun j g k1 k2 k3 k4 => ?_, fun j g k1 k2 k3 k4 => ?_, fun j g k1 k2 k3 k4 => ?_, fun j g k1 k2 k3 k4 => ?_, a9⟩, fun j g k1 k2 k3 k4 => ?_, ⟨b1, b2, b3, fun j g k1 k2 k3 => ?_⟩, hK⟩
  · by_cases e : j = i ∧ g = f
    · obtain ⟨rfl, rfl⟩ := e
      exact absurd (hasF_2 (by decide) (by decide) k4 hk) (by decide)
    · rw [pk_uLn (pl_ne (by omega) (by omega) e).1]; exact a5 j g k1 k2 k3 k4
  · by_cases e : j = i ∧ g = f
    · obtain ⟨rfl, rfl⟩ := e
      exact absurd (hasF_2 (by decide) (by decide) k4 hk) (by decide)
    · rw [pk_uLn (pl_ne (by omega) (by omega) e).1]; exact a6 j g k1 k2 k3 k4
  · by_cases e : j = i ∧ g = f
    · obtain ⟨rfl, rfl⟩ := e
      rw [pk_uLs, pk_uLs]; exact ⟨rfl, hw⟩
    · rw [pk_uLn (pl_ne (by omega) (by omega) e).1, pk_uLn (pl_ne (by omega) (by omega) e).2]; exact a7 j g k1 k2 k3 k4
  · by_cases e : j = i ∧ g = f
    · obtain ⟨rfl, rfl⟩ := e
      rcases k4 with k4 | k4 | k4
      · omega
      · omega
      · rw [hasF_a (by decide) hk] at k4; cases k4
    · rw [pk_uLn (pl_ne (by omega) (by omega) e).1]; exact a8 j g k1 k2 k3 k4
  · by_cases e : j = i ∧ g = f
    · obtain ⟨rfl, rfl⟩ := e
      rcases k4 with k4 | k4 | k4
      · omega
      · omega
      · rw [hasF_a (by decide) hk] at k4; cases k4
    · rw [pk_uLn (pl_ne (by omega) (by omega) e).2]; exact hz j g k1 k2 k3 k4
  · by_cases e : j = i ∧ g = f
    · obtain ⟨rfl, rfl⟩ := e
      rw [pk_uLs]; exact hK2 k1
    · rw [pk_uLn (pl_ne (by omega) (by omega) e).2]; exact b4 j g k1 k2 k3
theorem rIm_name {fc mk : Nat} {par own cl : Nat → Nat} {so : Nat → Int32} {s K : Int64} {xc xn vs ns : Nat → Int32} {xv ss : Nat → Int64}
    (h : rIm fc mk par own so cl s K xc xv xn vs ss ns) {n t : Nat} (ht : t ≤ 62) (hK2 : t = 0 ∨ tb K t = true) :
    rIm fc mk par own so cl s K xc xv (upd xn n (nI t)) vs ss (upd ns n (nI t)) := by
  obtain ⟨⟨a1, a2, a3, a4, a5, a6, a7, a8, a9⟩, hz, ⟨b1, b2, b3, b4⟩, hK⟩ := h
  refine ⟨⟨a1, a2, a3, a4, a5, a6, a7, a8, fun m hm => ?_⟩, hz, ⟨b1, fun m hm => ?_, b3, b4⟩, hK⟩
  · by_cases e : m = n
    · subst e; rw [pk_us, pk_us]; exact ⟨t, ht, rfl, rfl⟩
    · rw [pk_un e, pk_un e]; exact a9 m hm
  · by_cases e : m = n
    · subst e; rw [pk_us]; exact ⟨t, ht, rfl, hK2⟩
    · rw [pk_un e]; exact b2 m hm
theorem rIm_make {fc mk : Nat} {par own cl : Nat → Nat} {so : Nat → Int32} {s K : Int64} {xc xn vs ns : Nat → Int32} {xv ss : Nat → Int64} (hfc : fc ≤ 8) (hmk : mk < 62)
    (h : rIm fc mk par own so cl s K xc xv xn vs ss ns) (c : Nat) :
    rIm fc (mk + 1) par own so (upN cl (mk + 1) c) s K xc xv xn vs ss ns ∧ rIm fc (mk + 1) par own so (upN cl (mk + 1) c) (s ||| bi (mk + 1)) (K ||| bi (mk + 1)) (upd xc (mk + 1) (nI c)) xv xn vs ss ns := by
  obtain ⟨⟨a1, a2, a3, a4, a5, a6, a7, a8, a9⟩, hz, ⟨b1, b2, b3, b4⟩, hK⟩ := h
  have hz1 : ∀ f, f < 8 → xv ((mk + 1) * 8 + f) = 0 := fun f h => a8 (mk + 1) f (by omega) (by omega) h (Or.inl (by omega))
  have hz2 : ∀ f, f < 8 → vs (8 * (mk + 1) + f) = 0 ∧ ss (8 * (mk + 1) + f) = 0 := fun f h => hz (mk + 1) f (by omega) (by omega) h (Or.inl (by omega))
  have hKn : ∀ i, tb K i = true → ¬ i = mk + 1 := fun i h e => by
    have h9 := hK i h
    rw [e, a2 (mk + 1) (by omega)] at h9; cases h9
  have g5 : ∀ i f, 1 ≤ i → i ≤ mk + 1 → f < fc → hasF par own so (upN cl (mk + 1) c i) f 0 = true → xv (i * 8 + f) = (vs (8 * i + f)).toInt64 := fun i f h1 h2 h3 h4 => by
    by_cases e : i = mk + 1
    · subst e; rw [hz1 f (by omega), (hz2 f (by omega)).1]; rfl
    · rw [upN_n e] at h4; exact a5 i f h1 (by omega) h3 h4
  have g6 : ∀ i f, 1 ≤ i → i ≤ mk + 1 → f < fc → hasF par own so (upN cl (mk + 1) c i) f 1 = true → ∃ t : Nat, t ≤ 62 ∧ vs (8 * i + f) = nI t ∧ xv (i * 8 + f) = lN t := fun i f h1 h2 h3 h4 => by
    by_cases e : i = mk + 1
    · subst e; rw [hz1 f (by omega), (hz2 f (by omega)).1]; exact ⟨0, by omega, rfl, rfl⟩
    · rw [upN_n e] at h4; exact a6 i f h1 (by omega) h3 h4
  have g7 : ∀ i f, 1 ≤ i → i ≤ mk + 1 → f < fc → hasF par own so (upN cl (mk + 1) c i) f 2 = true → xv (i * 8 + f) = ss (8 * i + f) ∧ ids (ss (8 * i + f)) := fun i f h1 h2 h3 h4 => by
    by_cases e : i = mk + 1
    · subst e; rw [hz1 f (by omega), (hz2 f (by omega)).2]; exact ⟨rfl, ids_0⟩
    · rw [upN_n e] at h4; exact a7 i f h1 (by omega) h3 h4
  have g8 : ∀ i f, 1 ≤ i → i ≤ 62 → f < 8 → (mk + 1 < i ∨ fc ≤ f ∨ hasF par own so (upN cl (mk + 1) c i) f (-1) = false) → xv (i * 8 + f) = 0 := fun i f h1 h2 h3 h4 => by
    by_cases e : i = mk + 1
    · subst e; exact hz1 f h3
    · rw [upN_n e] at h4; exact a8 i f h1 h2 h3 (by rcases h4 with h | h | h; exact Or.inl (by omega); exact Or.inr (Or.inl h); exact Or.inr (Or.inr h))
  have gz : rZer fc (mk + 1) par own so (upN cl (mk + 1) c) vs ss := fun i f h1 h2 h3 h4 => by
    by_cases e : i = mk + 1
    · subst e; exact hz2 f h3
    · rw [upN_n e] at h4; exact hz i f h1 h2 h3 (by rcases h4 with h | h | h; exact Or.inl (by omega); exact Or.inr (Or.inl h); exact Or.inr (Or.inr h))
  have d3 : ∀ i f, tb K i = true → f < fc → hasF par own so (upN cl (mk + 1) c i) f 1 = true → ∃ t : Nat, t ≤ 62 ∧ vs (8 * i + f) = nI t ∧ (t = 0 ∨ tb K t = true) := fun i f h1 h2 h3 => by
    rw [upN_n (hKn i h1)] at h3; exact b3 i f h1 h2 h3
  have d4 : ∀ i f, tb K i = true → f < fc → hasF par own so (upN cl (mk + 1) c i) f 2 = true → ∀ j, tb (ss (8 * i + f)) j = true → tb K j = true := fun i f h1 h2 h3 => by
    rw [upN_n (hKn i h1)] at h3; exact b4 i f h1 h2 h3
  have hb : ∀ (x : Int64) (i : Nat), tb (x ||| bi (mk + 1)) i = true ↔ tb x i = true ∨ i = mk + 1 := fun x i => by
    rw [tb_or, Bool.or_eq_true, tb_bi _ _ (by omega), decide_eq_true_iff]
  have hbf : ∀ (x : Int64) (i : Nat), ¬ i = mk + 1 → tb (x ||| bi (mk + 1)) i = tb x i := fun x i h => by
    rw [tb_or, tb_bi _ _ (by omega), decide_eq_false h, Bool.or_false]
  refine ⟨⟨⟨a1, fun i h => a2 i (by omega), a3, fun i h1 h2 => ?_, g5, g6, g7, g8, a9⟩, gz, ⟨b1, b2, d3, d4⟩, hK⟩, ⟨⟨ids_or a1 (ids_bi (by omega) (by omega)), fun i h => ?_, ?_, fun i h1 h2 => ?_, g5, g6, g7, g8, a9⟩, gz, ⟨ids_or b1 (ids_bi (by omega) (by omega)), fun n h => ?_, fun i f h1 h2 h3 => ?_, fun i f h1 h2 h3 j h4 => ?_⟩, fun i h => ?_⟩⟩
  · rw [a4 i h1 h2]
    by_cases e : i = mk + 1
    · rw [a2 i (by omega)]; rfl
    · rw [upN_n e]
  · rw [hbf _ _ (by omega)]; exact a2 i (by omega)
  · rw [pk_un (by omega)]; exact a3
  · by_cases e : i = mk + 1
    · subst e; rw [pk_us, upN_s, (hb s (mk + 1)).mpr (Or.inr rfl)]; rfl
    · rw [pk_un e, upN_n e, hbf _ _ e]; exact a4 i h1 h2
  · obtain ⟨t, h1, h2, h3⟩ := b2 n h
    exact ⟨t, h1, h2, h3.elim Or.inl (fun h => Or.inr ((hb K t).mpr (Or.inl h)))⟩
  · rcases (hb K i).mp h1 with h | h
    · obtain ⟨t, k1, k2, k3⟩ := d3 i f h h2 h3
      exact ⟨t, k1, k2, k3.elim Or.inl (fun h => Or.inr ((hb K t).mpr (Or.inl h)))⟩
    · subst h; rw [(hz2 f (by omega)).1]; exact ⟨0, by omega, rfl, Or.inl rfl⟩
  · rcases (hb K i).mp h1 with h | h
    · exact (hb K j).mpr (Or.inl (d4 i f h h2 h3 j h4))
    · subst h; rw [(hz2 f (by omega)).2, tb_0] at h4; cases h4
  · rcases (hb K i).mp h with h | h
    · exact (hb s i).mpr (Or.inl (hK i h))
    · exact (hb s i).mpr (Or.inr h)

theorem rc_par {s : CS} (h : rCore s) : ∀ c, 1 ≤ c → c ≤ 5 → s.par c < c := fun c h1 h2 => (h.sch.2.2.2.2.2.2.1 c h2).2.2 h1
theorem rc_f {s : CS} (h : rCore s) {f : Nat} (hf : f < s.fc) : s.xow f = nI (s.own f) ∧ s.mow f = nI (s.own f) ∧ 1 ≤ s.own f ∧ s.own f ≤ s.cc ∧ s.xkd f = s.mso f ∧ (s.mso f = 0 ∨ s.mso f = 1 ∨ s.mso f = 2) ∧ (¬ s.mso f = 0 → s.xtg f = nI (s.aim f) ∧ s.mai f = nI (s.aim f) ∧ 1 ≤ s.aim f ∧ s.aim f ≤ s.cc) := by
  obtain ⟨a1, a2, a3, a4, a5, a6, a7, a8, a9⟩ := h.sch.2.2.2.2.2.2.2.2.2 f hf
  exact ⟨a1, a2, a3, a4, a5, a7, a8⟩
theorem rc_5 {s : CS} (h : rCore s) : s.cc ≤ 5 := h.sch.1
theorem rc_8 {s : CS} (h : rCore s) : s.fc ≤ 8 := h.sch.2.1
theorem kind_eq {s : CS} (h : rCore s) {c : Nat} (hc : c ≤ s.cc) (f : Int32) {kd : Int32} (hk : ¬ kd < 0) : ∃ b : Bool, f_Schema_hasFieldOfKind (nI s.fc) s.xab s.xow s.xkd (nI c) f kd = some (b2i b) ∧ f_M_has (nI s.fc) s.mow s.mpr s.mso (nI c) f kd = some (b2i b) ∧ (b = true → ∃ n, n < s.fc ∧ f = nI n ∧ hasF s.par s.own s.mso c n kd = true) := by
  have h5 := rc_5 h
  have h8 := rc_8 h
  by_cases hf : 0 ≤ f.toInt ∧ f.toInt < s.fc
  · obtain ⟨n, hn⟩ : ∃ n : Nat, f.toInt = (n : Int) := ⟨f.toInt.toNat, by omega⟩
    have e := nI_z hn (by omega)
    have hn2 : n < s.fc := by omega
    refine ⟨hasF s.par s.own s.mso c n kd, ?_, ?_, fun hb => ⟨n, hn2, e, hb⟩⟩
    · rw [e, X_hasKind h5 (rc_par h) h.sch.2.2.2.2.2.2.2.2.1 h8 (fun g hg => ⟨(rc_f h hg).1, (rc_f h hg).2.2.1, by have := (rc_f h hg).2.2.2.1; omega⟩) hc hn2 hk]
      rw [hasF_k hk, hasF_k hk, (rc_f h hn2).2.2.2.2.1]
    · rw [e, M_has h.sch.2.2.2.2.2.2.1 h8 (fun g hg => ⟨(rc_f h hg).2.1, (rc_f h hg).2.2.1, by have := (rc_f h hg).2.2.2.1; omega⟩) (by omega) hn2]
  · refine ⟨false, ?_, ?_, fun hb => by cases hb⟩
    · rw [X_hasKind_out h8 _ _ _ _ _ _ hf]; rfl
    · rw [M_has_out h8 _ _ _ _ _ _ hf]; rfl
theorem field_eq {s : CS} (h : rCore s) {c : Nat} (hc : c ≤ s.cc) (f : Int32) : ∃ b : Bool, f_Schema_hasField (nI s.fc) s.xab s.xow (nI c) f = some (b2i b) ∧ f_M_has (nI s.fc) s.mow s.mpr s.mso (nI c) f (-1) = some (b2i b) ∧ (b = true → ∃ n, n < s.fc ∧ f = nI n ∧ isA s.par c (s.own n) = true) := by
  have h5 := rc_5 h
  have h8 := rc_8 h
  by_cases hf : 0 ≤ f.toInt ∧ f.toInt < s.fc
  · obtain ⟨n, hn⟩ : ∃ n : Nat, f.toInt = (n : Int) := ⟨f.toInt.toNat, by omega⟩
    have e := nI_z hn (by omega)
    have hn2 : n < s.fc := by omega
    refine ⟨isA s.par c (s.own n), ?_, ?_, fun hb => ⟨n, hn2, e, hb⟩⟩
    · rw [e, X_hasField h5 (rc_par h) h.sch.2.2.2.2.2.2.2.2.1 h8 (fun g hg => ⟨(rc_f h hg).1, (rc_f h hg).2.2.1, by have := (rc_f h hg).2.2.2.1; omega⟩) hc hn2]
    · rw [e, M_has h.sch.2.2.2.2.2.2.1 h8 (fun g hg => ⟨(rc_f h hg).2.1, (rc_f h hg).2.2.1, by have := (rc_f h hg).2.2.2.1; omega⟩) (by omega) hn2, hasF_any]
  · refine ⟨false, ?_, ?_, fun hb => by cases hb⟩
    · rw [X_hasField_out h8 _ _ _ _ hf]; rfl
    · rw [M_has_out h8 _ _ _ _ _ _ hf]; rfl
theorem b2i_nz (b : Bool) : b2i b = 0 ∨ b2i b = 1 := by cases b <;> decide
theorem mem_ex {k : Int64} {z : Int32} (h : mem k z = true) : ∃ i : Nat, z = nI i ∧ 1 ≤ i ∧ i ≤ 62 ∧ tb k i = true := by
  unfold mem at h
  rw [Bool.and_eq_true, decide_eq_true_iff] at h
  exact ⟨z.toInt.toNat, nI_z (by omega) (by omega), by omega, by omega, h.2⟩
theorem known_ex {s : CS} (h : rCore s) (ho : ¬ s.op = 0) {z : Int32} (hz : mem s.kn z = true) : ∃ i : Nat, z = nI i ∧ 1 ≤ i ∧ i ≤ s.mkd ∧ i ≤ 62 ∧ tb s.kn i = true ∧ s.ic i = nI (s.cl i) ∧ s.c1 i = nI (s.cl i) ∧ 1 ≤ s.cl i ∧ s.cl i ≤ s.cc := by
  obtain ⟨i, e, h1, h2, h3⟩ := mem_ex hz
  obtain ⟨⟨a1, a2, a3, a4, -⟩, -, -, hK⟩ := h.im ho
  have ht := hK i h3
  have hm : i ≤ s.mkd := by
    by_cases hh : i ≤ s.mkd
    · exact hh
    · rw [a2 i (by omega)] at ht; cases ht
  obtain ⟨c1, c2, c3⟩ := h.cls i h1 hm
  exact ⟨i, e, h1, hm, h2, h3, by rw [a4 i h1 h2, if_pos ht], c1, c2, c3⟩
theorem can_eq {s : CS} (h : rCore s) (z f : Int32) {kd : Int32} (hk : ¬ kd < 0) : ∃ b : Bool, f_OB_canChange s.dn s.kn s.op s.ic (nI s.fc) s.xab s.xow s.xkd z f kd = some (b2i b) ∧ f_M_may (nI s.fc) s.op s.kn s.dn s.c1 s.mow s.mpr s.mso z f kd = some (b2i b) ∧ (b = true → s.dn = 0 ∧ ¬ s.op = 0 ∧ ∃ i n : Nat, z = nI i ∧ 1 ≤ i ∧ i ≤ s.mkd ∧ i ≤ 62 ∧ tb s.kn i = true ∧ f = nI n ∧ n < s.fc ∧ hasF s.par s.own s.mso (s.cl i) n kd = true) := by
  unfold f_OB_canChange f_M_may
  by_cases hd : s.dn = 0
  · rw [if_pos hd, if_pos hd]
    by_cases ho : s.op = 0
    · rw [if_pos ho, if_pos ho]; exact ⟨false, rfl, rfl, fun hb => by cases hb⟩
    · rw [if_neg ho, if_neg ho, contains_eq, in_eq, ob_bs, ob_bs]
      cases hm : mem s.kn z
      · rw [if_pos b2i_f, if_pos b2i_f]; exact ⟨false, rfl, rfl, fun hb => by cases hb⟩
      · rw [if_neg b2i_t, if_neg b2i_t]
        obtain ⟨i, e, h1, h2, h3, h4, h5, h6, h7, h8⟩ := known_ex h ho hm
        obtain ⟨b, k1, k2, k3⟩ := kind_eq h h8 f hk
        rw [e, X_classAt _ h1 h3, ob_bs, h5, k1, ob_bs, ob_nz_i (b2i_nz b), ob_iv_i (by rw [nI_toInt (by omega)]; omega), nI_clamp (by omega), h6, k2, ob_bs]
        refine ⟨b, rfl, by cases b <;> rfl, fun hb => ⟨hd, ho, ?_⟩⟩
        obtain ⟨n, g1, g2, g3⟩ := k3 hb
        exact ⟨i, n, rfl, h1, h2, h3, h4, g2, g1, g3⟩
  · rw [if_neg hd, if_neg hd]; exact ⟨false, rfl, rfl, fun hb => by cases hb⟩
theorem hold_eq {s : CS} (h : rCore s) (ho : ¬ s.op = 0) {n : Nat} (hn : n < s.fc) (hk : ¬ s.mso n = 0) (t : Int32) : ∃ b : Bool, f_OB_canHold s.kn s.ic s.xtg s.xab (nI n) t = some (b2i b) ∧ f_M_fitsInto s.kn s.c1 s.mai s.mpr (nI n) t = some (b2i b) ∧ (b = true → ∃ j : Nat, t = nI j ∧ 1 ≤ j ∧ j ≤ 62 ∧ tb s.kn j = true) := by
  unfold f_OB_canHold f_M_fitsInto
  rw [contains_eq, in_eq, ob_bs, ob_bs]
  cases hm : mem s.kn t
  · rw [if_pos b2i_f, if_pos b2i_f]; exact ⟨false, rfl, rfl, fun hb => by cases hb⟩
  · rw [if_neg b2i_t, if_neg b2i_t]
    obtain ⟨i, e, h1, h2, h3, h4, h5, h6, h7, h8⟩ := known_ex h ho hm
    obtain ⟨-, -, -, -, -, -, hh⟩ := rc_f h hn
    obtain ⟨g1, g2, g3, g4⟩ := hh hk
    have hcc := rc_5 h
    have hfc := rc_8 h
    rw [e, X_classAt _ h1 h3, ob_bs, h5, ob_iv_i (by rw [nI_toInt (by omega)]; omega), ob_iv_i (by rw [nI_toInt (by omega)]; omega), ob_iv_i (by rw [nI_toInt (by omega)]; omega), nI_clamp (by omega), nI_clamp (by omega), g1, g2, h6, X_isOf hcc (rc_par h) h.sch.2.2.2.2.2.2.2.2.1 h8 g3 (by omega), M_is h.sch.2.2.2.2.2.2.1 (by omega) (by omega), ob_bs, ob_bs, ob_nz_i (b2i_nz _)]
    exact ⟨_, rfl, by cases isA s.par (s.cl i) (s.aim n) <;> rfl, fun _ => ⟨i, rfl, h1, h3, h4⟩⟩
theorem bi_setOf {i : Nat} (h1 : 1 ≤ i) (h2 : i ≤ 62) : f_OB_setOf (nI i) = some (bi i) ∧ f_M_bit (nI i) = some (bi i) := ⟨setOf_eq (by omega) (by omega), bit_eqM (by omega) (by omega)⟩
theorem place_m {i f : Nat} (h2 : i ≤ 62) (hf : f < 8) : (0 ≤ (8 * nI i + nI f).toInt ∧ (8 * nI i + nI f).toInt < (504 : Nat)) ∧ (8 * nI i + nI f).toNatClampNeg = 8 * i + f := by
  have e : 8 * nI i + nI f = nI (8 * i + f) := by
    rw [show (8 : Int32) = nI 8 from rfl, pk_mul, nI_add]
  rw [e, nI_toInt (by omega), nI_clamp (by omega)]
  omega
theorem setValue_eq (ch : Int64) (iv : Nat → Int64) {i f : Nat} (h1 : 1 ≤ i) (h2 : i ≤ 62) (hf : f < 8) (w : Int64) : f_Batch_setValue ch iv (nI i) (nI f) w = some (ch ||| bi i, vp_updL iv (i * 8 + f) w) := by
  unfold f_Batch_setValue
  have e : nI i * 8 + nI f = nI (i * 8 + f) := by
    rw [show (8 : Int32) = nI 8 from rfl, pk_mul, nI_add]
  rw [e, ob_iv_i (by rw [nI_toInt (by omega)]; omega), (bi_setOf h1 h2).1, ob_bs, nI_clamp (by omega)]

theorem ids_ch {s : CS} (h : rCore s) {i : Nat} (h1 : 1 ≤ i) (h2 : i ≤ 62) : ids (s.ch ||| bi i) := ids_or h.ich (ids_bi h1 h2)
theorem S_put {s : CS} (h : rCore s) (z f v : Int32) : ∃ (r : Int32) (ch : Int64) (iv : Nat → Int64) (V : Nat → Int32), f_OB_put s.kn s.ch s.op (nI s.fc) s.dn s.ic s.xab s.xow s.xkd s.iv z f v = some (r, ch, iv) ∧ f_M_put (nI s.fc) s.op s.kn s.ch s.dn s.c1 s.mow s.mpr s.mso s.V z f v = some (r, ch, V) ∧ rCore (CS.mk s.bg s.dn s.op s.ar s.rn s.lg s.md s.ix s.ls s.kn ch s.sl s.fr s.cc s.fc s.mkd s.par s.own s.aim s.ab s.cl s.xab s.xow s.xkd s.xtg s.kc s.kn_ s.ic s.in_ s.mpr s.mow s.mso s.mai s.c1 s.dV s.dN V s.N s.kv iv s.dS s.S) := by
  obtain ⟨b, e1, e2, hb⟩ := can_eq h z f (kd := 0) (by decide)
  unfold f_OB_put f_M_put
  rw [e1, e2, ob_bs, ob_bs]
  cases b
  · rw [if_pos b2i_f, if_pos b2i_f]; exact ⟨0, s.ch, s.iv, s.V, rfl, rfl, h⟩
  · obtain ⟨hd, ho, i, n, rfl, h1, h2, h3, h4, rfl, hn, hk⟩ := hb rfl
    have h8 := rc_8 h
    obtain ⟨p1, p2⟩ := place_m (i := i) (f := n) h3 (by omega)
    rw [if_neg b2i_t, if_neg b2i_t, setValue_eq _ _ h1 h3 (by omega), ob_bs, ob_iv_i p1, (bi_setOf h1 h3).2, ob_bs, p2]
    exact ⟨_, _, _, _, rfl, rfl, ⟨h.sch, h.mk62, h.cls, h.bg, h.dn, h.op, h.rn, h.md, h.bg0, h.arm, h.ix, (ids_ch h h1 h3), h.dop, h.dlm, h.lg, h.lsz, h.kp0, (fun hm => absurd (h.dlm hd).2 hm), (fun _ => rIm_put h8 (h.im ho) h1 h2 hn hk v), h.dj, (fun k => absurd k ho)⟩⟩
theorem S_point {s : CS} (h : rCore s) (z f t : Int32) : ∃ (r : Int32) (ch : Int64) (iv : Nat → Int64) (V : Nat → Int32), f_OB_point s.kn s.ch s.op (nI s.fc) s.dn s.ic s.xab s.xow s.xkd s.iv s.xtg z f t = some (r, ch, iv) ∧ f_M_point (nI s.fc) s.op s.kn s.ch s.dn s.c1 s.mow s.mpr s.mso s.V s.mai z f t = some (r, ch, V) ∧ rCore (CS.mk s.bg s.dn s.op s.ar s.rn s.lg s.md s.ix s.ls s.kn ch s.sl s.fr s.cc s.fc s.mkd s.par s.own s.aim s.ab s.cl s.xab s.xow s.xkd s.xtg s.kc s.kn_ s.ic s.in_ s.mpr s.mow s.mso s.mai s.c1 s.dV s.dN V s.N s.kv iv s.dS s.S) := by
  obtain ⟨b, e1, e2, hb⟩ := can_eq h z f (kd := 1) (by decide)
  unfold f_OB_point f_M_point
  rw [e1, e2, ob_bs, ob_bs]
  cases b
  · rw [if_pos b2i_f, if_pos b2i_f]; exact ⟨0, s.ch, s.iv, s.V, rfl, rfl, h⟩
  · obtain ⟨hd, ho, i, n, rfl, h1, h2, h3, h4, rfl, hn, hk⟩ := hb rfl
    have h8 := rc_8 h
    obtain ⟨p1, p2⟩ := place_m (i := i) (f := n) h3 (by omega)
    have fin : ∀ j : Nat, j ≤ 62 → (j = 0 ∨ tb s.kn j = true) → ∃ (r : Int32) (ch : Int64) (iv : Nat → Int64) (V : Nat → Int32), f_OB_point_J27 (nI i) (nI n) (nI j) s.ch s.iv = some (r, ch, iv) ∧ f_M_point_J25 (nI i) (nI n) (nI j) s.ch s.V = some (r, ch, V) ∧ rCore (CS.mk s.bg s.dn s.op s.ar s.rn s.lg s.md s.ix s.ls s.kn ch s.sl s.fr s.cc s.fc s.mkd s.par s.own s.aim s.ab s.cl s.xab s.xow s.xkd s.xtg s.kc s.kn_ s.ic s.in_ s.mpr s.mow s.mso s.mai s.c1 s.dV s.dN V s.N s.kv iv s.dS s.S) := fun j hj hk2 => by
      unfold f_OB_point_J27 f_M_point_J25
      rw [setValue_eq _ _ h1 h3 (by omega), ob_bs, ob_iv_i p1, (bi_setOf h1 h3).2, ob_bs, p2, nI_l (by omega)]
      exact ⟨_, _, _, _, rfl, rfl, ⟨h.sch, h.mk62, h.cls, h.bg, h.dn, h.op, h.rn, h.md, h.bg0, h.arm, h.ix, (ids_ch h h1 h3), h.dop, h.dlm, h.lg, h.lsz, h.kp0, (fun hm => absurd (h.dlm hd).2 hm), (fun _ => rIm_point h8 (h.im ho) h1 h2 hn hk hj hk2), h.dj, (fun k => absurd k ho)⟩⟩
    rw [if_neg b2i_t, if_neg b2i_t]
    by_cases ht : t = 0
    · rw [if_pos ht, if_pos ht, ht]; exact fin 0 (by omega) (Or.inl rfl)
    · rw [if_neg ht, if_neg ht]
      obtain ⟨b, g1, g2, g3⟩ := hold_eq h ho hn (by rw [hasF_k (by decide), Bool.and_eq_true, decide_eq_true_iff] at hk; rw [hk.2]; decide) t
      rw [g1, g2, ob_bs, ob_bs]
      cases b
      · rw [if_pos b2i_f, if_pos b2i_f]; exact ⟨0, s.ch, s.iv, s.V, rfl, rfl, h⟩
      · obtain ⟨j, rfl, j1, j2, j3⟩ := g3 rfl
        rw [if_neg b2i_t, if_neg b2i_t]
        exact fin j j2 (Or.inr j3)
theorem S_join {s : CS} (h : rCore s) (z f t c : Int32) : ∃ (r : Int32) (ch : Int64) (iv : Nat → Int64) (S : Nat → Int64), f_OB_join s.kn s.ch s.op (nI s.fc) s.dn s.ic s.xab s.xow s.xkd s.xtg s.iv z f t c = some (r, ch, iv) ∧ f_M_join (nI s.fc) s.op s.kn s.ch s.dn s.c1 s.mow s.mpr s.mso s.mai s.S z f t c = some (r, ch, S) ∧ rCore (CS.mk s.bg s.dn s.op s.ar s.rn s.lg s.md s.ix s.ls s.kn ch s.sl s.fr s.cc s.fc s.mkd s.par s.own s.aim s.ab s.cl s.xab s.xow s.xkd s.xtg s.kc s.kn_ s.ic s.in_ s.mpr s.mow s.mso s.mai s.c1 s.dV s.dN s.V s.N s.kv iv s.dS S) := by
  obtain ⟨b, e1, e2, hb⟩ := can_eq h z f (kd := 2) (by decide)
  unfold f_OB_join f_M_join
  rw [e1, e2, ob_bs, ob_bs]
  cases b
  · rw [if_pos b2i_f, if_pos b2i_f]; exact ⟨0, s.ch, s.iv, s.S, rfl, rfl, h⟩
  · obtain ⟨hd, ho, i, n, rfl, h1, h2, h3, h4, rfl, hn, hk⟩ := hb rfl
    have h8 := rc_8 h
    obtain ⟨p1, p2⟩ := place_m (i := i) (f := n) h3 (by omega)
    rw [if_neg b2i_t, if_neg b2i_t]
    obtain ⟨b, g1, g2, g3⟩ := hold_eq h ho hn (by rw [hasF_k (by decide), Bool.and_eq_true, decide_eq_true_iff] at hk; rw [hk.2]; decide) t
    rw [g1, g2, ob_bs, ob_bs]
    cases b
    · rw [if_pos b2i_f, if_pos b2i_f]; exact ⟨0, s.ch, s.iv, s.S, rfl, rfl, h⟩
    · obtain ⟨j, rfl, j1, j2, j3⟩ := g3 rfl
      obtain ⟨⟨-, -, -, -, -, -, a7, -⟩, -, ⟨-, -, -, b4⟩, -⟩ := h.im ho
      obtain ⟨v1, v2⟩ := a7 i n h1 h2 hn hk
      have v3 := b4 i n h4 hn hk
      have fin : ∀ w : Int64, ids w → (∀ k, tb w k = true → tb s.kn k = true) → ∃ (r : Int32) (ch : Int64) (iv : Nat → Int64) (S : Nat → Int64), f_OB_join_J69 w (nI n) (nI i) s.ch s.iv = some (r, ch, iv) ∧ f_M_join_J70 (nI i) w (8 * nI i + nI n) s.ch s.S = some (r, ch, S) ∧ rCore (CS.mk s.bg s.dn s.op s.ar s.rn s.lg s.md s.ix s.ls s.kn ch s.sl s.fr s.cc s.fc s.mkd s.par s.own s.aim s.ab s.cl s.xab s.xow s.xkd s.xtg s.kc s.kn_ s.ic s.in_ s.mpr s.mow s.mso s.mai s.c1 s.dV s.dN s.V s.N s.kv iv s.dS S) := fun w hw hk2 => by
        unfold f_OB_join_J69 f_M_join_J70
        rw [setValue_eq _ _ h1 h3 (by omega), ob_bs, ob_iv_i p1, (bi_setOf h1 h3).2, ob_bs, p2]
        exact ⟨_, _, _, _, rfl, rfl, ⟨h.sch, h.mk62, h.cls, h.bg, h.dn, h.op, h.rn, h.md, h.bg0, h.arm, h.ix, (ids_ch h h1 h3), h.dop, h.dlm, h.lg, h.lsz, h.kp0, (fun hm => absurd (h.dlm hd).2 hm), (fun _ => rIm_join h8 (h.im ho) h1 h2 hn hk hw (fun _ => hk2)), h.dj, (fun k => absurd k ho)⟩⟩
      rw [if_neg b2i_t, if_neg b2i_t, valueOf_eq _ h1 h3 (by omega), ob_bs, (bi_setOf j1 j2).1, (bi_setOf j1 j2).2, ob_bs, ob_bs, ob_bs, ob_iv_i p1, p2, v1]
      by_cases hc : c = 0
      · rw [if_pos hc, if_pos hc]
        refine fin _ (ids_and v2) (fun k hk => v3 k ?_)
        rw [tb_and, Bool.and_eq_true] at hk; exact hk.1
      · rw [if_neg hc, if_neg hc]
        refine fin _ (ids_or v2 (ids_bi j1 j2)) (fun k hk => ?_)
        rw [tb_or, Bool.or_eq_true, tb_bi _ _ (by omega), decide_eq_true_iff] at hk
        rcases hk with hk | hk
        · exact v3 k hk
        · rw [hk]; exact j3
theorem i4 : (4 : Int32).toInt = 4 := by decide
theorem i3 : (3 : Int32).toInt = 3 := by decide
theorem isName_eq (z : Int32) : f_OB_isName z = some (b2i (decide (0 ≤ z.toInt ∧ z.toInt < 4))) := by
  unfold f_OB_isName
  by_cases h1 : z < 0
  · rw [if_pos h1]; rw [Int32.lt_iff_toInt_lt, i0] at h1; rw [decide_eq_false (by omega)]; rfl
  · rw [if_neg h1]; rw [Int32.lt_iff_toInt_lt, i0] at h1
    by_cases h2 : (4 : Int32) ≤ z
    · rw [if_pos h2]; rw [Int32.le_iff_toInt_le, i4] at h2; rw [decide_eq_false (by omega)]; rfl
    · rw [if_neg h2]; rw [Int32.le_iff_toInt_le, i4] at h2; rw [decide_eq_true (by omega)]; rfl
theorem S_name {s : CS} (h : rCore s) (n z : Int32) : ∃ (r rn : Int32) (in_ N : Nat → Int32), f_OB_name s.dn s.kn s.rn s.op s.in_ n z = some (r, rn, in_) ∧ f_M_name s.op s.kn s.rn s.dn s.N n z = some (r, rn, N) ∧ rCore (CS.mk s.bg s.dn s.op s.ar rn s.lg s.md s.ix s.ls s.kn s.ch s.sl s.fr s.cc s.fc s.mkd s.par s.own s.aim s.ab s.cl s.xab s.xow s.xkd s.xtg s.kc s.kn_ s.ic in_ s.mpr s.mow s.mso s.mai s.c1 s.dV s.dN s.V N s.kv s.iv s.dS s.S) := by
  unfold f_OB_name f_M_name
  have no : ∃ (r rn : Int32) (in_ N : Nat → Int32), some ((0 : Int32), s.rn, s.in_) = some (r, rn, in_) ∧ some ((0 : Int32), s.rn, s.N) = some (r, rn, N) ∧ rCore (CS.mk s.bg s.dn s.op s.ar rn s.lg s.md s.ix s.ls s.kn s.ch s.sl s.fr s.cc s.fc s.mkd s.par s.own s.aim s.ab s.cl s.xab s.xow s.xkd s.xtg s.kc s.kn_ s.ic in_ s.mpr s.mow s.mso s.mai s.c1 s.dV s.dN s.V N s.kv s.iv s.dS s.S) := ⟨0, s.rn, s.in_, s.N, rfl, rfl, h⟩
  by_cases hd : s.dn = 0
  · rw [if_pos hd, if_pos hd]
    by_cases ho : s.op = 0
    · rw [if_pos ho, if_pos ho]; exact no
    · rw [if_neg ho, if_neg ho, isName_eq, ob_bs]
      by_cases hn : 0 ≤ n.toInt ∧ n.toInt < 4
      · rw [decide_eq_true hn, if_neg b2i_t, if_neg (show ¬ n < 0 by rw [Int32.lt_iff_toInt_lt, i0]; omega), if_neg (show ¬ 3 < n by rw [Int32.lt_iff_toInt_lt, i3]; omega)]
        obtain ⟨m, hm⟩ : ∃ m : Nat, n.toInt = (m : Int) := ⟨n.toInt.toNat, by omega⟩
        have e := nI_z hm (by omega)
        have fin : ∀ j : Nat, j ≤ 62 → (j = 0 ∨ tb s.kn j = true) → ∃ (r rn : Int32) (in_ N : Nat → Int32), f_OB_name_J49 n (nI j) s.rn s.in_ = some (r, rn, in_) ∧ f_M_name_J40 n (nI j) s.rn s.N = some (r, rn, N) ∧ rCore (CS.mk s.bg s.dn s.op s.ar rn s.lg s.md s.ix s.ls s.kn s.ch s.sl s.fr s.cc s.fc s.mkd s.par s.own s.aim s.ab s.cl s.xab s.xow s.xkd s.xtg s.kc s.kn_ s.ic in_ s.mpr s.mow s.mso s.mai s.c1 s.dV s.dN s.V N s.kv s.iv s.dS s.S) := fun j hj hk => by
          unfold f_OB_name_J49 f_M_name_J40 f_Batch_setName
          rw [ob_iv_i (by omega), ob_iv_i (by omega), ob_bs, e, nI_clamp (by omega)]
          exact ⟨_, _, _, _, rfl, rfl, ⟨h.sch, h.mk62, h.cls, h.bg, h.dn, h.op, (Or.inr rfl), h.md, h.bg0, h.arm, h.ix, h.ich, h.dop, h.dlm, h.lg, h.lsz, h.kp0, (fun hm => absurd (h.dlm hd).2 hm), (fun _ => rIm_name (h.im ho) hj hk), h.dj, (fun k => absurd k ho)⟩⟩
        by_cases hz : z = 0
        · rw [if_pos hz, if_pos hz, hz]; exact fin 0 (by omega) (Or.inl rfl)
        · rw [if_neg hz, if_neg hz, contains_eq, in_eq, ob_bs, ob_bs]
          cases hb : mem s.kn z
          · rw [if_pos b2i_f, if_pos b2i_f]; exact no
          · rw [if_neg b2i_t, if_neg b2i_t]
            obtain ⟨j, rfl, j1, j2, j3⟩ := mem_ex hb
            exact fin j j2 (Or.inr j3)
      · rw [decide_eq_false hn, if_pos b2i_f]
        by_cases h1 : n < 0
        · rw [if_pos h1]; exact no
        · rw [if_neg h1, if_pos (show 3 < n by rw [Int32.lt_iff_toInt_lt, i0] at h1; rw [Int32.lt_iff_toInt_lt, i3]; omega)]; exact no
  · rw [if_neg hd, if_neg hd]; exact no
set_option maxHeartbeats 8000000 in
theorem S_make {s : CS} (h : rCore s) (c : Int32) : ∃ (r : Int32) (mk : Nat) (kn ch fr : Int64) (ic c1 : Nat → Int32) (cl : Nat → Nat), f_OB_make (nI s.mkd) s.dn s.kn s.ch s.op (nI s.cc) s.ic c = some (r, nI mk, kn, ch, ic) ∧ f_M_make (nI s.cc) (nI s.mkd) s.op s.kn s.fr s.ch s.dn s.c1 c = some (r, nI mk, kn, fr, ch, c1) ∧ rCore (CS.mk s.bg s.dn s.op s.ar s.rn s.lg s.md s.ix s.ls kn ch s.sl fr s.cc s.fc mk s.par s.own s.aim s.ab cl s.xab s.xow s.xkd s.xtg s.kc s.kn_ ic s.in_ s.mpr s.mow s.mso s.mai c1 s.dV s.dN s.V s.N s.kv s.iv s.dS s.S) := by
  unfold f_OB_make f_M_make
  have h5 := rc_5 h
  have h8 := rc_8 h
  have h62 := h.mk62
  have no : ∀ r0 : Int32, ∃ (r : Int32) (mk : Nat) (kn ch fr : Int64) (ic c1 : Nat → Int32) (cl : Nat → Nat), some (r0, nI s.mkd, s.kn, s.ch, s.ic) = some (r, nI mk, kn, ch, ic) ∧ some (r0, nI s.mkd, s.kn, s.fr, s.ch, s.c1) = some (r, nI mk, kn, fr, ch, c1) ∧ rCore (CS.mk s.bg s.dn s.op s.ar s.rn s.lg s.md s.ix s.ls kn ch s.sl fr s.cc s.fc mk s.par s.own s.aim s.ab cl s.xab s.xow s.xkd s.xtg s.kc s.kn_ ic s.in_ s.mpr s.mow s.mso s.mai c1 s.dV s.dN s.V s.N s.kv s.iv s.dS s.S) := fun r0 => ⟨r0, s.mkd, s.kn, s.ch, s.fr, s.ic, s.c1, s.cl, rfl, rfl, h⟩
  have hM : f_M_isClass (nI s.cc) c = some (b2i (decide (1 ≤ c.toInt ∧ c.toInt ≤ s.cc))) := hasClass_eq h5 c
  by_cases hd : s.dn = 0
  · rw [if_pos hd, if_pos hd]
    by_cases ho : s.op = 0
    · rw [if_pos ho, if_pos ho]; exact no (-1)
    · rw [if_neg ho, if_neg ho, hasClass_eq h5, hM, ob_bs, ob_bs]
      by_cases hc : 1 ≤ c.toInt ∧ c.toInt ≤ s.cc
      · rw [decide_eq_true hc, if_neg b2i_t, if_neg b2i_t]
        obtain ⟨d, hd9⟩ : ∃ d : Nat, c.toInt = (d : Int) := ⟨c.toInt.toNat, by omega⟩
        have e := nI_z hd9 (by omega)
        by_cases hm : s.mkd = 62
        · rw [if_pos (show nI s.mkd = 62 by rw [hm]; rfl), if_pos (show nI s.mkd = 62 by rw [hm]; rfl)]; exact no (-1)
        · have hne : ¬ nI s.mkd = 62 := fun h => hm ((nI_eq (by omega) (by decide)).mp h)
          rw [if_neg hne, if_neg hne, nI_1]
          unfold f_Batch_addObject
          rw [ob_iv_i (by rw [nI_toInt (by omega)]; omega), ob_iv_i (by rw [nI_toInt (by omega)]; omega), (bi_setOf (by omega) (by omega)).1, (bi_setOf (by omega) (by omega)).2]
          simp only [ob_bs]
          rw [nI_clamp (by omega), e]
          obtain ⟨m1, m2⟩ := rIm_make h8 (by omega) (h.im ho) d
          have hk0 := (h.dlm hd).2
          obtain ⟨K, hK⟩ := h.kp0 hk0
          refine ⟨nI (s.mkd + 1), s.mkd + 1, _, _, _, _, _, upN s.cl (s.mkd + 1) d, rfl, rfl, ?_⟩
          refine ⟨h.sch, ((show s.mkd + 1 ≤ 62 by omega)), (fun i h1 h2 => ?_), h.bg, h.dn, h.op, h.rn, h.md, (fun hb => absurd (h.bg0 hb).2 ho), h.arm, h.ix, (ids_ch h (by omega) (by omega)), h.dop, h.dlm, h.lg, h.lsz, (fun _ => ⟨K, (rIm_make h8 (by omega) hK d).1⟩), (fun hm => absurd hk0 hm), (fun _ => ?_), (fun _ i => ?_), h.same⟩
          · by_cases ei : i = s.mkd + 1
            · subst ei
              show upd s.c1 (s.mkd + 1) (nI d) (s.mkd + 1) = nI (upN s.cl (s.mkd + 1) d (s.mkd + 1)) ∧ 1 ≤ upN s.cl (s.mkd + 1) d (s.mkd + 1) ∧ upN s.cl (s.mkd + 1) d (s.mkd + 1) ≤ s.cc
              rw [pk_us, upN_s]; exact ⟨rfl, by omega, by omega⟩
            · show upd s.c1 (s.mkd + 1) (nI d) i = nI (upN s.cl (s.mkd + 1) d i) ∧ 1 ≤ upN s.cl (s.mkd + 1) d i ∧ upN s.cl (s.mkd + 1) d i ≤ s.cc
              rw [pk_un ei, upN_n ei]
              exact h.cls i h1 (by have h9 : i ≤ s.mkd + 1 := h2; omega)
          · show rIm s.fc (s.mkd + 1) s.par s.own s.mso (upN s.cl (s.mkd + 1) d) (s.sl ||| (s.fr ||| bi (s.mkd + 1))) _ _ _ _ _ _ _
            rw [← or_assoc']; exact m2
          · show ¬ (tb s.sl i = true ∧ tb (s.fr ||| bi (s.mkd + 1)) i = true)
            rintro ⟨q1, q2⟩
            rw [tb_or, Bool.or_eq_true, tb_bi _ _ (by omega), decide_eq_true_iff] at q2
            rcases q2 with q2 | q2
            · exact h.dj ho i ⟨q1, q2⟩
            · obtain ⟨⟨-, a2, -⟩, -⟩ := hK
              rw [q2, a2 (s.mkd + 1) (by omega)] at q1; cases q1
      · rw [decide_eq_false hc, if_pos b2i_f, if_pos b2i_f]; exact no (-1)
  · rw [if_neg hd, if_neg hd]; exact no (-4)

theorem one_ne : ¬ (1 : Int32) = 0 := by decide
theorem nI_m1 {n : Nat} (h : n < 2 ^ 31) : ¬ nI n = -1 := fun e => by
  have h2 : (nI n).toInt = (-1 : Int32).toInt := by rw [e]
  rw [nI_toInt h, show (-1 : Int32).toInt = -1 by decide] at h2; omega
theorem S_index {s : CS} (h : rCore s) (xic xif mic mip : Nat → Int32) (c f g k : Int32) : ∃ (r ix : Int32) (xic' xif' mic' mip' : Nat → Int32), f_OB_index s.dn s.op s.ix (nI s.cc) (nI s.fc) s.xab s.xow s.xkd s.xtg xic xif c f g k = some (r, ix, xic', xif') ∧ f_M_index (nI s.cc) (nI s.fc) s.ix s.op s.dn s.mow s.mpr s.mso mic mip s.mai c f g k = some (r, ix, mic', mip') ∧ rCore (CS.mk s.bg s.dn s.op s.ar s.rn s.lg s.md ix s.ls s.kn s.ch s.sl s.fr s.cc s.fc s.mkd s.par s.own s.aim s.ab s.cl s.xab s.xow s.xkd s.xtg s.kc s.kn_ s.ic s.in_ s.mpr s.mow s.mso s.mai s.c1 s.dV s.dN s.V s.N s.kv s.iv s.dS s.S) := by
  have h5 := rc_5 h
  have h8 := rc_8 h
  obtain ⟨x, hx, ex⟩ := h.ix
  have hM : f_M_isClass (nI s.cc) c = some (b2i (decide (1 ≤ c.toInt ∧ c.toInt ≤ s.cc))) := hasClass_eq h5 c
  have no : ∀ r0 : Int32, ∃ (r ix : Int32) (xic' xif' mic' mip' : Nat → Int32), some (r0, s.ix, xic, xif) = some (r, ix, xic', xif') ∧ some (r0, s.ix, mic, mip) = some (r, ix, mic', mip') ∧ rCore (CS.mk s.bg s.dn s.op s.ar s.rn s.lg s.md ix s.ls s.kn s.ch s.sl s.fr s.cc s.fc s.mkd s.par s.own s.aim s.ab s.cl s.xab s.xow s.xkd s.xtg s.kc s.kn_ s.ic s.in_ s.mpr s.mow s.mso s.mai s.c1 s.dV s.dN s.V s.N s.kv s.iv s.dS s.S) := fun r0 => ⟨r0, _, _, _, _, _, rfl, rfl, h⟩
  unfold f_OB_index f_M_index
  by_cases hd : s.dn = 0
  · rw [if_pos hd, if_pos hd]
    by_cases ho : s.op = 0
    · rw [if_pos ho, if_pos ho, hasClass_eq h5, hM, ob_bs, ob_bs]
      by_cases h3 : s.ix = 3
      · rw [if_pos h3]; simp only [if_pos h3, ite_self]; exact no (-1)
      · rw [if_neg h3]; simp only [if_neg h3]
        have hx3 : x < 3 := by
          by_cases e : x = 3
          · exact absurd (by rw [ex, e]; rfl) h3
          · omega
        by_cases hc : 1 ≤ c.toInt ∧ c.toInt ≤ s.cc
        · rw [decide_eq_true hc, if_neg b2i_t, if_neg b2i_t]
          obtain ⟨d, hd9⟩ : ∃ d : Nat, c.toInt = (d : Int) := ⟨c.toInt.toNat, by omega⟩
          have ec := nI_z hd9 (by omega)
          have hdc : d ≤ s.cc := by omega
          by_cases hf : f = -1
          · rw [if_pos hf, if_pos hf]; exact no (-1)
          · rw [if_neg hf, if_neg hf]
            have good : ∃ (r ix : Int32) (xic' xif' mic' mip' : Nat → Int32), (f_Indexes_addIndex s.ix xic xif c f g k).bind (fun o91 => some (o91.1, o91.2.1, o91.2.2.1, o91.2.2.2)) = some (r, ix, xic', xif') ∧ f_M_index_J134 c f g k 1 s.ix mic mip = some (r, ix, mic', mip') ∧ rCore (CS.mk s.bg s.dn s.op s.ar s.rn s.lg s.md ix s.ls s.kn s.ch s.sl s.fr s.cc s.fc s.mkd s.par s.own s.aim s.ab s.cl s.xab s.xow s.xkd s.xtg s.kc s.kn_ s.ic s.in_ s.mpr s.mow s.mso s.mai s.c1 s.dV s.dN s.V s.N s.kv s.iv s.dS s.S) := by
              unfold f_Indexes_addIndex f_M_index_J134
              have m1 : nI x * 3 = nI (x * 3) := by rw [show (3 : Int32) = nI 3 from rfl, pk_mul]
              have m2 : 3 * nI x = nI (3 * x) := by rw [show (3 : Int32) = nI 3 from rfl, pk_mul]
              have a2 : ∀ y, nI y + 2 = nI (y + 2) := fun y => by rw [show (2 : Int32) = nI 2 from rfl, nI_add]
              rw [if_neg (by decide), ex, m1, m2, nI_1, nI_1, nI_1, a2, a2]
              repeat rw [ob_iv_i (by rw [nI_toInt (by omega)]; omega)]
              rw [ob_bs]
              exact ⟨_, _, _, _, _, _, rfl, rfl, ⟨h.sch, h.mk62, h.cls, h.bg, h.dn, h.op, h.rn, h.md, h.bg0, h.arm, (⟨x + 1, by omega, rfl⟩), h.ich, h.dop, h.dlm, h.lg, h.lsz, h.kp0, h.kp1, h.im, h.dj, h.same⟩⟩
            have bad : f_M_index_J134 c f g k 0 s.ix mic mip = some (-1, s.ix, mic, mip) := by
              unfold f_M_index_J134; rw [if_pos rfl]
            have main : ∃ (r ix : Int32) (xic' xif' mic' mip' : Nat → Int32), f_OB_index_J65 (nI s.fc) s.xab s.xow s.xkd s.xtg c f g k s.ix xic xif = some (r, ix, xic', xif') ∧ f_M_index_J51 g (nI s.fc) s.mow s.mpr s.mso c f k s.mai s.ix mic mip = some (r, ix, mic', mip') ∧ rCore (CS.mk s.bg s.dn s.op s.ar s.rn s.lg s.md ix s.ls s.kn s.ch s.sl s.fr s.cc s.fc s.mkd s.par s.own s.aim s.ab s.cl s.xab s.xow s.xkd s.xtg s.kc s.kn_ s.ic s.in_ s.mpr s.mow s.mso s.mai s.c1 s.dV s.dN s.V s.N s.kv s.iv s.dS s.S) := by
              unfold f_OB_index_J65 f_Schema_leadsToNumber f_M_index_J51 f_M_index_J64 f_M_index_J98 f_M_index_J103
              by_cases hg : g = -1
              · simp only [if_pos hg]
                obtain ⟨b, e1, e2, -⟩ := kind_eq h hdc f (kd := 0) (by decide)
                rw [← ec] at e1 e2
                rw [e1, e2, ob_bs, ob_bs, ob_nz_i (b2i_nz b), ob_bs]
                cases b
                · rw [if_pos b2i_f, if_pos b2i_f, if_pos b2i_f, b2i_f, bad]; exact no (-1)
                · rw [if_neg b2i_t, if_neg b2i_t, if_neg b2i_t]; exact good
              · simp only [if_neg hg]
                obtain ⟨b, e1, e2, e3⟩ := kind_eq h hdc f (kd := 1) (by decide)
                rw [← ec] at e1 e2
                rw [e1, e2, ob_bs, ob_bs]
                cases b
                · rw [if_pos b2i_f, if_pos b2i_f, if_pos b2i_f, ob_bs, if_pos rfl, b2i_f, bad]; exact no (-1)
                · obtain ⟨n, hn, rfl, hk⟩ := e3 rfl
                  rw [hasF_k (by decide), Bool.and_eq_true, decide_eq_true_iff] at hk
                  obtain ⟨t1, t2, t3, t4⟩ := (rc_f h hn).2.2.2.2.2.2 (by rw [hk.2]; decide)
                  have gn : 0 ≤ (nI n).toInt ∧ (nI n).toInt < (8 : Nat) := by rw [nI_toInt (by omega)]; omega
                  rw [if_neg b2i_t, if_neg b2i_t, ob_iv_i gn, ob_iv_i gn, ob_iv_i gn, nI_clamp (by omega), t1, t2]
                  by_cases hk9 : k = -1
                  · simp only [if_pos hk9]
                    obtain ⟨b, e1, e2, -⟩ := kind_eq h t4 g (kd := 0) (by decide)
                    rw [e1, e2, ob_bs, ob_bs, ob_nz_i (b2i_nz b), ob_bs]
                    cases b
                    · rw [if_pos b2i_f, if_pos b2i_f, b2i_f, bad]; exact no (-1)
                    · rw [if_neg b2i_t, if_neg b2i_t]; exact good
                  · simp only [if_neg hk9]
                    obtain ⟨b, e1, e2, e3⟩ := kind_eq h t4 g (kd := 1) (by decide)
                    rw [e1, e2, ob_bs, ob_bs]
                    cases b
                    · rw [if_pos b2i_f, if_pos b2i_f, ob_bs, if_pos rfl, b2i_f, bad]; exact no (-1)
                    · obtain ⟨m, hm, rfl, hk⟩ := e3 rfl
                      rw [hasF_k (by decide), Bool.and_eq_true, decide_eq_true_iff] at hk
                      obtain ⟨u1, u2, u3, u4⟩ := (rc_f h hm).2.2.2.2.2.2 (by rw [hk.2]; decide)
                      have gm : 0 ≤ (nI m).toInt ∧ (nI m).toInt < (8 : Nat) := by rw [nI_toInt (by omega)]; omega
                      rw [if_neg b2i_t, if_neg b2i_t, ob_iv_i gm, ob_iv_i gm, nI_clamp (by omega), u1, u2]
                      obtain ⟨b, e1, e2, -⟩ := kind_eq h u4 k (kd := 0) (by decide)
                      rw [e1, e2, ob_bs, ob_bs]
                      cases b
                      · rw [if_pos b2i_f, ob_bs, if_pos rfl, b2i_f, bad]; exact no (-1)
                      · rw [if_neg b2i_t, ob_bs, if_neg (by decide)]; exact good
            by_cases hg : g = -1
            · rw [if_pos hg, if_pos hg]
              by_cases hk : k = -1
              · rw [if_pos hk, if_pos hk]; exact main
              · rw [if_neg hk, if_neg hk]; exact no (-1)
            · rw [if_neg hg, if_neg hg]; exact main
        · rw [decide_eq_false hc, if_pos b2i_f, if_pos b2i_f]; exact no (-1)
    · rw [if_neg ho, if_neg ho]; exact no (-1)
  · rw [if_neg hd, if_neg hd]; exact no (-4)
theorem cpy0 {α : Type} (f g : Nat → α) (n : Nat) {k : Nat} (h : k < n) : va_cpy f g 0 0 n k = f k := by
  rw [pk_cpy_in (by omega) (by omega)]; congr 1; omega
theorem copyFrom_eq (c c0 n n0 : Nat → Int32) (v v0 : Nat → Int64) : ∃ (c' : Nat → Int32) (v' : Nat → Int64) (n' : Nat → Int32), f_Image_copyFrom c c0 v v0 n n0 = some (c', v', n') ∧ (∀ i, i ≤ 62 → c' i = c0 i) ∧ (∀ k, k < 504 → v' k = v0 k) ∧ ∀ m, m < 4 → n' m = n0 m :=
  ⟨_, _, _, rfl, fun i h => cpy0 c0 c 63 (by omega), fun k h => cpy0 v0 v 504 h, fun m h => cpy0 n0 n 4 h⟩
theorem S_begin {s : CS} (h : rCore s) : ∃ (r bg op rn : Int32) (kn ch fr : Int64) (ic in_ : Nat → Int32) (iv : Nat → Int64), f_OB_begin s.bg s.dn s.kn s.ch s.rn s.op (nI s.fc) s.kv s.xkd s.kn_ s.ic s.kc s.iv s.in_ = some (r, bg, kn, ch, rn, op, ic, iv, in_) ∧ f_M_begin (nI s.fc) s.bg (nI s.mkd) s.op s.kn s.fr s.ch s.rn s.dn s.c1 s.mow s.mpr s.mso s.S s.dS s.V s.dV s.N s.dN = some (r, bg, op, kn, fr, ch, rn) ∧ rCore (CS.mk bg s.dn op s.ar rn s.lg s.md s.ix s.ls kn ch s.sl fr s.cc s.fc s.mkd s.par s.own s.aim s.ab s.cl s.xab s.xow s.xkd s.xtg s.kc s.kn_ ic in_ s.mpr s.mow s.mso s.mai s.c1 s.dV s.dN s.V s.N s.kv iv s.dS s.S) := by
  unfold f_OB_begin f_M_begin
  have h8 := rc_8 h
  have h62 := h.mk62
  by_cases hd : s.dn = 0
  · rw [if_pos hd, if_pos hd]
    by_cases ho : s.op = 0
    · rw [if_pos ho, if_pos ho]
      obtain ⟨hl0, hm0⟩ := h.dlm hd
      obtain ⟨K, hK⟩ := h.kp0 hm0
      obtain ⟨r, r1, r2, r3, r4, r5⟩ := reach_same2 h.sch hK h.mk62 h.cls
      obtain ⟨c', v', n', e1, e2, e3, e4⟩ := copyFrom_eq s.ic s.kc s.in_ s.kn_ s.iv s.kv
      unfold f_Batch_startFrom
      rw [r4, ob_bs, e1, r5 s.V s.dV s.N s.dN s.S s.dS 1 (if_neg (by decide)) (if_neg (by decide)) (if_neg (by decide)), ob_bs, ob_bs, ob_bs]
      obtain ⟨q1, q2⟩ := h.same ho hm0
      refine ⟨1, 1, 1, 0, r, 0, 0, c', n', v', rfl, rfl, ⟨h.sch, h.mk62, h.cls, (Or.inr rfl), h.dn, (Or.inr rfl), (Or.inl rfl), h.md, (fun hb => absurd hb one_ne), h.arm, h.ix, (ids_0), (fun hh => absurd hd hh), h.dlm, h.lg, h.lsz, h.kp0, (fun hm => absurd hm0 hm), (fun _ => ?_), (fun _ i hh => ?_), (fun hh => absurd hh one_ne)⟩⟩
      · show rIm s.fc s.mkd s.par s.own s.mso s.cl (s.sl ||| 0) r c' v' n' s.V s.S s.N
        rw [or_zero']
        refine rIm_cong h62 h8 ⟨hK.1, hK.2.1, r2, fun i hi => hK.2.2.2 i (r3 i hi)⟩ e2 e3 e4 (fun k hk => (q1 k hk).1) (fun k hk => (q1 k hk).2) q2
      · have h2 : tb 0 i = true := hh.2
        rw [tb_0] at h2; cases h2
    · rw [if_neg ho, if_neg ho]; exact ⟨0, s.bg, s.op, s.rn, s.kn, s.ch, s.fr, s.ic, s.in_, s.iv, rfl, rfl, h⟩
  · rw [if_neg hd, if_neg hd]; exact ⟨0, s.bg, s.op, s.rn, s.kn, s.ch, s.fr, s.ic, s.in_, s.iv, rfl, rfl, h⟩
theorem S_arm {s : CS} (h : rCore s) (n : Int32) : ∃ (r ar : Int32), f_OB_arm s.ar s.dn n = some (r, ar) ∧ f_M_arm s.dn s.ar n = some (r, ar) ∧ rCore (CS.mk s.bg s.dn s.op ar s.rn s.lg s.md s.ix s.ls s.kn s.ch s.sl s.fr s.cc s.fc s.mkd s.par s.own s.aim s.ab s.cl s.xab s.xow s.xkd s.xtg s.kc s.kn_ s.ic s.in_ s.mpr s.mow s.mso s.mai s.c1 s.dV s.dN s.V s.N s.kv s.iv s.dS s.S) := by
  unfold f_OB_arm f_M_arm
  by_cases hd : s.dn = 0
  · rw [if_pos hd]
    by_cases h0 : n < 0
    · rw [if_pos h0]; exact ⟨0, s.ar, rfl, rfl, h⟩
    · rw [if_neg h0]
      by_cases h1 : n ≤ 1000
      · rw [if_pos h1]; exact ⟨1, n, rfl, rfl, ⟨h.sch, h.mk62, h.cls, h.bg, h.dn, h.op, h.rn, h.md, h.bg0, (Or.inr (by rw [Int32.lt_iff_toInt_lt, i0] at h0; show 0 ≤ n.toInt; omega)), h.ix, h.ich, h.dop, h.dlm, h.lg, h.lsz, h.kp0, h.kp1, h.im, h.dj, h.same⟩⟩
      · rw [if_neg h1]; exact ⟨0, s.ar, rfl, rfl, h⟩
  · rw [if_neg hd]; exact ⟨0, s.ar, rfl, rfl, h⟩
theorem S_abort {s : CS} (h : rCore s) : ∃ (r op : Int32) (N V : Nat → Int32) (S : Nat → Int64), f_OB_abort s.dn s.op = some (r, op) ∧ f_M_abort s.op s.dn s.dN s.N s.dV s.V s.dS s.S = some (r, op, N, V, S) ∧ rCore (CS.mk s.bg s.dn op s.ar s.rn s.lg s.md s.ix s.ls s.kn s.ch s.sl s.fr s.cc s.fc s.mkd s.par s.own s.aim s.ab s.cl s.xab s.xow s.xkd s.xtg s.kc s.kn_ s.ic s.in_ s.mpr s.mow s.mso s.mai s.c1 s.dV s.dN V N s.kv s.iv s.dS S) := by
  unfold f_OB_abort f_M_abort
  by_cases hd : s.dn = 0
  · rw [if_pos hd, if_pos hd]
    by_cases ho : s.op = 0
    · rw [if_pos ho, if_pos ho]; exact ⟨0, s.op, s.N, s.V, s.S, rfl, rfl, h⟩
    · rw [if_neg ho, if_neg ho]
      obtain ⟨N', V', S', e1, e2, e3⟩ := M_back (dN := s.dN) (dV := s.dV) (dS := s.dS) s.op s.N s.V s.S
      rw [e1, ob_bs]
      exact ⟨1, 0, N', V', S', rfl, rfl, ⟨h.sch, h.mk62, h.cls, h.bg, h.dn, (Or.inl rfl), h.rn, h.md, (fun hb => ⟨(h.bg0 hb).1, rfl⟩), h.arm, h.ix, h.ich, (fun _ => rfl), h.dlm, h.lg, h.lsz, h.kp0, (fun hm => absurd (h.dlm hd).2 hm), (fun hh => absurd rfl hh), (fun hh => absurd rfl hh), (fun _ _ => ⟨e3, e2⟩)⟩⟩
  · rw [if_neg hd, if_neg hd]; exact ⟨0, s.op, s.N, s.V, s.S, rfl, rfl, h⟩
theorem S_crash {s : CS} (h : rCore s) (la fi lo : Int32) (to_ : Int64) (xm xl : Int32) (xf xt : Int64) : ∃ (r op dn : Int32) (N V : Nat → Int32) (S : Nat → Int64) (la' fi' lo' : Int32) (to' : Int64) (xm' xl' : Int32) (xf' xt' : Int64), f_OB_crash s.dn s.op xm xf xt xl = some (r, dn, op, xm', xf', xt', xl') ∧ f_M_crash s.op s.dn s.md la fi to_ lo s.dN s.N s.dV s.V s.dS s.S = some (r, op, dn, la', fi', to', lo', N, V, S) ∧ (fi' = fi ∨ fi' = 0) ∧ rCore (CS.mk s.bg dn op s.ar s.rn s.lg s.md s.ix s.ls s.kn s.ch s.sl s.fr s.cc s.fc s.mkd s.par s.own s.aim s.ab s.cl s.xab s.xow s.xkd s.xtg s.kc s.kn_ s.ic s.in_ s.mpr s.mow s.mso s.mai s.c1 s.dV s.dN V N s.kv s.iv s.dS S) := by
  unfold f_OB_crash f_M_crash
  by_cases hd : s.dn = 0
  · rw [if_pos hd, if_pos hd]
    obtain ⟨hl0, hm0⟩ := h.dlm hd
    obtain ⟨N', V', S', e1, e2, -⟩ := M_fall s.op s.md s.dN s.N s.dV s.V s.dS s.S
    obtain ⟨e2, e3⟩ := e2 hm0
    rw [e1, ob_bs]
    exact ⟨1, 0, 1, N', V', S', _, _, _, _, _, _, _, _, rfl, rfl, (by first | exact Or.inl rfl | exact Or.inr rfl), ⟨h.sch, h.mk62, h.cls, h.bg, (Or.inr rfl), (Or.inl rfl), h.rn, h.md, (fun hb => ⟨(h.bg0 hb).1, rfl⟩), h.arm, h.ix, h.ich, (fun _ => rfl), (fun hh => absurd hh one_ne), h.lg, h.lsz, h.kp0, (fun hm => absurd hm0 hm), (fun hh => absurd rfl hh), (fun hh => absurd rfl hh), (fun _ _ => ⟨e3, e2⟩)⟩⟩
  · rw [if_neg hd, if_neg hd]; exact ⟨0, s.op, s.dn, s.N, s.V, s.S, _, _, _, _, _, _, _, _, rfl, rfl, (by first | exact Or.inl rfl | exact Or.inr rfl), h⟩
