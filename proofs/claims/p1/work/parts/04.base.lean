def ob_lp1 {A1 ρ : Type} (b : (A1 → Option ρ) → A1 → Option ρ) : Nat → A1 → Option ρ
  | 0 => fun _ => none
  | n + 1 => b (ob_lp1 b n)
def ob_lp2 {A1 A2 ρ : Type} (b : (A1 → A2 → Option ρ) → A1 → A2 → Option ρ) : Nat → A1 → A2 → Option ρ
  | 0 => fun _ _ => none
  | n + 1 => b (ob_lp2 b n)
def ob_lp3 {A1 A2 A3 ρ : Type} (b : (A1 → A2 → A3 → Option ρ) → A1 → A2 → A3 → Option ρ) : Nat → A1 → A2 → A3 → Option ρ
  | 0 => fun _ _ _ => none
  | n + 1 => b (ob_lp3 b n)
def ob_lp4 {A1 A2 A3 A4 ρ : Type} (b : (A1 → A2 → A3 → A4 → Option ρ) → A1 → A2 → A3 → A4 → Option ρ) : Nat → A1 → A2 → A3 → A4 → Option ρ
  | 0 => fun _ _ _ _ => none
  | n + 1 => b (ob_lp4 b n)
def ob_lp5 {A1 A2 A3 A4 A5 ρ : Type} (b : (A1 → A2 → A3 → A4 → A5 → Option ρ) → A1 → A2 → A3 → A4 → A5 → Option ρ) : Nat → A1 → A2 → A3 → A4 → A5 → Option ρ
  | 0 => fun _ _ _ _ _ => none
  | n + 1 => b (ob_lp5 b n)
def ob_lp6 {A1 A2 A3 A4 A5 A6 ρ : Type} (b : (A1 → A2 → A3 → A4 → A5 → A6 → Option ρ) → A1 → A2 → A3 → A4 → A5 → A6 → Option ρ) : Nat → A1 → A2 → A3 → A4 → A5 → A6 → Option ρ
  | 0 => fun _ _ _ _ _ _ => none
  | n + 1 => b (ob_lp6 b n)
def ob_lp7 {A1 A2 A3 A4 A5 A6 A7 ρ : Type} (b : (A1 → A2 → A3 → A4 → A5 → A6 → A7 → Option ρ) → A1 → A2 → A3 → A4 → A5 → A6 → A7 → Option ρ) : Nat → A1 → A2 → A3 → A4 → A5 → A6 → A7 → Option ρ
  | 0 => fun _ _ _ _ _ _ _ => none
  | n + 1 => b (ob_lp7 b n)
def ob_lp8 {A1 A2 A3 A4 A5 A6 A7 A8 ρ : Type} (b : (A1 → A2 → A3 → A4 → A5 → A6 → A7 → A8 → Option ρ) → A1 → A2 → A3 → A4 → A5 → A6 → A7 → A8 → Option ρ) : Nat → A1 → A2 → A3 → A4 → A5 → A6 → A7 → A8 → Option ρ
  | 0 => fun _ _ _ _ _ _ _ _ => none
  | n + 1 => b (ob_lp8 b n)
def ob_lp9 {A1 A2 A3 A4 A5 A6 A7 A8 A9 ρ : Type} (b : (A1 → A2 → A3 → A4 → A5 → A6 → A7 → A8 → A9 → Option ρ) → A1 → A2 → A3 → A4 → A5 → A6 → A7 → A8 → A9 → Option ρ) : Nat → A1 → A2 → A3 → A4 → A5 → A6 → A7 → A8 → A9 → Option ρ
  | 0 => fun _ _ _ _ _ _ _ _ _ => none
  | n + 1 => b (ob_lp9 b n)
def ob_lp10 {A1 A2 A3 A4 A5 A6 A7 A8 A9 A10 ρ : Type} (b : (A1 → A2 → A3 → A4 → A5 → A6 → A7 → A8 → A9 → A10 → Option ρ) → A1 → A2 → A3 → A4 → A5 → A6 → A7 → A8 → A9 → A10 → Option ρ) : Nat → A1 → A2 → A3 → A4 → A5 → A6 → A7 → A8 → A9 → A10 → Option ρ
  | 0 => fun _ _ _ _ _ _ _ _ _ _ => none
  | n + 1 => b (ob_lp10 b n)
def ob_lp11 {A1 A2 A3 A4 A5 A6 A7 A8 A9 A10 A11 ρ : Type} (b : (A1 → A2 → A3 → A4 → A5 → A6 → A7 → A8 → A9 → A10 → A11 → Option ρ) → A1 → A2 → A3 → A4 → A5 → A6 → A7 → A8 → A9 → A10 → A11 → Option ρ) : Nat → A1 → A2 → A3 → A4 → A5 → A6 → A7 → A8 → A9 → A10 → A11 → Option ρ
  | 0 => fun _ _ _ _ _ _ _ _ _ _ _ => none
  | n + 1 => b (ob_lp11 b n)
def ob_lp12 {A1 A2 A3 A4 A5 A6 A7 A8 A9 A10 A11 A12 ρ : Type} (b : (A1 → A2 → A3 → A4 → A5 → A6 → A7 → A8 → A9 → A10 → A11 → A12 → Option ρ) → A1 → A2 → A3 → A4 → A5 → A6 → A7 → A8 → A9 → A10 → A11 → A12 → Option ρ) : Nat → A1 → A2 → A3 → A4 → A5 → A6 → A7 → A8 → A9 → A10 → A11 → A12 → Option ρ
  | 0 => fun _ _ _ _ _ _ _ _ _ _ _ _ => none
  | n + 1 => b (ob_lp12 b n)
def ob_lp13 {A1 A2 A3 A4 A5 A6 A7 A8 A9 A10 A11 A12 A13 ρ : Type} (b : (A1 → A2 → A3 → A4 → A5 → A6 → A7 → A8 → A9 → A10 → A11 → A12 → A13 → Option ρ) → A1 → A2 → A3 → A4 → A5 → A6 → A7 → A8 → A9 → A10 → A11 → A12 → A13 → Option ρ) : Nat → A1 → A2 → A3 → A4 → A5 → A6 → A7 → A8 → A9 → A10 → A11 → A12 → A13 → Option ρ
  | 0 => fun _ _ _ _ _ _ _ _ _ _ _ _ _ => none
  | n + 1 => b (ob_lp13 b n)
def ob_lp14 {A1 A2 A3 A4 A5 A6 A7 A8 A9 A10 A11 A12 A13 A14 ρ : Type} (b : (A1 → A2 → A3 → A4 → A5 → A6 → A7 → A8 → A9 → A10 → A11 → A12 → A13 → A14 → Option ρ) → A1 → A2 → A3 → A4 → A5 → A6 → A7 → A8 → A9 → A10 → A11 → A12 → A13 → A14 → Option ρ) : Nat → A1 → A2 → A3 → A4 → A5 → A6 → A7 → A8 → A9 → A10 → A11 → A12 → A13 → A14 → Option ρ
  | 0 => fun _ _ _ _ _ _ _ _ _ _ _ _ _ _ => none
  | n + 1 => b (ob_lp14 b n)
def ob_lp15 {A1 A2 A3 A4 A5 A6 A7 A8 A9 A10 A11 A12 A13 A14 A15 ρ : Type} (b : (A1 → A2 → A3 → A4 → A5 → A6 → A7 → A8 → A9 → A10 → A11 → A12 → A13 → A14 → A15 → Option ρ) → A1 → A2 → A3 → A4 → A5 → A6 → A7 → A8 → A9 → A10 → A11 → A12 → A13 → A14 → A15 → Option ρ) : Nat → A1 → A2 → A3 → A4 → A5 → A6 → A7 → A8 → A9 → A10 → A11 → A12 → A13 → A14 → A15 → Option ρ
  | 0 => fun _ _ _ _ _ _ _ _ _ _ _ _ _ _ _ => none
  | n + 1 => b (ob_lp15 b n)
def ob_lp16 {A1 A2 A3 A4 A5 A6 A7 A8 A9 A10 A11 A12 A13 A14 A15 A16 ρ : Type} (b : (A1 → A2 → A3 → A4 → A5 → A6 → A7 → A8 → A9 → A10 → A11 → A12 → A13 → A14 → A15 → A16 → Option ρ) → A1 → A2 → A3 → A4 → A5 → A6 → A7 → A8 → A9 → A10 → A11 → A12 → A13 → A14 → A15 → A16 → Option ρ) : Nat → A1 → A2 → A3 → A4 → A5 → A6 → A7 → A8 → A9 → A10 → A11 → A12 → A13 → A14 → A15 → A16 → Option ρ
  | 0 => fun _ _ _ _ _ _ _ _ _ _ _ _ _ _ _ _ => none
  | n + 1 => b (ob_lp16 b n)
def ob_lp17 {A1 A2 A3 A4 A5 A6 A7 A8 A9 A10 A11 A12 A13 A14 A15 A16 A17 ρ : Type} (b : (A1 → A2 → A3 → A4 → A5 → A6 → A7 → A8 → A9 → A10 → A11 → A12 → A13 → A14 → A15 → A16 → A17 → Option ρ) → A1 → A2 → A3 → A4 → A5 → A6 → A7 → A8 → A9 → A10 → A11 → A12 → A13 → A14 → A15 → A16 → A17 → Option ρ) : Nat → A1 → A2 → A3 → A4 → A5 → A6 → A7 → A8 → A9 → A10 → A11 → A12 → A13 → A14 → A15 → A16 → A17 → Option ρ
  | 0 => fun _ _ _ _ _ _ _ _ _ _ _ _ _ _ _ _ _ => none
  | n + 1 => b (ob_lp17 b n)
def ob_lp18 {A1 A2 A3 A4 A5 A6 A7 A8 A9 A10 A11 A12 A13 A14 A15 A16 A17 A18 ρ : Type} (b : (A1 → A2 → A3 → A4 → A5 → A6 → A7 → A8 → A9 → A10 → A11 → A12 → A13 → A14 → A15 → A16 → A17 → A18 → Option ρ) → A1 → A2 → A3 → A4 → A5 → A6 → A7 → A8 → A9 → A10 → A11 → A12 → A13 → A14 → A15 → A16 → A17 → A18 → Option ρ) : Nat → A1 → A2 → A3 → A4 → A5 → A6 → A7 → A8 → A9 → A10 → A11 → A12 → A13 → A14 → A15 → A16 → A17 → A18 → Option ρ
  | 0 => fun _ _ _ _ _ _ _ _ _ _ _ _ _ _ _ _ _ _ => none
  | n + 1 => b (ob_lp18 b n)
def ob_lp19 {A1 A2 A3 A4 A5 A6 A7 A8 A9 A10 A11 A12 A13 A14 A15 A16 A17 A18 A19 ρ : Type} (b : (A1 → A2 → A3 → A4 → A5 → A6 → A7 → A8 → A9 → A10 → A11 → A12 → A13 → A14 → A15 → A16 → A17 → A18 → A19 → Option ρ) → A1 → A2 → A3 → A4 → A5 → A6 → A7 → A8 → A9 → A10 → A11 → A12 → A13 → A14 → A15 → A16 → A17 → A18 → A19 → Option ρ) : Nat → A1 → A2 → A3 → A4 → A5 → A6 → A7 → A8 → A9 → A10 → A11 → A12 → A13 → A14 → A15 → A16 → A17 → A18 → A19 → Option ρ
  | 0 => fun _ _ _ _ _ _ _ _ _ _ _ _ _ _ _ _ _ _ _ => none
  | n + 1 => b (ob_lp19 b n)
def ob_lp20 {A1 A2 A3 A4 A5 A6 A7 A8 A9 A10 A11 A12 A13 A14 A15 A16 A17 A18 A19 A20 ρ : Type} (b : (A1 → A2 → A3 → A4 → A5 → A6 → A7 → A8 → A9 → A10 → A11 → A12 → A13 → A14 → A15 → A16 → A17 → A18 → A19 → A20 → Option ρ) → A1 → A2 → A3 → A4 → A5 → A6 → A7 → A8 → A9 → A10 → A11 → A12 → A13 → A14 → A15 → A16 → A17 → A18 → A19 → A20 → Option ρ) : Nat → A1 → A2 → A3 → A4 → A5 → A6 → A7 → A8 → A9 → A10 → A11 → A12 → A13 → A14 → A15 → A16 → A17 → A18 → A19 → A20 → Option ρ
  | 0 => fun _ _ _ _ _ _ _ _ _ _ _ _ _ _ _ _ _ _ _ _ => none
  | n + 1 => b (ob_lp20 b n)
def ob_lp21 {A1 A2 A3 A4 A5 A6 A7 A8 A9 A10 A11 A12 A13 A14 A15 A16 A17 A18 A19 A20 A21 ρ : Type} (b : (A1 → A2 → A3 → A4 → A5 → A6 → A7 → A8 → A9 → A10 → A11 → A12 → A13 → A14 → A15 → A16 → A17 → A18 → A19 → A20 → A21 → Option ρ) → A1 → A2 → A3 → A4 → A5 → A6 → A7 → A8 → A9 → A10 → A11 → A12 → A13 → A14 → A15 → A16 → A17 → A18 → A19 → A20 → A21 → Option ρ) : Nat → A1 → A2 → A3 → A4 → A5 → A6 → A7 → A8 → A9 → A10 → A11 → A12 → A13 → A14 → A15 → A16 → A17 → A18 → A19 → A20 → A21 → Option ρ
  | 0 => fun _ _ _ _ _ _ _ _ _ _ _ _ _ _ _ _ _ _ _ _ _ => none
  | n + 1 => b (ob_lp21 b n)
def ob_lp22 {A1 A2 A3 A4 A5 A6 A7 A8 A9 A10 A11 A12 A13 A14 A15 A16 A17 A18 A19 A20 A21 A22 ρ : Type} (b : (A1 → A2 → A3 → A4 → A5 → A6 → A7 → A8 → A9 → A10 → A11 → A12 → A13 → A14 → A15 → A16 → A17 → A18 → A19 → A20 → A21 → A22 → Option ρ) → A1 → A2 → A3 → A4 → A5 → A6 → A7 → A8 → A9 → A10 → A11 → A12 → A13 → A14 → A15 → A16 → A17 → A18 → A19 → A20 → A21 → A22 → Option ρ) : Nat → A1 → A2 → A3 → A4 → A5 → A6 → A7 → A8 → A9 → A10 → A11 → A12 → A13 → A14 → A15 → A16 → A17 → A18 → A19 → A20 → A21 → A22 → Option ρ
  | 0 => fun _ _ _ _ _ _ _ _ _ _ _ _ _ _ _ _ _ _ _ _ _ _ => none
  | n + 1 => b (ob_lp22 b n)
def ob_lp23 {A1 A2 A3 A4 A5 A6 A7 A8 A9 A10 A11 A12 A13 A14 A15 A16 A17 A18 A19 A20 A21 A22 A23 ρ : Type} (b : (A1 → A2 → A3 → A4 → A5 → A6 → A7 → A8 → A9 → A10 → A11 → A12 → A13 → A14 → A15 → A16 → A17 → A18 → A19 → A20 → A21 → A22 → A23 → Option ρ) → A1 → A2 → A3 → A4 → A5 → A6 → A7 → A8 → A9 → A10 → A11 → A12 → A13 → A14 → A15 → A16 → A17 → A18 → A19 → A20 → A21 → A22 → A23 → Option ρ) : Nat → A1 → A2 → A3 → A4 → A5 → A6 → A7 → A8 → A9 → A10 → A11 → A12 → A13 → A14 → A15 → A16 → A17 → A18 → A19 → A20 → A21 → A22 → A23 → Option ρ
  | 0 => fun _ _ _ _ _ _ _ _ _ _ _ _ _ _ _ _ _ _ _ _ _ _ _ => none
  | n + 1 => b (ob_lp23 b n)
def ob_lp24 {A1 A2 A3 A4 A5 A6 A7 A8 A9 A10 A11 A12 A13 A14 A15 A16 A17 A18 A19 A20 A21 A22 A23 A24 ρ : Type} (b : (A1 → A2 → A3 → A4 → A5 → A6 → A7 → A8 → A9 → A10 → A11 → A12 → A13 → A14 → A15 → A16 → A17 → A18 → A19 → A20 → A21 → A22 → A23 → A24 → Option ρ) → A1 → A2 → A3 → A4 → A5 → A6 → A7 → A8 → A9 → A10 → A11 → A12 → A13 → A14 → A15 → A16 → A17 → A18 → A19 → A20 → A21 → A22 → A23 → A24 → Option ρ) : Nat → A1 → A2 → A3 → A4 → A5 → A6 → A7 → A8 → A9 → A10 → A11 → A12 → A13 → A14 → A15 → A16 → A17 → A18 → A19 → A20 → A21 → A22 → A23 → A24 → Option ρ
  | 0 => fun _ _ _ _ _ _ _ _ _ _ _ _ _ _ _ _ _ _ _ _ _ _ _ _ => none
  | n + 1 => b (ob_lp24 b n)
-- words of the pure side: a guard, and what follows from an answer
def ob_iv {α : Type} (x : Int32) (n : Nat) (a : Option α) : Option α := if 0 ≤ x.toInt ∧ x.toInt < n then a else none
theorem ob_iv_g {α : Type} {x : Int32} {n : Nat} {a : Option α} {r : α} (h : ob_iv x n a = some r) : vp_in x n ∧ a = some r := by
  unfold ob_iv at h
  by_cases hc : 0 ≤ x.toInt ∧ x.toInt < n
  · rw [if_pos hc] at h; exact ⟨vp_in_iff.mpr hc, h⟩
  · rw [if_neg hc] at h; cases h
theorem ob_iv_i {α : Type} {x : Int32} {n : Nat} {a : Option α} (hc : 0 ≤ x.toInt ∧ x.toInt < n) : ob_iv x n a = a := by
  unfold ob_iv; rw [if_pos hc]
def ob_nz {α : Type} (x : Int32) (a : Option α) : Option α := if x = 0 ∨ x = 1 then a else none
theorem ob_nz_g {α : Type} {x : Int32} {a : Option α} {r : α} (h : ob_nz x a = some r) : (narrow .boolean (.int x) = .int x ∧ fits .boolean (.int x) = true) ∧ a = some r := by
  unfold ob_nz at h
  by_cases hc : x = 0 ∨ x = 1
  · rw [if_pos hc] at h
    rcases hc with rfl | rfl
    · exact ⟨⟨rfl, rfl⟩, h⟩
    · exact ⟨⟨rfl, rfl⟩, h⟩
  · rw [if_neg hc] at h; cases h
theorem ob_nz_i {α : Type} {x : Int32} {a : Option α} (hc : x = 0 ∨ x = 1) : ob_nz x a = a := by
  unfold ob_nz; rw [if_pos hc]
def ob_nc {α : Type} (x : Int32) (a : Option α) : Option α := if 0 ≤ x.toInt ∧ x.toInt < 65536 then a else none
theorem ob_nc_g {α : Type} {x : Int32} {a : Option α} {r : α} (h : ob_nc x a = some r) : (narrow .char (.int x) = .int x ∧ fits .char (.int x) = true) ∧ a = some r := by
  unfold ob_nc at h
  by_cases hc : 0 ≤ x.toInt ∧ x.toInt < 65536
  · rw [if_pos hc] at h
    obtain ⟨j, hj, rfl⟩ := vp_in_of ((vp_in_iff (n := 65536)).mpr ⟨hc.1, by have := hc.2; omega⟩) (by decide)
    exact ⟨pk_charN hj, h⟩
  · rw [if_neg hc] at h; cases h
theorem ob_nc_i {α : Type} {x : Int32} {a : Option α} (hc : 0 ≤ x.toInt ∧ x.toInt < 65536) : ob_nc x a = a := by
  unfold ob_nc; rw [if_pos hc]
def ob_nd {α : Type} (x : Int32) (a : Option α) : Option α := if x = 0 then none else a
theorem ob_nd_g {α : Type} {x : Int32} {a : Option α} {r : α} (h : ob_nd x a = some r) : ¬ x = 0 ∧ a = some r := by
  unfold ob_nd at h
  by_cases hc : x = 0
  · rw [if_pos hc] at h; cases h
  · rw [if_neg hc] at h; exact ⟨hc, h⟩
def ob_fa {α : Type} (ty : FieldType) (f : Nat → Int32) (sp n : Nat) (a : Option α) : Option α := if (List.range n).all (fun i => fits ty (.int (f (sp + i)))) = true then a else none
theorem ob_fa_g {α : Type} {ty : FieldType} {f : Nat → Int32} {sp n : Nat} {a : Option α} {r : α} (h : ob_fa ty f sp n a = some r) : (∀ i, i < n → fits ty (.int (f (sp + i))) = true) ∧ a = some r := by
  unfold ob_fa at h
  by_cases hc : (List.range n).all (fun i => fits ty (.int (f (sp + i)))) = true
  · rw [if_pos hc] at h
    exact ⟨fun i hi => List.all_eq_true.mp hc i (List.mem_range.mpr hi), h⟩
  · rw [if_neg hc] at h; cases h
theorem ob_t {α : Type} {c : Prop} [Decidable c] {a b : Option α} {x : α} (hc : c) (h : (if c then a else b) = some x) : a = some x := by
  rw [if_pos hc] at h; exact h
theorem ob_f {α : Type} {c : Prop} [Decidable c] {a b : Option α} {x : α} (hc : ¬ c) (h : (if c then a else b) = some x) : b = some x := by
  rw [if_neg hc] at h; exact h
theorem ob_b {α β : Type} {a : Option α} {k : α → Option β} {x : β} (h : a.bind k = some x) : ∃ o, a = some o ∧ k o = some x := by
  cases a with
  | none => cases h
  | some o => exact ⟨o, rfl, h⟩
-- cells put back in their places
def ob_put (ws : va_W) : List Nat → va_W → va_W
  | i :: is, c :: cs => ob_put (ws.set i c) is cs
  | _, _ => ws
theorem ob_put_get : ∀ (is : List Nat) (cs ws : va_W), va_nd is = true → is.length = cs.length → (∀ i ∈ is, i < ws.length) → ∀ k : Nat, (∃ j : Nat, is[j]? = some k ∧ (ob_put ws is cs)[k]? = cs[j]?) ∨ (k ∉ is ∧ (ob_put ws is cs)[k]? = ws[k]?) := by
  intro is
  induction is with
  | nil => intro cs ws _ _ _ k; exact Or.inr ⟨by simp, by cases cs <;> rfl⟩
  | cons i is ih =>
    intro cs ws hn hl hb k
    cases cs with
    | nil => simp at hl
    | cons c cs =>
      simp only [va_nd, Bool.and_eq_true, decide_eq_true_eq] at hn
      have hi : i < ws.length := hb i (by simp)
      rcases ih cs (ws.set i c) hn.2 (by simpa using hl) (fun x hx => by rw [List.length_set]; exact hb x (by simp [hx])) k with ⟨j, h1, h2⟩ | ⟨h1, h2⟩
      · exact Or.inl ⟨j + 1, by simpa using h1, by simpa [ob_put] using h2⟩
      · by_cases hk : k = i
        · subst hk
          refine Or.inl ⟨0, by simp, ?_⟩
          show (ob_put (ws.set k c) is cs)[k]? = _
          rw [h2]
          simp [hi]
        · refine Or.inr ⟨by simp [hk, h1], ?_⟩
          show (ob_put (ws.set i c) is cs)[k]? = _
          rw [h2, List.getElem?_set_ne (Ne.symm hk)]
theorem ob_map_get {α β : Type} {f : α → Option β} {is : List α} {cs : List β} (h : is.map f = cs.map some) {j : Nat} {i : α} (hi : is[j]? = some i) : f i = cs[j]? ∧ j < cs.length := by
  have h1 : (is.map f)[j]? = (cs.map some)[j]? := by rw [h]
  rw [List.getElem?_map, List.getElem?_map, hi] at h1
  cases hc : cs[j]? with
  | none => rw [hc] at h1; simp at h1
  | some c =>
    rw [hc] at h1
    simp at h1
    exact ⟨h1, (List.getElem?_eq_some_iff.mp hc).1⟩
theorem ob_join {A0 : Nat → Prop} {D : va_G} {cl : List vw_C} {ws wc w1 : va_W} {H H1 : Heap} (hP : va_P D cl ws H) (hD : va_D A0 ws) (isC : List Nat) (hC : isC.map (fun i => ws[i]?) = wc.map some) (hn : va_nd isC = true) (ha : w1.map Prod.fst = wc.map Prod.fst)
    (hk : ∀ q : Nat, q < H.size → ¬ va_A wc H.size q → H1[q]? = H[q]?) (hF : ∀ q, va_A wc H.size q → A0 q) (hP1 : va_P D cl w1 H1) (hD1 : va_D (va_A wc H.size) w1) : va_P D cl (ob_put ws isC w1) H1 ∧ va_D A0 (ob_put ws isC w1) := by
  have hlen : isC.length = wc.length := by simpa using congrArg List.length hC
  have hlen1 : w1.length = wc.length := by simpa using congrArg List.length ha
  have hin : ∀ i ∈ isC, i < ws.length := fun i hi => by
    obtain ⟨j, hj⟩ := List.getElem?_of_mem hi
    have h1 := ob_map_get hC hj
    have h2 : wc[j]? = some wc[j] := List.getElem?_eq_getElem h1.2
    exact (List.getElem?_eq_some_iff.mp (h1.1.trans h2)).1
  have hg := ob_put_get isC w1 ws hn (by omega) hin
  -- a place of the callee's: its address is that of the place it came from
  have hadr : ∀ (j k : Nat) (q : Nat × va_E), isC[j]? = some k → w1[j]? = some q → ∃ e, ws[k]? = some (q.1, e) := fun j k q hj hq => by
    have h1 := ob_map_get hC hj
    have h2 : wc[j]? = some wc[j] := List.getElem?_eq_getElem h1.2
    have h3 : (w1.map Prod.fst)[j]? = (wc.map Prod.fst)[j]? := by rw [ha]
    rw [List.getElem?_map, List.getElem?_map, hq, h2] at h3
    simp at h3
    exact ⟨wc[j].2, by rw [h1.1, h2, h3]⟩
  have hout : ∀ (k : Nat) (q : Nat × va_E), k ∉ isC → ws[k]? = some q → ∀ e, ¬ ∃ j : Nat, wc[j]? = some (q.1, e) := fun k q hk hq e h => by
    obtain ⟨j, hj⟩ := h
    have hjl : j < isC.length := by rw [hlen]; exact (List.getElem?_eq_some_iff.mp hj).1
    have h1 := ob_map_get hC (List.getElem?_eq_getElem hjl)
    have h2 := hD.1 k isC[j] q (q.1, e) hq (by rw [h1.1, hj]) rfl
    exact hk (h2 ▸ List.getElem_mem hjl)
  refine ⟨fun k q hq => ?_, fun i j x y hx hy hxy => ?_, fun k q hq => ?_⟩
  · rcases hg k with ⟨j, h1, h2⟩ | ⟨h1, h2⟩
    · exact hP1 j q (by rw [← h2]; exact hq)
    · have hq' : ws[k]? = some q := by rw [← h2]; exact hq
      have ha1 := hP k q hq'
      refine ha1.kept (hk q.1 ha1.lt (fun h => ?_))
      rcases h with ⟨j, e, hj⟩ | h
      · exact hout k q h1 hq' e ⟨j, hj⟩
      · exact absurd ha1.lt (by omega)
  · rcases hg i with ⟨j1, h1, h2⟩ | ⟨h1, h2⟩ <;> rcases hg j with ⟨j2, h3, h4⟩ | ⟨h3, h4⟩
    · have e1 := hD1.1 j1 j2 x y (by rw [← h2]; exact hx) (by rw [← h4]; exact hy) hxy
      subst e1
      rw [h1] at h3
      exact Option.some.inj h3
    · obtain ⟨e, he⟩ := hadr j1 i x h1 (by rw [← h2]; exact hx)
      exact hD.1 i j _ y he (by rw [← h4]; exact hy) hxy
    · obtain ⟨e, he⟩ := hadr j2 j y h3 (by rw [← h4]; exact hy)
      exact hD.1 i j x _ (by rw [← h2]; exact hx) he hxy
    · exact hD.1 i j x y (by rw [← h2]; exact hx) (by rw [← h4]; exact hy) hxy
  · rcases hg k with ⟨j, h1, h2⟩ | ⟨h1, h2⟩
    · exact hF q.1 (hD1.2 j q (by rw [← h2]; exact hq))
    · exact hD.2 k q (by rw [← h2]; exact hq)
-- a contract's start and its ends
abbrev ObPre (D : va_G) (tys : List (ClassId × FieldType)) (w : va_W) (sz : Nat) (av : List Value) : Array Value → State → Prop := va_Pc av (fun U => U.heap.size = sz ∧ va_P D vwCl w U.heap ∧ va_K D vwCl tys U ∧ va_D (fun _ => True) w ∧ obZ U)
abbrev ObAt (D : va_G) (tys : List (ClassId × FieldType)) (w : va_W) (A : Nat → Prop) (t : State) : Prop := va_P D vwCl w t.heap ∧ va_K D vwCl tys t ∧ va_D A w
abbrev ObQi (D : va_G) (tys : List (ClassId × FieldType)) (w1 : va_W) (r : Int32) (A : Nat → Prop) : Array Value → State → Outcome → State → Prop := va_Qi (S := Unit) (fun r' _ => r' = r) (fun _ t => ObAt D tys w1 A t) A
abbrev ObQl (D : va_G) (tys : List (ClassId × FieldType)) (w1 : va_W) (r : Int64) (A : Nat → Prop) : Array Value → State → Outcome → State → Prop := va_Ql (S := Unit) (fun r' _ => r' = r) (fun _ t => ObAt D tys w1 A t) A
abbrev ObQv (D : va_G) (tys : List (ClassId × FieldType)) (w1 : va_W) (A : Nat → Prop) : Array Value → State → Outcome → State → Prop := va_Qv (S := Unit) (fun _ => True) (fun _ t => ObAt D tys w1 A t) A
abbrev MetI (l : Launch) (y : MethodName) (ws : List Cond) (rm : Room) (D : va_G) (tys : List (ClassId × FieldType)) (w w1 : va_W) (av : List Value) (r : Int32) (sz : Nat) : Prop := Met l y ws rm (ObPre D tys w sz av) (ObQi D tys w1 r (va_A w sz)) 0 0 (va_A w sz)
abbrev MetL (l : Launch) (y : MethodName) (ws : List Cond) (rm : Room) (D : va_G) (tys : List (ClassId × FieldType)) (w w1 : va_W) (av : List Value) (r : Int64) (sz : Nat) : Prop := Met l y ws rm (ObPre D tys w sz av) (ObQl D tys w1 r (va_A w sz)) 0 0 (va_A w sz)
abbrev MetV (l : Launch) (y : MethodName) (ws : List Cond) (rm : Room) (D : va_G) (tys : List (ClassId × FieldType)) (w w1 : va_W) (av : List Value) (sz : Nat) : Prop := Met l y ws rm (ObPre D tys w sz av) (ObQv D tys w1 (va_A w sz)) 0 0 (va_A w sz)
section ObBase
variable {p : Program} {l : Launch} {e : Env} {R : Room} {s : State} {m : MethodId} {args : Array Value} {below : List Frame} {meth : Method} {c : Code} {H : Heap} {locs : List Loc} {cells slots : Nat} {Q : State → Prop} {A : Nat → Prop} {D : va_G} {tys : List (ClassId × FieldType)} {ls : Array Slot} {pc : Nat} {rest st0 : List Value}
theorem ob_of {y : MethodName} {ws : List Cond} {rm : Room} {w : va_W} {sz : Nat} {av : List Value} {Qc : (Nat → Prop) → Array Value → State → Outcome → State → Prop} {mc ms : Nat} {cc : ByteArray} {maxL : Nat} {ret : Option FieldType} (hy : plainName y.cls = true) (hw : ws = Cond.code y cc maxL ret :: obW) (hlen : (lg_sl av).length ≤ maxL)
    (body : ∀ (p : Program) (e : Env) (s : State) (m : MethodId) (below : List Frame) (meth : Method) (c : Code) (A : Nat → Prop) (ls : Array Slot) (H : Heap) (locs : List Loc), p.tables.exec = Jvm.exec → c.code = cc → meth.sig.returnType = ret → c.maxLocals = maxL → (∀ x ∈ obW, x.before av.toArray s = true) → s.vm.findClass y.cls = some m.cls → meth.locks = false → meth.name = y.name → obZ s → va_P D vwCl w H → va_K D vwCl tys s → va_D A w → (∀ q, s.heap.size ≤ q → A q) → va_S A s.heap H locs → lv_has ls maxL (lv_args 0 av) →
      W p l e rm s m av.toArray below meth c H locs 0 0 (MQ below (Qc A) av.toArray s mc ms A) (F0 m 0 ls [])) : Met l y ws rm (ObPre D tys w sz av) (Qc (va_A w sz)) mc ms (va_A w sz) := by
  refine Met.ofW (cc := cc) (maxL := maxL) (ret := ret) hy hw ?_
  intro p e s m args below meth c s₁ B hml hv
  obtain ⟨rfl, hsz, hP, hK, hD0, hZ⟩ := hv
  subst hsz
  have hl := lv_entry av (n := maxL) hlen
  rw [lg_entry_eq]
  generalize (lg_sl av ++ List.replicate (maxL - (lg_sl av).length) Slot.unset).toArray = ls at hl ⊢
  exact body p e s m below meth c (va_A w s.heap.size) ls s.heap [] B.exec B.bytes B.returns hml (fun x hx => atoms_spec (ws := ws) B.pre x (hw ▸ List.mem_cons_of_mem _ hx)) (findClass_of_methodNamed B.named) B.notSynchronized (name_of_methodNamed B.named B.method).1 hZ hP hK hD0.self (fun q h => Or.inr h) va_S.rf hl
theorem ob_iret {cc : ByteArray} {ty : FieldType} {w1 : va_W} {v : Int32} (hx : p.tables.exec = Jvm.exec) (hb : c.code = cc) (hr : meth.sig.returnType = some ty) (hlk : meth.locks = false) (hK : va_K D vwCl tys s) (hP : va_P D vwCl w1 H) (hD : va_D A w1) (hS : va_S A s.heap H locs) (hn : narrow ty (.int v) = .int v) (hdg : decode cc pc = .ok (.ireturn, 1)) :
    W p l e R s m args below meth c H locs cells slots (MQ below (ObQi D tys w1 v A) args s cells slots A) (F0 m pc ls [.int v]) :=
  W.zret hx hb hr hn (fun t ht hW => ⟨⟨v, (), rfl, rfl, by rw [ht]; exact hP, va_K.moved hW.alike hK, hD⟩, hS.F ht⟩) hS.2.2 hdg hlk
theorem ob_lret {cc : ByteArray} {w1 : va_W} {v : Int64} (hx : p.tables.exec = Jvm.exec) (hb : c.code = cc) (hr : meth.sig.returnType = some .long) (hlk : meth.locks = false) (hK : va_K D vwCl tys s) (hP : va_P D vwCl w1 H) (hD : va_D A w1) (hS : va_S A s.heap H locs) (hdg : decode cc pc = .ok (.lreturn, 1)) :
    W p l e R s m args below meth c H locs cells slots (MQ below (ObQl D tys w1 v A) args s cells slots A) (F0 m pc ls [.long v]) :=
  W.lret hx hb hr (fun t ht hW => ⟨⟨v, (), rfl, rfl, by rw [ht]; exact hP, va_K.moved hW.alike hK, hD⟩, hS.F ht⟩) hS.2.2 hdg hlk
theorem ob_vret {cc : ByteArray} {w1 : va_W} (hx : p.tables.exec = Jvm.exec) (hb : c.code = cc) (hr : meth.sig.returnType = none) (hlk : meth.locks = false) (hK : va_K D vwCl tys s) (hP : va_P D vwCl w1 H) (hD : va_D A w1) (hS : va_S A s.heap H locs) (hdg : decode cc pc = .ok (.return_, 1)) :
    W p l e R s m args below meth c H locs cells slots (MQ below (ObQv D tys w1 A) args s cells slots A) (F0 m pc ls []) :=
  W.vret hx hb hr (fun t ht hW => ⟨⟨(), rfl, trivial, by rw [ht]; exact hP, va_K.moved hW.alike hK, hD⟩, hS.F ht⟩) hS.2.2 hdg hlk
-- the callee's cells, cut out
theorem ob_cutP {ws wc : va_W} (hP : va_P D vwCl ws H) (isC : List Nat) (hC : isC.map (fun i => ws[i]?) = wc.map some) : va_P D vwCl wc H := fun k q hk => by
  obtain ⟨i, -, hi⟩ := va_in_of isC hC hk
  exact hP i q hi
theorem ob_preV {C : String} {b q0 ci : Nat} {q : vw_C} {fs As : List Value} {ws wc : va_W} (hZ : obZ s) (hK : va_K D vwCl tys s) (hP : va_P D vwCl ws H) (hD : va_D A ws) (isC : List Nat) (hC : isC.map (fun i => ws[i]?) = wc.map some) (hn : va_nd isC = true) (hc : vwCl[ci]? = some q) (hq : q.1 = C) (he : ws[q0]? = some (b, .inr (ci, fs))) : PreV s H C b (ObPre D tys wc H.size (.ref b :: As)) As :=
  ⟨fun a U g mk q => by obtain ⟨q0, q1, qP, qK, qD, qZ⟩ := q; exact ⟨q0, q1, qP, va_K.moved (u := U) (U := U.calling g mk a) (Vm.Alike.refl U.vm) qK, qD, qZ.same (U := U.calling g mk a) rfl⟩, hq ▸ va_recv hK hP hc he, fun U hU hW => ⟨rfl, by rw [hU], by rw [hU]; exact ob_cutP hP isC hC, va_K.moved hW.alike hK, (hD.sub isC hn hC).weaken (fun _ _ _ _ => trivial), hZ.warm hW⟩⟩
theorem ob_preS {As : List Value} {ws wc : va_W} (hZ : obZ s) (hK : va_K D vwCl tys s) (hP : va_P D vwCl ws H) (hD : va_D A ws) (isC : List Nat) (hC : isC.map (fun i => ws[i]?) = wc.map some) (hn : va_nd isC = true) : PreS s H (ObPre D tys wc H.size As) As :=
  ⟨fun a U g mk q => by obtain ⟨q0, q1, qP, qK, qD, qZ⟩ := q; exact ⟨q0, q1, qP, va_K.moved (u := U) (U := U.calling g mk a) (Vm.Alike.refl U.vm) qK, qD, qZ.same (U := U.calling g mk a) rfl⟩, fun U hU hW => ⟨rfl, by rw [hU], by rw [hU]; exact ob_cutP hP isC hC, va_K.moved hW.alike hK, (hD.sub isC hn hC).weaken (fun _ _ _ _ => trivial), hZ.warm hW⟩⟩
theorem ob_calli {ws wc wc1 w2 : va_W} {r : Int32} {a : Array Value} (hr : va_Run p l e R s m args below meth c H locs cells slots 0 0 (F0 m pc ls st0) rest (ObQi D tys wc1 r (va_A wc H.size) a) (va_A wc H.size)) (hP : va_P D vwCl ws H) (hD : va_D A ws) (hA : ∀ q, s.heap.size ≤ q → A q) (hS : va_S A s.heap H locs) (isC : List Nat) (hC : isC.map (fun i => ws[i]?) = wc.map some) (hn : va_nd isC = true) (ha : wc1.map Prod.fst = wc.map Prod.fst) (h2 : ob_put ws isC wc1 = w2)
    (kk : ∀ (H1 : Heap) (locs1 : List Loc), va_P D vwCl w2 H1 → va_D A w2 → va_S A s.heap H1 locs1 → W p l e R s m args below meth c H1 locs1 cells slots Q (F0 m (pc + 3) ls (.int r :: rest))) : W p l e R s m args below meth c H locs cells slots Q (F0 m pc ls st0) := by
  have hFc := va_free hD hS hA isC hC
  refine va_calli hr hS (fun q _ h => hFc q h) hFc (fun r' u t H1 locs1 ht hvm hw hB hz1 hk1 hS1 => ?_)
  obtain ⟨hP1, hK1, hD1⟩ := hB
  rw [ht] at hP1
  obtain ⟨hP2, hD2⟩ := ob_join hP hD isC hC hn ha hk1 hFc hP1 hD1
  rw [h2] at hP2 hD2
  cases hw
  exact kk H1 locs1 hP2 hD2 hS1
theorem ob_calll {ws wc wc1 w2 : va_W} {r : Int64} {a : Array Value} (hr : va_Run p l e R s m args below meth c H locs cells slots 0 0 (F0 m pc ls st0) rest (ObQl D tys wc1 r (va_A wc H.size) a) (va_A wc H.size)) (hP : va_P D vwCl ws H) (hD : va_D A ws) (hA : ∀ q, s.heap.size ≤ q → A q) (hS : va_S A s.heap H locs) (isC : List Nat) (hC : isC.map (fun i => ws[i]?) = wc.map some) (hn : va_nd isC = true) (ha : wc1.map Prod.fst = wc.map Prod.fst) (h2 : ob_put ws isC wc1 = w2)
    (kk : ∀ (H1 : Heap) (locs1 : List Loc), va_P D vwCl w2 H1 → va_D A w2 → va_S A s.heap H1 locs1 → W p l e R s m args below meth c H1 locs1 cells slots Q (F0 m (pc + 3) ls (.long r :: rest))) : W p l e R s m args below meth c H locs cells slots Q (F0 m pc ls st0) := by
  have hFc := va_free hD hS hA isC hC
  refine va_calll hr hS (fun q _ h => hFc q h) hFc (fun r' u t H1 locs1 ht hvm hw hB hz1 hk1 hS1 => ?_)
  obtain ⟨hP1, hK1, hD1⟩ := hB
  rw [ht] at hP1
  obtain ⟨hP2, hD2⟩ := ob_join hP hD isC hC hn ha hk1 hFc hP1 hD1
  rw [h2] at hP2 hD2
  cases hw
  exact kk H1 locs1 hP2 hD2 hS1
theorem ob_callv {ws wc wc1 w2 : va_W} {a : Array Value} (hr : va_Run p l e R s m args below meth c H locs cells slots 0 0 (F0 m pc ls st0) rest (ObQv D tys wc1 (va_A wc H.size) a) (va_A wc H.size)) (hP : va_P D vwCl ws H) (hD : va_D A ws) (hA : ∀ q, s.heap.size ≤ q → A q) (hS : va_S A s.heap H locs) (isC : List Nat) (hC : isC.map (fun i => ws[i]?) = wc.map some) (hn : va_nd isC = true) (ha : wc1.map Prod.fst = wc.map Prod.fst) (h2 : ob_put ws isC wc1 = w2)
    (kk : ∀ (H1 : Heap) (locs1 : List Loc), va_P D vwCl w2 H1 → va_D A w2 → va_S A s.heap H1 locs1 → W p l e R s m args below meth c H1 locs1 cells slots Q (F0 m (pc + 3) ls rest)) : W p l e R s m args below meth c H locs cells slots Q (F0 m pc ls st0) := by
  have hFc := va_free hD hS hA isC hC
  refine va_callv hr hS (fun q _ h => hFc q h) hFc (fun u t H1 locs1 ht hvm hw hB hz1 hk1 hS1 => ?_)
  obtain ⟨hP1, hK1, hD1⟩ := hB
  rw [ht] at hP1
  obtain ⟨hP2, hD2⟩ := ob_join hP hD isC hC hn ha hk1 hFc hP1 hD1
  rw [h2] at hP2 hD2
  exact kk H1 locs1 hP2 hD2 hS1
end ObBase
theorem ob_no {α : Type} {o : α} {P : Prop} (h : (none : Option α) = some o) : P := by cases h
def ob_sel : Nat → Nat → Nat → Nat
  | 0, a, _ => a
  | _ + 1, _, b => b
theorem ob_sel0 {k a b : Nat} (h : k = 0) : ob_sel k a b = a := by subst h; rfl
theorem ob_sel1 {k a b : Nat} (h : ¬ k = 0) : ob_sel k a b = b := by
  cases k with
  | zero => exact absurd rfl h
  | succ n => rfl
theorem ob_sw {x v : Int32} {k : Int} (h : ¬ x = v) (hv : v.toInt = k) : ¬ x.toInt = k := fun e => h (Int32.toInt_inj.mp (e.trans hv.symm))
abbrev ObQr (D : va_G) (tys : List (ClassId × FieldType)) (w1 : va_W) (b : Nat) (A : Nat → Prop) : Array Value → State → Outcome → State → Prop := va_Qr (S := Unit) (fun _ => True) (fun _ a t => a = b ∧ ObAt D tys w1 A t) A
abbrev MetR (l : Launch) (y : MethodName) (ws : List Cond) (rm : Room) (D : va_G) (tys : List (ClassId × FieldType)) (w w1 : va_W) (av : List Value) (b : Nat) (sz : Nat) : Prop := Met l y ws rm (ObPre D tys w sz av) (ObQr D tys w1 b (va_A w sz)) 0 0 (va_A w sz)
section ObBase2
variable {p : Program} {l : Launch} {e : Env} {R : Room} {s : State} {m : MethodId} {args : Array Value} {below : List Frame} {meth : Method} {c : Code} {H : Heap} {locs : List Loc} {cells slots : Nat} {Q : State → Prop} {A : Nat → Prop} {D : va_G} {tys : List (ClassId × FieldType)} {ls : Array Slot} {pc : Nat} {rest st0 : List Value}
theorem ob_aret {cc : ByteArray} {C : String} {w1 : va_W} {b : Nat} (hx : p.tables.exec = Jvm.exec) (hb : c.code = cc) (hr : meth.sig.returnType = some (.object C)) (hlk : meth.locks = false) (hK : va_K D vwCl tys s) (hP : va_P D vwCl w1 H) (hD : va_D A w1) (hS : va_S A s.heap H locs) (hdg : decode cc pc = .ok (.areturn, 1)) :
    W p l e R s m args below meth c H locs cells slots (MQ below (ObQr D tys w1 b A) args s cells slots A) (F0 m pc ls [.ref b]) :=
  W.aret hx hb hr (Or.inl ⟨C, rfl⟩) (Or.inr ⟨b, rfl⟩) (fun t ht hW => ⟨⟨(), b, rfl, trivial, rfl, by rw [ht]; exact hP, va_K.moved hW.alike hK, hD⟩, hS.F ht⟩) hS.2.2 hdg hlk
theorem ob_callr {ws wc wc1 w2 : va_W} {b : Nat} {a : Array Value} (hr : va_Run p l e R s m args below meth c H locs cells slots 0 0 (F0 m pc ls st0) rest (ObQr D tys wc1 b (va_A wc H.size) a) (va_A wc H.size)) (hP : va_P D vwCl ws H) (hD : va_D A ws) (hA : ∀ q, s.heap.size ≤ q → A q) (hS : va_S A s.heap H locs) (isC : List Nat) (hC : isC.map (fun i => ws[i]?) = wc.map some) (hn : va_nd isC = true) (ha : wc1.map Prod.fst = wc.map Prod.fst) (h2 : ob_put ws isC wc1 = w2)
    (kk : ∀ (H1 : Heap) (locs1 : List Loc), va_P D vwCl w2 H1 → va_D A w2 → va_S A s.heap H1 locs1 → W p l e R s m args below meth c H1 locs1 cells slots Q (F0 m (pc + 3) ls (.ref b :: rest))) : W p l e R s m args below meth c H locs cells slots Q (F0 m pc ls st0) := by
  have hFc := va_free hD hS hA isC hC
  refine va_callr hr hS (fun q _ h => hFc q h) hFc (fun u ra t H1 locs1 ht hvm hw hB hz1 hk1 hS1 => ?_)
  obtain ⟨hra, hP1, hK1, hD1⟩ := hB
  subst hra
  rw [ht] at hP1
  obtain ⟨hP2, hD2⟩ := ob_join hP hD isC hC hn ha hk1 hFc hP1 hD1
  rw [h2] at hP2 hD2
  exact kk H1 locs1 hP2 hD2 hS1
-- an array class is one: its number is known
theorem ob_RA {U : State} {c1 c2 : ClassId} {ty : FieldType} (h1 : va_RA U c1 ty) (h2 : va_RA U c2 ty) : c1 = c2 := by
  cases ty <;> first | exact Option.some.inj ((show _ = some c1 from h1).symm.trans h2) | (obtain ⟨_, _, _, _, _, e1⟩ := h1; obtain ⟨_, _, _, _, _, e2⟩ := h2; exact Option.some.inj (e1.symm.trans e2))
theorem ob_newa {cc : ByteArray} {H0 : Heap} (hexec : p.tables.exec = Jvm.exec) (hb : c.code = cc) {atype : ArrayType} (harr : (Cond.arrayClass (newarray.typeOf atype)).before args s = true) {ty : FieldType} (hty : newarray.typeOf atype = ty) {ws : va_W} (hK : va_K D vwCl tys s) (t0 : Nat) {cI : ClassId} (ht : tys[t0]? = some (cI, ty)) (hP : va_P D vwCl ws H) (hD : va_D A ws) (hS : va_S A H0 H locs) (hA : ∀ q, H0.size ≤ q → A q)
    {n : Int32} {N' : Nat} {a0 : vp_A} (ha : ∀ cA : ClassId, vp_cell cA a0 = arrV cA N' (fun _ => defaultValue ty)) (hn : ¬ n < 0) (hN : n.toNatClampNeg = N') (hbytes : N' * componentBytes ty ≤ 536870912) (hcells : cells + 1 ≤ R.cells) (hslots : slots + N' ≤ R.slots) (hdg : decode cc pc = .ok (.newarray atype, 2))
    (kk : ∀ (q : Nat) (H1 : Heap), va_P D vwCl (ws ++ [(q, .inl (cI, a0))]) H1 → va_D A (ws ++ [(q, .inl (cI, a0))]) → va_S A H0 H1 locs →
      W p l e R s m args below meth c H1 locs (cells + 1) (slots + N') Q (F0 m (pc + 2) ls (.ref q :: rest))) : W p l e R s m args below meth c H locs cells slots Q (F0 m pc ls (.int n :: rest)) := by
  refine va_newa hexec hb harr hty hK hP hD hS hA ha hn hN hbytes hcells hslots hdg (fun q cA H1 hK1 hP1 hD1 hS1 => ?_)
  have h1 := (hK1.2 tys.length (cA, ty) (by simp)).2
  have h2 := (hK.2 t0 (cI, ty) ht).2
  obtain rfl := ob_RA h1 h2
  exact kk q H1 hP1 hD1 hS1
theorem ob_newq {cc : ByteArray} {H0 : Heap} (hexec : p.tables.exec = Jvm.exec) (hb : c.code = cc) {own C : String} {index : Nat} (hown : s.vm.findClass own = some m.cls) (hclink : (Cond.classLink own index C).before args s = true) (hover : va_AO C s) {ws : va_W} (hK : va_K D vwCl tys s) (t0 : Nat) {cI : ClassId} (ht : tys[t0]? = some (cI, .object C)) (hP : va_P D vwCl ws H) (hD : va_D A ws) (hS : va_S A H0 H locs) (hA : ∀ q, H0.size ≤ q → A q)
    {n : Int32} {N' : Nat} (hn : ¬ n < 0) (hN : n.toNatClampNeg = N') (hbytes : N' * 4 ≤ 536870912) (hcells : cells + 1 ≤ R.cells) (hslots : slots + N' ≤ R.slots) (hdg : decode cc pc = .ok (.anewarray index, 3))
    (kk : ∀ (q : Nat) (H1 : Heap), va_P D vwCl (ws ++ [(q, .inl (cI, N', .inr (.inr (.inr (.inr (fun _ => none))))))]) H1 → va_D A (ws ++ [(q, .inl (cI, N', .inr (.inr (.inr (.inr (fun _ => none))))))]) → va_S A H0 H1 locs →
      W p l e R s m args below meth c H1 locs (cells + 1) (slots + N') Q (F0 m (pc + 3) ls (.ref q :: rest))) : W p l e R s m args below meth c H locs cells slots Q (F0 m pc ls (.int n :: rest)) := by
  refine va_newq hexec hb hown hclink hover hK hP hD hS hA hn hN hbytes hcells hslots hdg (fun q cA H1 hK1 hP1 hD1 hS1 => ?_)
  have h1 := (hK1.2 tys.length (cA, .object C) (by simp)).2
  have h2 := (hK.2 t0 (cI, .object C) ht).2
  obtain rfl := ob_RA h1 h2
  exact kk q H1 hP1 hD1 hS1
end ObBase2
theorem ob_nc0 : narrow .char (.int 0) = .int 0 := by first | rfl | decide | simp [narrow]
