theorem pc_split {w a b c d : Nat} (ha : a < 2 ^ w) (hc : c < 2 ^ w) : (2 ^ w * b + a) &&& (2 ^ w * d + c) = 2 ^ w * (b &&& d) + (a &&& c) := by
  apply Nat.eq_of_testBit_eq
  intro j
  have hac : a &&& c < 2 ^ w := Nat.and_lt_two_pow _ hc
  rw [Nat.testBit_and, Nat.testBit_two_pow_mul_add b ha, Nat.testBit_two_pow_mul_add d hc, Nat.testBit_two_pow_mul_add _ hac]
  by_cases h : j < w
  · simp [h, Nat.testBit_and]
  · simp [h, Nat.testBit_and]
def pc_ds (w : Nat) : Nat → Nat → Nat
  | 0, _ => 0
  | k + 1, n => n % 2 ^ w + pc_ds w k (n / 2 ^ w)
def pc_ev (w : Nat) : Nat → Nat → Nat
  | 0, _ => 0
  | k + 1, n => 2 ^ (2 * w) * pc_ev w k (n / 2 ^ (2 * w)) + n % 2 ^ w
def pc_mask (w : Nat) : Nat → Nat
  | 0 => 0
  | k + 1 => 2 ^ (2 * w) * pc_mask w k + (2 ^ w - 1)
theorem pc_and (w : Nat) : ∀ (k n : Nat), n &&& pc_mask w k = pc_ev w k n := by
  intro k
  induction k with
  | zero => intro n; simp [pc_mask, pc_ev]
  | succ k ih =>
    intro n
    have h0 : 0 < 2 ^ w := Nat.two_pow_pos w
    have h1 : 2 ^ w ≤ 2 ^ (2 * w) := Nat.pow_le_pow_right (by decide) (by omega)
    have e := Nat.div_add_mod n (2 ^ (2 * w))
    have h2 : n % 2 ^ (2 * w) < 2 ^ (2 * w) := Nat.mod_lt _ (Nat.two_pow_pos _)
    show n &&& (2 ^ (2 * w) * pc_mask w k + (2 ^ w - 1)) = 2 ^ (2 * w) * pc_ev w k (n / 2 ^ (2 * w)) + n % 2 ^ w
    rw [← ih, ← Nat.and_two_pow_sub_one_eq_mod n w]
    conv => lhs; rw [← e]
    rw [pc_split h2 (by omega)]
    congr 1
    rw [Nat.and_two_pow_sub_one_eq_mod, Nat.and_two_pow_sub_one_eq_mod]
    exact Nat.mod_mod_of_dvd n ⟨2 ^ w, by rw [← Nat.pow_add]; congr 1; omega⟩
theorem pc_ds2 (w : Nat) (hw : 0 < w) : ∀ (k n : Nat), pc_ds (2 * w) k (pc_ev w k n + pc_ev w k (n / 2 ^ w)) = pc_ds w (2 * k) n := by
  intro k
  induction k with
  | zero => intro n; rfl
  | succ k ih =>
    intro n
    have h0 : 0 < 2 ^ w := Nat.two_pow_pos w
    have hsq : 2 ^ (2 * w) = 2 ^ w * 2 ^ w := by rw [← Nat.pow_add]; congr 1; omega
    have h2 : 2 ≤ 2 ^ w := by
      have := Nat.pow_le_pow_right (n := 2) (by decide) hw
      simpa using this
    have a1 : n % 2 ^ w < 2 ^ w := Nat.mod_lt _ h0
    have a2 : n / 2 ^ w % 2 ^ w < 2 ^ w := Nat.mod_lt _ h0
    have hlt : n % 2 ^ w + n / 2 ^ w % 2 ^ w < 2 ^ (2 * w) := by
      rw [hsq]
      have := Nat.mul_le_mul_right (2 ^ w) h2
      omega
    have e1 : pc_ev w (k + 1) n + pc_ev w (k + 1) (n / 2 ^ w) = 2 ^ (2 * w) * (pc_ev w k (n / 2 ^ (2 * w)) + pc_ev w k (n / 2 ^ (2 * w) / 2 ^ w)) + (n % 2 ^ w + n / 2 ^ w % 2 ^ w) := by
      have e2 : n / 2 ^ w / 2 ^ (2 * w) = n / 2 ^ (2 * w) / 2 ^ w := by rw [Nat.div_div_eq_div_mul, Nat.div_div_eq_div_mul, Nat.mul_comm]
      show (2 ^ (2 * w) * pc_ev w k (n / 2 ^ (2 * w)) + n % 2 ^ w) + (2 ^ (2 * w) * pc_ev w k (n / 2 ^ w / 2 ^ (2 * w)) + n / 2 ^ w % 2 ^ w) = _
      rw [e2, Nat.mul_add]
      omega
    have e3 : 2 * (k + 1) = 2 * k + 1 + 1 := by omega
    rw [e1, e3]
    show (2 ^ (2 * w) * _ + _) % 2 ^ (2 * w) + pc_ds (2 * w) k ((2 ^ (2 * w) * _ + _) / 2 ^ (2 * w)) = n % 2 ^ w + (n / 2 ^ w % 2 ^ w + pc_ds w (2 * k) (n / 2 ^ w / 2 ^ w))
    rw [Nat.mul_add_mod, Nat.mod_eq_of_lt hlt, Nat.mul_add_div (Nat.two_pow_pos _), Nat.div_eq_of_lt hlt, Nat.add_zero, ih, Nat.div_div_eq_div_mul, hsq]
    omega
def pc_le (w b : Nat) : Nat → Nat → Prop
  | 0, n => n = 0
  | k + 1, n => n % 2 ^ w ≤ b ∧ pc_le w b k (n / 2 ^ w)
theorem pc_le_ev (w b : Nat) (hw : 0 < w) (hb : b < 2 ^ w) : ∀ (k n : Nat), pc_le w b (2 * k) n → pc_le (2 * w) (2 * b) k (pc_ev w k n + pc_ev w k (n / 2 ^ w)) := by
  intro k
  induction k with
  | zero => intro n _; rfl
  | succ k ih =>
    intro n h
    have e3 : 2 * (k + 1) = 2 * k + 1 + 1 := by omega
    rw [e3] at h
    obtain ⟨h1, h2, h3⟩ := h
    have h0 : 0 < 2 ^ w := Nat.two_pow_pos w
    have hsq : 2 ^ (2 * w) = 2 ^ w * 2 ^ w := by rw [← Nat.pow_add]; congr 1; omega
    have h4 : 2 ≤ 2 ^ w := by
      have := Nat.pow_le_pow_right (n := 2) (by decide) hw
      simpa using this
    have hlt : n % 2 ^ w + n / 2 ^ w % 2 ^ w < 2 ^ (2 * w) := by
      rw [hsq]
      have := Nat.mul_le_mul_right (2 ^ w) h4
      omega
    have e1 : pc_ev w (k + 1) n + pc_ev w (k + 1) (n / 2 ^ w) = 2 ^ (2 * w) * (pc_ev w k (n / 2 ^ (2 * w)) + pc_ev w k (n / 2 ^ (2 * w) / 2 ^ w)) + (n % 2 ^ w + n / 2 ^ w % 2 ^ w) := by
      have e2 : n / 2 ^ w / 2 ^ (2 * w) = n / 2 ^ (2 * w) / 2 ^ w := by rw [Nat.div_div_eq_div_mul, Nat.div_div_eq_div_mul, Nat.mul_comm]
      show (2 ^ (2 * w) * pc_ev w k (n / 2 ^ (2 * w)) + n % 2 ^ w) + (2 ^ (2 * w) * pc_ev w k (n / 2 ^ w / 2 ^ (2 * w)) + n / 2 ^ w % 2 ^ w) = _
      rw [e2, Nat.mul_add]
      omega
    rw [e1]
    refine ⟨?_, ?_⟩
    · rw [Nat.mul_add_mod, Nat.mod_eq_of_lt hlt]; omega
    · rw [Nat.mul_add_div (Nat.two_pow_pos _), Nat.div_eq_of_lt hlt, Nat.add_zero]
      apply ih
      rw [Nat.div_div_eq_div_mul, ← hsq] at h3
      exact h3
theorem pc_all (w : Nat) : ∀ (k n : Nat), n < 2 ^ (2 * w * k) → n = pc_ev w k n + 2 ^ w * pc_ev w k (n / 2 ^ w) := by
  intro k
  induction k with
  | zero => intro n h; simp at h; subst h; simp [pc_ev]
  | succ k ih =>
    intro n h
    have h0 : 0 < 2 ^ w := Nat.two_pow_pos w
    have hsq : 2 ^ (2 * w) = 2 ^ w * 2 ^ w := by rw [← Nat.pow_add]; congr 1; omega
    have hk : n / 2 ^ (2 * w) < 2 ^ (2 * w * k) := by
      apply Nat.div_lt_of_lt_mul
      rw [← Nat.pow_add]
      have e : 2 * w + 2 * w * k = 2 * w * (k + 1) := by rw [Nat.mul_add]; omega
      rw [e]; exact h
    have hi := ih _ hk
    have e2 : n / 2 ^ w / 2 ^ (2 * w) = n / 2 ^ (2 * w) / 2 ^ w := by rw [Nat.div_div_eq_div_mul, Nat.div_div_eq_div_mul, Nat.mul_comm]
    show n = (2 ^ (2 * w) * pc_ev w k (n / 2 ^ (2 * w)) + n % 2 ^ w) + 2 ^ w * (2 ^ (2 * w) * pc_ev w k (n / 2 ^ w / 2 ^ (2 * w)) + n / 2 ^ w % 2 ^ w)
    rw [e2]
    generalize pc_ev w k (n / 2 ^ (2 * w)) = X at hi ⊢
    generalize pc_ev w k (n / 2 ^ (2 * w) / 2 ^ w) = Y at hi ⊢
    have d1 := Nat.div_add_mod n (2 ^ w)
    have d2 := Nat.div_add_mod (n / 2 ^ w) (2 ^ w)
    rw [Nat.div_div_eq_div_mul, ← hsq, hi] at d2
    calc n = 2 ^ w * (n / 2 ^ w) + n % 2 ^ w := d1.symm
      _ = 2 ^ w * (2 ^ w * (X + 2 ^ w * Y) + n / 2 ^ w % 2 ^ w) + n % 2 ^ w := by rw [d2]
      _ = _ := by
        rw [hsq]
        generalize 2 ^ w = z
        generalize n / z % z = u
        generalize n % z = v
        grind
theorem pc_nocarry (w b : Nat) (hb : 2 * b < 2 ^ w) : ∀ (k n : Nat), pc_le w b (2 * k) n → (n + n / 2 ^ w) &&& pc_mask w k = pc_ev w k n + pc_ev w k (n / 2 ^ w) := by
  intro k
  induction k with
  | zero => intro n _; simp [pc_mask, pc_ev]
  | succ k ih =>
    intro n h
    have e3 : 2 * (k + 1) = 2 * k + 1 + 1 := by omega
    rw [e3] at h
    obtain ⟨h1, h2, h3⟩ := h
    have h0 : 0 < 2 ^ w := Nat.two_pow_pos w
    have hsq : 2 ^ (2 * w) = 2 ^ w * 2 ^ w := by rw [← Nat.pow_add]; congr 1; omega
    rw [Nat.div_div_eq_div_mul, ← hsq] at h3
    have hR : n / 2 ^ (2 * w) % 2 ^ w ≤ b := by
      cases k with
      | zero =>
        have : n / 2 ^ (2 * w) = 0 := h3
        rw [this]; simp
      | succ k => 
        have e4 : 2 * (k + 1) = 2 * k + 1 + 1 := by omega
        rw [e4] at h3
        exact h3.1
    have e2 : n / 2 ^ w / 2 ^ (2 * w) = n / 2 ^ (2 * w) / 2 ^ w := by rw [Nat.div_div_eq_div_mul, Nat.div_div_eq_div_mul, Nat.mul_comm]
    have d1 := Nat.div_add_mod n (2 ^ w)
    have d2 := Nat.div_add_mod (n / 2 ^ w) (2 ^ w)
    rw [Nat.div_div_eq_div_mul, ← hsq] at d2
    have d3 := Nat.div_add_mod (n / 2 ^ (2 * w)) (2 ^ w)
    have hlo : n % 2 ^ w + n / 2 ^ w % 2 ^ w < 2 ^ w := by omega
    have hsum : n + n / 2 ^ w = 2 ^ (2 * w) * (n / 2 ^ (2 * w) + n / 2 ^ (2 * w) / 2 ^ w) + (2 ^ w * (n / 2 ^ w % 2 ^ w + n / 2 ^ (2 * w) % 2 ^ w) + (n % 2 ^ w + n / 2 ^ w % 2 ^ w)) := by
      generalize n / 2 ^ (2 * w) / 2 ^ w = Y at d3 ⊢
      generalize n / 2 ^ (2 * w) % 2 ^ w = r at d3 ⊢
      generalize n / 2 ^ (2 * w) = X at d2 d3 ⊢
      generalize n / 2 ^ w % 2 ^ w = u at d2 ⊢
      generalize n % 2 ^ w = v at d1 ⊢
      generalize n / 2 ^ w = y at d1 d2 ⊢
      rw [hsq]
      generalize 2 ^ w = z at d1 d2 d3 ⊢
      subst d3
      subst d2
      subst d1
      grind
    have hlt2 : 2 ^ w * (n / 2 ^ w % 2 ^ w + n / 2 ^ (2 * w) % 2 ^ w) + (n % 2 ^ w + n / 2 ^ w % 2 ^ w) < 2 ^ (2 * w) := by
      have h9 : (n / 2 ^ w % 2 ^ w + n / 2 ^ (2 * w) % 2 ^ w) + 1 ≤ 2 ^ w := by omega
      have h10 := Nat.mul_le_mul_left (2 ^ w) h9
      rw [← hsq, Nat.mul_add] at h10
      omega
    have h1w : 2 ^ w - 1 < 2 ^ (2 * w) := by
      have : 2 ^ w ≤ 2 ^ (2 * w) := Nat.pow_le_pow_right (by decide) (by omega)
      omega
    show (n + n / 2 ^ w) &&& (2 ^ (2 * w) * pc_mask w k + (2 ^ w - 1)) = (2 ^ (2 * w) * pc_ev w k (n / 2 ^ (2 * w)) + n % 2 ^ w) + (2 ^ (2 * w) * pc_ev w k (n / 2 ^ w / 2 ^ (2 * w)) + n / 2 ^ w % 2 ^ w)
    rw [hsum, pc_split hlt2 h1w, ih _ h3, e2, Nat.and_two_pow_sub_one_eq_mod, Nat.mul_add_mod, Nat.mod_eq_of_lt hlo, Nat.mul_add]
    omega
theorem pc_one : ∀ (k n : Nat), n < 2 ^ k → pc_le 1 1 k n := by
  intro k
  induction k with
  | zero => intro n h; simp at h; exact h
  | succ k ih =>
    intro n h
    refine ⟨?_, ih _ ?_⟩
    · have := Nat.mod_lt n (show 0 < 2 ^ 1 by decide); omega
    · apply Nat.div_lt_of_lt_mul; rw [← Nat.pow_add]; rw [Nat.add_comm]; exact h
theorem pc_last {n : Nat} (h : pc_le 8 8 8 n) : ((n + n / 2 ^ 8 + (n + n / 2 ^ 8) / 2 ^ 16) + (n + n / 2 ^ 8 + (n + n / 2 ^ 8) / 2 ^ 16) / 2 ^ 32) % 128 = pc_ds 8 8 n ∧ n < 2 ^ 60 := by
  simp only [pc_le] at h
  simp only [pc_ds]
  obtain ⟨h0, h1, h2, h3, h4, h5, h6, h7, h8⟩ := h
  have d0 := Nat.div_add_mod n (2 ^ 8)
  generalize n % 2 ^ 8 = e0 at *
  generalize n / 2 ^ 8 = a1 at *
  have d1 := Nat.div_add_mod a1 (2 ^ 8)
  generalize a1 % 2 ^ 8 = e1 at *
  generalize a1 / 2 ^ 8 = a2 at *
  have d2 := Nat.div_add_mod a2 (2 ^ 8)
  generalize a2 % 2 ^ 8 = e2 at *
  generalize a2 / 2 ^ 8 = a3 at *
  have d3 := Nat.div_add_mod a3 (2 ^ 8)
  generalize a3 % 2 ^ 8 = e3 at *
  generalize a3 / 2 ^ 8 = a4 at *
  have d4 := Nat.div_add_mod a4 (2 ^ 8)
  generalize a4 % 2 ^ 8 = e4 at *
  generalize a4 / 2 ^ 8 = a5 at *
  have d5 := Nat.div_add_mod a5 (2 ^ 8)
  generalize a5 % 2 ^ 8 = e5 at *
  generalize a5 / 2 ^ 8 = a6 at *
  have d6 := Nat.div_add_mod a6 (2 ^ 8)
  generalize a6 % 2 ^ 8 = e6 at *
  generalize a6 / 2 ^ 8 = a7 at *
  have d7 := Nat.div_add_mod a7 (2 ^ 8)
  generalize a7 % 2 ^ 8 = e7 at *
  rw [h8] at d7
  clear h8
  have c1 : (n + a1) / 2 ^ 16 = a2 + a3 := by omega
  rw [c1]
  have c2 : (n + a1 + (a2 + a3)) / 2 ^ 32 = a4 + a5 + a6 + a7 := by
    clear c1
    omega
  rw [c2]
  clear c1 c2
  constructor
  · omega
  · omega
def pcn (n : Nat) : Nat → Nat
  | 0 => 0
  | k + 1 => pcn n k + (if n.testBit k then 1 else 0)
theorem pcn_up (n : Nat) : ∀ k : Nat, pcn n (k + 1) = n % 2 + pcn (n / 2) k := by
  intro k
  induction k with
  | zero => simp [pcn, Nat.testBit_zero]; rcases Nat.mod_two_eq_zero_or_one n with h | h <;> simp [h]
  | succ k ih =>
    show pcn n (k + 1) + _ = n % 2 + (pcn (n / 2) k + _)
    rw [ih, Nat.testBit_succ]
    omega
theorem pc_ds1 : ∀ (k n : Nat), pc_ds 1 k n = pcn n k := by
  intro k
  induction k with
  | zero => intro n; rfl
  | succ k ih =>
    intro n
    rw [pcn_up]
    show n % 2 ^ 1 + pc_ds 1 k (n / 2 ^ 1) = _
    rw [ih]
theorem pc_count {n : Nat} (hn : n < 2 ^ 64) : ∃ s1 s2 s3 s4 s5 s6 : Nat, s1 = n - (n / 2 &&& 6148914691236517205) ∧ s2 = (s1 &&& 3689348814741910323) + (s1 / 4 &&& 3689348814741910323) ∧ s3 = (s2 + s2 / 16) &&& 1085102592571150095 ∧ s4 = s3 + s3 / 2 ^ 8 ∧ s5 = s4 + s4 / 2 ^ 16 ∧ s6 = s5 + s5 / 2 ^ 32 ∧ s6 % 128 = pcn n 64 ∧ s1 < 2 ^ 64 ∧ s2 < 2 ^ 63 ∧ s3 < 2 ^ 60 ∧ n / 2 &&& 6148914691236517205 ≤ n := by
  have m1 : pc_mask 1 32 = 6148914691236517205 := by decide +kernel
  have m2 : pc_mask 2 16 = 3689348814741910323 := by decide +kernel
  have m4 : pc_mask 4 8 = 1085102592571150095 := by decide +kernel
  have a1 := pc_and 1 32 (n / 2)
  have a0 := pc_all 1 32 n hn
  have e1 : n - (n / 2 &&& 6148914691236517205) = pc_ev 1 32 n + pc_ev 1 32 (n / 2 ^ 1) := by
    rw [← m1, a1]
    have : n / 2 ^ 1 = n / 2 := by simp
    rw [this] at a0 ⊢
    omega
  have l1 : pc_le 2 2 32 (pc_ev 1 32 n + pc_ev 1 32 (n / 2 ^ 1)) := pc_le_ev 1 1 (by decide) (by decide) 32 n (pc_one 64 n hn)
  have c1 := pc_ds2 1 (by decide) 32 n
  rw [← e1] at l1 c1
  generalize hs1 : n - (n / 2 &&& 6148914691236517205) = s1 at l1 c1 ⊢
  have e2 : (s1 &&& 3689348814741910323) + (s1 / 4 &&& 3689348814741910323) = pc_ev 2 16 s1 + pc_ev 2 16 (s1 / 2 ^ 2) := by
    rw [← m2, pc_and, pc_and]
  have l2 : pc_le 4 4 16 (pc_ev 2 16 s1 + pc_ev 2 16 (s1 / 2 ^ 2)) := pc_le_ev 2 2 (by decide) (by decide) 16 s1 l1
  have c2 := pc_ds2 2 (by decide) 16 s1
  rw [← e2] at l2 c2
  generalize hs2 : (s1 &&& 3689348814741910323) + (s1 / 4 &&& 3689348814741910323) = s2 at l2 c2 ⊢
  have e3 : (s2 + s2 / 16) &&& 1085102592571150095 = pc_ev 4 8 s2 + pc_ev 4 8 (s2 / 2 ^ 4) := by
    rw [← m4]
    exact pc_nocarry 4 4 (by decide) 8 s2 l2
  have l3 : pc_le 8 8 8 (pc_ev 4 8 s2 + pc_ev 4 8 (s2 / 2 ^ 4)) := pc_le_ev 4 4 (by decide) (by decide) 8 s2 l2
  have c3 := pc_ds2 4 (by decide) 8 s2
  rw [← e3] at l3 c3
  generalize hs3 : (s2 + s2 / 16) &&& 1085102592571150095 = s3 at l3 c3 ⊢
  have z := pc_last l3
  refine ⟨s1, s2, s3, _, _, _, rfl, hs2.symm, hs3.symm, rfl, rfl, rfl, ?_, ?_, ?_, z.2, ?_⟩
  · rw [z.1, c3, c2, c1, pc_ds1]
  · omega
  · have h1 : s1 &&& 3689348814741910323 ≤ 3689348814741910323 := Nat.and_le_right
    have h2 : s1 / 4 &&& 3689348814741910323 ≤ 3689348814741910323 := Nat.and_le_right
    simp only [pc_le] at l2
    omega
  · exact Nat.le_trans Nat.and_le_left (Nat.div_le_self _ _)

def tb (x : Int64) (i : Nat) : Bool := x.toBitVec.getLsbD i
theorem tb_ext {x y : Int64} (h : ∀ i, i < 64 → tb x i = tb y i) : x = y := Int64.toBitVec_inj.mp (BitVec.eq_of_getLsbD_eq (fun i hi => h i hi))
theorem tb_or (x y : Int64) (i : Nat) : tb (x ||| y) i = (tb x i || tb y i) := by
  unfold tb; rw [Int64.toBitVec_or, BitVec.getLsbD_or]
theorem tb_and (x y : Int64) (i : Nat) : tb (x &&& y) i = (tb x i && tb y i) := by
  unfold tb; rw [Int64.toBitVec_and, BitVec.getLsbD_and]
theorem tb_not (y : Int64) {i : Nat} (hi : i < 64) : tb (y ^^^ (-1)) i = !(tb y i) := by
  unfold tb
  rw [Int64.toBitVec_xor, BitVec.getLsbD_xor, show (-1 : Int64).toBitVec = BitVec.allOnes 64 from by decide, BitVec.getLsbD_allOnes]
  simp [hi]
theorem tb_0 (i : Nat) : tb 0 i = false := by
  unfold tb; rw [show (0 : Int64).toBitVec = 0#64 from by decide, BitVec.getLsbD_zero]
theorem tb_big (x : Int64) {i : Nat} (h : 64 ≤ i) : tb x i = false := BitVec.getLsbD_of_ge _ _ h
def bi (i : Nat) : Int64 := ⟨⟨BitVec.twoPow 64 i⟩⟩
theorem tb_bi (i j : Nat) (hi : i < 64) : tb (bi i) j = decide (j = i) := by
  show (BitVec.twoPow 64 i).getLsbD j = _
  rw [BitVec.getLsbD_twoPow]
  by_cases h : j = i
  · subst h; simp [hi]
  · simp [h, Ne.symm h]
theorem bi_shl : ∀ i, i < 64 → (1 : Int64) <<< ((nI i).toInt64 &&& 63) = bi i := by decide +kernel
def b2i (b : Bool) : Int32 := if b then 1 else 0
def mem (s : Int64) (z : Int32) : Bool := decide (1 ≤ z.toInt ∧ z.toInt ≤ 62) && tb s z.toInt.toNat
theorem i0 : (0 : Int32).toInt = 0 := by decide
theorem i1 : (1 : Int32).toInt = 1 := by decide
theorem i62 : (62 : Int32).toInt = 62 := by decide
theorem i63 : (63 : Int32).toInt = 63 := by decide
theorem ushr_cnt : ∀ k, k < 64 → ((nI k).toInt64.toUInt64 &&& Int64.toUInt64 63).toNat = k := by decide +kernel
theorem bit_eq (s : Int64) {k : Nat} (hk : k < 64) : ((s.toUInt64 >>> ((nI k).toInt64.toUInt64 &&& Int64.toUInt64 63)).toInt64 &&& 1) = if tb s k then 1 else 0 := by
  apply Int64.toBitVec_inj.mp
  apply BitVec.eq_of_getLsbD_eq
  intro j hj
  rw [Int64.toBitVec_and, BitVec.getLsbD_and]
  have e : (s.toUInt64 >>> ((nI k).toInt64.toUInt64 &&& Int64.toUInt64 63)).toInt64.toBitVec = s.toBitVec >>> k := by
    apply BitVec.eq_of_toNat_eq
    show (s.toUInt64 >>> _).toNat = _
    rw [UInt64.toNat_shiftRight, ushr_cnt k hk, Nat.mod_eq_of_lt hk, BitVec.toNat_ushiftRight]
    rfl
  rw [e, BitVec.getLsbD_ushiftRight]
  by_cases h0 : j = 0
  · subst h0
    show (s.toBitVec.getLsbD (k + 0) && (1 : Int64).toBitVec.getLsbD 0) = _
    rw [Nat.add_zero, show (1 : Int64).toBitVec.getLsbD 0 = true from by decide, Bool.and_true]
    show tb s k = _
    cases h : tb s k <;> decide
  · have h1 : (1 : Int64).toBitVec.getLsbD j = false := by
      show (BitVec.ofNat 64 1).getLsbD j = false
      have h9 : (1 : Nat).testBit j = false := by
        cases hh : (1 : Nat).testBit j
        · rfl
        · exact absurd (Nat.testBit_one_eq_true_iff_self_eq_zero.mp hh) h0
      rw [BitVec.getLsbD_ofNat, h9, Bool.and_false]
    rw [h1, Bool.and_false]
    cases h : tb s k
    · show false = (0 : Int64).toBitVec.getLsbD j
      rw [show (0 : Int64).toBitVec = 0#64 from by decide, BitVec.getLsbD_zero]
    · exact h1.symm
theorem nI_z {z : Int32} {k : Nat} (h : z.toInt = (k : Int)) (hk : k < 2 ^ 31) : z = nI k := Int32.toInt_inj.mp (by rw [h, nI_toInt hk])
theorem contains_eq (s : Int64) (z : Int32) : f_OB_contains s z = some (b2i (mem s z)) := by
  unfold f_OB_contains mem
  by_cases h1 : z < 1
  · rw [if_pos h1]
    rw [Int32.lt_iff_toInt_lt, i1] at h1
    rw [decide_eq_false (by omega)]; rfl
  · rw [if_neg h1]
    rw [Int32.lt_iff_toInt_lt, i1] at h1
    by_cases h2 : (62 : Int32) < z
    · rw [if_pos h2]
      rw [Int32.lt_iff_toInt_lt, i62] at h2
      rw [decide_eq_false (by omega)]; rfl
    · rw [if_neg h2]
      rw [Int32.lt_iff_toInt_lt, i62] at h2
      obtain ⟨k, hk⟩ : ∃ k : Nat, z.toInt = (k : Int) := ⟨z.toInt.toNat, by omega⟩
      have hz := nI_z hk (by omega)
      rw [decide_eq_true (by omega), Bool.true_and, hk, Int.toNat_natCast, hz, bit_eq s (show k < 64 by omega)]
      cases h : tb s k
      · rw [if_pos ((lg_cmp_eq _ _).mpr (by simp))]; rfl
      · rw [if_neg (fun hh => absurd ((lg_cmp_eq _ _).mp hh) (by decide))]; rfl
theorem in_eq (s : Int64) (z : Int32) : f_M_in s z = some (b2i (mem s z)) := by
  unfold f_M_in mem
  by_cases h1 : z ≤ 0
  · rw [if_pos h1]
    rw [Int32.le_iff_toInt_le, i0] at h1
    rw [decide_eq_false (by omega)]; rfl
  · rw [if_neg h1]
    rw [Int32.le_iff_toInt_le, i0] at h1
    by_cases h2 : (63 : Int32) ≤ z
    · rw [if_pos h2]
      rw [Int32.le_iff_toInt_le, i63] at h2
      rw [decide_eq_false (by omega)]; rfl
    · rw [if_neg h2]
      rw [Int32.le_iff_toInt_le, i63] at h2
      obtain ⟨k, hk⟩ : ∃ k : Nat, z.toInt = (k : Int) := ⟨z.toInt.toNat, by omega⟩
      have hz := nI_z hk (by omega)
      rw [decide_eq_true (by omega), Bool.true_and, hk, Int.toNat_natCast, hz, bit_eq s (show k < 64 by omega)]
      cases h : tb s k
      · rw [if_neg (fun hh => absurd ((lg_cmp_eq _ _).mp hh) (by decide))]; rfl
      · rw [if_pos ((lg_cmp_eq _ _).mpr (by simp))]; rfl
theorem setOf_eq {i : Nat} (h0 : 0 < i) (hi : i < 64) : f_OB_setOf (nI i) = some (bi i) := by
  unfold f_OB_setOf
  rw [if_neg (nI_ne0 h0 (by omega))]
  show some ((1 : Int64) <<< ((nI i).toInt64 &&& 63)) = _
  rw [bi_shl i hi]
theorem bit_eqM {i : Nat} (h0 : 0 < i) (hi : i < 64) : f_M_bit (nI i) = some (bi i) := by
  unfold f_M_bit
  rw [if_neg (nI_nle h0 (by omega))]
  show some ((1 : Int64) <<< ((nI i).toInt64 &&& 63)) = _
  rw [bi_shl i hi]
theorem tb_nat (s : Int64) (i : Nat) : tb s i = s.toBitVec.toNat.testBit i := rfl
theorem un_shr (x : Int64) (y : Int32) (k : Nat) (hk : k < 64) (hy : (y.toInt64.toUInt64 &&& Int64.toUInt64 63).toNat = k) : ((x.toUInt64 >>> (y.toInt64.toUInt64 &&& Int64.toUInt64 63)).toInt64).toBitVec.toNat = x.toBitVec.toNat / 2 ^ k := by
  show (x.toUInt64 >>> _).toNat = _
  rw [UInt64.toNat_shiftRight, hy, Nat.mod_eq_of_lt hk, Nat.shiftRight_eq_div_pow]
  rfl
theorem un_and (x y : Int64) : (x &&& y).toBitVec.toNat = x.toBitVec.toNat &&& y.toBitVec.toNat := by
  rw [Int64.toBitVec_and, BitVec.toNat_and]
theorem un_add (x y : Int64) : (x + y).toBitVec.toNat = (x.toBitVec.toNat + y.toBitVec.toNat) % 2 ^ 64 := by
  rw [Int64.toBitVec_add, BitVec.toNat_add]
theorem un_sub (x y : Int64) : (x - y).toBitVec.toNat = (2 ^ 64 - y.toBitVec.toNat + x.toBitVec.toNat) % 2 ^ 64 := by
  rw [Int64.toBitVec_sub, BitVec.toNat_sub]
def bk1 (x : Int64) : Int64 := x - ((x.toUInt64 >>> ((1 : Int32).toInt64.toUInt64 &&& Int64.toUInt64 63)).toInt64 &&& 6148914691236517205)
def bk2 (x : Int64) : Int64 := (x &&& 3689348814741910323) + ((x.toUInt64 >>> ((2 : Int32).toInt64.toUInt64 &&& Int64.toUInt64 63)).toInt64 &&& 3689348814741910323)
def bk3 (x : Int64) : Int64 := (x + (x.toUInt64 >>> ((4 : Int32).toInt64.toUInt64 &&& Int64.toUInt64 63)).toInt64) &&& 1085102592571150095
def bk4 (x : Int64) : Int64 := x + (x.toUInt64 >>> ((8 : Int32).toInt64.toUInt64 &&& Int64.toUInt64 63)).toInt64
def bk5 (x : Int64) : Int64 := x + (x.toUInt64 >>> ((16 : Int32).toInt64.toUInt64 &&& Int64.toUInt64 63)).toInt64
def bk6 (x : Int64) : Int64 := x + (x.toUInt64 >>> ((32 : Int32).toInt64.toUInt64 &&& Int64.toUInt64 63)).toInt64
theorem un_i32 (x : Int64) : x.toInt32 = nI x.toBitVec.toNat := by
  have hx : x = lN x.toBitVec.toNat := by
    apply Int64.toBitVec_inj.mp
    show x.toBitVec = BitVec.ofNat 64 _
    simp
  conv => lhs; rw [hx]
  exact lN_i _
theorem un_127 (n : Nat) : nI n &&& 127 = nI (n % 128) := by
  rw [pk_and _ (m := 127) 7 (by decide)]
  congr 1
  show (BitVec.ofNat 32 n).toNat % 2 ^ 7 = _
  rw [BitVec.toNat_ofNat]
  omega
theorem bitCount_eq (s : Int64) : f_Long_bitCount s = some (nI (pcn s.toBitVec.toNat 64)) := by
  obtain ⟨s1, s2, s3, s4, s5, s6, e1, e2, e3, e4, e5, e6, e7, b1, b2, b3, b4⟩ := pc_count s.toBitVec.isLt
  have hlt := s.toBitVec.isLt
  have k1 : (bk1 s).toBitVec.toNat = s1 := by
    unfold bk1
    rw [un_sub, un_and, un_shr s 1 1 (by decide) (by decide), show (6148914691236517205 : Int64).toBitVec.toNat = 6148914691236517205 from by decide]
    rw [e1]
    simp only [Nat.pow_one]
    omega
  have k2 : (bk2 (bk1 s)).toBitVec.toNat = s2 := by
    unfold bk2
    rw [un_add, un_and, un_and, un_shr _ 2 2 (by decide) (by decide), k1, show (3689348814741910323 : Int64).toBitVec.toNat = 3689348814741910323 from by decide, show (2 : Nat) ^ 2 = 4 from rfl, ← e2]
    omega
  have k3 : (bk3 (bk2 (bk1 s))).toBitVec.toNat = s3 := by
    unfold bk3
    rw [un_and, un_add, un_shr _ 4 4 (by decide) (by decide), k2, show (1085102592571150095 : Int64).toBitVec.toNat = 1085102592571150095 from by decide, show (2 : Nat) ^ 4 = 16 from rfl, Nat.mod_eq_of_lt (by omega), ← e3]
  have k4 : (bk4 (bk3 (bk2 (bk1 s)))).toBitVec.toNat = s4 := by
    unfold bk4
    rw [un_add, un_shr _ 8 8 (by decide) (by decide), k3, Nat.mod_eq_of_lt (by omega), ← e4]
  have b4' : s4 < 2 ^ 61 := by omega
  have k5 : (bk5 (bk4 (bk3 (bk2 (bk1 s))))).toBitVec.toNat = s5 := by
    unfold bk5
    rw [un_add, un_shr _ 16 16 (by decide) (by decide), k4, Nat.mod_eq_of_lt (by omega), ← e5]
  have b5' : s5 < 2 ^ 62 := by omega
  have k6 : (bk6 (bk5 (bk4 (bk3 (bk2 (bk1 s)))))).toBitVec.toNat = s6 := by
    unfold bk6
    rw [un_add, un_shr _ 32 32 (by decide) (by decide), k5, Nat.mod_eq_of_lt (by omega), ← e6]
  show some ((bk6 (bk5 (bk4 (bk3 (bk2 (bk1 s)))))).toInt32 &&& 127) = _
  rw [un_i32, k6, un_127, e7]
theorem pcn_mono (n : Nat) : ∀ {j k : Nat}, j ≤ k → pcn n j ≤ pcn n k := by
  intro j k h
  induction k with
  | zero => rw [show j = 0 by omega]; exact Nat.le_refl _
  | succ k ih =>
    by_cases hj : j = k + 1
    · rw [hj]; exact Nat.le_refl _
    · exact Nat.le_trans (ih (by omega)) (Nat.le_add_right _ _)
theorem count_loop (s : Int64) : ∀ (n j c : Nat), j ≤ 63 → 63 - j < n → f_M_count_L4 s n (nI c) (nI j) = some (nI (c + (pcn s.toBitVec.toNat 63 - pcn s.toBitVec.toNat j))) := by
  intro n
  induction n with
  | zero => intro j c _ h; omega
  | succ n ih =>
    intro j c h1 h2
    show f_M_count_B4 s (f_M_count_L4 s n) (nI c) (nI j) = _
    unfold f_M_count_B4
    by_cases h : j = 63
    · subst h
      rw [if_pos (by decide)]
      rw [Nat.sub_self, Nat.add_zero]
    · rw [if_neg (show ¬ (63 : Int32) ≤ nI j from nI_ge (b := 63) (by omega) (by decide)), bit_eq s (show j < 64 by omega), nI_1]
      have hb : (if tb s j then (1 : Int64) else 0).toInt32 = nI (if tb s j then 1 else 0) := by
        cases tb s j <;> decide
      rw [hb, nI_add, ih (j + 1) _ (by omega) (by omega)]
      have hm := pcn_mono s.toBitVec.toNat (show j + 1 ≤ 63 by omega)
      have hs : pcn s.toBitVec.toNat (j + 1) = pcn s.toBitVec.toNat j + (if tb s j then 1 else 0) := rfl
      congr 2
      omega
theorem count_eq (s : Int64) : f_M_count s = some (nI (pcn s.toBitVec.toNat 63)) := by
  have h := count_loop s 1000 0 0 (by decide) (by decide)
  unfold f_M_count
  rw [show f_M_count_L4 s 1000 0 0 = f_M_count_L4 s 1000 (nI 0) (nI 0) from rfl, h]
  congr 2
  show 0 + (_ - 0) = _
  omega
def cnt (s : Int64) : Nat := pcn s.toBitVec.toNat 63
theorem cnt_64 {s : Int64} (h : tb s 63 = false) : pcn s.toBitVec.toNat 64 = cnt s := by
  show pcn s.toBitVec.toNat 63 + (if s.toBitVec.toNat.testBit 63 then 1 else 0) = _
  rw [show s.toBitVec.toNat.testBit 63 = false from h]
  rfl

def ids (s : Int64) : Prop := ∀ j, tb s j = true → 1 ≤ j ∧ j ≤ 62
theorem ids_0 : ids 0 := fun j h => by rw [tb_0] at h; cases h
theorem ids_or {a b : Int64} (ha : ids a) (hb : ids b) : ids (a ||| b) := fun j h => by
  rw [tb_or, Bool.or_eq_true] at h
  exact h.elim (ha j) (hb j)
theorem ids_bi {i : Nat} (h0 : 1 ≤ i) (h : i ≤ 62) : ids (bi i) := fun j hj => by
  rw [tb_bi i j (by omega)] at hj
  have := of_decide_eq_true hj
  omega
theorem ids_and {a b : Int64} (ha : ids a) : ids (a &&& b) := fun j h => by
  rw [tb_and, Bool.and_eq_true] at h
  exact ha j h.1
theorem ids_63 {s : Int64} (h : ids s) : tb s 63 = false := by
  cases e : tb s 63
  · rfl
  · have := h 63 e; omega
theorem ids_ext {a b : Int64} (ha : ids a) (hb : ids b) (h : ∀ j, 1 ≤ j → j ≤ 62 → tb a j = tb b j) : a = b := by
  apply tb_ext
  intro j _
  by_cases hj : 1 ≤ j ∧ j ≤ 62
  · exact h j hj.1 hj.2
  · cases e1 : tb a j
    · cases e2 : tb b j
      · rfl
      · exact absurd (hb j e2) hj
    · exact absurd (ha j e1) hj
theorem pcn_le {a b : Nat} : ∀ k : Nat, (∀ i, i < k → a.testBit i = true → b.testBit i = true) → pcn a k ≤ pcn b k := by
  intro k
  induction k with
  | zero => intro _; exact Nat.le_refl _
  | succ k ih =>
    intro h
    have h1 := ih (fun i hi => h i (by omega))
    have h2 := h k (by omega)
    show pcn a k + _ ≤ pcn b k + _
    cases ea : a.testBit k
    · simp; omega
    · rw [h2 ea]; simp; omega
theorem pcn_lt {a b : Nat} : ∀ k : Nat, (∀ i, i < k → a.testBit i = true → b.testBit i = true) → (∃ i, i < k ∧ a.testBit i = false ∧ b.testBit i = true) → pcn a k < pcn b k := by
  intro k
  induction k with
  | zero => intro _ ⟨i, hi, _⟩; omega
  | succ k ih =>
    intro h ⟨i, hi, h1, h2⟩
    show pcn a k + _ < pcn b k + _
    by_cases hk : i = k
    · subst hk
      have := pcn_le (a := a) (b := b) i (fun j hj => h j (by omega))
      rw [h1, h2]; simp; omega
    · have h3 := ih (fun j hj => h j (by omega)) ⟨i, by omega, h1, h2⟩
      have h4 := h k (by omega)
      cases ea : a.testBit k
      · simp; omega
      · rw [h4 ea]; simp; omega
theorem pcn_max {a : Nat} (h0 : a.testBit 0 = false) : ∀ k : Nat, pcn a (k + 1) ≤ k := by
  intro k
  induction k with
  | zero => show 0 + (if a.testBit 0 then 1 else 0) ≤ 0; rw [h0]; decide
  | succ k ih =>
    show pcn a (k + 1) + _ ≤ k + 1
    split <;> omega
theorem cnt_le {s : Int64} (h : ids s) : cnt s ≤ 62 := pcn_max (a := s.toBitVec.toNat) (by
  cases e : s.toBitVec.toNat.testBit 0
  · rfl
  · have := h 0 e; omega) 62
theorem cnt_lt {a b : Int64} (ha : ids a) (hb : ids b) (h : ∀ j, tb a j = true → tb b j = true) (hne : a ≠ b) : cnt a < cnt b := by
  apply pcn_lt
  · intro i _ hi; exact h i hi
  · refine Classical.byContradiction (fun hn => hne (ids_ext ha hb (fun j h1 h2 => ?_)))
    cases ea : tb a j
    · cases eb : tb b j
      · rfl
      · exact absurd ⟨j, by omega, ea, eb⟩ hn
    · exact (h j ea).symm
def orN (nb : Nat → Int64) (s : Int64) : Nat → Int64
  | 0 => 0
  | k + 1 => orN nb s k ||| (if tb s k then nb k else 0)
theorem tb_orN {nb : Nat → Int64} {s : Int64} {j : Nat} : ∀ k : Nat, tb (orN nb s k) j = true ↔ ∃ i, i < k ∧ tb s i = true ∧ tb (nb i) j = true := by
  intro k
  induction k with
  | zero =>
    constructor
    · intro h; rw [show orN nb s 0 = 0 from rfl, tb_0] at h; cases h
    · intro ⟨i, hi, _⟩; omega
  | succ k ih =>
    show tb (orN nb s k ||| (if tb s k then nb k else 0)) j = true ↔ _
    rw [tb_or, Bool.or_eq_true, ih]
    constructor
    · rintro (⟨i, h1, h2, h3⟩ | h)
      · exact ⟨i, by omega, h2, h3⟩
      · cases e : tb s k
        · rw [e] at h; simp [tb_0] at h
        · rw [e] at h; exact ⟨k, by omega, e, h⟩
    · rintro ⟨i, h1, h2, h3⟩
      by_cases hk : i = k
      · subst hk; right; rw [h2]; exact h3
      · left; exact ⟨i, by omega, h2, h3⟩
def stp (nb : Nat → Int64) (s : Int64) : Int64 := s ||| orN nb s 63
theorem tb_stp {nb : Nat → Int64} {s : Int64} {j : Nat} : tb (stp nb s) j = true ↔ tb s j = true ∨ ∃ i, i < 63 ∧ tb s i = true ∧ tb (nb i) j = true := by
  unfold stp; rw [tb_or, Bool.or_eq_true, tb_orN]
theorem ids_stp {nb : Nat → Int64} {s : Int64} (hn : ∀ i, 1 ≤ i → i ≤ 62 → ids (nb i)) (hs : ids s) : ids (stp nb s) := fun j h => by
  rcases tb_stp.mp h with h | ⟨i, _, h2, h3⟩
  · exact hs j h
  · have := hs i h2; exact hn i this.1 this.2 j h3
def itr (nb : Nat → Int64) : Nat → Int64 → Int64
  | 0, s => s
  | k + 1, s => stp nb (itr nb k s)
theorem ids_itr {nb : Nat → Int64} {s : Int64} (hn : ∀ i, 1 ≤ i → i ≤ 62 → ids (nb i)) (hs : ids s) : ∀ k, ids (itr nb k s) := by
  intro k
  induction k with
  | zero => exact hs
  | succ k ih => exact ids_stp hn ih
theorem itr_fix {nb : Nat → Int64} {s : Int64} {k : Nat} (h : stp nb (itr nb k s) = itr nb k s) : ∀ m : Nat, k ≤ m → itr nb m s = itr nb k s := by
  intro m
  induction m with
  | zero => intro hm; rw [show k = 0 by omega]
  | succ m ih =>
    intro hm
    by_cases e : k = m + 1
    · rw [e]
    · show stp nb (itr nb m s) = _
      rw [ih (by omega), h]
theorem itr_62 {nb : Nat → Int64} {s : Int64} (hn : ∀ i, 1 ≤ i → i ≤ 62 → ids (nb i)) (hs : ids s) : stp nb (itr nb 62 s) = itr nb 62 s := by
  refine Classical.byContradiction (fun hc => ?_)
  have hall : ∀ k, k ≤ 62 → stp nb (itr nb k s) ≠ itr nb k s := fun k hk h => hc (by
    have h1 := itr_fix h 62 hk
    have h2 := itr_fix h 63 (by omega)
    rw [show stp nb (itr nb 62 s) = itr nb 63 s from rfl, h1, h2])
  have hcnt : ∀ k, k ≤ 63 → k ≤ cnt (itr nb k s) := by
    intro k
    induction k with
    | zero => intro _; omega
    | succ k ih =>
      intro hk
      have h1 := ih (by omega)
      have h2 := cnt_lt (ids_itr hn hs k) (ids_stp hn (ids_itr hn hs k)) (fun j h => tb_stp.mpr (Or.inl h)) (Ne.symm (hall k (by omega)))
      show k + 1 ≤ cnt (stp nb (itr nb k s))
      omega
  have h1 := hcnt 63 (by omega)
  have h2 := cnt_le (ids_itr hn hs 63)
  omega
def reach (nb : Nat → Int64) (s : Int64) : Int64 := itr nb 62 s
theorem reach_of {nb : Nat → Int64} {s : Int64} {k : Nat} (hn : ∀ i, 1 ≤ i → i ≤ 62 → ids (nb i)) (hs : ids s) (h : stp nb (itr nb k s) = itr nb k s ∨ 62 ≤ k) : itr nb k s = reach nb s := by
  rcases h with h | h
  · by_cases hk : k ≤ 62
    · exact (itr_fix h 62 hk).symm
    · exact itr_fix (itr_62 hn hs) k (by omega)
  · exact itr_fix (itr_62 hn hs) k h

def setI (z : Int32) : Int64 := if z = 0 then 0 else (1 : Int64) <<< (z.toInt64 &&& 63)
theorem setOf_I (z : Int32) : f_OB_setOf z = some (setI z) := by
  unfold f_OB_setOf setI
  by_cases h : z = 0
  · rw [if_pos h, if_pos h]
  · rw [if_neg h, if_neg h]
theorem setI_n {i : Nat} (h : i < 64) : setI (nI i) = if i = 0 then 0 else bi i := by
  unfold setI
  by_cases h0 : i = 0
  · subst h0; rfl
  · rw [if_neg (nI_ne0 (by omega) (by omega)), if_neg h0, bi_shl i h]
theorem ids_setI {i : Nat} (h : i ≤ 62) : ids (setI (nI i)) := by
  rw [setI_n (by omega)]
  by_cases h0 : i = 0
  · rw [if_pos h0]; exact ids_0
  · rw [if_neg h0]; exact ids_bi (by omega) h
theorem valueOf_eq (v : Nat → Int64) {i f : Nat} (h1 : 1 ≤ i) (h2 : i ≤ 62) (hf : f < 8) : f_Image_valueOf v (nI i) (nI f) = some (v (i * 8 + f)) := by
  unfold f_Image_valueOf
  have e : nI i * 8 + nI f = nI (i * 8 + f) := by
    rw [show (8 : Int32) = nI 8 from rfl, pk_mul, nI_add]
  rw [if_neg (show ¬ nI i < 1 from nI_nlt (b := 1) h1 (by omega)), if_neg (show ¬ (62 : Int32) < nI i from nI_nlt (a := 62) h2 (by decide)), if_neg (nI_pos (by omega)), if_pos (show nI f < 8 from nI_lt (b := 8) hf (by decide)), e]
  rw [ob_iv_i (by rw [nI_toInt (by omega)]; omega), nI_clamp (by omega)]
def nbF (kd : Nat → Int32) (v : Nat → Int64) (i : Nat) : Nat → Int64
  | 0 => 0
  | f + 1 => nbF kd v i f ||| (if kd f = 1 then setI (v (i * 8 + f)).toInt32 else if kd f = 2 then v (i * 8 + f) else 0)
theorem nb_loop (kd : Nat → Int32) (v : Nat → Int64) {i : Nat} (h1 : 1 ≤ i) (h2 : i ≤ 62) {m : Nat} (hm : m ≤ 8) : ∀ (n f : Nat), f ≤ m → m - f < n → f_Image_neighbours_L5 (nI m) v (nI i) kd n (nbF kd v i f) (nI f) = some (nbF kd v i m) := by
  intro n
  induction n with
  | zero => intro f _ h; omega
  | succ n ih =>
    intro f hf hn
    show f_Image_neighbours_B5 (nI m) v (nI i) kd (f_Image_neighbours_L5 (nI m) v (nI i) kd n) (nbF kd v i f) (nI f) = _
    unfold f_Image_neighbours_B5
    by_cases h : f = m
    · subst h
      rw [if_pos (nI_le (Nat.le_refl f) (by omega))]
    · have hlt : f < m := by omega
      have hih := ih (f + 1) (by omega) (by omega)
      rw [if_neg (nI_ge hlt (by omega)), valueOf_eq v h1 h2 (by omega)]
      show ob_iv (nI f) 8 _ = _
      rw [ob_iv_i (by rw [nI_toInt (by omega)]; omega), nI_clamp (by omega), setOf_I, nI_1]
      have hs : nbF kd v i (f + 1) = nbF kd v i f ||| (if kd f = 1 then setI (v (i * 8 + f)).toInt32 else if kd f = 2 then v (i * 8 + f) else 0) := rfl
      by_cases k1 : kd f = 1
      · rw [if_pos k1] at hs ⊢
        rw [hs] at hih
        exact hih
      · rw [if_neg k1] at hs ⊢
        rw [ob_iv_i (by rw [nI_toInt (by omega)]; omega)]
        by_cases k2 : kd f = 2
        · rw [if_pos k2] at hs ⊢
          rw [hs] at hih
          exact hih
        · rw [if_neg k2] at hs ⊢
          have hz : nbF kd v i f ||| 0 = nbF kd v i f := by
            apply tb_ext; intro j _; rw [tb_or, tb_0, Bool.or_false]
          rw [hs, hz] at hih
          exact hih
theorem neighbours_eq (kd : Nat → Int32) (v : Nat → Int64) {i : Nat} (h1 : 1 ≤ i) (h2 : i ≤ 62) {m : Nat} (hm : m ≤ 8) : f_Image_neighbours (nI m) v kd (nI i) = some (nbF kd v i m) := by
  unfold f_Image_neighbours
  exact nb_loop kd v h1 h2 hm 1000 0 (by omega) (by omega)
def orR (nb : Nat → Int64) (s : Int64) : Nat → Nat → Int64
  | _, 0 => 0
  | j, m + 1 => (if tb s j then nb j else 0) ||| orR nb s (j + 1) m
theorem tb_orR {nb : Nat → Int64} {s : Int64} {t : Nat} : ∀ (m j : Nat), tb (orR nb s j m) t = true ↔ ∃ i, j ≤ i ∧ i < j + m ∧ tb s i = true ∧ tb (nb i) t = true := by
  intro m
  induction m with
  | zero =>
    intro j
    constructor
    · intro h; rw [show orR nb s j 0 = 0 from rfl, tb_0] at h; cases h
    · intro ⟨i, h1, h2, _⟩; omega
  | succ m ih =>
    intro j
    show tb ((if tb s j then nb j else 0) ||| orR nb s (j + 1) m) t = true ↔ _
    rw [tb_or, Bool.or_eq_true, ih]
    constructor
    · rintro (h | ⟨i, h1, h2, h3, h4⟩)
      · cases e : tb s j
        · rw [e] at h; simp [tb_0] at h
        · rw [e] at h; exact ⟨j, by omega, by omega, e, h⟩
      · exact ⟨i, by omega, by omega, h3, h4⟩
    · rintro ⟨i, h1, h2, h3, h4⟩
      by_cases hj : i = j
      · subst hj; left; rw [h3]; exact h4
      · right; exact ⟨i, by omega, by omega, h3, h4⟩
theorem or_assoc' (a b c : Int64) : a ||| b ||| c = a ||| (b ||| c) := by
  apply tb_ext; intro j _; rw [tb_or, tb_or, tb_or, tb_or, Bool.or_assoc]
theorem or_zero' (a : Int64) : a ||| 0 = a := by
  apply tb_ext; intro j _; rw [tb_or, tb_0, Bool.or_false]
theorem rx_inner {nb : Nat → Int64} {m : Nat} {v : Nat → Int64} {kd : Nat → Int32} (hm : m ≤ 8) (hnb : ∀ i, 1 ≤ i → i ≤ 62 → nb i = nbF kd v i m) (k36 : Int64 → Int64 → Int32 → Option Int64) (dn fresh : Int64) (r : Int32) : ∀ (n j : Nat) (found : Int64), 1 ≤ j → j ≤ 63 → 63 - j < n → f_Image_reachedIds_L66 k36 (nI m) v kd n found dn r fresh (nI j) = k36 (found ||| orR nb fresh j (63 - j)) dn (r + 1) := by
  intro n
  induction n with
  | zero => intro j found _ _ h; omega
  | succ n ih =>
    intro j found h1 h2 h3
    show f_Image_reachedIds_B66 k36 (nI m) v kd (f_Image_reachedIds_L66 k36 (nI m) v kd n) found dn r fresh (nI j) = _
    unfold f_Image_reachedIds_B66
    by_cases h : j = 63
    · subst h
      rw [if_pos (by decide)]
      show k36 found dn (r + 1) = k36 (found ||| 0) dn (r + 1)
      rw [or_zero']
    · rw [if_neg (show ¬ (62 : Int32) < nI j from nI_nlt (a := 62) (by omega) (by decide)), contains_eq]
      have hmem : mem fresh (nI j) = tb fresh j := by
        unfold mem
        rw [nI_toInt (by omega), decide_eq_true (by omega), Bool.true_and, Int.toNat_natCast]
      have e : 63 - j = (63 - (j + 1)) + 1 := by omega
      rw [hmem, e]
      show _ = k36 (found ||| ((if tb fresh j then nb j else 0) ||| orR nb fresh (j + 1) (63 - (j + 1)))) dn (r + 1)
      cases hb : tb fresh j
      · show f_Image_reachedIds_L66 k36 (nI m) v kd n found dn r fresh (nI j + 1) = _
        rw [nI_1, ih (j + 1) found (by omega) (by omega) (by omega)]
        rw [if_neg (by decide)]
        congr 1
        apply tb_ext; intro t _; simp [tb_or, tb_0]
      · show ((f_Image_neighbours (nI m) v kd (nI j)).bind fun o88 => f_Image_reachedIds_L66 k36 (nI m) v kd n (found ||| o88) dn r fresh (nI j + 1)) = _
        rw [neighbours_eq kd v h1 (by omega) hm]
        show f_Image_reachedIds_L66 k36 (nI m) v kd n (found ||| nbF kd v j m) dn r fresh (nI j + 1) = _
        rw [nI_1, ih (j + 1) _ (by omega) (by omega) (by omega), ← hnb j h1 (by omega), if_pos rfl, or_assoc']
theorem rx_step {nb : Nat → Int64} {found dn : Int64} (hf : ids found) (h : ∀ i j, tb dn i = true → i < 63 → tb (nb i) j = true → tb found j = true) : found ||| orR nb (found &&& (dn ^^^ (-1))) 1 62 = stp nb found := by
  apply tb_ext
  intro j hj
  have key : tb (found ||| orR nb (found &&& (dn ^^^ (-1))) 1 62) j = true ↔ tb (stp nb found) j = true := by
    rw [tb_or, Bool.or_eq_true, tb_orR, tb_stp]
    constructor
    · rintro (h1 | ⟨i, h1, h2, h3, h4⟩)
      · exact Or.inl h1
      · rw [tb_and, Bool.and_eq_true] at h3
        exact Or.inr ⟨i, by omega, h3.1, h4⟩
    · rintro (h1 | ⟨i, h1, h2, h3⟩)
      · exact Or.inl h1
      · cases hd : tb dn i
        · have := hf i h2
          refine Or.inr ⟨i, by omega, by omega, ?_, h3⟩
          rw [tb_and, tb_not dn (by omega), h2, hd]; rfl
        · exact Or.inl (h i j hd h1 h3)
  cases e1 : tb (found ||| orR nb (found &&& (dn ^^^ (-1))) 1 62) j
  · cases e2 : tb (stp nb found) j
    · rfl
    · rw [key.mpr e2] at e1; cases e1
  · rw [key.mp e1]
theorem rx_outer {nb : Nat → Int64} {m : Nat} {v : Nat → Int64} {kd : Nat → Int32} (hm : m ≤ 8) (hnb : ∀ i, 1 ≤ i → i ≤ 62 → nb i = nbF kd v i m) (hn : ∀ i, 1 ≤ i → i ≤ 62 → ids (nb i)) {root : Int64} (hr : ids root) : ∀ (n k : Nat) (dn : Int64), k ≤ 62 → 62 - k < n → (∀ i j, tb dn i = true → i < 63 → tb (nb i) j = true → tb (itr nb k root) j = true) → (itr nb k root = dn → stp nb (itr nb k root) = itr nb k root) → f_Image_reachedIds_L36 (nI m) v kd n (itr nb k root) dn (nI k) = some (reach nb root) := by
  intro n
  induction n with
  | zero => intro k dn _ h; omega
  | succ n ih =>
    intro k dn h1 h2 h3 h4
    show f_Image_reachedIds_B36 (nI m) v kd (f_Image_reachedIds_L36 (nI m) v kd n) (itr nb k root) dn (nI k) = _
    unfold f_Image_reachedIds_B36
    by_cases hk : k = 62
    · subst hk
      rw [if_pos (by decide)]
      rfl
    · rw [if_neg (show ¬ (62 : Int32) ≤ nI k from nI_ge (b := 62) (by omega) (by decide))]
      by_cases hd : itr nb k root = dn
      · rw [if_pos ((lg_cmp_eq _ _).mpr hd), reach_of hn hr (Or.inl (h4 hd))]
      · rw [if_neg (fun h => hd ((lg_cmp_eq _ _).mp h))]
        have hin := rx_inner hm hnb (f_Image_reachedIds_L36 (nI m) v kd n) (itr nb k root) (itr nb k root &&& (dn ^^^ (-1))) (nI k) 1000 1 (itr nb k root) (by decide) (by decide) (by decide)
        rw [show (1 : Int32) = nI 1 from rfl, hin, rx_step (ids_itr hn hr k) h3]
        show f_Image_reachedIds_L36 (nI m) v kd n (itr nb (k + 1) root) (itr nb k root) (nI k + 1) = _
        rw [nI_1]
        refine ih (k + 1) _ (by omega) (by omega) (fun i j h5 h6 h7 => tb_stp.mpr (Or.inr ⟨i, h6, h5, h7⟩)) (fun h => ?_)
        show stp nb (itr nb (k + 1) root) = itr nb (k + 1) root
        rw [h]; exact h
def rootF (nm : Nat → Int32) : Nat → Int64
  | 0 => 0
  | n + 1 => rootF nm n ||| setI (nm n)
theorem rx_eq {nb : Nat → Int64} {m : Nat} {v : Nat → Int64} {kd nm : Nat → Int32} (hm : m ≤ 8) (hnb : ∀ i, 1 ≤ i → i ≤ 62 → nb i = nbF kd v i m) (hn : ∀ i, 1 ≤ i → i ≤ 62 → ids (nb i)) (hr : ids (rootF nm 4)) : f_Image_reachedIds (nI m) v kd nm = some (reach nb (rootF nm 4)) := by
  have hroot : ∀ (n j : Nat), j ≤ 4 → 4 - j < n → f_Image_reachedIds_L5 (nI m) v kd nm n (rootF nm j) (nI j) = some (reach nb (rootF nm 4)) := by
    intro n
    induction n with
    | zero => intro j _ h; omega
    | succ n ih =>
      intro j h1 h2
      show f_Image_reachedIds_B5 (nI m) v kd nm (f_Image_reachedIds_L5 (nI m) v kd nm n) (rootF nm j) (nI j) = _
      unfold f_Image_reachedIds_B5
      by_cases hj : j = 4
      · subst hj
        rw [if_pos (by decide)]
        exact rx_outer hm hnb hn hr 1000 0 0 (by decide) (by decide) (fun i j h => by rw [tb_0] at h; cases h) (fun h => by
          show stp nb (rootF nm 4) = rootF nm 4
          rw [show rootF nm 4 = 0 from h]
          apply tb_ext; intro t _
          cases e : tb (stp nb 0) t
          · rw [tb_0]
          · rcases tb_stp.mp e with h9 | ⟨i, _, h9, _⟩ <;> (rw [tb_0] at h9; cases h9))
      · rw [if_neg (show ¬ (4 : Int32) ≤ nI j from nI_ge (b := 4) (by omega) (by decide)), ob_iv_i (by rw [nI_toInt (by omega)]; omega), nI_clamp (by omega), setOf_I]
        show f_Image_reachedIds_L5 (nI m) v kd nm n (rootF nm j ||| setI (nm j)) (nI j + 1) = _
        rw [nI_1]
        exact ih (j + 1) (by omega) (by omega)
  unfold f_Image_reachedIds
  exact hroot 1000 0 (by decide) (by decide)

theorem ob_bs {α β : Type} (a : α) (k : α → Option β) : (some a).bind k = k a := rfl
theorem b2i_t : ¬ b2i true = 0 := by decide
theorem b2i_f : b2i false = 0 := rfl
def fin (par : Nat → Nat) (t : Nat) : Nat → Nat → Nat
  | 0, x => x
  | n + 1, x => if x = 0 ∨ x = t then x else fin par t n (par x)
def isA (par : Nat → Nat) (c t : Nat) : Bool := decide (c ≠ 0 ∧ fin par t 6 c = t)
def parOk (pr : Nat → Int32) (par : Nat → Nat) : Prop := ∀ c, c ≤ 5 → pr c = nI (par c) ∧ par c ≤ 5 ∧ (1 ≤ c → par c < c)
theorem M_is_loop {pr : Nat → Int32} {par : Nat → Nat} (hp : parOk pr par) {t : Nat} (ht : t ≤ 5) (c : Int32) : ∀ (n k x : Nat), k ≤ 6 → 6 - k < n → x ≤ 5 → f_M_is_L5 c (nI t) pr n (nI x) (nI k) = f_M_is_J34 c (nI t) (nI (fin par t (6 - k) x)) := by
  intro n
  induction n with
  | zero => intro k x _ h; omega
  | succ n ih =>
    intro k x h1 h2 h3
    show f_M_is_B5 c (nI t) pr (f_M_is_L5 c (nI t) pr n) (nI x) (nI k) = _
    unfold f_M_is_B5
    by_cases hk : k = 6
    · subst hk
      rw [if_pos (by decide)]
      rfl
    · rw [if_neg (show ¬ (6 : Int32) ≤ nI k from nI_ge (b := 6) (by omega) (by decide))]
      have e : 6 - k = (6 - (k + 1)) + 1 := by omega
      rw [e]
      show _ = f_M_is_J34 c (nI t) (nI (if x = 0 ∨ x = t then x else fin par t (6 - (k + 1)) (par x)))
      by_cases hx : x = 0
      · rw [if_pos (show nI x = 0 by rw [hx]; rfl), if_pos (Or.inl hx)]
      · rw [if_neg (nI_ne0 (by omega) (by omega))]
        by_cases hxt : x = t
        · rw [if_pos (show nI x = nI t by rw [hxt]), if_pos (Or.inr hxt)]
        · rw [if_neg (fun h => hxt ((nI_eq (by omega) (by omega)).mp h)), if_neg (by omega), ob_iv_i (by rw [nI_toInt (by omega)]; omega), nI_clamp (by omega), nI_1, (hp x h3).1]
          exact ih (k + 1) (par x) (by omega) (by omega) (hp x h3).2.1
theorem fin_le {par : Nat → Nat} {pr : Nat → Int32} (hp : parOk pr par) {t : Nat} : ∀ (n x : Nat), x ≤ 5 → fin par t n x ≤ 5 := by
  intro n
  induction n with
  | zero => intro x h; exact h
  | succ n ih =>
    intro x h
    show (if x = 0 ∨ x = t then x else fin par t n (par x)) ≤ 5
    split
    · exact h
    · exact ih _ (hp x h).2.1
theorem M_is {pr : Nat → Int32} {par : Nat → Nat} (hp : parOk pr par) {c t : Nat} (hc : c ≤ 5) (ht : t ≤ 5) : f_M_is pr (nI c) (nI t) = some (b2i (isA par c t)) := by
  have h := M_is_loop hp ht (nI c) 1000 0 c (by decide) (by decide) hc
  unfold f_M_is
  rw [show f_M_is_L5 (nI c) (nI t) pr 1000 (nI c) 0 = f_M_is_L5 (nI c) (nI t) pr 1000 (nI c) (nI 0) from rfl, h]
  unfold f_M_is_J34 isA
  have hf := fin_le hp (t := t) 6 c hc
  by_cases h0 : c = 0
  · rw [if_pos (show nI c = 0 by rw [h0]; rfl), decide_eq_false (by omega)]; rfl
  · rw [if_neg (nI_ne0 (by omega) (by omega))]
    by_cases h1 : fin par t 6 c = t
    · rw [if_pos (by rw [show fin par t (6 - 0) c = t from h1]), decide_eq_true ⟨h0, h1⟩]; rfl
    · rw [if_neg (fun hh => h1 ((nI_eq (show fin par t (6 - 0) c < 2 ^ 31 from Nat.lt_of_le_of_lt hf (by decide)) (by omega)).mp hh)), decide_eq_false (fun hh => h1 hh.2)]; rfl
def hasF (par own : Nat → Nat) (so : Nat → Int32) (c f : Nat) (kd : Int32) : Bool := isA par c (own f) && (decide (kd < 0) || decide (so f = kd))
theorem M_has {pr ow so : Nat → Int32} {par own : Nat → Nat} (hp : parOk pr par) {m : Nat} (hm : m ≤ 8) (ho : ∀ f, f < m → ow f = nI (own f) ∧ 1 ≤ own f ∧ own f ≤ 5) {c : Nat} (hc : c ≤ 5) {f : Nat} (hf : f < m) (kd : Int32) : f_M_has (nI m) ow pr so (nI c) (nI f) kd = some (b2i (hasF par own so c f kd)) := by
  unfold f_M_has hasF
  rw [if_neg (nI_pos (by omega)), if_neg (nI_ge hf (by omega)), ob_iv_i (by rw [nI_toInt (by omega)]; omega), nI_clamp (by omega), (ho f hf).1, M_is hp hc (ho f hf).2.2]
  cases h : isA par c (own f)
  · rfl
  · rw [ob_bs, if_neg b2i_t, ob_iv_i (by rw [nI_toInt (by omega)]; omega), Bool.true_and]
    by_cases k1 : kd < 0
    · rw [if_pos k1, decide_eq_true k1]; rfl
    · rw [if_neg k1, decide_eq_false k1, Bool.false_or]
      by_cases k2 : so f = kd
      · rw [if_pos k2, decide_eq_true k2]; rfl
      · rw [if_neg k2, decide_eq_false k2]; rfl
def bitI (z : Int32) : Int64 := if z ≤ 0 then 0 else (1 : Int64) <<< (z.toInt64 &&& 63)
theorem bit_I (z : Int32) : f_M_bit z = some (bitI z) := by
  unfold f_M_bit bitI
  by_cases h : z ≤ 0
  · rw [if_pos h, if_pos h]
  · rw [if_neg h, if_neg h]
theorem bitI_n {i : Nat} (h : i < 64) : bitI (nI i) = setI (nI i) := by
  rw [setI_n h]
  unfold bitI
  by_cases h0 : i = 0
  · subst h0; rfl
  · rw [if_neg (nI_nle (by omega) (by omega)), if_neg h0, bi_shl i h]
def nbM (par own : Nat → Nat) (so : Nat → Int32) (cl : Nat → Nat) (vs : Nat → Int32) (ss : Nat → Int64) (i : Nat) : Nat → Int64
  | 0 => 0
  | f + 1 => (nbM par own so cl vs ss i f ||| (if hasF par own so (cl i) f 1 then bitI (vs (8 * i + f)) else 0)) ||| (if hasF par own so (cl i) f 2 then ss (8 * i + f) else 0)
theorem M_from_loop {pr ow so c1 vs dv : Nat → Int32} {ss ds : Nat → Int64} {par own cl : Nat → Nat} (hp : parOk pr par) {m : Nat} (hm : m ≤ 8) (ho : ∀ f, f < m → ow f = nI (own f) ∧ 1 ≤ own f ∧ own f ≤ 5) {i : Nat} (h1 : 1 ≤ i) (h2 : i ≤ 62) (hc : c1 i = nI (cl i) ∧ cl i ≤ 5) (dk : Int32) : ∀ (n f : Nat), f ≤ m → m - f < n → f_M_from_L5 (nI m) (nI i) ow pr so c1 dk ss ds vs dv n (nbM par own so cl (if dk = 0 then vs else dv) (if dk = 0 then ss else ds) i f) (nI f) = some (nbM par own so cl (if dk = 0 then vs else dv) (if dk = 0 then ss else ds) i m) := by
  intro n
  induction n with
  | zero => intro f _ h; omega
  | succ n ih =>
    intro f hf hn
    show f_M_from_B5 (nI m) (nI i) ow pr so c1 dk ss ds vs dv (f_M_from_L5 (nI m) (nI i) ow pr so c1 dk ss ds vs dv n) _ (nI f) = _
    unfold f_M_from_B5
    by_cases h : f = m
    · subst h
      rw [if_pos (nI_le (Nat.le_refl f) (by omega))]
    · have hlt : f < m := by omega
      have hih := ih (f + 1) (by omega) (by omega)
      have e : (8 : Int32) * nI i + nI f = nI (8 * i + f) := by
        rw [show (8 : Int32) = nI 8 from rfl, pk_mul, nI_add]
      have g1 : 0 ≤ (nI i).toInt ∧ (nI i).toInt < (63 : Nat) := by rw [nI_toInt (by omega)]; omega
      have g2 : 0 ≤ (nI (8 * i + f)).toInt ∧ (nI (8 * i + f)).toInt < (504 : Nat) := by rw [nI_toInt (by omega)]; omega
      rw [if_neg (nI_ge hlt (by omega)), ob_iv_i g1, nI_clamp (by omega), hc.1, M_has hp hm ho hc.2 hlt, e, nI_clamp (show 8 * i + f < 2 ^ 31 by omega)]
      have hs : nbM par own so cl (if dk = 0 then vs else dv) (if dk = 0 then ss else ds) i (f + 1) = (nbM par own so cl (if dk = 0 then vs else dv) (if dk = 0 then ss else ds) i f ||| (if hasF par own so (cl i) f 1 then bitI ((if dk = 0 then vs else dv) (8 * i + f)) else 0)) ||| (if hasF par own so (cl i) f 2 then (if dk = 0 then ss else ds) (8 * i + f) else 0) := rfl
      have h66 : ∀ x : Int64, f_M_from_J66 (nI i) (nI m) ow pr so c1 (f_M_from_L5 (nI m) (nI i) ow pr so c1 dk ss ds vs dv n) dk ss ds x (nI f) (nI (8 * i + f)) = f_M_from_L5 (nI m) (nI i) ow pr so c1 dk ss ds vs dv n (x ||| (if hasF par own so (cl i) f 2 then (if dk = 0 then ss else ds) (8 * i + f) else 0)) (nI (f + 1)) := by
        intro x
        unfold f_M_from_J66
        rw [ob_iv_i g1, nI_clamp (show i < 2 ^ 31 by omega), hc.1, M_has hp hm ho hc.2 hlt, ob_iv_i g2, ob_iv_i g2, nI_clamp (show 8 * i + f < 2 ^ 31 by omega), nI_1]
        cases hb : hasF par own so (cl i) f 2
        · rw [if_neg (show ¬ (false = true) by decide), or_zero']; rfl
        · rw [if_pos (show true = true from rfl)]
          rw [ob_bs, if_neg b2i_t]
          by_cases hd : dk = 0
          · rw [if_pos hd, if_pos hd]
          · rw [if_neg hd, if_neg hd]
      generalize nbM par own so cl (if dk = 0 then vs else dv) (if dk = 0 then ss else ds) i f = N0 at hs ⊢
      cases hb : hasF par own so (cl i) f 1
      · show f_M_from_J66 (nI i) (nI m) ow pr so c1 _ dk ss ds N0 (nI f) (nI (8 * i + f)) = _
        rw [h66, ← hih, hs, hb, if_neg (show ¬ (false = true) by decide), or_zero']
      · rw [ob_bs, if_neg b2i_t, ob_iv_i g2, ob_iv_i g2]
        unfold f_M_from_J61
        rw [bit_I, bit_I, ← hih, hs, hb, if_pos (show true = true from rfl)]
        by_cases hd : dk = 0
        · rw [if_pos hd]
          show f_M_from_J66 (nI i) (nI m) ow pr so c1 _ dk ss ds (N0 ||| bitI (vs (8 * i + f))) (nI f) (nI (8 * i + f)) = _
          rw [h66, if_pos hd, if_pos hd]
        · rw [if_neg hd]
          show f_M_from_J66 (nI i) (nI m) ow pr so c1 _ dk ss ds (N0 ||| bitI (dv (8 * i + f))) (nI f) (nI (8 * i + f)) = _
          rw [h66, if_neg hd, if_neg hd]
theorem M_from {pr ow so c1 vs dv : Nat → Int32} {ss ds : Nat → Int64} {par own cl : Nat → Nat} (hp : parOk pr par) {m : Nat} (hm : m ≤ 8) (ho : ∀ f, f < m → ow f = nI (own f) ∧ 1 ≤ own f ∧ own f ≤ 5) {i : Nat} (h1 : 1 ≤ i) (h2 : i ≤ 62) (hc : c1 i = nI (cl i) ∧ cl i ≤ 5) (dk : Int32) : f_M_from (nI m) c1 ow pr so ss ds vs dv (nI i) dk = some (nbM par own so cl (if dk = 0 then vs else dv) (if dk = 0 then ss else ds) i m) := by
  unfold f_M_from
  exact M_from_loop hp hm ho h1 h2 hc dk 1000 0 (by omega) (by omega)

def rootM (nm : Nat → Int32) : Nat → Int64
  | 0 => 0
  | n + 1 => rootM nm n ||| bitI (nm n)
theorem rm_inner {nb : Nat → Int64} {mk : Nat} (hmk : mk ≤ 62) {F : Int32} {c1 ow pr so vs dv : Nat → Int32} {ss ds : Nat → Int64} {dk : Int32} (hnb : ∀ i, 1 ≤ i → i ≤ mk → f_M_from F c1 ow pr so ss ds vs dv (nI i) dk = some (nb i)) (k47 : Int64 → Int32 → Option Int64) (all : Int64) (ps : Int32) : ∀ (n j : Nat) (more : Int64), 1 ≤ j → j ≤ mk + 1 → mk + 1 - j < n → f_M_reachedFrom_L60 (nI mk) k47 F c1 ow pr so ss ds vs dv dk n all ps more (nI j) = (if lg_cmp (more ||| orR nb all j (mk + 1 - j)) all = 0 then some all else k47 (more ||| orR nb all j (mk + 1 - j)) (ps + 1)) := by
  intro n
  induction n with
  | zero => intro j more _ _ h; omega
  | succ n ih =>
    intro j more h1 h2 h3
    show f_M_reachedFrom_B60 (nI mk) k47 F c1 ow pr so ss ds vs dv dk (f_M_reachedFrom_L60 (nI mk) k47 F c1 ow pr so ss ds vs dv dk n) all ps more (nI j) = _
    unfold f_M_reachedFrom_B60
    by_cases h : j = mk + 1
    · subst h
      rw [if_pos (nI_lt (by omega) (by omega)), Nat.sub_self]
      show _ = (if lg_cmp (more ||| 0) all = 0 then some all else k47 (more ||| 0) (ps + 1))
      rw [or_zero']
    · rw [if_neg (nI_nlt (by omega) (by omega)), in_eq]
      have hmem : mem all (nI j) = tb all j := by
        unfold mem
        rw [nI_toInt (by omega), decide_eq_true (by omega), Bool.true_and, Int.toNat_natCast]
      have e : mk + 1 - j = (mk + 1 - (j + 1)) + 1 := by omega
      rw [hmem, e]
      have ho : orR nb all j (mk + 1 - (j + 1) + 1) = (if tb all j then nb j else 0) ||| orR nb all (j + 1) (mk + 1 - (j + 1)) := rfl
      rw [ho, ob_bs]
      cases hb : tb all j
      · rw [if_pos b2i_f, nI_1, or_zero', ih (j + 1) more (by omega) (by omega) (by omega), if_neg (show ¬ (false = true) by decide)]
        have hz : (0 : Int64) ||| orR nb all (j + 1) (mk + 1 - (j + 1)) = orR nb all (j + 1) (mk + 1 - (j + 1)) := by
          apply tb_ext; intro t _; rw [tb_or, tb_0, Bool.false_or]
        rw [hz]
      · rw [if_neg b2i_t, hnb j h1 (by omega), ob_bs, nI_1, ih (j + 1) _ (by omega) (by omega) (by omega), if_pos (show true = true from rfl), or_assoc']
theorem rm_stp {nb : Nat → Int64} {mk : Nat} (hmk : mk ≤ 62) (hz : ∀ i, mk < i → nb i = 0) {all : Int64} (ha : ids all) : all ||| orR nb all 1 (mk + 1 - 1) = stp nb all := by
  apply tb_ext
  intro j _
  have key : tb (all ||| orR nb all 1 (mk + 1 - 1)) j = true ↔ tb (stp nb all) j = true := by
    rw [tb_or, Bool.or_eq_true, tb_orR, tb_stp]
    constructor
    · rintro (h1 | ⟨i, h1, h2, h3, h4⟩)
      · exact Or.inl h1
      · exact Or.inr ⟨i, by omega, h3, h4⟩
    · rintro (h1 | ⟨i, h1, h2, h3⟩)
      · exact Or.inl h1
      · by_cases hi : i ≤ mk
        · have := ha i h2
          exact Or.inr ⟨i, by omega, by omega, h2, h3⟩
        · rw [hz i (by omega), tb_0] at h3; cases h3
  cases e1 : tb (all ||| orR nb all 1 (mk + 1 - 1)) j
  · cases e2 : tb (stp nb all) j
    · rfl
    · rw [key.mpr e2] at e1; cases e1
  · rw [key.mp e1]
theorem rm_outer {nb : Nat → Int64} {mk : Nat} (hmk : mk ≤ 62) {F : Int32} {c1 ow pr so vs dv : Nat → Int32} {ss ds : Nat → Int64} {dk : Int32} (hnb : ∀ i, 1 ≤ i → i ≤ mk → f_M_from F c1 ow pr so ss ds vs dv (nI i) dk = some (nb i)) (hz : ∀ i, mk < i → nb i = 0) (hn : ∀ i, 1 ≤ i → i ≤ 62 → ids (nb i)) {root : Int64} (hr : ids root) : ∀ (n k : Nat), k ≤ 63 → 63 - k < n → f_M_reachedFrom_L47 (nI mk) F c1 ow pr so ss ds vs dv dk n (itr nb k root) (nI k) = some (reach nb root) := by
  intro n
  induction n with
  | zero => intro k _ h; omega
  | succ n ih =>
    intro k h1 h2
    show f_M_reachedFrom_B47 (nI mk) F c1 ow pr so ss ds vs dv dk (f_M_reachedFrom_L47 (nI mk) F c1 ow pr so ss ds vs dv dk n) (itr nb k root) (nI k) = _
    unfold f_M_reachedFrom_B47
    by_cases hk : k = 63
    · subst hk
      rw [if_pos (by decide), reach_of hn hr (Or.inr (by decide))]
    · rw [if_neg (show ¬ (63 : Int32) ≤ nI k from nI_ge (b := 63) (by omega) (by decide))]
      have hin := rm_inner hmk hnb (f_M_reachedFrom_L47 (nI mk) F c1 ow pr so ss ds vs dv dk n) (itr nb k root) (nI k) 1000 1 (itr nb k root) (by decide) (by omega) (by omega)
      rw [show (1 : Int32) = nI 1 from rfl, hin, rm_stp hmk hz (ids_itr hn hr k)]
      by_cases hd : stp nb (itr nb k root) = itr nb k root
      · rw [if_pos ((lg_cmp_eq _ _).mpr hd), reach_of hn hr (Or.inl hd)]
      · rw [if_neg (fun h => hd ((lg_cmp_eq _ _).mp h))]
        show f_M_reachedFrom_L47 (nI mk) F c1 ow pr so ss ds vs dv dk n (itr nb (k + 1) root) (nI k + nI 1) = _
        rw [nI_add]
        exact ih (k + 1) (by omega) (by omega)
theorem rm_eq {nb : Nat → Int64} {mk : Nat} (hmk : mk ≤ 62) {F : Int32} {c1 ow pr so vs dv nm dn : Nat → Int32} {ss ds : Nat → Int64} {dk : Int32} (hnb : ∀ i, 1 ≤ i → i ≤ mk → f_M_from F c1 ow pr so ss ds vs dv (nI i) dk = some (nb i)) (hz : ∀ i, mk < i → nb i = 0) (hn : ∀ i, 1 ≤ i → i ≤ 62 → ids (nb i)) (hr : ids (rootM (if dk = 0 then nm else dn) 4)) : f_M_reachedFrom F (nI mk) c1 ow pr so ss ds vs dv nm dn dk = some (reach nb (rootM (if dk = 0 then nm else dn) 4)) := by
  have hroot : ∀ (n j : Nat), j ≤ 4 → 4 - j < n → f_M_reachedFrom_L5 (nI mk) F c1 ow pr so ss ds vs dv dk nm dn n (rootM (if dk = 0 then nm else dn) j) (nI j) = some (reach nb (rootM (if dk = 0 then nm else dn) 4)) := by
    intro n
    induction n with
    | zero => intro j _ h; omega
    | succ n ih =>
      intro j h1 h2
      show f_M_reachedFrom_B5 (nI mk) F c1 ow pr so ss ds vs dv dk nm dn (f_M_reachedFrom_L5 (nI mk) F c1 ow pr so ss ds vs dv dk nm dn n) (rootM (if dk = 0 then nm else dn) j) (nI j) = _
      unfold f_M_reachedFrom_B5
      by_cases hj : j = 4
      · subst hj
        rw [if_pos (by decide)]
        exact rm_outer hmk hnb hz hn hr 1000 0 (by decide) (by decide)
      · have g : 0 ≤ (nI j).toInt ∧ (nI j).toInt < (4 : Nat) := by rw [nI_toInt (by omega)]; omega
        have hih := ih (j + 1) (by omega) (by omega)
        rw [if_neg (show ¬ (4 : Int32) ≤ nI j from nI_ge (b := 4) (by omega) (by decide)), ob_iv_i g, ob_iv_i g, nI_clamp (by omega)]
        unfold f_M_reachedFrom_J33
        rw [bit_I, bit_I, ob_bs, ob_bs, nI_1]
        by_cases hd : dk = 0
        · rw [if_pos hd] at hih ⊢
          rw [if_pos hd]
          exact hih
        · rw [if_neg hd] at hih ⊢
          rw [if_neg hd]
          exact hih
  unfold f_M_reachedFrom
  exact hroot 1000 0 (by decide) (by decide)

theorem fin_stab {par : Nat → Nat} (hp : ∀ c, 1 ≤ c → c ≤ 5 → par c < c) {t : Nat} : ∀ (x n : Nat), x ≤ 5 → x ≤ n → fin par t n x = fin par t x x := by
  intro x
  induction x using Nat.strongRecOn with
  | ind x ih =>
    intro n hx hn
    cases x with
    | zero =>
      cases n with
      | zero => rfl
      | succ n => show (if (0 = 0 ∨ 0 = t) then 0 else _) = 0; rw [if_pos (Or.inl rfl)]
    | succ x =>
      cases n with
      | zero => omega
      | succ n =>
        show (if x + 1 = 0 ∨ x + 1 = t then x + 1 else fin par t n (par (x + 1))) = (if x + 1 = 0 ∨ x + 1 = t then x + 1 else fin par t x (par (x + 1)))
        have h := hp (x + 1) (by omega) hx
        rw [ih (par (x + 1)) h n (by omega) (by omega), ih (par (x + 1)) h x (by omega) (by omega)]
theorem isA_up {par : Nat → Nat} (hp : ∀ c, 1 ≤ c → c ≤ 5 → par c < c) {c t : Nat} (h1 : 1 ≤ c) (h2 : c ≤ 5) (ht : 1 ≤ t) : isA par c t = (decide (c = t) || isA par (par c) t) := by
  unfold isA
  have hf : fin par t 6 c = if c = 0 ∨ c = t then c else fin par t 5 (par c) := rfl
  have hlt := hp c h1 h2
  have e5 : fin par t 5 (par c) = fin par t 6 (par c) := by
    rw [fin_stab hp (par c) 5 (by omega) (by omega), fin_stab hp (par c) 6 (by omega) (by omega)]
  rw [hf]
  by_cases hct : c = t
  · rw [if_pos (Or.inr hct), decide_eq_true hct, Bool.true_or]
    exact decide_eq_true ⟨by omega, hct⟩
  · rw [if_neg (by omega), decide_eq_false hct, Bool.false_or, e5]
    by_cases h0 : par c = 0
    · have hz : fin par t 6 (par c) = 0 := by rw [h0]; show (if (0 = 0 ∨ 0 = t) then 0 else _) = 0; rw [if_pos (Or.inl rfl)]
      rw [hz, decide_eq_false (by omega), decide_eq_false (by omega)]
    · by_cases h9 : fin par t 6 (par c) = t
      · rw [decide_eq_true ⟨by omega, h9⟩, decide_eq_true ⟨h0, h9⟩]
      · rw [decide_eq_false (fun h => h9 h.2), decide_eq_false (fun h => h9 h.2)]
theorem isA_0 (par : Nat → Nat) (t : Nat) : isA par 0 t = false := decide_eq_false (fun h => h.1 rfl)
def abOk (cc : Nat) (par ab : Nat → Nat) (above : Nat → Int32) : Prop := (∀ c, c ≤ 5 → above c = nI (ab c) ∧ ab c < 64) ∧ ab 0 = 0 ∧ ∀ c, 1 ≤ c → c ≤ cc → ab c = ab (par c) ||| 2 ^ c
theorem ab_is {cc : Nat} {par ab : Nat → Nat} {above : Nat → Int32} (hcc : cc ≤ 5) (hp : ∀ c, 1 ≤ c → c ≤ 5 → par c < c) (ha : abOk cc par ab above) {t : Nat} (ht : 1 ≤ t) : ∀ c, c ≤ cc → (ab c).testBit t = isA par c t := by
  intro c
  induction c using Nat.strongRecOn with
  | ind c ih =>
    intro hc
    by_cases h0 : c = 0
    · subst h0; rw [ha.2.1, isA_0, Nat.zero_testBit]
    · have hlt := hp c (by omega) (by omega)
      rw [ha.2.2 c (by omega) hc, Nat.testBit_or, ih (par c) hlt (by omega), isA_up hp (c := c) (by omega) (by omega) ht, Nat.testBit_two_pow, Bool.or_comm]
theorem sh_bit : ∀ a, a < 64 → ∀ t, t < 6 → ((((nI a) >>> ((nI t) &&& 31)) &&& 1 = 0) ↔ a.testBit t = false) := by decide +kernel
theorem X_isOf {cc : Nat} {par ab : Nat → Nat} {above : Nat → Int32} (hcc : cc ≤ 5) (hp : ∀ c, 1 ≤ c → c ≤ 5 → par c < c) (ha : abOk cc par ab above) {c t : Nat} (hc : c ≤ cc) (h1 : 1 ≤ t) (h2 : t ≤ 5) : f_Schema_isOf above (nI c) (nI t) = some (b2i (isA par c t)) := by
  unfold f_Schema_isOf
  rw [ob_iv_i (by rw [nI_toInt (by omega)]; omega), nI_clamp (by omega), (ha.1 c (by omega)).1, ← ab_is hcc hp ha h1 c hc]
  have hs := sh_bit (ab c) (ha.1 c (by omega)).2 t (by omega)
  cases hb : (ab c).testBit t
  · rw [if_pos (hs.mpr hb)]; rfl
  · rw [if_neg (fun h => by rw [hs.mp h] at hb; cases hb)]; rfl
theorem X_hasField {cc m : Nat} {par ab own : Nat → Nat} {above ow : Nat → Int32} (hcc : cc ≤ 5) (hp : ∀ c, 1 ≤ c → c ≤ 5 → par c < c) (ha : abOk cc par ab above) (hm : m ≤ 8) (ho : ∀ f, f < m → ow f = nI (own f) ∧ 1 ≤ own f ∧ own f ≤ 5) {c f : Nat} (hc : c ≤ cc) (hf : f < m) : f_Schema_hasField (nI m) above ow (nI c) (nI f) = some (b2i (isA par c (own f))) := by
  unfold f_Schema_hasField
  have hs := sh_bit (ab c) (ha.1 c (by omega)).2 (own f) (by have := (ho f hf).2.2; omega)
  rw [if_neg (nI_pos (by omega)), if_neg (nI_ge hf (by omega)), ob_iv_i (by rw [nI_toInt (by omega)]; omega), ob_iv_i (by rw [nI_toInt (by omega)]; omega), nI_clamp (by omega), nI_clamp (by omega), (ha.1 c (by omega)).1, (ho f hf).1, ← ab_is hcc hp ha (ho f hf).2.1 c hc]
  cases hb : (ab c).testBit (own f)
  · rw [if_pos (hs.mpr hb)]; rfl
  · rw [if_neg (fun h => by rw [hs.mp h] at hb; cases hb)]; rfl
theorem X_hasField_out {m : Nat} (hm : m ≤ 8) (above ow : Nat → Int32) (c z : Int32) (h : ¬ (0 ≤ z.toInt ∧ z.toInt < m)) : f_Schema_hasField (nI m) above ow c z = some 0 := by
  unfold f_Schema_hasField
  by_cases h1 : z < 0
  · rw [if_pos h1]
  · rw [if_neg h1]
    have h2 : nI m ≤ z := by
      rw [Int32.le_iff_toInt_le, nI_toInt (by omega)]
      rw [Int32.lt_iff_toInt_lt, i0] at h1
      omega
    rw [if_pos h2]
theorem M_has_out {m : Nat} (hm : m ≤ 8) (ow pr so : Nat → Int32) (c z kd : Int32) (h : ¬ (0 ≤ z.toInt ∧ z.toInt < m)) : f_M_has (nI m) ow pr so c z kd = some 0 := by
  unfold f_M_has
  by_cases h1 : z < 0
  · rw [if_pos h1]
  · rw [if_neg h1]
    have h2 : nI m ≤ z := by
      rw [Int32.le_iff_toInt_le, nI_toInt (by omega)]
      rw [Int32.lt_iff_toInt_lt, i0] at h1
      omega
    rw [if_pos h2]
theorem X_hasKind {cc m : Nat} {par ab own : Nat → Nat} {above ow so : Nat → Int32} (hcc : cc ≤ 5) (hp : ∀ c, 1 ≤ c → c ≤ 5 → par c < c) (ha : abOk cc par ab above) (hm : m ≤ 8) (ho : ∀ f, f < m → ow f = nI (own f) ∧ 1 ≤ own f ∧ own f ≤ 5) {c f : Nat} (hc : c ≤ cc) (hf : f < m) {kd : Int32} (hk : ¬ kd < 0) : f_Schema_hasFieldOfKind (nI m) above ow so (nI c) (nI f) kd = some (b2i (hasF par own so c f kd)) := by
  unfold f_Schema_hasFieldOfKind hasF
  rw [X_hasField hcc hp ha hm ho hc hf, ob_bs, ob_iv_i (by rw [nI_toInt (by omega)]; omega), nI_clamp (by omega), decide_eq_false hk, Bool.false_or]
  cases h : isA par c (own f)
  · rfl
  · rw [if_neg b2i_t, Bool.true_and]
    by_cases k2 : so f = kd
    · rw [if_pos k2, decide_eq_true k2]; rfl
    · rw [if_neg k2, decide_eq_false k2]; rfl
theorem X_hasKind_out {m : Nat} (hm : m ≤ 8) (above ow so : Nat → Int32) (c z kd : Int32) (h : ¬ (0 ≤ z.toInt ∧ z.toInt < m)) : f_Schema_hasFieldOfKind (nI m) above ow so c z kd = some 0 := by
  unfold f_Schema_hasFieldOfKind
  rw [X_hasField_out hm above ow c z h]; rfl

theorem M_back {dN : Nat → Int32} {dV : Nat → Int32} {dS : Nat → Int64} (op : Int32) (N V : Nat → Int32) (S : Nat → Int64) : ∃ (N' V' : Nat → Int32) (S' : Nat → Int64), f_M_back op dN N dV V dS S = some (0, N', V', S') ∧ (∀ i, i < 4 → N' i = dN i) ∧ ∀ k, k < 504 → V' k = dV k ∧ S' k = dS k := by
  have h41 : ∀ (n j : Nat) (N V : Nat → Int32) (S : Nat → Int64), j ≤ 4 → 4 - j < n → (∀ i, i < j → N i = dN i) → ∃ N' : Nat → Int32, f_M_back_L41 dN n (nI j) op N V S = some (0, N', V, S) ∧ ∀ i, i < 4 → N' i = dN i := by
    intro n
    induction n with
    | zero => intro j N V S _ h; omega
    | succ n ih =>
      intro j N V S h1 h2 h3
      show ∃ N' : Nat → Int32, f_M_back_B41 dN (f_M_back_L41 dN n) (nI j) op N V S = some (0, N', V, S) ∧ _
      unfold f_M_back_B41
      by_cases hj : j = 4
      · subst hj
        rw [if_pos (by decide)]
        exact ⟨N, rfl, h3⟩
      · have g : 0 ≤ (nI j).toInt ∧ (nI j).toInt < (4 : Nat) := by rw [nI_toInt (by omega)]; omega
        rw [if_neg (show ¬ (4 : Int32) ≤ nI j from nI_ge (b := 4) (by omega) (by decide)), ob_iv_i g, ob_iv_i g, nI_clamp (by omega), nI_1]
        refine ih (j + 1) _ V S (by omega) (by omega) (fun i hi => ?_)
        by_cases e : i = j
        · subst e; exact pk_us
        · rw [pk_un e]; exact h3 i (by omega)
  have h2 : ∀ (n j : Nat) (N V : Nat → Int32) (S : Nat → Int64), j ≤ 504 → 504 - j < n → (∀ k, k < j → V k = dV k ∧ S k = dS k) → ∃ (N' V' : Nat → Int32) (S' : Nat → Int64), f_M_back_L2 dN dV dS n (nI j) op N V S = some (0, N', V', S') ∧ (∀ i, i < 4 → N' i = dN i) ∧ ∀ k, k < 504 → V' k = dV k ∧ S' k = dS k := by
    intro n
    induction n with
    | zero => intro j N V S _ h; omega
    | succ n ih =>
      intro j N V S h1 h2 h3
      show ∃ (N' V' : Nat → Int32) (S' : Nat → Int64), f_M_back_B2 dN dV dS (f_M_back_L2 dN dV dS n) (nI j) op N V S = some (0, N', V', S') ∧ _
      unfold f_M_back_B2
      by_cases hj : j = 504
      · subst hj
        rw [if_pos (by decide)]
        obtain ⟨N', e1, e2⟩ := h41 1000 0 N V S (by decide) (by decide) (fun i h => by omega)
        exact ⟨N', V, S, e1, e2, h3⟩
      · have g : 0 ≤ (nI j).toInt ∧ (nI j).toInt < (504 : Nat) := by rw [nI_toInt (by omega)]; omega
        rw [if_neg (show ¬ (504 : Int32) ≤ nI j from nI_ge (b := 504) (by omega) (by decide)), ob_iv_i g, ob_iv_i g, ob_iv_i g, ob_iv_i g, nI_clamp (by omega), nI_1]
        refine ih (j + 1) N _ _ (by omega) (by omega) (fun k hk => ?_)
        by_cases e : k = j
        · subst e; exact ⟨pk_us, pk_uLs⟩
        · rw [pk_un e, pk_uLn e]; exact h3 k (by omega)
  unfold f_M_back
  exact h2 1000 0 N V S (by decide) (by decide) (fun k h => by omega)
theorem M_forth {N V : Nat → Int32} {S : Nat → Int64} (sl fr : Int64) (op lg mk : Int32) (dN dV : Nat → Int32) (dS : Nat → Int64) : ∃ (N' V' : Nat → Int32) (S' : Nat → Int64), f_M_forth sl op fr lg mk N dN V dV S dS = some (sl ||| fr, 0, 0, 0, N', V', S') ∧ (∀ i, i < 4 → N' i = N i) ∧ ∀ k, k < 504 → V' k = V k ∧ S' k = S k := by
  have h41 : ∀ (n j : Nat) (dN dV : Nat → Int32) (dS : Nat → Int64), j ≤ 4 → 4 - j < n → (∀ i, i < j → dN i = N i) → ∃ N' : Nat → Int32, f_M_forth_L41 fr N n (nI j) sl op lg mk dN dV dS = some (sl ||| fr, 0, 0, 0, N', dV, dS) ∧ ∀ i, i < 4 → N' i = N i := by
    intro n
    induction n with
    | zero => intro j dN dV dS _ h; omega
    | succ n ih =>
      intro j dN dV dS h1 h2 h3
      show ∃ N' : Nat → Int32, f_M_forth_B41 fr N (f_M_forth_L41 fr N n) (nI j) sl op lg mk dN dV dS = some (sl ||| fr, 0, 0, 0, N', dV, dS) ∧ _
      unfold f_M_forth_B41
      by_cases hj : j = 4
      · subst hj
        rw [if_pos (by decide)]
        exact ⟨dN, rfl, h3⟩
      · have g : 0 ≤ (nI j).toInt ∧ (nI j).toInt < (4 : Nat) := by rw [nI_toInt (by omega)]; omega
        rw [if_neg (show ¬ (4 : Int32) ≤ nI j from nI_ge (b := 4) (by omega) (by decide)), ob_iv_i g, ob_iv_i g, nI_clamp (by omega), nI_1]
        refine ih (j + 1) _ dV dS (by omega) (by omega) (fun i hi => ?_)
        by_cases e : i = j
        · subst e; exact pk_us
        · rw [pk_un e]; exact h3 i (by omega)
  have h2 : ∀ (n j : Nat) (dN dV : Nat → Int32) (dS : Nat → Int64), j ≤ 504 → 504 - j < n → (∀ k, k < j → dV k = V k ∧ dS k = S k) → ∃ (N' V' : Nat → Int32) (S' : Nat → Int64), f_M_forth_L2 fr N V S n (nI j) sl op lg mk dN dV dS = some (sl ||| fr, 0, 0, 0, N', V', S') ∧ (∀ i, i < 4 → N' i = N i) ∧ ∀ k, k < 504 → V' k = V k ∧ S' k = S k := by
    intro n
    induction n with
    | zero => intro j dN dV dS _ h; omega
    | succ n ih =>
      intro j dN dV dS h1 h2 h3
      show ∃ (N' V' : Nat → Int32) (S' : Nat → Int64), f_M_forth_B2 fr N V S (f_M_forth_L2 fr N V S n) (nI j) sl op lg mk dN dV dS = some (sl ||| fr, 0, 0, 0, N', V', S') ∧ _
      unfold f_M_forth_B2
      by_cases hj : j = 504
      · subst hj
        rw [if_pos (by decide)]
        obtain ⟨N', e1, e2⟩ := h41 1000 0 dN dV dS (by decide) (by decide) (fun i h => by omega)
        exact ⟨N', dV, dS, e1, e2, h3⟩
      · have g : 0 ≤ (nI j).toInt ∧ (nI j).toInt < (504 : Nat) := by rw [nI_toInt (by omega)]; omega
        rw [if_neg (show ¬ (504 : Int32) ≤ nI j from nI_ge (b := 504) (by omega) (by decide)), ob_iv_i g, ob_iv_i g, ob_iv_i g, ob_iv_i g, nI_clamp (by omega), nI_1]
        refine ih (j + 1) dN _ _ (by omega) (by omega) (fun k hk => ?_)
        by_cases e : k = j
        · subst e; exact ⟨pk_us, pk_uLs⟩
        · rw [pk_un e, pk_uLn e]; exact h3 k (by omega)
  unfold f_M_forth
  exact h2 1000 0 dN dV dS (by decide) (by decide) (fun k h => by omega)
def nxt (a : Int32) : Int32 := if a = -1 then a else a - 1
def wrA : Nat → Int32 → Bool × Int32
  | 0, a => (true, a)
  | k + 1, a => if a = 0 then (false, 0) else wrA k (nxt a)
theorem X_wb (w a : Int32) : f_Disk_writeBlock w a = some (if a = 0 then (0, w, a) else (1, w + 1, nxt a)) := by
  unfold f_Disk_writeBlock f_Disk_writeBlock_J27 nxt
  by_cases h0 : a = 0
  · rw [if_pos h0, if_pos h0]
  · rw [if_neg h0, if_neg h0]
    by_cases h1 : a = -1
    · rw [if_pos h1, if_pos h1]
    · rw [if_neg h1, if_neg h1]
theorem X_wbs_loop {m : Nat} (hm : m ≤ 500) : ∀ (n j : Nat) (w a : Int32), j ≤ m → m - j < n → ∃ w' : Int32, f_Disk_writeBlocks_L2 (nI m) n (nI j) w a = some (b2i (wrA (m - j) a).1, w', (wrA (m - j) a).2) := by
  intro n
  induction n with
  | zero => intro j w a _ h; omega
  | succ n ih =>
    intro j w a h1 h2
    show ∃ w' : Int32, f_Disk_writeBlocks_B2 (nI m) (f_Disk_writeBlocks_L2 (nI m) n) (nI j) w a = _
    unfold f_Disk_writeBlocks_B2
    by_cases hj : j = m
    · subst hj
      rw [if_pos (nI_le (Nat.le_refl j) (by omega)), Nat.sub_self]
      exact ⟨w, rfl⟩
    · have e : m - j = (m - (j + 1)) + 1 := by omega
      rw [if_neg (nI_ge (by omega) (by omega)), X_wb, e, ob_bs]
      show ∃ w' : Int32, _ = some (b2i (if a = 0 then (false, 0) else wrA (m - (j + 1)) (nxt a)).1, w', (if a = 0 then (false, 0) else wrA (m - (j + 1)) (nxt a)).2)
      by_cases h0 : a = 0
      · rw [if_pos h0, if_pos h0, if_pos rfl]
        exact ⟨w, by rw [h0]; rfl⟩
      · rw [if_neg h0, if_neg h0, if_neg (show ¬ (1 : Int32) = 0 by decide), nI_1]
        exact ih (j + 1) (w + 1) (nxt a) (by omega) (by omega)
theorem X_wbs {m : Nat} (hm : m ≤ 500) (w a : Int32) : ∃ w' : Int32, f_Disk_writeBlocks w a (nI m) = some (b2i (wrA m a).1, w', (wrA m a).2) := by
  obtain ⟨w', h⟩ := X_wbs_loop hm 1000 0 w a (by omega) (by omega)
  exact ⟨w', h⟩

def armOk (a : Int32) : Prop := a = -1 ∨ 0 ≤ a.toInt
theorem armOk_nxt {a : Int32} (h : armOk a) (h0 : ¬ a = 0) : armOk (nxt a) := by
  unfold nxt
  by_cases h1 : a = -1
  · rw [if_pos h1]; exact h
  · rw [if_neg h1]
    rcases h with h | h
    · exact absurd h h1
    · right
      obtain ⟨j, hj, rfl⟩ := nI_of (x := a) (by rw [Int32.lt_iff_toInt_lt, i0]; omega)
      have : j ≠ 0 := fun e => h0 (by rw [e]; rfl)
      obtain ⟨i, rfl⟩ : ∃ i, j = i + 1 := ⟨j - 1, by omega⟩
      rw [nI_pred, nI_toInt (by omega)]; omega
theorem M_fall (op mk : Int32) (dN N dV V : Nat → Int32) (dS S : Nat → Int64) : ∃ (N' V' : Nat → Int32) (S' : Nat → Int64), f_M_fall op mk dN N dV V dS S = some (0, 1, 0, 0, 0, 0, N', V', S') ∧ (mk = 0 → (∀ i, i < 4 → N' i = dN i) ∧ ∀ k, k < 504 → V' k = dV k ∧ S' k = dS k) ∧ (¬ mk = 0 → N' = N ∧ V' = V ∧ S' = S) := by
  unfold f_M_fall
  by_cases h : mk = 0
  · obtain ⟨N', V', S', e1, e2, e3⟩ := M_back (dN := dN) (dV := dV) (dS := dS) op N V S
    rw [if_pos h, e1, ob_bs]
    exact ⟨N', V', S', rfl, fun _ => ⟨e2, e3⟩, fun h9 => absurd h h9⟩
  · rw [if_neg h]
    exact ⟨N, V, S, rfl, fun h9 => absurd h9 h, fun _ => ⟨rfl, rfl, rfl⟩⟩
theorem M_write_ok {a : Int32} (ha : armOk a) (h0 : ¬ a = 0) (op dn w mk la fi lo : Int32) (to_ : Int64) (dN N dV V : Nat → Int32) (dS S : Nat → Int64) : f_M_write op dn a w mk la fi to_ lo dN N dV V dS S = some (1, op, dn, nxt a, w + 1, la, fi, to_, lo, N, V, S) := by
  unfold f_M_write f_M_write_J30 nxt
  rw [if_neg h0]
  rcases ha with h | h
  · rw [if_pos (show a ≤ 0 by rw [h]; decide), if_pos h]
    rw [Int32.sub_zero]
  · have h1 : ¬ a ≤ 0 := by
      rw [Int32.le_iff_toInt_le, i0]
      intro h9
      exact h0 (Int32.toInt_inj.mp (by rw [i0]; omega))
    have h2 : ¬ a = -1 := fun e => by rw [e] at h; exact absurd h (by decide)
    rw [if_neg h1, if_neg h2]
theorem M_write_no (op dn w mk la fi lo : Int32) (to_ : Int64) (dN N dV V : Nat → Int32) (dS S : Nat → Int64) : ∃ (N' V' : Nat → Int32) (S' : Nat → Int64), f_M_write op dn 0 w mk la fi to_ lo dN N dV V dS S = some (0, 0, 1, 0, w, 0, 0, 0, 0, N', V', S') ∧ (mk = 0 → (∀ i, i < 4 → N' i = dN i) ∧ ∀ k, k < 504 → V' k = dV k ∧ S' k = dS k) ∧ (¬ mk = 0 → N' = N ∧ V' = V ∧ S' = S) := by
  obtain ⟨N', V', S', e1, e2, e3⟩ := M_fall op mk dN N dV V dS S
  refine ⟨N', V', S', ?_, e2, e3⟩
  unfold f_M_write
  rw [if_pos rfl, e1]
  rfl
def lgA : Nat → Int32 → Nat
  | 0, _ => 0
  | k + 1, a => if a = 0 then 0 else lgA k (nxt a) + 1
theorem lgA_le : ∀ (k : Nat) (a : Int32), lgA k a ≤ k := by
  intro k
  induction k with
  | zero => intro a; exact Nat.le_refl _
  | succ k ih =>
    intro a
    show (if a = 0 then 0 else lgA k (nxt a) + 1) ≤ k + 1
    split
    · omega
    · have := ih (nxt a); omega
theorem lgA_all : ∀ (k : Nat) (a : Int32), (wrA k a).1 = true → lgA k a = k := by
  intro k
  induction k with
  | zero => intro a _; rfl
  | succ k ih =>
    intro a h
    have h' : (if a = 0 then (false, (0 : Int32)) else wrA k (nxt a)).1 = true := h
    show (if a = 0 then 0 else lgA k (nxt a) + 1) = k + 1
    by_cases h0 : a = 0
    · rw [if_pos h0] at h'; cases h'
    · rw [if_neg h0] at h' ⊢; rw [ih _ h']
theorem wrA_no : ∀ (k : Nat) (a : Int32), (wrA k a).1 = false → (wrA k a).2 = 0 := by
  intro k
  induction k with
  | zero => intro a h; cases h
  | succ k ih =>
    intro a h
    have h' : (if a = 0 then (false, (0 : Int32)) else wrA k (nxt a)).1 = false := h
    show (if a = 0 then (false, (0 : Int32)) else wrA k (nxt a)).2 = 0
    by_cases h0 : a = 0
    · rw [if_pos h0]
    · rw [if_neg h0] at h' ⊢; exact ih _ h'
theorem armOk_wrA : ∀ (k : Nat) (a : Int32), armOk a → armOk (wrA k a).2 := by
  intro k
  induction k with
  | zero => intro a h; exact h
  | succ k ih =>
    intro a h
    show armOk (if a = 0 then (false, (0 : Int32)) else wrA k (nxt a)).2
    by_cases h0 : a = 0
    · rw [if_pos h0]; right; rw [i0]; exact Int.le_refl _
    · rw [if_neg h0]; exact ih _ (armOk_nxt h h0)
theorem X_log_loop {m : Nat} (hm : m ≤ 500) (mk : Int32) : ∀ (n j : Nat) (w a : Int32) (g : Nat), j ≤ m → m - j < n → ∃ w' : Int32, f_Disk_writeLog_L2 (nI m) n (nI j) w a (nI g) mk = some (if (wrA (m - j) a).1 then (if (wrA (m - j) a).2 = 0 then (0, w', 0, nI (g + (m - j)), 0) else (1, w', nxt (wrA (m - j) a).2, nI (g + (m - j)), 1)) else (0, w', 0, nI (g + lgA (m - j) a), mk)) := by
  intro n
  induction n with
  | zero => intro j w a g _ h; omega
  | succ n ih =>
    intro j w a g h1 h2
    show ∃ w' : Int32, f_Disk_writeLog_B2 (nI m) (f_Disk_writeLog_L2 (nI m) n) (nI j) w a (nI g) mk = _
    unfold f_Disk_writeLog_B2
    by_cases hj : j = m
    · subst hj
      rw [if_pos (nI_le (Nat.le_refl j) (by omega)), Nat.sub_self, X_wb, ob_bs]
      show ∃ w' : Int32, _ = some (if true = true then (if a = 0 then (0, w', 0, nI (g + 0), 0) else (1, w', nxt a, nI (g + 0), 1)) else _)
      rw [Nat.add_zero]
      by_cases h0 : a = 0
      · refine ⟨w, ?_⟩
        rw [if_pos rfl, if_pos h0, if_pos h0]
        rw [h0]; rfl
      · refine ⟨w + 1, ?_⟩
        rw [if_pos rfl, if_neg h0, if_neg h0]
        rfl
    · have e : m - j = (m - (j + 1)) + 1 := by omega
      rw [if_neg (nI_ge (by omega) (by omega)), X_wb, e, ob_bs]
      have hw : wrA (m - (j + 1) + 1) a = (if a = 0 then (false, 0) else wrA (m - (j + 1)) (nxt a)) := rfl
      have hg : lgA (m - (j + 1) + 1) a = (if a = 0 then 0 else lgA (m - (j + 1)) (nxt a) + 1) := rfl
      rw [hw, hg]
      by_cases h0 : a = 0
      · refine ⟨w, ?_⟩
        rw [if_pos h0, if_pos h0, if_pos h0, if_pos rfl, if_neg (by decide), Nat.add_zero, h0]
      · rw [if_neg h0, if_neg h0, if_neg h0, if_neg (show ¬ (1 : Int32) = 0 by decide), nI_1, nI_1]
        obtain ⟨w', hh⟩ := ih (j + 1) (w + 1) (nxt a) (g + 1) (by omega) (by omega)
        refine ⟨w', hh.trans ?_⟩
        rw [show g + 1 + (m - (j + 1)) = g + (m - (j + 1) + 1) by omega, show g + 1 + lgA (m - (j + 1)) (nxt a) = g + (lgA (m - (j + 1)) (nxt a) + 1) by omega]
theorem X_log {m : Nat} (hm : m ≤ 500) (w a mk : Int32) : ∃ w' : Int32, f_Disk_writeLog w a 0 mk (nI m) = some (if (wrA m a).1 then (if (wrA m a).2 = 0 then (0, w', 0, nI m, 0) else (1, w', nxt (wrA m a).2, nI m, 1)) else (0, w', 0, nI (lgA m a), mk)) := by
  obtain ⟨w', h⟩ := X_log_loop hm mk 1000 0 w a 0 (by omega) (by omega)
  refine ⟨w', ?_⟩
  unfold f_Disk_writeLog
  rw [show f_Disk_writeLog_L2 (nI m) 1000 0 w a 0 mk = f_Disk_writeLog_L2 (nI m) 1000 (nI 0) w a (nI 0) mk from rfl, h]
  rw [Nat.sub_zero, Nat.zero_add, Nat.zero_add]
theorem wrA_add : ∀ (k : Nat) (a : Int32), wrA (k + 1) a = (if (wrA k a).1 then (if (wrA k a).2 = 0 then (false, 0) else (true, nxt (wrA k a).2)) else (false, 0)) := by
  intro k
  induction k with
  | zero =>
    intro a
    show (if a = 0 then (false, (0 : Int32)) else (true, nxt a)) = (if true = true then (if a = 0 then (false, 0) else (true, nxt a)) else (false, 0))
    rw [if_pos (show true = true from rfl)]
  | succ k ih =>
    intro a
    show (if a = 0 then (false, (0 : Int32)) else wrA (k + 1) (nxt a)) = _
    have h1 : wrA (k + 1) a = (if a = 0 then (false, (0 : Int32)) else wrA k (nxt a)) := rfl
    rw [h1]
    by_cases h0 : a = 0
    · rw [if_pos h0, if_pos h0, if_neg (show ¬ ((false, (0 : Int32)).1 = true) by decide)]
    · rw [if_neg h0, if_neg h0]; exact ih (nxt a)
theorem X_home {m : Nat} (hm : m ≤ 500) (w a mk : Int32) : ∃ w' : Int32, f_Disk_writeHome w a (nI m) mk = some (if (wrA (m + 1) a).1 then (1, w', (wrA (m + 1) a).2, 0, 0) else (0, w', 0, nI m, mk)) := by
  obtain ⟨w1, h1⟩ := X_wbs hm w a
  unfold f_Disk_writeHome
  rw [h1, ob_bs, wrA_add]
  cases hb : (wrA m a).1
  · refine ⟨w1, ?_⟩
    rw [if_pos (show b2i false = 0 from rfl), wrA_no m a hb, if_neg (show ¬ (false = true) by decide), if_neg (show ¬ ((false, (0 : Int32)).1 = true) by decide)]
  · rw [if_neg b2i_t, if_pos (show true = true from rfl), X_wb, ob_bs]
    by_cases h0 : (wrA m a).2 = 0
    · refine ⟨w1, ?_⟩
      rw [if_pos h0, if_pos h0, if_pos rfl, if_neg (show ¬ ((false, (0 : Int32)).1 = true) by decide), h0]
    · refine ⟨w1 + 1, ?_⟩
      rw [if_neg h0, if_neg h0, if_neg (show ¬ (1 : Int32) = 0 by decide), if_pos (show (true, nxt (wrA m a).2).1 = true from rfl)]
theorem wrA_m1 : ∀ k : Nat, wrA k (-1) = (true, -1) := by
  intro k
  induction k with
  | zero => rfl
  | succ k ih =>
    show (if (-1 : Int32) = 0 then (false, (0 : Int32)) else wrA k (nxt (-1))) = _
    rw [if_neg (by decide), show nxt (-1) = -1 from rfl, ih]

theorem mem_n (s : Int64) {j : Nat} (h1 : 1 ≤ j) (h2 : j ≤ 62) : mem s (nI j) = tb s j := by
  unfold mem
  rw [nI_toInt (by omega), decide_eq_true (by omega), Bool.true_and, Int.toNat_natCast]
theorem X_count {cl : Nat → Int32} {s : Int64} (hs : ids s) (h : ∀ i, 1 ≤ i → i ≤ 62 → (cl i = 0 ↔ tb s i = false)) : f_Image_objectCount cl = some (nI (cnt s)) := by
  have hl : ∀ (n j : Nat), 1 ≤ j → j ≤ 63 → 63 - j < n → f_Image_objectCount_L4 cl n (nI (pcn s.toBitVec.toNat j)) (nI j) = some (nI (cnt s)) := by
    intro n
    induction n with
    | zero => intro j _ _ h; omega
    | succ n ih =>
      intro j h1 h2 h3
      show f_Image_objectCount_B4 cl (f_Image_objectCount_L4 cl n) (nI (pcn s.toBitVec.toNat j)) (nI j) = _
      unfold f_Image_objectCount_B4
      by_cases hj : j = 63
      · subst hj
        rw [if_pos (by decide)]
        rfl
      · have g : 0 ≤ (nI j).toInt ∧ (nI j).toInt < (63 : Nat) := by rw [nI_toInt (by omega)]; omega
        rw [if_neg (show ¬ (62 : Int32) < nI j from nI_nlt (a := 62) (by omega) (by decide)), ob_iv_i g, nI_clamp (by omega), nI_1, nI_1]
        have hp : pcn s.toBitVec.toNat (j + 1) = pcn s.toBitVec.toNat j + (if tb s j then 1 else 0) := rfl
        have hi := h j h1 (by omega)
        have hih := ih (j + 1) (by omega) (by omega) (by omega)
        by_cases h0 : cl j = 0
        · rw [if_pos h0]
          rw [hp, hi.mp h0] at hih
          exact hih
        · rw [if_neg h0]
          have hb : tb s j = true := by
            cases hb : tb s j
            · exact absurd (hi.mpr hb) h0
            · rfl
          rw [hp, hb] at hih
          exact hih
  have h0 : pcn s.toBitVec.toNat 1 = 0 := by
    show 0 + (if tb s 0 then 1 else 0) = 0
    cases e : tb s 0
    · rfl
    · have := hs 0 e; omega
  have := hl 1000 1 (by decide) (by decide) (by decide)
  rw [h0] at this
  exact this
theorem X_keep (cl : Nat → Int32) (s : Int64) : ∃ cl' : Nat → Int32, f_Image_keepOnly cl s = some cl' ∧ (∀ i, 1 ≤ i → i ≤ 62 → cl' i = if tb s i then cl i else 0) ∧ cl' 0 = cl 0 := by
  have hl : ∀ (n j : Nat) (c : Nat → Int32), 1 ≤ j → j ≤ 63 → 63 - j < n → ∃ cl' : Nat → Int32, f_Image_keepOnly_L2 s n (nI j) c = some cl' ∧ (∀ i, i < j → cl' i = c i) ∧ ∀ i, j ≤ i → i ≤ 62 → cl' i = if tb s i then c i else 0 := by
    intro n
    induction n with
    | zero => intro j c _ _ h; omega
    | succ n ih =>
      intro j c h1 h2 h3
      show ∃ cl' : Nat → Int32, f_Image_keepOnly_B2 s (f_Image_keepOnly_L2 s n) (nI j) c = some cl' ∧ _
      unfold f_Image_keepOnly_B2
      by_cases hj : j = 63
      · subst hj
        rw [if_pos (by decide)]
        exact ⟨c, rfl, fun i _ => rfl, fun i h4 h5 => by omega⟩
      · have g : 0 ≤ (nI j).toInt ∧ (nI j).toInt < (63 : Nat) := by rw [nI_toInt (by omega)]; omega
        rw [if_neg (show ¬ (62 : Int32) < nI j from nI_nlt (a := 62) (by omega) (by decide)), contains_eq, mem_n s h1 (by omega), ob_bs, ob_iv_i g, nI_clamp (by omega), nI_1]
        cases hb : tb s j
        · rw [if_pos b2i_f]
          obtain ⟨cl', e1, e2, e3⟩ := ih (j + 1) (upd c j 0) (by omega) (by omega) (by omega)
          refine ⟨cl', e1, fun i hi => ?_, fun i h4 h5 => ?_⟩
          · rw [e2 i (by omega), pk_un (by omega)]
          · by_cases e : i = j
            · subst e; rw [e2 i (by omega), pk_us, hb]; rfl
            · rw [e3 i (by omega) h5, pk_un e]
        · rw [if_neg b2i_t]
          obtain ⟨cl', e1, e2, e3⟩ := ih (j + 1) c (by omega) (by omega) (by omega)
          refine ⟨cl', e1, fun i hi => e2 i (by omega), fun i h4 h5 => ?_⟩
          by_cases e : i = j
          · subst e; rw [e2 i (by omega), hb]; rfl
          · exact e3 i (by omega) h5
  obtain ⟨cl', e1, e2, e3⟩ := hl 1000 1 cl (by decide) (by decide) (by decide)
  exact ⟨cl', e1, fun i h1 h2 => e3 i h1 h2, e2 0 (by decide)⟩
theorem X_classAt (cl : Nat → Int32) {i : Nat} (h1 : 1 ≤ i) (h2 : i ≤ 62) : f_Image_classAt cl (nI i) = some (cl i) := by
  unfold f_Image_classAt
  rw [if_neg (show ¬ nI i < 1 from nI_nlt (b := 1) h1 (by omega)), if_neg (show ¬ (62 : Int32) < nI i from nI_nlt (a := 62) h2 (by decide)), ob_iv_i (by rw [nI_toInt (by omega)]; omega), nI_clamp (by omega)]
theorem X_classAt_out (cl : Nat → Int32) {z : Int32} (h : ¬ (1 ≤ z.toInt ∧ z.toInt ≤ 62)) : f_Image_classAt cl z = some 0 := by
  unfold f_Image_classAt
  by_cases h1 : z < 1
  · rw [if_pos h1]
  · rw [if_neg h1]
    have h2 : (62 : Int32) < z := by
      rw [Int32.lt_iff_toInt_lt, i62]
      rw [Int32.lt_iff_toInt_lt, i1] at h1
      omega
    rw [if_pos h2]
theorem pcn_or {a b : Nat} : ∀ k : Nat, (∀ i, i < k → ¬ (a.testBit i = true ∧ b.testBit i = true)) → pcn (a ||| b) k = pcn a k + pcn b k := by
  intro k
  induction k with
  | zero => intro _; rfl
  | succ k ih =>
    intro h
    have h1 := ih (fun i hi => h i (by omega))
    have h2 := h k (by omega)
    show pcn (a ||| b) k + (if (a ||| b).testBit k then 1 else 0) = (pcn a k + (if a.testBit k then 1 else 0)) + (pcn b k + (if b.testBit k then 1 else 0))
    rw [h1, Nat.testBit_or]
    cases ea : a.testBit k <;> cases eb : b.testBit k
    · simp
    · simp; omega
    · simp; omega
    · exact absurd ⟨ea, eb⟩ h2
theorem cnt_or {a b : Int64} (h : ∀ i, ¬ (tb a i = true ∧ tb b i = true)) : cnt (a ||| b) = cnt a + cnt b := by
  unfold cnt
  rw [Int64.toBitVec_or, BitVec.toNat_or]
  exact pcn_or 63 (fun i _ => h i)

theorem M_c119 {fr : Int64} {sz : Nat} (hsz : sz ≤ 400) (sl : Int64) (op dn lg la fi lo : Int32) (to_ : Int64) (dN N dV V : Nat → Int32) (dS S : Nat → Int64) : ∀ (n j : Nat) (w a : Int32), armOk a → j ≤ sz + 1 → sz + 1 - j < n → ∃ (w' : Int32) (N' V' : Nat → Int32) (S' : Nat → Int64), f_M_commit_L119 fr n (nI j) sl op dn a w lg 1 (nI sz) la fi to_ lo dN N dV V dS S = some (if (wrA (sz + 1 - j) a).1 then (nI sz, sl ||| fr, 0, dn, (wrA (sz + 1 - j) a).2, w', 0, 0, nI sz, la, fi, to_, lo, N', N, V', V, S', S) else (-4, sl, 0, 1, 0, w', lg, 1, nI sz, 0, 0, 0, 0, dN, N, dV, V, dS, S)) ∧ (∀ i, i < 4 → N' i = N i) ∧ ∀ k, k < 504 → V' k = V k ∧ S' k = S k := by
  intro n
  induction n with
  | zero => intro j w a _ _ h; omega
  | succ n ih =>
    intro j w a ha h1 h2
    show ∃ (w' : Int32) (N' V' : Nat → Int32) (S' : Nat → Int64), f_M_commit_B119 fr (f_M_commit_L119 fr n) (nI j) sl op dn a w lg 1 (nI sz) la fi to_ lo dN N dV V dS S = _ ∧ _
    unfold f_M_commit_B119
    by_cases hj : j = sz + 1
    · subst hj
      obtain ⟨N', V', S', e1, e2, e3⟩ := M_forth (N := N) (V := V) (S := S) sl fr op lg 1 dN dV dS
      refine ⟨w, N', V', S', ?_, e2, e3⟩
      rw [if_pos (nI_lt (by omega) (by omega)), e1, ob_bs, Nat.sub_self]
      rfl
    · have e : sz + 1 - j = (sz + 1 - (j + 1)) + 1 := by omega
      have hw : wrA (sz + 1 - (j + 1) + 1) a = (if a = 0 then (false, 0) else wrA (sz + 1 - (j + 1)) (nxt a)) := rfl
      rw [if_neg (nI_nlt (by omega) (by omega)), e, hw]
      by_cases h0 : a = 0
      · subst h0
        obtain ⟨N', V', S', e1, e2, e3⟩ := M_write_no op dn w 1 la fi lo to_ dN N dV V dS S
        obtain ⟨rfl, rfl, rfl⟩ := e3 (by decide)
        refine ⟨w, N', V', S', ?_, fun _ _ => rfl, fun _ _ => ⟨rfl, rfl⟩⟩
        rw [e1, ob_bs, if_pos rfl, if_pos rfl, if_neg (show ¬ ((false, (0 : Int32)).1 = true) by decide)]
      · rw [M_write_ok ha h0, ob_bs, if_neg (show ¬ (1 : Int32) = 0 by decide), if_neg h0, nI_1]
        exact ih (j + 1) (w + 1) (nxt a) (armOk_nxt ha h0) (by omega) (by omega)
theorem M_c68 {fr : Int64} {sz : Nat} (hsz : sz ≤ 400) (sl : Int64) (op dn la fi lo : Int32) (to_ : Int64) (dN N dV V : Nat → Int32) (dS S : Nat → Int64) : ∀ (n j : Nat) (w a : Int32) (g : Nat), armOk a → j ≤ sz → sz - j < n → ∃ (w' : Int32) (N' V' : Nat → Int32) (S' : Nat → Int64), f_M_commit_L68 fr n (nI j) sl op dn a w (nI g) 0 (nI sz) la fi to_ lo dN N dV V dS S = (if (wrA (sz - j) a).1 ∧ ¬ (wrA (sz - j) a).2 = 0 then f_M_commit_L119 fr 1000 0 sl op dn (nxt (wrA (sz - j) a).2) w' (nI (g + (sz - j))) 1 (nI sz) la fi to_ lo dN N dV V dS S else some (-4, sl, 0, 1, 0, w', nI (g + lgA (sz - j) a), 0, nI sz, 0, 0, 0, 0, dN, N', dV, V', dS, S')) ∧ (∀ i, i < 4 → N' i = dN i) ∧ ∀ k, k < 504 → V' k = dV k ∧ S' k = dS k := by
  intro n
  induction n with
  | zero => intro j w a g _ _ h; omega
  | succ n ih =>
    intro j w a g ha h1 h2
    show ∃ (w' : Int32) (N' V' : Nat → Int32) (S' : Nat → Int64), f_M_commit_B68 fr (f_M_commit_L68 fr n) (nI j) sl op dn a w (nI g) 0 (nI sz) la fi to_ lo dN N dV V dS S = _ ∧ _
    unfold f_M_commit_B68
    obtain ⟨N', V', S', e1, e2, e3⟩ := M_write_no op dn w 0 la fi lo to_ dN N dV V dS S
    have e2 := e2 rfl
    by_cases hj : j = sz
    · subst hj
      rw [if_pos (nI_le (Nat.le_refl j) (by omega)), Nat.sub_self]
      by_cases h0 : a = 0
      · subst h0
        refine ⟨w, N', V', S', ?_, e2⟩
        rw [e1, ob_bs, if_pos rfl, if_neg (fun h => h.2 rfl)]
        rfl
      · refine ⟨w + 1, N', V', S', ?_, e2⟩
        rw [M_write_ok ha h0, ob_bs, if_neg (show ¬ (1 : Int32) = 0 by decide), if_pos (show (wrA 0 a).1 = true ∧ ¬ (wrA 0 a).2 = 0 from ⟨rfl, h0⟩)]
        rfl
    · have e : sz - j = (sz - (j + 1)) + 1 := by omega
      have hw : wrA (sz - (j + 1) + 1) a = (if a = 0 then (false, 0) else wrA (sz - (j + 1)) (nxt a)) := rfl
      have hg : lgA (sz - (j + 1) + 1) a = (if a = 0 then 0 else lgA (sz - (j + 1)) (nxt a) + 1) := rfl
      rw [if_neg (nI_ge (by omega) (by omega)), e, hw, hg]
      by_cases h0 : a = 0
      · subst h0
        refine ⟨w, N', V', S', ?_, e2⟩
        rw [e1, ob_bs, if_pos rfl, if_pos rfl, if_pos rfl, if_neg (fun h => absurd h.1 (by decide)), Nat.add_zero]
      · rw [M_write_ok ha h0, ob_bs, if_neg (show ¬ (1 : Int32) = 0 by decide), if_neg h0, if_neg h0, nI_1, nI_1]
        obtain ⟨w', N2, V2, S2, hh, hr⟩ := ih (j + 1) (w + 1) (nxt a) (g + 1) (armOk_nxt ha h0) (by omega) (by omega)
        refine ⟨w', N2, V2, S2, hh.trans ?_, hr⟩
        rw [show g + 1 + (sz - (j + 1)) = g + (sz - (j + 1) + 1) by omega, show g + 1 + lgA (sz - (j + 1)) (nxt a) = g + (lgA (sz - (j + 1)) (nxt a) + 1) by omega]

theorem M_c33 {q : Nat} (hq : q ≤ 400) (st sl : Int64) (half op dn la fi lo : Int32) (to_ : Int64) (dN N dV V : Nat → Int32) (dS S : Nat → Int64) : ∀ (n j : Nat) (w a : Int32), armOk a → j ≤ q + 1 → q + 1 - j < n → ∃ (w' : Int32) (N' V' : Nat → Int32) (S' : Nat → Int64), f_M_collect_L33 0 dN dV dS n st (nI q) (nI j) sl half op dn a w la fi to_ lo S V N = some (if (wrA (q + 1 - j) a).1 then (nI (cnt sl) - nI q, st, 1 - half, op, dn, (wrA (q + 1 - j) a).2, w', la, fi, to_, lo, S, V, N) else (-4, sl, half, 0, 1, 0, w', 0, 0, 0, 0, S', V', N')) ∧ (∀ i, i < 4 → N' i = dN i) ∧ ∀ k, k < 504 → V' k = dV k ∧ S' k = dS k := by
  intro n
  induction n with
  | zero => intro j w a _ _ h; omega
  | succ n ih =>
    intro j w a ha h1 h2
    show ∃ (w' : Int32) (N' V' : Nat → Int32) (S' : Nat → Int64), f_M_collect_B33 0 dN dV dS (f_M_collect_L33 0 dN dV dS n) st (nI q) (nI j) sl half op dn a w la fi to_ lo S V N = _ ∧ _
    unfold f_M_collect_B33
    obtain ⟨N', V', S', e1, e2, e3⟩ := M_write_no op dn w 0 la fi lo to_ dN N dV V dS S
    have e2 := e2 rfl
    by_cases hj : j = q + 1
    · subst hj
      refine ⟨w, N', V', S', ?_, e2⟩
      rw [if_pos (nI_lt (by omega) (by omega)), count_eq, ob_bs, Nat.sub_self]
      rfl
    · have e : q + 1 - j = (q + 1 - (j + 1)) + 1 := by omega
      have hw : wrA (q + 1 - (j + 1) + 1) a = (if a = 0 then (false, 0) else wrA (q + 1 - (j + 1)) (nxt a)) := rfl
      rw [if_neg (nI_nlt (by omega) (by omega)), e, hw]
      by_cases h0 : a = 0
      · subst h0
        refine ⟨w, N', V', S', ?_, e2⟩
        rw [e1, ob_bs, if_pos rfl, if_pos rfl, if_neg (show ¬ ((false, (0 : Int32)).1 = true) by decide)]
      · rw [M_write_ok ha h0, ob_bs, if_neg (show ¬ (1 : Int32) = 0 by decide), if_neg h0, nI_1]
        exact ih (j + 1) (w + 1) (nxt a) (armOk_nxt ha h0) (by omega) (by omega)
def rSch (cc fc : Nat) (par own aim ab : Nat → Nat) (so : Nat → Int32) (xcc xfc : Int32) (xab xow xkd xtg : Nat → Int32) (mcl mfd : Int32) (mpr mow mso mai : Nat → Int32) : Prop :=
  cc ≤ 5 ∧ fc ≤ 8 ∧ xcc = nI cc ∧ mcl = nI cc ∧ xfc = nI fc ∧ mfd = nI fc ∧ parOk mpr par ∧ (∀ c, cc < c → c ≤ 5 → par c = 0) ∧ abOk cc par ab xab ∧
  (∀ f, f < fc → xow f = nI (own f) ∧ mow f = nI (own f) ∧ 1 ≤ own f ∧ own f ≤ cc ∧ xkd f = so f ∧ mso f = so f ∧ (so f = 0 ∨ so f = 1 ∨ so f = 2) ∧ (¬ so f = 0 → xtg f = nI (aim f) ∧ mai f = nI (aim f) ∧ 1 ≤ aim f ∧ aim f ≤ cc) ∧ (so f = 0 → xtg f = 0))
def rImg (fc mk : Nat) (par own : Nat → Nat) (so : Nat → Int32) (cl : Nat → Nat) (s : Int64) (xc : Nat → Int32) (xv : Nat → Int64) (xn : Nat → Int32) (vs : Nat → Int32) (ss : Nat → Int64) (ns : Nat → Int32) : Prop :=
  ids s ∧ (∀ i, mk < i → tb s i = false) ∧ xc 0 = 0 ∧
  (∀ i, 1 ≤ i → i ≤ 62 → xc i = if tb s i then nI (cl i) else 0) ∧
  (∀ i f, 1 ≤ i → i ≤ mk → f < fc → hasF par own so (cl i) f 0 = true → xv (i * 8 + f) = (vs (8 * i + f)).toInt64) ∧
  (∀ i f, 1 ≤ i → i ≤ mk → f < fc → hasF par own so (cl i) f 1 = true → ∃ t : Nat, t ≤ 62 ∧ vs (8 * i + f) = nI t ∧ xv (i * 8 + f) = lN t) ∧
  (∀ i f, 1 ≤ i → i ≤ mk → f < fc → hasF par own so (cl i) f 2 = true → xv (i * 8 + f) = ss (8 * i + f) ∧ ids (ss (8 * i + f))) ∧
  (∀ i f, 1 ≤ i → i ≤ 62 → f < 8 → (mk < i ∨ fc ≤ f ∨ hasF par own so (cl i) f (-1) = false) → xv (i * 8 + f) = 0) ∧
  (∀ n, n < 4 → ∃ t : Nat, t ≤ 62 ∧ xn n = nI t ∧ ns n = nI t)

theorem setI_0 : setI 0 = 0 := rfl
theorem hasF_k {par own : Nat → Nat} {so : Nat → Int32} {c f : Nat} {kd : Int32} (hk : ¬ kd < 0) : hasF par own so c f kd = (isA par c (own f) && decide (so f = kd)) := by
  unfold hasF; rw [decide_eq_false hk, Bool.false_or]
theorem hasF_any {par own : Nat → Nat} {so : Nat → Int32} {c f : Nat} : hasF par own so c f (-1) = isA par c (own f) := by
  unfold hasF; rw [decide_eq_true (by decide), Bool.true_or, Bool.and_true]
theorem nb_same {cc fc mk : Nat} {par own aim ab cl : Nat → Nat} {so : Nat → Int32} {xcc xfc : Int32} {xab xow xkd xtg : Nat → Int32} {mcl mfd : Int32} {mpr mow mso mai : Nat → Int32} (hs : rSch cc fc par own aim ab so xcc xfc xab xow xkd xtg mcl mfd mpr mow mso mai)
    {s : Int64} {xc xn vs ns : Nat → Int32} {xv ss : Nat → Int64} (hi : rImg fc mk par own so cl s xc xv xn vs ss ns) {i : Nat} (h1 : 1 ≤ i) (h2 : i ≤ 62) : ∀ f, f ≤ fc → nbF xkd xv i f = (if i ≤ mk then nbM par own so cl vs ss i f else 0) ∧ ids (nbF xkd xv i f) := by
  obtain ⟨-, hfc, -, -, -, -, -, -, -, hf⟩ := hs
  obtain ⟨-, -, -, -, -, hv1, hv2, hv0, -⟩ := hi
  intro f
  induction f with
  | zero => intro _; exact ⟨by split <;> rfl, ids_0⟩
  | succ f ih =>
    intro hlt
    obtain ⟨ih1, ih2⟩ := ih (by omega)
    obtain ⟨-, -, -, -, hkd, -, hso, -, -⟩ := hf f (by omega)
    have hx : nbF xkd xv i (f + 1) = nbF xkd xv i f ||| (if xkd f = 1 then setI (xv (i * 8 + f)).toInt32 else if xkd f = 2 then xv (i * 8 + f) else 0) := rfl
    have hm : nbM par own so cl vs ss i (f + 1) = (nbM par own so cl vs ss i f ||| (if hasF par own so (cl i) f 1 then bitI (vs (8 * i + f)) else 0)) ||| (if hasF par own so (cl i) f 2 then ss (8 * i + f) else 0) := rfl
    rw [hx, hm, hkd]
    by_cases hmk : i ≤ mk
    · rw [if_pos hmk] at ih1 ⊢
      cases hA : isA par (cl i) (own f)
      ·
        have hz : xv (i * 8 + f) = 0 := hv0 i f h1 h2 (by omega) (Or.inr (Or.inr (by rw [hasF_any]; exact hA)))
        have hb1 : hasF par own so (cl i) f 1 = false := by rw [hasF_k (by decide), hA]; rfl
        have hb2 : hasF par own so (cl i) f 2 = false := by rw [hasF_k (by decide), hA]; rfl
        rw [hz, hb1, hb2, if_neg (show ¬ (false = true) by decide), if_neg (show ¬ (false = true) by decide), or_zero', or_zero']
        have hn : (if so f = 1 then setI (0 : Int64).toInt32 else if so f = 2 then (0 : Int64) else 0) = 0 := by
          by_cases k1 : so f = 1
          · rw [if_pos k1]; rfl
          · rw [if_neg k1]; split <;> rfl
        rw [hn, or_zero']
        exact ⟨ih1, ih2⟩
      · rcases hso with h0 | h0 | h0
        · have hb1 : hasF par own so (cl i) f 1 = false := by rw [hasF_k (by decide), hA, h0]; rfl
          have hb2 : hasF par own so (cl i) f 2 = false := by rw [hasF_k (by decide), hA, h0]; rfl
          rw [hb1, hb2, h0, if_neg (show ¬ (false = true) by decide), if_neg (show ¬ (false = true) by decide), if_neg (by decide), if_neg (by decide), or_zero', or_zero', or_zero']
          exact ⟨ih1, ih2⟩
        · have hb1 : hasF par own so (cl i) f 1 = true := by rw [hasF_k (by decide), hA, h0]; rfl
          have hb2 : hasF par own so (cl i) f 2 = false := by rw [hasF_k (by decide), hA, h0]; rfl
          obtain ⟨t, ht, e1, e2⟩ := hv1 i f h1 hmk (by omega) hb1
          rw [hb1, hb2, h0, if_pos rfl, if_pos rfl, if_neg (show ¬ (false = true) by decide), e1, e2, lN_i, bitI_n (by omega), or_zero', ih1]
          rw [ih1] at ih2
          exact ⟨rfl, ids_or ih2 (ids_setI ht)⟩
        · have hb1 : hasF par own so (cl i) f 1 = false := by rw [hasF_k (by decide), hA, h0]; rfl
          have hb2 : hasF par own so (cl i) f 2 = true := by rw [hasF_k (by decide), hA, h0]; rfl
          obtain ⟨e1, e2⟩ := hv2 i f h1 hmk (by omega) hb2
          rw [hb1, hb2, h0, if_neg (by decide), if_pos rfl, if_neg (show ¬ (false = true) by decide), if_pos rfl, e1, or_zero', ih1]
          rw [ih1] at ih2
          exact ⟨rfl, ids_or ih2 e2⟩
    · rw [if_neg hmk] at ih1 ⊢
      have hz : xv (i * 8 + f) = 0 := hv0 i f h1 h2 (by omega) (Or.inl (by omega))
      have hn : (if so f = 1 then setI (0 : Int64).toInt32 else if so f = 2 then (0 : Int64) else 0) = 0 := by
        by_cases k1 : so f = 1
        · rw [if_pos k1]; rfl
        · rw [if_neg k1]; split <;> rfl
      rw [hz, hn, or_zero', ih1]
      exact ⟨rfl, ids_0⟩
theorem root_same {xn ns : Nat → Int32} (h : ∀ n, n < 4 → ∃ t : Nat, t ≤ 62 ∧ xn n = nI t ∧ ns n = nI t) : ∀ k, k ≤ 4 → rootF xn k = rootM ns k ∧ ids (rootF xn k) := by
  intro k
  induction k with
  | zero => intro _; exact ⟨rfl, ids_0⟩
  | succ k ih =>
    intro hk
    obtain ⟨h1, h2⟩ := ih (by omega)
    obtain ⟨t, ht, e1, e2⟩ := h k (by omega)
    have hx : rootF xn (k + 1) = rootF xn k ||| setI (xn k) := rfl
    have hm : rootM ns (k + 1) = rootM ns k ||| bitI (ns k) := rfl
    rw [hx, hm, e1, e2, bitI_n (by omega), ← h1]
    exact ⟨rfl, ids_or h2 (ids_setI ht)⟩
theorem reach_same {cc fc mk : Nat} {par own aim ab cl : Nat → Nat} {so : Nat → Int32} {xcc xfc : Int32} {xab xow xkd xtg : Nat → Int32} {mcl mfd : Int32} {mpr mow mso mai c1 : Nat → Int32} (hs : rSch cc fc par own aim ab so xcc xfc xab xow xkd xtg mcl mfd mpr mow mso mai)
    {s : Int64} {xc xn vs ns : Nat → Int32} {xv ss : Nat → Int64} (hi : rImg fc mk par own so cl s xc xv xn vs ss ns) (hmk : mk ≤ 62) (hcl : ∀ i, 1 ≤ i → i ≤ mk → c1 i = nI (cl i) ∧ 1 ≤ cl i ∧ cl i ≤ cc) (hmso : ∀ f, f < fc → mso f = so f) :
    ∃ r : Int64, ids r ∧ f_Image_reachedIds xfc xv xkd xn = some r ∧ ∀ (vs0 dv0 nm0 dn0 : Nat → Int32) (ss0 ds0 : Nat → Int64) (dk : Int32), (if dk = 0 then vs0 else dv0) = vs → (if dk = 0 then ss0 else ds0) = ss → (if dk = 0 then nm0 else dn0) = ns → f_M_reachedFrom mfd (nI mk) c1 mow mpr so ss0 ds0 vs0 dv0 nm0 dn0 dk = some r := by
  have hs0 := hs
  have hi0 := hi
  obtain ⟨hcc, hfc, -, -, exfc, emfd, hpar, -, -, hf⟩ := hs
  obtain ⟨-, -, -, -, -, -, -, -, hnm⟩ := hi
  obtain ⟨hroot, hids⟩ := root_same hnm 4 (Nat.le_refl _)
  have hn : ∀ i, 1 ≤ i → i ≤ 62 → ids ((fun i => if i ≤ mk then nbM par own so cl vs ss i fc else 0) i) := fun i h1 h2 => by
    have h := nb_same hs0 hi0 h1 h2 fc (Nat.le_refl _)
    show ids (if i ≤ mk then nbM par own so cl vs ss i fc else 0)
    rw [← h.1]; exact h.2
  refine ⟨reach (fun i => if i ≤ mk then nbM par own so cl vs ss i fc else 0) (rootF xn 4), ids_itr hn hids 62, ?_, ?_⟩
  · rw [exfc]
    exact rx_eq hfc (fun i h1 h2 => ((nb_same hs0 hi0 h1 h2 fc (Nat.le_refl _)).1).symm) hn hids
  · intro vs0 dv0 nm0 dn0 ss0 ds0 dk e1 e2 e3
    rw [emfd, hroot, ← e3]
    refine rm_eq hmk (fun i h1 h2 => ?_) (fun i h => if_neg (by omega)) hn (by rw [e3, ← hroot]; exact hids)
    have hc := hcl i h1 h2
    rw [M_from hpar hfc (fun f hlt => ⟨(hf f hlt).2.1, (hf f hlt).2.2.1, Nat.le_trans (hf f hlt).2.2.2.1 hcc⟩) h1 (by omega) ⟨hc.1, by omega⟩ dk, e1, e2]
    show some _ = some (if i ≤ mk then _ else _)
    rw [if_pos h2]

theorem or_bit : ∀ a, a < 64 → ∀ c, c < 6 → nI a ||| ((1 : Int32) <<< (nI c &&& 31)) = nI (a ||| 2 ^ c) := by decide +kernel
def upN (f : Nat → Nat) (k v : Nat) : Nat → Nat := fun j => if j = k then v else f j
theorem upN_s {f : Nat → Nat} {k v : Nat} : upN f k v k = v := if_pos rfl
theorem upN_n {f : Nat → Nat} {k v j : Nat} (h : j ≠ k) : upN f k v j = f j := if_neg h
theorem sch_type {cc fc : Nat} {par own aim ab : Nat → Nat} {so : Nat → Int32} {xcc xfc : Int32} {xab xow xkd xtg : Nat → Int32} {mcl mfd : Int32} {mpr mow mso mai : Nat → Int32} (hs : rSch cc fc par own aim ab so xcc xfc xab xow xkd xtg mcl mfd mpr mow mso mai) (hcc : cc < 5) {p : Nat} (hp : p ≤ cc) :
    f_Schema_addClass xcc xab (nI p) = some (nI (cc + 1), nI (cc + 1), upd xab (cc + 1) (nI (ab p ||| 2 ^ (cc + 1)))) ∧
    rSch (cc + 1) fc (upN par (cc + 1) p) own aim (upN ab (cc + 1) (ab p ||| 2 ^ (cc + 1))) so (nI (cc + 1)) xfc (upd xab (cc + 1) (nI (ab p ||| 2 ^ (cc + 1)))) xow xkd xtg (nI (cc + 1)) mfd (upd mpr (cc + 1) (nI p)) mow mso mai := by
  obtain ⟨h5, h8, e1, e2, e3, e4, hpar, hz, hab, hf⟩ := hs
  have hap := hab.1 p (by omega)
  constructor
  · unfold f_Schema_addClass
    rw [e1, nI_1, ob_iv_i (by rw [nI_toInt (by omega)]; omega), ob_iv_i (by rw [nI_toInt (by omega)]; omega), nI_clamp (by omega), nI_clamp (by omega), hap.1, or_bit (ab p) hap.2 (cc + 1) (by omega)]
  · refine ⟨by omega, h8, rfl, rfl, e3, e4, fun c hc => ?_, fun c h1 h2 => ?_, ⟨fun c hc => ?_, ?_, fun c h1 h2 => ?_⟩, fun f hlt => ?_⟩
    · by_cases e : c = cc + 1
      · subst e; rw [pk_us, upN_s]; exact ⟨rfl, by omega, fun _ => by omega⟩
      · rw [pk_un e, upN_n e]; exact hpar c hc
    · rw [upN_n (by omega)]; exact hz c (by omega) h2
    · by_cases e : c = cc + 1
      · subst e
        rw [pk_us, upN_s]
        refine ⟨rfl, Nat.or_lt_two_pow (n := 6) hap.2 ?_⟩
        exact Nat.pow_lt_pow_right (by decide) (by omega)
      · rw [pk_un e, upN_n e]; exact hab.1 c hc
    · rw [upN_n (by omega)]; exact hab.2.1
    · by_cases e : c = cc + 1
      · subst e
        rw [upN_s, upN_s, upN_n (by omega)]
      · have hlt := (hpar c (by omega)).2.2 h1
        rw [upN_n e, upN_n e, upN_n (by omega)]
        exact hab.2.2 c h1 (by omega)
    · obtain ⟨a1, a2, a3, a4, a5, a6, a7, a8, a9⟩ := hf f hlt
      exact ⟨a1, a2, a3, by omega, a5, a6, a7, fun h => by obtain ⟨b1, b2, b3, b4⟩ := a8 h; exact ⟨b1, b2, b3, by omega⟩, a9⟩
theorem hasClass_eq {cc : Nat} (h : cc ≤ 5) (z : Int32) : f_Schema_hasClass (nI cc) z = some (b2i (decide (1 ≤ z.toInt ∧ z.toInt ≤ cc))) := by
  unfold f_Schema_hasClass
  by_cases h1 : z < 1
  · rw [if_pos h1]
    rw [Int32.lt_iff_toInt_lt, i1] at h1
    rw [decide_eq_false (by omega)]; rfl
  · rw [if_neg h1]
    rw [Int32.lt_iff_toInt_lt, i1] at h1
    by_cases h2 : nI cc < z
    · rw [if_pos h2]
      rw [Int32.lt_iff_toInt_lt, nI_toInt (by omega)] at h2
      rw [decide_eq_false (by omega)]; rfl
    · rw [if_neg h2]
      rw [Int32.lt_iff_toInt_lt, nI_toInt (by omega)] at h2
      rw [decide_eq_true (by omega)]; rfl
theorem S_type {cc fc : Nat} {par own aim ab : Nat → Nat} {so : Nat → Int32} {xcc xfc : Int32} {xab xow xkd xtg : Nat → Int32} {mcl mfd : Int32} {mpr mow mso mai : Nat → Int32} (hs : rSch cc fc par own aim ab so xcc xfc xab xow xkd xtg mcl mfd mpr mow mso mai) (bg dn z : Int32) :
    ∃ (o o' : Int32 × Int32 × (Nat → Int32)), f_OB_type bg dn xcc xab z = some o ∧ f_M_type mcl bg dn mpr z = some o' ∧ o.1 = o'.1 ∧ ((o.2 = (xcc, xab) ∧ o'.2 = (mcl, mpr)) ∨ (bg = 0 ∧ ∃ (p : Nat), p ≤ cc ∧ cc < 5 ∧ rSch (cc + 1) fc (upN par (cc + 1) p) own aim (upN ab (cc + 1) (ab p ||| 2 ^ (cc + 1))) so o.2.1 xfc o.2.2 xow xkd xtg o'.2.1 mfd o'.2.2 mow mso mai)) := by
  have hs0 := hs
  obtain ⟨h5, h8, e1, e2, e3, e4, hpar, hz, hab, hf⟩ := hs
  unfold f_OB_type f_M_type
  by_cases hd : dn = 0
  · rw [if_pos hd, if_pos hd]
    by_cases hb : bg = 0
    · rw [if_pos hb]
      by_cases hc : cc = 5
      · rw [if_pos (show xcc = 5 by rw [e1, hc]; rfl), if_pos (show mcl = 5 by rw [e2, hc]; rfl)]
        refine ⟨_, (-1, mcl, mpr), rfl, ?_, rfl, Or.inl ⟨rfl, rfl⟩⟩
        split <;> (try rfl)
        split <;> rfl
      · have hx5 : ¬ xcc = 5 := by rw [e1]; exact fun h => hc ((nI_eq (by omega) (by decide)).mp h)
        have hm5 : ¬ mcl = 5 := by rw [e2]; exact fun h => hc ((nI_eq (by omega) (by decide)).mp h)
        rw [if_neg hx5, if_neg hm5, if_pos hb]
        by_cases hr : 0 ≤ z.toInt ∧ z.toInt ≤ cc
        · obtain ⟨p, hp⟩ : ∃ p : Nat, z.toInt = (p : Int) := ⟨z.toInt.toNat, by omega⟩
          have ez := nI_z hp (by omega)
          have hpc : p ≤ cc := by omega
          obtain ⟨t1, t2⟩ := sch_type hs0 (by omega) hpc
          have hm : (if z < 0 then some ((-1 : Int32), mcl, mpr) else if mcl < z then some (-1, mcl, mpr) else ob_iv (mcl + 1) 6 (some (mcl + 1, mcl + 1, upd mpr (mcl + 1).toNatClampNeg z))) = some (nI (cc + 1), nI (cc + 1), upd mpr (cc + 1) (nI p)) := by
            rw [ez, e2, if_neg (nI_pos (by omega)), if_neg (nI_nlt hpc (by omega)), nI_1, ob_iv_i (by rw [nI_toInt (by omega)]; omega), nI_clamp (by omega)]
          have hx : (if z = 0 then f_OB_type_J50 z xcc xab else (f_Schema_hasClass xcc z).bind fun o42 => if o42 = 0 then some (-1, xcc, xab) else f_OB_type_J50 z xcc xab) = some (nI (cc + 1), nI (cc + 1), upd xab (cc + 1) (nI (ab p ||| 2 ^ (cc + 1)))) := by
            have hj : f_OB_type_J50 z xcc xab = some (nI (cc + 1), nI (cc + 1), upd xab (cc + 1) (nI (ab p ||| 2 ^ (cc + 1)))) := by
              unfold f_OB_type_J50
              rw [ez, t1]; rfl
            by_cases h0 : z = 0
            · rw [if_pos h0, hj]
            · rw [if_neg h0, e1, hasClass_eq h5]
              have hne : z.toInt ≠ 0 := fun h => h0 (Int32.toInt_inj.mp (by rw [h, i0]))
              rw [decide_eq_true (by omega), ob_bs, if_neg b2i_t, ← e1, hj]
          exact ⟨_, _, hx, hm, rfl, Or.inr ⟨hb, p, hpc, by omega, t2⟩⟩
        · refine ⟨(-1, xcc, xab), (-1, mcl, mpr), ?_, ?_, rfl, Or.inl ⟨rfl, rfl⟩⟩
          · have h0 : ¬ z = 0 := fun h => hr (by rw [h, i0]; omega)
            rw [if_neg h0, e1, hasClass_eq h5, decide_eq_false (by omega)]
            rfl
          · by_cases h0 : z < 0
            · rw [if_pos h0]
            · rw [if_neg h0]
              rw [Int32.lt_iff_toInt_lt, i0] at h0
              rw [if_pos (show mcl < z by rw [e2, Int32.lt_iff_toInt_lt, nI_toInt (by omega)]; omega)]
    · rw [if_neg hb]
      refine ⟨_, (-1, mcl, mpr), rfl, ?_, rfl, Or.inl ⟨rfl, rfl⟩⟩
      rw [if_neg hb]
      split <;> (try rfl)
      split <;> (try rfl)
      split <;> rfl
  · rw [if_neg hd, if_neg hd]
    exact ⟨_, _, rfl, rfl, rfl, Or.inl ⟨rfl, rfl⟩⟩

theorem sch_field {cc fc : Nat} {par own aim ab : Nat → Nat} {so : Nat → Int32} {xcc xfc : Int32} {xab xow xkd xtg : Nat → Int32} {mcl mfd : Int32} {mpr mow mso mai : Nat → Int32} (hs : rSch cc fc par own aim ab so xcc xfc xab xow xkd xtg mcl mfd mpr mow mso mai) (h8 : fc < 8) {c : Nat} (hc1 : 1 ≤ c) (hc2 : c ≤ cc) {kd tz : Int32} (hk : kd = 0 ∨ kd = 1 ∨ kd = 2) (ht : ¬ kd = 0 → 1 ≤ tz.toInt ∧ tz.toInt ≤ cc) :
    rSch cc (fc + 1) par (upN own fc c) (upN aim fc tz.toInt.toNat) ab (upd so fc kd) xcc (nI (fc + 1)) xab (upd xow fc (nI c)) (upd xkd fc kd) (upd xtg fc (if kd = 0 then 0 else tz)) mcl (nI (fc + 1)) mpr (upd mow fc (nI c)) (upd mso fc kd) (upd mai fc tz) := by
  obtain ⟨h5, -, e1, e2, e3, e4, hpar, hz, hab, hf⟩ := hs
  refine ⟨h5, by omega, e1, e2, rfl, rfl, hpar, hz, hab, fun f hlt => ?_⟩
  by_cases e : f = fc
  · subst e
    refine ⟨by rw [pk_us, upN_s], by rw [pk_us, upN_s], by rw [upN_s]; exact hc1, by rw [upN_s]; exact hc2, by rw [pk_us, pk_us], by rw [pk_us, pk_us], by rw [pk_us]; exact hk, fun h0 => ?_, fun h0 => by rw [pk_us] at h0; rw [pk_us, if_pos h0]⟩
    rw [pk_us] at h0
    rw [pk_us, pk_us, upN_s]
    have h9 := ht h0
    have hzz := nI_z (z := tz) (k := tz.toInt.toNat) (by omega) (by omega)
    rw [if_neg h0]
    exact ⟨hzz, hzz, by omega, by omega⟩
  · simp only [pk_un e, upN_n e]
    exact hf f (by omega)
theorem S_field {cc fc : Nat} {par own aim ab : Nat → Nat} {so : Nat → Int32} {xcc xfc : Int32} {xab xow xkd xtg : Nat → Int32} {mcl mfd : Int32} {mpr mow mso mai : Nat → Int32} (hs : rSch cc fc par own aim ab so xcc xfc xab xow xkd xtg mcl mfd mpr mow mso mai) (bg dn z k t : Int32) :
    ∃ (o o' : Int32 × Int32 × (Nat → Int32) × (Nat → Int32) × (Nat → Int32)), f_OB_field bg dn xcc xfc xow xkd xtg z k t = some o ∧ f_M_field mcl mfd bg dn mow mso mai z k t = some o' ∧ o.1 = o'.1 ∧ ((o.2 = (xfc, xow, xkd, xtg) ∧ o'.2 = (mfd, mow, mso, mai)) ∨ (bg = 0 ∧ ∃ (own' aim' : Nat → Nat) (so' : Nat → Int32), (∀ f, f < fc → own' f = own f ∧ so' f = so f) ∧ rSch cc (fc + 1) par own' aim' ab so' xcc o.2.1 xab o.2.2.1 o.2.2.2.1 o.2.2.2.2 mcl o'.2.1 mpr o'.2.2.1 o'.2.2.2.1 o'.2.2.2.2)) := by
  have hs0 := hs
  obtain ⟨h5, h8, rfl, rfl, e3, e4, hpar, hz, hab, hf⟩ := hs
  have hX := hasClass_eq h5
  have hM : ∀ w : Int32, f_M_isClass (nI cc) w = some (b2i (decide (1 ≤ w.toInt ∧ w.toInt ≤ cc))) := fun w => hX w
  have k2 : (2 : Int32).toInt = 2 := by decide
  unfold f_OB_field f_M_field
  by_cases hd : dn = 0
  · rw [if_pos hd, if_pos hd]
    have badX : ∀ P : Prop, P → (∃ (o o' : Int32 × Int32 × (Nat → Int32) × (Nat → Int32) × (Nat → Int32)), some ((-1 : Int32), xfc, xow, xkd, xtg) = some o ∧ some ((-1 : Int32), mfd, mow, mso, mai) = some o' ∧ o.1 = o'.1 ∧ ((o.2 = (xfc, xow, xkd, xtg) ∧ o'.2 = (mfd, mow, mso, mai)) ∨ (bg = 0 ∧ ∃ (own' aim' : Nat → Nat) (so' : Nat → Int32), (∀ f, f < fc → own' f = own f ∧ so' f = so f) ∧ rSch cc (fc + 1) par own' aim' ab so' (nI cc) o.2.1 xab o.2.2.1 o.2.2.2.1 o.2.2.2.2 (nI cc) o'.2.1 mpr o'.2.2.1 o'.2.2.2.1 o'.2.2.2.2))) := fun P _ => ⟨_, _, rfl, rfl, rfl, Or.inl ⟨rfl, rfl⟩⟩
    rw [hX, hX, hM, hM]
    simp only [ob_bs]
    by_cases hb : bg = 0
    · rw [if_pos hb]
      by_cases h9 : fc = 8
      · have hx8 : xfc = 8 := by rw [e3, h9]; rfl
        have hm8 : mfd = 8 := by rw [e4, h9]; rfl
        rw [if_pos hx8]
        have hj : f_M_field_J39 bg z k t mfd mow mso mai = some (-1, mfd, mow, mso, mai) := by
          unfold f_M_field_J39; rw [if_pos hm8]
        rw [hj]
        refine ⟨_, (-1, mfd, mow, mso, mai), rfl, ?_, rfl, Or.inl ⟨rfl, rfl⟩⟩
        repeat' split
        all_goals rfl
      · have hx8 : ¬ xfc = 8 := by rw [e3]; exact fun h => h9 ((nI_eq (by omega) (by decide)).mp h)
        have hm8 : ¬ mfd = 8 := by rw [e4]; exact fun h => h9 ((nI_eq (by omega) (by decide)).mp h)
        rw [if_neg hx8]
        by_cases hz1 : 1 ≤ z.toInt ∧ z.toInt ≤ cc
        · rw [decide_eq_true hz1, if_neg b2i_t, if_neg b2i_t]
          by_cases hk0 : k < 0
          · rw [if_pos hk0, if_pos hk0]; exact badX True trivial
          · rw [if_neg hk0, if_neg hk0]
            by_cases hk2 : k ≤ 2
            · rw [if_pos hk2, if_neg (show ¬ (2 : Int32) < k by rw [Int32.lt_iff_toInt_lt]; rw [Int32.le_iff_toInt_le] at hk2; omega)]
              have hkk : k = 0 ∨ k = 1 ∨ k = 2 := by
                rw [Int32.lt_iff_toInt_lt, i0] at hk0
                rw [Int32.le_iff_toInt_le, k2] at hk2
                rcases (show k.toInt = 0 ∨ k.toInt = 1 ∨ k.toInt = 2 by omega) with h | h | h
                · exact Or.inl (Int32.toInt_inj.mp (by rw [h, i0]))
                · exact Or.inr (Or.inl (Int32.toInt_inj.mp (by rw [h, i1])))
                · exact Or.inr (Or.inr (Int32.toInt_inj.mp (by rw [h, k2])))
              have ezz := nI_z (z := z) (k := z.toInt.toNat) (by omega) (by omega)
              have g8 : 0 ≤ (nI fc).toInt ∧ (nI fc).toInt < (8 : Nat) := by rw [nI_toInt (by omega)]; omega
              obtain ⟨tv, htv⟩ : ∃ tv : Int32, (if k = 0 then (0 : Int32) else t) = tv := ⟨_, rfl⟩
              have hjx : f_OB_field_J73 z k t xfc xow xkd xtg = some (nI fc, nI (fc + 1), upd xow fc z, upd xkd fc k, upd xtg fc tv) := by
                unfold f_OB_field_J73 f_Schema_addField f_Schema_addField_J37
                rw [e3, ob_iv_i g8, ob_iv_i g8, ob_iv_i g8, ob_iv_i g8, nI_clamp (by omega), nI_1, nI_pred]
                by_cases h0 : k = 0
                · rw [if_pos h0] at htv ⊢; rw [← htv]; rfl
                · rw [if_neg h0] at htv ⊢; rw [← htv]; rfl
              have hjm : f_M_field_J39 bg z k t mfd mow mso mai = some (nI fc, nI (fc + 1), upd mow fc z, upd mso fc k, upd mai fc t) := by
                unfold f_M_field_J39
                rw [if_neg hm8, if_pos hb, e4, ob_iv_i g8, ob_iv_i g8, ob_iv_i g8, nI_clamp (by omega), nI_1, nI_pred]
              rw [hjx, hjm]
              have fin : (¬ k = 0 → 1 ≤ t.toInt ∧ t.toInt ≤ cc) → (∃ (o o' : Int32 × Int32 × (Nat → Int32) × (Nat → Int32) × (Nat → Int32)), some (nI fc, nI (fc + 1), upd xow fc z, upd xkd fc k, upd xtg fc tv) = some o ∧ some (nI fc, nI (fc + 1), upd mow fc z, upd mso fc k, upd mai fc t) = some o' ∧ o.1 = o'.1 ∧ ((o.2 = (xfc, xow, xkd, xtg) ∧ o'.2 = (mfd, mow, mso, mai)) ∨ (bg = 0 ∧ ∃ (own' aim' : Nat → Nat) (so' : Nat → Int32), (∀ f, f < fc → own' f = own f ∧ so' f = so f) ∧ rSch cc (fc + 1) par own' aim' ab so' (nI cc) o.2.1 xab o.2.2.1 o.2.2.2.1 o.2.2.2.2 (nI cc) o'.2.1 mpr o'.2.2.1 o'.2.2.2.1 o'.2.2.2.2))) := fun htt => by
                have h := sch_field hs0 (by omega) (c := z.toInt.toNat) (by omega) (by omega) hkk htt
                rw [← ezz, htv] at h
                exact ⟨_, _, rfl, rfl, rfl, Or.inr ⟨hb, _, _, _, fun f hlt => ⟨upN_n (by omega), pk_un (by omega)⟩, h⟩⟩
              by_cases h0 : k = 0
              · rw [if_pos h0, if_pos h0]; exact fin (fun h => absurd h0 h)
              · rw [if_neg h0, if_neg h0]
                by_cases ht : 1 ≤ t.toInt ∧ t.toInt ≤ cc
                · rw [decide_eq_true ht, if_neg b2i_t, if_neg b2i_t]; exact fin (fun _ => ht)
                · rw [decide_eq_false ht, if_pos b2i_f, if_pos b2i_f]; exact badX True trivial
            · rw [if_neg hk2, if_pos (show (2 : Int32) < k by rw [Int32.lt_iff_toInt_lt]; rw [Int32.le_iff_toInt_le] at hk2; omega)]
              exact badX True trivial
        · rw [decide_eq_false hz1, if_pos b2i_f, if_pos b2i_f]; exact badX True trivial
    · rw [if_neg hb]
      have hj : f_M_field_J39 bg z k t mfd mow mso mai = some (-1, mfd, mow, mso, mai) := by
        unfold f_M_field_J39
        by_cases h9 : mfd = 8
        · rw [if_pos h9]
        · rw [if_neg h9, if_neg hb]
      rw [hj]
      refine ⟨_, (-1, mfd, mow, mso, mai), rfl, ?_, rfl, Or.inl ⟨rfl, rfl⟩⟩
      repeat' split
      all_goals rfl
  · rw [if_neg hd, if_neg hd]
    exact ⟨_, _, rfl, rfl, rfl, Or.inl ⟨rfl, rfl⟩⟩
