theorem ob_z0 {z : Int32} (h1 : ¬ z < 0) (h2 : ¬ (0 : Int32) < z) : z = 0 := by
  apply Int32.toInt_inj.mp
  rw [Int32.lt_iff_toInt_lt] at h1 h2
  have e0 : (0 : Int32).toInt = 0 := by decide
  omega
theorem hc0 (z : Int32) : f_Schema_hasClass 0 z = some 0 := by
  unfold f_Schema_hasClass
  by_cases h1 : z < 1
  · rw [if_pos h1]
  · have h2 : (0 : Int32) < z := by
      rw [Int32.lt_iff_toInt_lt] at h1 ⊢
      have e0 : (0 : Int32).toInt = 0 := by decide
      have e1 : (1 : Int32).toInt = 1 := by decide
      omega
    rw [if_neg h1, if_pos h2]
theorem ic0 (z : Int32) : f_M_isClass 0 z = some 0 := hc0 z
theorem ob_sh0 (k : UInt64) : ((0 : Int64).toUInt64 >>> k).toInt64 &&& 1 = 0 := by
  have h : ((0 : Int64).toUInt64 >>> k) = 0 := by
    apply UInt64.toNat_inj.mp
    rw [UInt64.toNat_shiftRight, show (Int64.toUInt64 0).toNat = 0 from by decide, Nat.zero_shiftRight]
    rfl
  rw [h]; decide
theorem co0 (z : Int32) : f_OB_contains 0 z = some 0 := by
  unfold f_OB_contains
  by_cases h1 : z < 1
  · rw [if_pos h1]
  · rw [if_neg h1]
    by_cases h2 : (62 : Int32) < z
    · rw [if_pos h2]
    · rw [if_neg h2, ob_sh0, if_pos ((lg_cmp_eq _ _).mpr rfl)]
theorem in0 (z : Int32) : f_M_in 0 z = some 0 := by
  unfold f_M_in
  by_cases h1 : z ≤ 0
  · rw [if_pos h1]
  · rw [if_neg h1]
    by_cases h2 : (63 : Int32) ≤ z
    · rw [if_pos h2]
    · rw [if_neg h2, ob_sh0, if_neg (fun h => absurd ((lg_cmp_eq _ _).mp h) (by decide))]
theorem th0 (z : Int32) : f_M_there 0 0 0 z = some 0 := by
  unfold f_M_there
  rw [in0]; rfl
theorem ca0 (z : Int32) : f_Image_classAt (fun _ => 0) z = some 0 := by
  unfold f_Image_classAt
  by_cases h1 : z < 1
  · rw [if_pos h1]
  · rw [if_neg h1]
    by_cases h2 : (62 : Int32) < z
    · rw [if_pos h2]
    · rw [if_neg h2, ob_iv_i]
      rw [Int32.lt_iff_toInt_lt] at h1 h2
      have e1 : (1 : Int32).toInt = 1 := by decide
      have e2 : (62 : Int32).toInt = 62 := by decide
      omega
theorem hf0 (c z : Int32) : f_Schema_hasField 0 (fun _ => 0) (fun _ => 0) c z = some 0 := by
  unfold f_Schema_hasField
  by_cases h1 : z < 0
  · rw [if_pos h1]
  · have h2 : (0 : Int32) ≤ z := by
      rw [Int32.lt_iff_toInt_lt] at h1; rw [Int32.le_iff_toInt_le]; omega
    rw [if_neg h1, if_pos h2]
theorem rx0 : f_Image_reachedIds 0 (fun _ => 0) (fun _ => 0) (fun _ => 0) = some 0 := by decide +kernel
theorem rmf0 : f_M_reachedFrom 0 0 (fun _ => 0) (fun _ => 0) (fun _ => 0) (fun _ => 0) (fun _ => 0) (fun _ => 0) (fun _ => 0) (fun _ => 0) (fun _ => 0) (fun _ => 0) 0 = some 0 := by decide +kernel
set_option maxRecDepth 100000 in
theorem P_type (z0 : Int32) : ∃ (o : Int32 × Int32 × (Nat → Int32)) (o' : Int32 × Int32 × (Nat → Int32)), f_OB_type 0 0 0 (fun _ => 0) z0 = some o ∧ f_M_type 0 0 0 (fun _ => 0) z0 = some o' ∧ o.1 = o'.1 := by
  by_cases h : z0 = 0
  · subst h; exact ob_ev Prod.fst Prod.fst (by decide +kernel) (by decide +kernel) (by decide +kernel)
  · unfold f_OB_type f_M_type
    rw [hc0, if_pos rfl, if_pos rfl, if_neg (show ¬ (0 : Int32) = 5 by decide), if_neg h, if_pos rfl]
    by_cases h1 : z0 < 0
    · rw [if_pos h1]; exact ⟨_, _, rfl, rfl, rfl⟩
    · rw [if_neg h1]
      by_cases h2 : (0 : Int32) < z0
      · rw [if_pos h2]; exact ⟨_, _, rfl, rfl, rfl⟩
      · exact absurd (ob_z0 h1 h2) h
set_option maxRecDepth 100000 in
theorem P_field (z0 : Int32) (z1 : Int32) (z2 : Int32) : ∃ (o : Int32 × Int32 × (Nat → Int32) × (Nat → Int32) × (Nat → Int32)) (o' : Int32 × Int32 × (Nat → Int32) × (Nat → Int32) × (Nat → Int32)), f_OB_field 0 0 0 0 (fun _ => 0) (fun _ => 0) (fun _ => 0) z0 z1 z2 = some o ∧ f_M_field 0 0 0 0 (fun _ => 0) (fun _ => 0) (fun _ => 0) z0 z1 z2 = some o' ∧ o.1 = o'.1 := by
  unfold f_OB_field f_M_field
  rw [hc0, ic0]
  exact ⟨_, _, rfl, rfl, rfl⟩
set_option maxRecDepth 100000 in
theorem P_index (z0 : Int32) (z1 : Int32) (z2 : Int32) (z3 : Int32) : ∃ (o : Int32 × Int32 × (Nat → Int32) × (Nat → Int32)) (o' : Int32 × Int32 × (Nat → Int32) × (Nat → Int32)), f_OB_index 0 0 0 0 0 (fun _ => 0) (fun _ => 0) (fun _ => 0) (fun _ => 0) (fun _ => 0) (fun _ => 0) z0 z1 z2 z3 = some o ∧ f_M_index 0 0 0 0 0 (fun _ => 0) (fun _ => 0) (fun _ => 0) (fun _ => 0) (fun _ => 0) (fun _ => 0) z0 z1 z2 z3 = some o' ∧ o.1 = o'.1 := by
  unfold f_OB_index f_M_index
  rw [hc0, ic0]
  exact ⟨_, _, rfl, rfl, rfl⟩
set_option maxRecDepth 100000 in
theorem P_begin : ∃ (o : Int32 × Int32 × Int64 × Int64 × Int32 × Int32 × (Nat → Int32) × (Nat → Int64) × (Nat → Int32)) (o' : Int32 × Int32 × Int32 × Int64 × Int64 × Int64 × Int32), f_OB_begin 0 0 0 0 0 0 0 (fun _ => 0) (fun _ => 0) (fun _ => 0) (fun _ => 0) (fun _ => 0) (fun _ => 0) (fun _ => 0) = some o ∧ f_M_begin 0 0 0 0 0 0 0 0 0 (fun _ => 0) (fun _ => 0) (fun _ => 0) (fun _ => 0) (fun _ => 0) (fun _ => 0) (fun _ => 0) (fun _ => 0) (fun _ => 0) (fun _ => 0) = some o' ∧ o.1 = o'.1 := by
  exact ob_ev Prod.fst Prod.fst (by decide +kernel) (by decide +kernel) (by decide +kernel)
set_option maxRecDepth 100000 in
theorem P_make (z0 : Int32) : ∃ (o : Int32 × Int32 × Int64 × Int64 × (Nat → Int32)) (o' : Int32 × Int32 × Int64 × Int64 × Int64 × (Nat → Int32)), f_OB_make 0 0 0 0 0 0 (fun _ => 0) z0 = some o ∧ f_M_make 0 0 0 0 0 0 0 (fun _ => 0) z0 = some o' ∧ o.1 = o'.1 := by
  exact ⟨_, _, rfl, rfl, rfl⟩
set_option maxRecDepth 100000 in
theorem P_put (z0 : Int32) (z1 : Int32) (z2 : Int32) : ∃ (o : Int32 × Int64 × (Nat → Int64)) (o' : Int32 × Int64 × (Nat → Int32)), f_OB_put 0 0 0 0 0 (fun _ => 0) (fun _ => 0) (fun _ => 0) (fun _ => 0) (fun _ => 0) z0 z1 z2 = some o ∧ f_M_put 0 0 0 0 0 (fun _ => 0) (fun _ => 0) (fun _ => 0) (fun _ => 0) (fun _ => 0) z0 z1 z2 = some o' ∧ o.1 = o'.1 := by
  exact ⟨_, _, rfl, rfl, rfl⟩
set_option maxRecDepth 100000 in
theorem P_point (z0 : Int32) (z1 : Int32) (z2 : Int32) : ∃ (o : Int32 × Int64 × (Nat → Int64)) (o' : Int32 × Int64 × (Nat → Int32)), f_OB_point 0 0 0 0 0 (fun _ => 0) (fun _ => 0) (fun _ => 0) (fun _ => 0) (fun _ => 0) (fun _ => 0) z0 z1 z2 = some o ∧ f_M_point 0 0 0 0 0 (fun _ => 0) (fun _ => 0) (fun _ => 0) (fun _ => 0) (fun _ => 0) (fun _ => 0) z0 z1 z2 = some o' ∧ o.1 = o'.1 := by
  exact ⟨_, _, rfl, rfl, rfl⟩
set_option maxRecDepth 100000 in
theorem P_join (z0 : Int32) (z1 : Int32) (z2 : Int32) (z3 : Int32) : ∃ (o : Int32 × Int64 × (Nat → Int64)) (o' : Int32 × Int64 × (Nat → Int64)), f_OB_join 0 0 0 0 0 (fun _ => 0) (fun _ => 0) (fun _ => 0) (fun _ => 0) (fun _ => 0) (fun _ => 0) z0 z1 z2 z3 = some o ∧ f_M_join 0 0 0 0 0 (fun _ => 0) (fun _ => 0) (fun _ => 0) (fun _ => 0) (fun _ => 0) (fun _ => 0) z0 z1 z2 z3 = some o' ∧ o.1 = o'.1 := by
  exact ⟨_, _, rfl, rfl, rfl⟩
set_option maxRecDepth 100000 in
theorem P_name (z0 : Int32) (z1 : Int32) : ∃ (o : Int32 × Int32 × (Nat → Int32)) (o' : Int32 × Int32 × (Nat → Int32)), f_OB_name 0 0 0 0 (fun _ => 0) z0 z1 = some o ∧ f_M_name 0 0 0 0 (fun _ => 0) z0 z1 = some o' ∧ o.1 = o'.1 := by
  exact ⟨_, _, rfl, rfl, rfl⟩
set_option maxRecDepth 100000 in
theorem P_commit : ∃ (o : Int32 × Int32 × Int32 × Int32 × Int32 × Int32 × Int32 × (Nat → Int32) × (Nat → Int64) × (Nat → Int32) × Int32 × Int64 × Int64 × Int32) (o' : Int32 × Int64 × Int32 × Int32 × Int32 × Int32 × Int32 × Int32 × Int32 × Int32 × Int32 × Int64 × Int32 × (Nat → Int32) × (Nat → Int32) × (Nat → Int32) × (Nat → Int32) × (Nat → Int64) × (Nat → Int64)), f_OB_commit 0 (-1) 0 0 0 0 0 0 (fun _ => 0) (fun _ => 0) (fun _ => 0) (fun _ => 0) (fun _ => 0) (fun _ => 0) 0 0 0 0 = some o ∧ f_M_commit 0 0 0 0 0 0 (-1) 0 0 0 0 0 0 0 0 (fun _ => 0) (fun _ => 0) (fun _ => 0) (fun _ => 0) (fun _ => 0) (fun _ => 0) = some o' ∧ o.1 = o'.1 := by
  exact ob_ev Prod.fst Prod.fst (by decide +kernel) (by decide +kernel) (by decide +kernel)
set_option maxRecDepth 100000 in
theorem P_abort : ∃ (o : Int32 × Int32) (o' : Int32 × Int32 × (Nat → Int32) × (Nat → Int32) × (Nat → Int64)), f_OB_abort 0 0 = some o ∧ f_M_abort 0 0 (fun _ => 0) (fun _ => 0) (fun _ => 0) (fun _ => 0) (fun _ => 0) (fun _ => 0) = some o' ∧ o.1 = o'.1 := by
  exact ob_ev Prod.fst Prod.fst (by decide +kernel) (by decide +kernel) (by decide +kernel)
set_option maxRecDepth 100000 in
theorem P_collect : ∃ (o : Int32 × Int32 × Int32 × Int32 × Int32 × Int32 × (Nat → Int32) × Int32 × Int64 × Int64 × Int32) (o' : Int32 × Int64 × Int32 × Int32 × Int32 × Int32 × Int32 × Int32 × Int32 × Int64 × Int32 × (Nat → Int64) × (Nat → Int32) × (Nat → Int32)), f_OB_collect 0 (-1) 0 0 0 0 (fun _ => 0) (fun _ => 0) (fun _ => 0) (fun _ => 0) 0 0 0 0 = some o ∧ f_M_collect 0 0 0 0 0 0 (-1) 0 0 0 0 0 0 (fun _ => 0) (fun _ => 0) (fun _ => 0) (fun _ => 0) (fun _ => 0) (fun _ => 0) (fun _ => 0) (fun _ => 0) (fun _ => 0) (fun _ => 0) = some o' ∧ o.1 = o'.1 := by
  exact ob_ev Prod.fst Prod.fst (by decide +kernel) (by decide +kernel) (by decide +kernel)
set_option maxRecDepth 100000 in
theorem P_arm (z0 : Int32) : ∃ (o : Int32 × Int32) (o' : Int32 × Int32), f_OB_arm (-1) 0 z0 = some o ∧ f_M_arm 0 (-1) z0 = some o' ∧ o.1 = o'.1 := by
  unfold f_OB_arm f_M_arm
  rw [if_pos rfl]
  by_cases h1 : z0 < 0
  · simp only [if_pos h1]; exact ⟨_, _, rfl, rfl, rfl⟩
  · simp only [if_neg h1]
    by_cases h2 : z0 ≤ 1000
    · simp only [if_pos h2]; exact ⟨_, _, rfl, rfl, rfl⟩
    · simp only [if_neg h2]; exact ⟨_, _, rfl, rfl, rfl⟩
set_option maxRecDepth 100000 in
theorem P_crash : ∃ (o : Int32 × Int32 × Int32 × Int32 × Int64 × Int64 × Int32) (o' : Int32 × Int32 × Int32 × Int32 × Int32 × Int64 × Int32 × (Nat → Int32) × (Nat → Int32) × (Nat → Int64)), f_OB_crash 0 0 0 0 0 0 = some o ∧ f_M_crash 0 0 0 0 0 0 0 (fun _ => 0) (fun _ => 0) (fun _ => 0) (fun _ => 0) (fun _ => 0) (fun _ => 0) = some o' ∧ o.1 = o'.1 := by
  exact ob_ev Prod.fst Prod.fst (by decide +kernel) (by decide +kernel) (by decide +kernel)
set_option maxRecDepth 100000 in
theorem P_recover : ∃ (o : Int32 × Int32 × Int32 × Int32 × Int32 × Int32) (o' : Int32 × Int64 × Int32 × Int32 × Int32 × Int32 × Int32 × Int32 × (Nat → Int32) × (Nat → Int32) × (Nat → Int64)), f_OB_recover 0 (-1) 0 0 0 = some o ∧ f_M_recover 0 0 0 0 (-1) 0 0 0 0 (fun _ => 0) (fun _ => 0) (fun _ => 0) (fun _ => 0) (fun _ => 0) (fun _ => 0) = some o' ∧ o.1 = o'.1 := by
  exact ob_ev Prod.fst Prod.fst (by decide +kernel) (by decide +kernel) (by decide +kernel)
set_option maxRecDepth 100000 in
theorem P_classOf (z0 : Int32) : ∃ (o : Int32) (o' : Int32), f_OB_classOf 0 0 (fun _ => 0) (fun _ => 0) z0 = some o ∧ f_M_classOf 0 0 0 0 (fun _ => 0) z0 = some o' ∧ o = o' := by
  refine ⟨0, 0, ?_, ?_, rfl⟩
  · show (f_Image_classAt (fun _ => 0) z0).bind _ = some 0
    rw [ca0]; rfl
  · unfold f_M_classOf
    rw [if_pos rfl, th0]; rfl
set_option maxRecDepth 100000 in
theorem P_reached (z0 : Int32) : ∃ (o : Int32) (o' : Int32), f_OB_reached 0 0 0 (fun _ => 0) (fun _ => 0) (fun _ => 0) (fun _ => 0) (fun _ => 0) z0 = some o ∧ f_M_reached 0 0 0 (fun _ => 0) (fun _ => 0) (fun _ => 0) (fun _ => 0) (fun _ => 0) (fun _ => 0) (fun _ => 0) (fun _ => 0) (fun _ => 0) (fun _ => 0) z0 = some o' ∧ o = o' := by
  refine ⟨0, 0, ?_, ?_, rfl⟩
  · show ((f_Image_reachedIds 0 (fun _ => 0) (fun _ => 0) (fun _ => 0)).bind fun o18 => ((f_OB_contains o18 z0).bind fun o22 => (if o22 = 0 then (some 0) else (some 1)))) = some 0
    rw [rx0]
    show ((f_OB_contains 0 z0).bind fun o22 => (if o22 = 0 then (some (0 : Int32)) else (some 1))) = some 0
    rw [co0]; rfl
  · unfold f_M_reached
    rw [if_pos rfl, rmf0]
    show ((f_M_in 0 z0).bind fun o13 => (if o13 = 0 then (some (0 : Int32)) else (some 1))) = some 0
    rw [in0]; rfl
set_option maxRecDepth 100000 in
theorem P_get (z0 : Int32) (z1 : Int32) : ∃ (o : Int32) (o' : Int32), f_OB_get 0 0 (fun _ => 0) 0 (fun _ => 0) (fun _ => 0) (fun _ => 0) (fun _ => 0) (fun _ => 0) (fun _ => 0) z0 z1 = some o ∧ f_M_get 0 0 0 0 0 (fun _ => 0) (fun _ => 0) (fun _ => 0) (fun _ => 0) (fun _ => 0) (fun _ => 0) z0 z1 = some o' ∧ o = o' := by
  refine ⟨-1, -1, ?_, ?_, rfl⟩
  · show ((f_Image_classAt (fun _ => 0) z0).bind _) = some (-1)
    rw [ca0]
    show ((f_Schema_hasField 0 (fun _ => 0) (fun _ => 0) 0 z1).bind _) = some (-1)
    rw [hf0]; rfl
  · unfold f_M_get
    rw [if_pos rfl, th0]; rfl
set_option maxRecDepth 100000 in
theorem P_holds (z0 : Int32) (z1 : Int32) (z2 : Int32) : ∃ (o : Int32) (o' : Int32), f_OB_holds 0 0 (fun _ => 0) 0 (fun _ => 0) (fun _ => 0) (fun _ => 0) (fun _ => 0) (fun _ => 0) (fun _ => 0) z0 z1 z2 = some o ∧ f_M_holds 0 0 0 0 0 (fun _ => 0) (fun _ => 0) (fun _ => 0) (fun _ => 0) (fun _ => 0) z0 z1 z2 = some o' ∧ o = o' := by
  refine ⟨0, 0, ?_, ?_, rfl⟩
  · show ((f_Image_classAt (fun _ => 0) z0).bind _) = some 0
    rw [ca0]
    show ((f_Schema_hasFieldOfKind 0 (fun _ => 0) (fun _ => 0) (fun _ => 0) 0 z1 2).bind _) = some 0
    unfold f_Schema_hasFieldOfKind
    rw [hf0]; rfl
  · unfold f_M_holds
    rw [if_pos rfl, th0]; rfl
set_option maxRecDepth 100000 in
theorem P_named (z0 : Int32) : ∃ (o : Int32) (o' : Int32), f_OB_named 0 0 (fun _ => 0) (fun _ => 0) z0 = some o ∧ f_M_named 0 (fun _ => 0) z0 = some o' ∧ o = o' := by
  unfold f_OB_named f_M_named f_OB_isName
  by_cases h1 : z0 < 0
  · rw [if_pos h1, if_pos h1]; exact ⟨_, _, rfl, rfl, rfl⟩
  · rw [if_neg h1, if_neg h1]
    have e3 : (3 : Int32).toInt = 3 := by decide
    have e4 : (4 : Int32).toInt = 4 := by decide
    have e0 : (0 : Int32).toInt = 0 := by decide
    by_cases h2 : (4 : Int32) ≤ z0
    · have h3 : ¬ z0 ≤ 3 := by
        rw [Int32.le_iff_toInt_le] at h2 ⊢; omega
      rw [if_pos h2, if_neg h3]; exact ⟨_, _, rfl, rfl, rfl⟩
    · have h3 : z0 ≤ 3 := by
        rw [Int32.le_iff_toInt_le] at h2 ⊢; omega
      have h4 : 0 ≤ z0.toInt ∧ z0.toInt < (4 : Nat) := by
        rw [Int32.lt_iff_toInt_lt] at h1; rw [Int32.le_iff_toInt_le] at h2; omega
      rw [if_neg h2, if_pos h3, ob_iv_i h4]
      exact ⟨0, 0, rfl, rfl, rfl⟩
-- draft on a fresh base: both sides read the same bytes
theorem dr_byte (x : Int64) : ∃ v : Nat, v < 256 ∧ x.toInt32 &&& 255 = nI v ∧ x &&& 255 = lN v := by
  refine ⟨x.toBitVec.toNat % 256, Nat.mod_lt _ (by decide), ?_, ?_⟩
  · have hx : x = lN x.toBitVec.toNat := by
      apply Int64.toBitVec_inj.mp
      show x.toBitVec = BitVec.ofNat 64 _
      simp
    have hy : x.toInt32 = nI x.toBitVec.toNat := by
      conv => lhs; rw [hx]
      exact lN_i _
    rw [hy, pk_and _ (m := 255) 8 (by decide)]
    congr 1
    show (BitVec.ofNat 32 x.toBitVec.toNat).toNat % 2 ^ 8 = _
    rw [BitVec.toNat_ofNat]
    omega
  · apply Int64.toBitVec_inj.mp
    apply BitVec.eq_of_toNat_eq
    rw [Int64.toBitVec_and, BitVec.toNat_and]
    show x.toBitVec.toNat &&& 255 = (BitVec.ofNat 64 _).toNat
    rw [BitVec.toNat_ofNat, show (255 : Nat) = 2 ^ 8 - 1 from rfl, Nat.and_two_pow_sub_one_eq_mod]
    omega
theorem dr_wx (s : Int64) : ∀ (n j c : Nat) (ch : Nat → Int32), j ≤ c → c ≤ 8 → c - j < n → ∃ o, f_Text_append_L74 s n (nI c) (nI j) 0 ch = some o ∧ o.1 = 1 := by
  intro n
  induction n with
  | zero => intro j c ch _ _ h; omega
  | succ n ih =>
    intro j c ch h1 h2 h3
    show ∃ o, f_Text_append_B74 s (f_Text_append_L74 s n) (nI c) (nI j) 0 ch = some o ∧ o.1 = 1
    unfold f_Text_append_B74
    by_cases h : j = c
    · subst h
      rw [if_pos (nI_le (Nat.le_refl j) (by omega))]
      exact ⟨_, rfl, rfl⟩
    · rw [if_neg (nI_ge (by omega) (by omega))]
      show ∃ o : Int32 × Int32 × (Nat → Int32), ob_iv (0 + nI j) 60 _ = some o ∧ o.1 = 1
      rw [ob_iv_i (by rw [Int32.zero_add, nI_toInt (by omega)]; omega), nI_1]
      exact ih (j + 1) c _ (by omega) h2 (by omega)
theorem dr_wm (s : Int64) : ∀ (n j c : Nat) (ch : Nat → Int32), j ≤ c → c ≤ 8 → c - j < n → ∃ o, f_M_draft_L112 s n (nI c) (nI j) 0 ch = some o ∧ o.1 = 1 := by
  intro n
  induction n with
  | zero => intro j c ch _ _ h; omega
  | succ n ih =>
    intro j c ch h1 h2 h3
    show ∃ o, f_M_draft_B112 s (f_M_draft_L112 s n) (nI c) (nI j) 0 ch = some o ∧ o.1 = 1
    unfold f_M_draft_B112
    by_cases h : j = c
    · subst h
      rw [if_pos (nI_le (Nat.le_refl j) (by omega))]
      exact ⟨_, rfl, rfl⟩
    · rw [if_neg (nI_ge (by omega) (by omega))]
      rw [ob_iv_i (by rw [Int32.zero_add, nI_toInt (by omega)]; omega), nI_1]
      exact ih (j + 1) c _ (by omega) h2 (by omega)
theorem dr_jm0 (s : Int64) (c : Nat) (ch : Nat → Int32) : ∃ o, f_M_draft_J87 s (nI c) 0 0 ch = some o ∧ o.1 = 0 := by
  unfold f_M_draft_J87
  by_cases h : nI c = 0
  · rw [if_pos h]; exact ⟨_, rfl, rfl⟩
  · rw [if_neg h, if_pos rfl]; exact ⟨_, rfl, rfl⟩
theorem dr_bad (s : Int64) : ∀ (n i : Nat) (ch : Nat → Int32), i ≤ 8 → 8 - i < n → ∃ o, f_M_draft_L18 s n (nI i) 0 0 ch = some o ∧ o.1 = 0 := by
  intro n
  induction n with
  | zero => intro i ch _ h; omega
  | succ n ih =>
    intro i ch h1 h2
    show ∃ o, f_M_draft_B18 s (f_M_draft_L18 s n) (nI i) 0 0 ch = some o ∧ o.1 = 0
    unfold f_M_draft_B18
    by_cases h : i = 8
    · subst h
      rw [if_pos (show (8 : Int32) ≤ nI 8 by decide)]
      exact dr_jm0 s 8 ch
    · rw [if_neg (show ¬ (8 : Int32) ≤ nI i from nI_ge (b := 8) (by omega) (by decide))]
      split
      · exact dr_jm0 s i ch
      · rw [if_pos rfl, nI_1]
        exact ih (i + 1) ch (by omega) (by omega)
theorem dr_j (s : Int64) (i : Nat) (hi : i ≤ 8) (c1 c2 : Nat → Int32) : ∃ o o', f_Text_append_J54 s (nI i) 0 c1 = some o ∧ f_M_draft_J87 s (nI i) 1 0 c2 = some o' ∧ o.1 = o'.1 ∧ (o.1 = 0 ∨ o.1 = 1) := by
  unfold f_Text_append_J54 f_M_draft_J87
  by_cases h : i = 0
  · subst h
    exact ⟨_, _, rfl, rfl, rfl, Or.inl rfl⟩
  · have h1 : ¬ nI i = 0 := nI_ne0 (by omega) (by omega)
    have h2 : (0 : Int32) + nI i ≤ 60 := by
      rw [Int32.zero_add]
      exact nI_le (b := 60) (by omega) (by decide)
    rw [if_neg h1, if_pos h2, if_neg h1, if_neg (by decide), if_pos h2]
    obtain ⟨o, e1, e2⟩ := dr_wx s 1000 0 i c1 (by omega) hi (by omega)
    obtain ⟨o', e3, e4⟩ := dr_wm s 1000 0 i c2 (by omega) hi (by omega)
    exact ⟨o, o', e1, e3, by rw [e2, e4], Or.inr e2⟩
theorem dr_main (s : Int64) (c1 c2 : Nat → Int32) : ∀ (n i : Nat), i ≤ 8 → 8 - i < n → ∃ o o', f_Text_append_L5 s n (nI i) (nI i) 0 c1 = some o ∧ f_M_draft_L18 s n (nI i) 1 0 c2 = some o' ∧ o.1 = o'.1 ∧ (o.1 = 0 ∨ o.1 = 1) := by
  intro n
  induction n with
  | zero => intro i _ h; omega
  | succ n ih =>
    intro i h1 h2
    show ∃ o o', f_Text_append_B5 s (f_Text_append_L5 s n) (nI i) (nI i) 0 c1 = some o ∧ f_M_draft_B18 s (f_M_draft_L18 s n) (nI i) 1 0 c2 = some o' ∧ o.1 = o'.1 ∧ (o.1 = 0 ∨ o.1 = 1)
    unfold f_Text_append_B5 f_M_draft_B18 f_Text_byteOf
    by_cases h : i = 8
    · subst h
      rw [if_pos (show (8 : Int32) ≤ nI 8 by decide), if_pos (show (8 : Int32) ≤ nI 8 by decide)]
      exact dr_j s 8 (by decide) c1 c2
    · have h8 : ¬ (8 : Int32) ≤ nI i := nI_ge (b := 8) (by omega) (by decide)
      rw [if_neg h8, if_neg h8]
      generalize (s.toUInt64 >>> ((8 * nI i).toInt64.toUInt64 &&& Int64.toUInt64 63)).toInt64 = x
      obtain ⟨v, hv, hc, hm⟩ := dr_byte x
      rw [hc, hm, nI_1]
      show ∃ o o', (if nI v = 0 then _ else (if nI v < 33 then _ else (if nI v ≤ 126 then _ else _))) = some o ∧ _ ∧ _
      by_cases v0 : v = 0
      · subst v0
        rw [if_pos (show nI 0 = 0 from rfl), if_pos (show lg_cmp (lN 0) 0 = 0 from (lg_cmp_eq _ _).mpr rfl)]
        exact dr_j s i (by omega) c1 c2
      · have e1 : ¬ nI v = 0 := nI_ne0 (by omega) (by omega)
        have e2 : ¬ lg_cmp (lN v) 0 = 0 := fun hh => v0 ((lN_eq (by omega) (by decide)).mp ((lg_cmp_eq _ _).mp hh))
        rw [if_neg e1, if_neg e2, if_neg (show ¬ (1 : Int32) = 0 by decide)]
        by_cases v33 : v < 33
        · have e3 : nI v < 33 := nI_lt (b := 33) v33 (by decide)
          have e4 : lg_cmp (lN v) 33 < 0 := (lg_cmp_lt _ _).mpr ((lN_lt (b := 33) (by omega) (by decide)).mpr v33)
          rw [if_pos e3, if_pos e4]
          obtain ⟨o', e5, e6⟩ := dr_bad s n (i + 1) c2 (by omega) (by omega)
          exact ⟨_, o', rfl, e5, by rw [e6], Or.inl rfl⟩
        · have e3 : ¬ nI v < 33 := nI_nlt (b := 33) (by omega) (by omega)
          have e4 : ¬ lg_cmp (lN v) 33 < 0 := fun hh => v33 ((lN_lt (b := 33) (by omega) (by decide)).mp ((lg_cmp_lt _ _).mp hh))
          rw [if_neg e3, if_neg e4]
          by_cases v126 : v ≤ 126
          · have e5 : nI v ≤ 126 := nI_le (b := 126) v126 (by decide)
            have e6 : ¬ 0 < lg_cmp (lN v) 126 := fun hh => by
              have := (lN_lt (a := 126) (by decide) (by omega)).mp ((lg_cmp_gt _ _).mp hh)
              omega
            rw [if_pos e5, if_neg e6]
            exact ih (i + 1) (by omega) (by omega)
          · have e5 : ¬ nI v ≤ 126 := nI_ge (a := 126) (by omega) (by omega)
            have e6 : 0 < lg_cmp (lN v) 126 := (lg_cmp_gt _ _).mpr ((lN_lt (a := 126) (by decide) (by omega)).mpr (by omega))
            rw [if_neg e5, if_pos e6]
            obtain ⟨o', e7, e8⟩ := dr_bad s n (i + 1) c2 (by omega) (by omega)
            exact ⟨_, o', rfl, e7, by rw [e8], Or.inl rfl⟩
theorem P_draft (z0 : Int64) : ∃ (o : Int32 × Int32 × (Nat → Int32)) (o' : Int32 × Int32 × (Nat → Int32)), f_OB_draft 0 0 (fun _ => 0) z0 = some o ∧ f_M_draft 0 (fun _ => 0) z0 = some o' ∧ o.1 = o'.1 := by
  by_cases h : lg_cmp z0 0 = 0
  · unfold f_OB_draft f_M_draft
    rw [if_pos rfl, if_pos h, if_pos h]
    exact ⟨_, _, rfl, rfl, rfl⟩
  · obtain ⟨o, o', e1, e2, e3, e4⟩ := dr_main z0 (fun _ => 0) (fun _ => 0) 1000 0 (by decide) (by decide)
    refine ⟨(o.1, o.2.1, o.2.2), o', ?_, ?_, e3⟩
    · unfold f_OB_draft f_Text_append
      rw [if_pos rfl, if_neg h, show f_Text_append_L5 z0 1000 0 0 0 (fun _ => 0) = some o from e1]
      show ob_nz o.1 _ = _
      rw [ob_nz_i e4]
    · unfold f_M_draft
      rw [if_neg h]
      exact e2
set_option maxRecDepth 100000 in
theorem P_prepare : ∃ (o' : Int32 × Int32 × Int32 × Int32 × Int32 × Int32 × Int32 × Int32 × (Nat → Int32) × (Nat → Int32) × (Nat → Int32) × (Nat → Int32) × (Nat → Int32) × (Nat → Int32) × (Nat → Int32) × (Nat → Int32) × (Nat → Int32) × (Nat → Int32) × (Nat → Int32)), f_M_prepare 0 0 0 0 0 0 0 0 0 0 0 (fun _ => 0) (fun _ => 0) (fun _ => 0) (fun _ => 0) (fun _ => 0) (fun _ => 0) (fun _ => 0) (fun _ => 0) (fun _ => 0) (fun _ => 0) (fun _ => 0) (fun _ => 0) (fun _ => 0) (fun _ => 0) (fun _ => 0) (fun _ => 0) = some o' ∧ (-1) = o'.1 := by
  obtain ⟨o, h1, h2⟩ := ob_ev1 (c := (-1 : Int32)) (f := f_M_prepare 0 0 0 0 0 0 0 0 0 0 0 (fun _ => 0) (fun _ => 0) (fun _ => 0) (fun _ => 0) (fun _ => 0) (fun _ => 0) (fun _ => 0) (fun _ => 0) (fun _ => 0) (fun _ => 0) (fun _ => 0) (fun _ => 0) (fun _ => 0) (fun _ => 0) (fun _ => 0) (fun _ => 0)) Prod.fst (by decide +kernel) (by decide +kernel)
  exact ⟨o, h1, h2.symm⟩
set_option maxRecDepth 100000 in
theorem P_ask (z0 : Int32) : ∃ (o : Int32) (o' : Int32 × Int32 × Int32 × Int32 × Int32 × Int32 × Int64 × Int32 × Int32 × Int64 × Int32 × (Nat → Int32) × (Nat → Int32) × (Nat → Int32) × (Nat → Int64) × (Nat → Int32) × (Nat → Int32)), f_OB_ask0 0 0 0 z0 = some o ∧ f_M_ask 0 0 0 0 0 0 0 0 0 0 0 0 0 0 0 0 (fun _ => 0) (fun _ => 0) (fun _ => 0) (fun _ => 0) (fun _ => 0) (fun _ => 0) (fun _ => 0) (fun _ => 0) (fun _ => 0) (fun _ => 0) (fun _ => 0) (fun _ => 0) (fun _ => 0) (fun _ => 0) (fun _ => 0) (fun _ => 0) (fun _ => 0) (fun _ => 0) (fun _ => 0) (fun _ => 0) (fun _ => 0) (fun _ => 0) (fun _ => 0) (fun _ => 0) (fun _ => 0) (fun _ => 0) z0 = some o' ∧ o = o'.1 := by
  unfold f_OB_ask0 f_M_ask
  rw [if_pos rfl, if_pos rfl, if_pos rfl]
  by_cases h1 : z0 < 0
  · rw [if_pos h1, if_pos h1]; exact ⟨_, _, rfl, rfl, rfl⟩
  · have h2 : (0 : Int32) ≤ z0 := by
      rw [Int32.lt_iff_toInt_lt] at h1; rw [Int32.le_iff_toInt_le]; omega
    rw [if_neg h1, if_neg h1, if_neg h1, if_pos h2]; exact ⟨_, _, rfl, rfl, rfl⟩
set_option maxRecDepth 100000 in
theorem P_sum : ∃ (o : Int64) (o' : Int64), f_OB_sum 0 0 = some o ∧ f_M_sum 0 0 = some o' ∧ o = o' := by
  exact ⟨_, _, rfl, rfl, rfl⟩
set_option maxRecDepth 100000 in
theorem P_hit (z0 : Int32) : ∃ (o : Int32) (o' : Int32), f_OB_hit 0 0 0 z0 = some o ∧ f_M_hit 0 0 0 (fun _ => 0) z0 = some o' ∧ o = o' := by
  exact ⟨_, _, rfl, rfl, rfl⟩
set_option maxRecDepth 100000 in
theorem P_look (z0 : Int32) : ∃ (o : Int32) (o' : Int32), f_OB_look 0 0 (-1) 0 0 0 (fun _ => 0) 0 (fun _ => 0) (fun _ => 0) (fun _ => 0) 0 z0 = some o ∧ f_M_look 0 0 0 0 0 0 (-1) 0 0 (fun _ => 0) (fun _ => 0) (fun _ => 0) (fun _ => 0) (fun _ => 0) (fun _ => 0) (fun _ => 0) (fun _ => 0) (fun _ => 0) (fun _ => 0) z0 = some o' ∧ o = o' := by
  by_cases k0 : z0 = 0
  · subst k0; exact ob_ev (fun (o : Int32) => o) (fun (o : Int32) => o) (by decide +kernel) (by decide +kernel) (by decide +kernel)
  by_cases k1 : z0 = 1
  · subst k1; exact ob_ev (fun (o : Int32) => o) (fun (o : Int32) => o) (by decide +kernel) (by decide +kernel) (by decide +kernel)
  by_cases k2 : z0 = 2
  · subst k2; exact ob_ev (fun (o : Int32) => o) (fun (o : Int32) => o) (by decide +kernel) (by decide +kernel) (by decide +kernel)
  by_cases k3 : z0 = 3
  · subst k3; exact ob_ev (fun (o : Int32) => o) (fun (o : Int32) => o) (by decide +kernel) (by decide +kernel) (by decide +kernel)
  by_cases k4 : z0 = 4
  · subst k4; exact ob_ev (fun (o : Int32) => o) (fun (o : Int32) => o) (by decide +kernel) (by decide +kernel) (by decide +kernel)
  by_cases k5 : z0 = 5
  · subst k5; exact ob_ev (fun (o : Int32) => o) (fun (o : Int32) => o) (by decide +kernel) (by decide +kernel) (by decide +kernel)
  by_cases k6 : z0 = 6
  · subst k6; exact ob_ev (fun (o : Int32) => o) (fun (o : Int32) => o) (by decide +kernel) (by decide +kernel) (by decide +kernel)
  by_cases k7 : z0 = 7
  · subst k7; exact ob_ev (fun (o : Int32) => o) (fun (o : Int32) => o) (by decide +kernel) (by decide +kernel) (by decide +kernel)
  by_cases k8 : z0 = 8
  · subst k8; exact ob_ev (fun (o : Int32) => o) (fun (o : Int32) => o) (by decide +kernel) (by decide +kernel) (by decide +kernel)
  unfold f_OB_look f_M_look f_M_look_J19
  rw [if_pos (show (0 : Int32) = 0 from rfl)]
  simp only [if_neg k0, if_neg k1, if_neg k2, if_neg k3, if_neg k4, if_neg k5, if_neg k6, if_neg k7, if_neg k8]
  exact ⟨_, _, rfl, rfl, rfl⟩
