theorem ob_arr {args : Array Value} {s : State} {ty : FieldType} (h : (Cond.arrayClass ty).before args s = true) : ∃ cA : ClassId, ArrOfT s cA ty ∧ s.vm.findClass ("[" ++ ty.toString) = some cA := by
  obtain ⟨c, k, comp, h1, h2, h3⟩ := Cond.arrayClass_spec h
  exact ⟨c, fun n z => ⟨fun k h => (by cases h), k, h2, comp, h3⟩, h1⟩
theorem ob_K0 {args : Array Value} {s : State} (hts : ∀ w ∈ obW, w.before args s = true) (hZ : obZ s) : ∃ (D : va_G) (G : Nat → ClassId), va_K D vwCl (obT G) s := by
  obtain ⟨c0, i0, h0⟩ := u_known hts inC_OB (hts _ tw16)
  obtain ⟨c1, i1, h1⟩ := u_known hts inC_Schema (hts _ tw24)
  obtain ⟨c2, i2, h2⟩ := u_known hts inC_Indexes (hts _ tw58)
  obtain ⟨c3, i3, h3⟩ := u_known hts inC_Disk (hts _ tw75)
  obtain ⟨c4, i4, h4⟩ := u_known hts inC_Image (hts _ tw103)
  obtain ⟨c5, i5, h5⟩ := u_known hts inC_Batch (hts _ tw124)
  obtain ⟨c6, i6, h6⟩ := u_known hts inC_Text (hts _ tw151)
  obtain ⟨c7, i7, h7⟩ := u_known hts inC_Question (hts _ tw525)
  obtain ⟨c8, i8, h8⟩ := u_known hts inC_Reader (hts _ tw170)
  obtain ⟨c9, i9, h9⟩ := u_known hts inC_Judge (hts _ tw195)
  obtain ⟨c10, i10, h10⟩ := u_known hts inC_Answer (hts _ tw211)
  obtain ⟨c11, i11, h11⟩ := u_known hts inC_M (hts _ tw782)
  obtain ⟨g0, k0, n0⟩ := ob_arr (hts _ tw56)
  obtain ⟨g1, k1, n1⟩ := ob_arr (hts _ tw122)
  obtain ⟨g2, k2, n2⟩ := ob_arr (hts _ tw166)
  obtain ⟨g3, k3, n3⟩ := ob_arr (hts _ tw986)
  obtain ⟨comp, g4, kq, e1, -, e2, e3, e4⟩ := Cond.arrayOver_spec hZ.1
  refine ⟨(fun k => [c0, c1, c2, c3, c4, c5, c6, c7, c8, c9, c10, c11].getD k c0, fun k => [i0, i1, i2, i3, i4, i5, i6, i7, i8, i9, i10, i11].getD k i0), fun k => [g0, g1, g2, g3, g4].getD k g0, ?_, ?_⟩
  · intro c q hq
    have hc : c < 12 := (List.getElem?_eq_some_iff.mp hq).1
    rcases (show c = 0 ∨ c = 1 ∨ c = 2 ∨ c = 3 ∨ c = 4 ∨ c = 5 ∨ c = 6 ∨ c = 7 ∨ c = 8 ∨ c = 9 ∨ c = 10 ∨ c = 11 by omega) with rfl | rfl | rfl | rfl | rfl | rfl | rfl | rfl | rfl | rfl | rfl | rfl
    · cases hq; exact h0
    · cases hq; exact h1
    · cases hq; exact h2
    · cases hq; exact h3
    · cases hq; exact h4
    · cases hq; exact h5
    · cases hq; exact h6
    · cases hq; exact h7
    · cases hq; exact h8
    · cases hq; exact h9
    · cases hq; exact h10
    · cases hq; exact h11
  · intro k q hq
    have hc : k < 5 := (List.getElem?_eq_some_iff.mp hq).1
    rcases (show k = 0 ∨ k = 1 ∨ k = 2 ∨ k = 3 ∨ k = 4 by omega) with rfl | rfl | rfl | rfl | rfl
    · cases hq; exact ⟨k0, n0⟩
    · cases hq; exact ⟨k1, n1⟩
    · cases hq; exact ⟨k2, n2⟩
    · cases hq; exact ⟨k3, n3⟩
    · cases hq; exact ⟨fun n z => ⟨fun k h => (by cases h), kq, e2, comp, e3⟩, kq, comp, e2, e3, e1, e4⟩
set_option maxHeartbeats 8000000 in
set_option maxRecDepth 100000 in
theorem whole_start {p : Program} {e : Env} {s : State} {m : MethodId} {below : List Frame} {meth : Method} {c : Code} (l : Launch) {b L : Nat} {xs : Nat → Int32} (hL : L ≤ 5) (C0 : lw_At p s m meth c b L xs) : W p l e room_1 s m #[Value.ref b] below meth c s.heap [] 0 0 (lw_Z below #[Value.ref b] s) (entryFrame m ([Value.ref b] : List Value).toArray 4) := by
  obtain ⟨hx, hb, hr, hml, hown, htl, hX, hbl, hlk, hgv⟩ := C0
  have hts : ∀ w ∈ obW, w.before #[Value.ref b] s = true := fun w h => htl w (List.mem_filter.mp h).1
  have hZ : obZ s := ⟨va_AO.of (htl _ (lw_an 168 (by decide +kernel))), fun a i x h hm => va_Nw.of rfl (htl _ hm)⟩
  obtain ⟨D, G, hK⟩ := ob_K0 hts hZ
  have hown : s.vm.findClass "ObjectBaseLaw" = some m.cls := hown
  obtain ⟨A, hAe⟩ : ∃ A : Nat → Prop, A = fun q => s.heap.size ≤ q := ⟨_, rfl⟩
  have hA : ∀ q, s.heap.size ≤ q → A q := by rw [hAe]; exact fun q h => h
  have hA2 : ∀ q, A q → s.heap.size ≤ q := by rw [hAe]; exact fun q h => h
  have hbA : ¬ A b := fun h => absurd hbl (Nat.not_lt.mpr (hA2 b h))
  have hS : va_S A s.heap s.heap [] := va_S.rf
  have hP : va_P D vwCl [] s.heap := fun k q h => by simp at h
  have hD : va_D A [] := ⟨fun i j p q h => by simp at h, fun k q h => by simp at h⟩
  have hl := lv_entry [Value.ref b] (n := 4) (Nat.le_of_ble_eq_true rfl)
  rw [lg_entry_eq]
  generalize (lg_sl [Value.ref b] ++ List.replicate (4 - (lg_sl [Value.ref b]).length) Slot.unset).toArray = ls at hl ⊢
  have hl : lv_has ls 4 [(0, .ref b)] := hl
  refine va_new (ci := 0) (fs := [.null, .null, .null, .null, .null, .null, .null, .null, .null, .null, .int 0, .int 0, .int 0]) (C := "ObjectBase") (T := TC_OB) (N := 13) hx hb hts inC_OB tyC_OB tyC_OB_ok hown (hts _ tw15) (hts _ tw16) (hts _ tw1) hK hP hD hS hA rfl (by intro j hj; rcases (show j = 0 ∨ j = 1 ∨ j = 2 ∨ j = 3 ∨ j = 4 ∨ j = 5 ∨ j = 6 ∨ j = 7 ∨ j = 8 ∨ j = 9 ∨ j = 10 ∨ j = 11 ∨ j = 12 by omega) with rfl | rfl | rfl | rfl | rfl | rfl | rfl | rfl | rfl | rfl | rfl | rfl | rfl <;> rfl) (Nat.le_of_ble_eq_true rfl) (Nat.le_of_ble_eq_true rfl) dL_0 (fun a_x H hP hD hS => ?_)
  refine W.cs (cells' := 1) (slots' := 13) rfl rfl ?_
  have hP : va_P D vwCl [(a_x, .inr (0, [.null, .null, .null, .null, .null, .null, .null, .null, .null, .null, .int 0, .int 0, .int 0]))] H := hP
  have hD : va_D A [(a_x, .inr (0, [.null, .null, .null, .null, .null, .null, .null, .null, .null, .null, .int 0, .int 0, .int 0]))] := hD
  refine lv_dup hx hb dL_3 rfl ?_
  have hFc := va_free (wc := [(a_x, .inr (0, [.null, .null, .null, .null, .null, .null, .null, .null, .null, .null, .int 0, .int 0, .int 0]))]) hD hS hA [0] rfl
  refine va_callv (va_runI (As := []) (rest := [.ref a_x]) ⟨hx, hb, hml, hown, hts⟩ (n_OB l D G a_x H.size) (cwI 0 hts (gN tw19) rfl rfl rfl (hts _ tw1) (hts _ tw17) (hts _ tw18) rfl (by decide +kernel) ⟨Nat.le_of_ble_eq_true rfl, Nat.le_of_ble_eq_true rfl⟩) (ob_preS hZ hK hP hD [0] rfl rfl) rfl rfl hl.1 rfl (lv_room (Nat.le_of_ble_eq_true rfl)) dL_4 ⟨Nat.le_of_ble_eq_true rfl, Nat.le_of_ble_eq_true rfl⟩) hS (fun q _ h => hFc q h) hFc (fun u t H1 locs ht hvm hw hB hz1 hk1 hS => ?_)
  obtain ⟨hP1, hK1, hD1⟩ := hB
  rw [ht] at hP1
  obtain ⟨x0, x1, x2, x3, x4, x5, x6, x7, x8, x9, x10, x11, x12, x13, x14, x15, x16, x17, x18, x19, x20, x21, x22, x23, x24, x25⟩ := u
  dsimp only at hP1 hD1
  obtain ⟨hP, hD⟩ := va_join (wr := []) (w1 := nw_OB G a_x x0 x1 x2 x3 x4 x5 x6 x7 x8 x9 x10 x11 x12 x13 x14 x15 x16 x17 x18 x19 x20 x21 x22 x23 x24 x25) hP hD [0] [] rfl rfl (by decide) (by decide) hk1 hFc hP1 hD1
  clear hP1 hD1 hK1 hFc
  generalize H1 = H at hP hS ⊢
  refine W.cs (cells' := 27) (slots' := 1317) rfl rfl ?_
  have hP : va_P D vwCl [(a_x, .inr (0, [.ref x0, .ref x5, .ref x8, .ref x9, .ref x13, .ref x18, .ref x20, .ref x21, .ref x23, .ref x25, .int 0, .int 0, .int 0])), (x0, .inr (1, [.ref x1, .ref x2, .ref x3, .ref x4, .int 0, .int 0])), (x1, .inl (G 0, 6, .inl (fun _ => 0))), (x2, .inl (G 0, 8, .inl (fun _ => 0))), (x3, .inl (G 0, 8, .inl (fun _ => 0))), (x4, .inl (G 0, 8, .inl (fun _ => 0))), (x5, .inr (2, [.ref x6, .ref x7, .int 0])), (x6, .inl (G 0, 3, .inl (fun _ => 0))), (x7, .inl (G 0, 9, .inl (fun _ => 0))), (x8, .inr (3, [.int 0, .int (-1), .int 0, .int 0, .int 0, .int 0])), (x9, .inr (4, [.ref x10, .ref x11, .ref x12])), (x10, .inl (G 0, 63, .inl (fun _ => 0))), (x11, .inl (G 1, 504, .inr (.inl (fun _ => 0)))), (x12, .inl (G 0, 4, .inl (fun _ => 0))), (x13, .inr (5, [.ref x14, .long 0, .long 0, .int 0, .int 0])), (x14, .inr (4, [.ref x15, .ref x16, .ref x17])), (x15, .inl (G 0, 63, .inl (fun _ => 0))), (x16, .inl (G 1, 504, .inr (.inl (fun _ => 0)))), (x17, .inl (G 0, 4, .inl (fun _ => 0))), (x18, .inr (6, [.ref x19, .int 0])), (x19, .inl (G 2, 60, .inl (fun _ => 0))), (x20, .inl (G 4, 13, .inr (.inr (.inr (.inr (fun _ => none)))))), (x21, .inr (8, [.ref x0, .ref x22, .null, .null, .int 0, .int 0])), (x22, .inl (G 0, 3, .inl (fun _ => 0))), (x23, .inr (9, [.ref x9, .ref x24, .null])), (x24, .inl (G 0, 3, .inl (fun _ => 0))), (x25, .inr (10, [.int 0, .long 0, .long 0, .int 0]))] H := hP
  have hD : va_D A [(a_x, .inr (0, [.ref x0, .ref x5, .ref x8, .ref x9, .ref x13, .ref x18, .ref x20, .ref x21, .ref x23, .ref x25, .int 0, .int 0, .int 0])), (x0, .inr (1, [.ref x1, .ref x2, .ref x3, .ref x4, .int 0, .int 0])), (x1, .inl (G 0, 6, .inl (fun _ => 0))), (x2, .inl (G 0, 8, .inl (fun _ => 0))), (x3, .inl (G 0, 8, .inl (fun _ => 0))), (x4, .inl (G 0, 8, .inl (fun _ => 0))), (x5, .inr (2, [.ref x6, .ref x7, .int 0])), (x6, .inl (G 0, 3, .inl (fun _ => 0))), (x7, .inl (G 0, 9, .inl (fun _ => 0))), (x8, .inr (3, [.int 0, .int (-1), .int 0, .int 0, .int 0, .int 0])), (x9, .inr (4, [.ref x10, .ref x11, .ref x12])), (x10, .inl (G 0, 63, .inl (fun _ => 0))), (x11, .inl (G 1, 504, .inr (.inl (fun _ => 0)))), (x12, .inl (G 0, 4, .inl (fun _ => 0))), (x13, .inr (5, [.ref x14, .long 0, .long 0, .int 0, .int 0])), (x14, .inr (4, [.ref x15, .ref x16, .ref x17])), (x15, .inl (G 0, 63, .inl (fun _ => 0))), (x16, .inl (G 1, 504, .inr (.inl (fun _ => 0)))), (x17, .inl (G 0, 4, .inl (fun _ => 0))), (x18, .inr (6, [.ref x19, .int 0])), (x19, .inl (G 2, 60, .inl (fun _ => 0))), (x20, .inl (G 4, 13, .inr (.inr (.inr (.inr (fun _ => none)))))), (x21, .inr (8, [.ref x0, .ref x22, .null, .null, .int 0, .int 0])), (x22, .inl (G 0, 3, .inl (fun _ => 0))), (x23, .inr (9, [.ref x9, .ref x24, .null])), (x24, .inl (G 0, 3, .inl (fun _ => 0))), (x25, .inr (10, [.int 0, .long 0, .long 0, .int 0]))] := hD
  refine lv_astore_n (lv' := [(1, .ref a_x), (0, .ref b)]) hx hb dL_7 rfl hl (by decide) rfl (fun ls hl => ?_)
  refine va_new (ci := 11) (fs := [.int 0, .null, .int 0, .null, .null, .null, .int 0, .int 0, .null, .null, .int 0, .null, .null, .null, .null, .null, .null, .null, .long 0, .int 0, .int 0, .long 0, .long 0, .long 0, .int 0, .int 0, .int 0, .int 0, .int 0, .int 0, .int 0, .int 0, .null, .int 0, .null, .null, .null, .null, .null, .null, .null, .null, .int 0, .int 0, .int 0, .int 0, .null, .null, .int 0, .int 0, .null, .null, .int 0, .null, .int 0, .null, .null, .null, .int 0, .int 0, .long 0, .int 0, .int 0, .null, .long 0, .int 0]) (C := "ObjectBaseModel") (T := TC_M) (N := 66) hx hb hts inC_M tyC_M tyC_M_ok hown (hts _ tw781) (hts _ tw782) (hts _ tw11) hK hP hD hS hA rfl (by intro j hj; rcases (show j = 0 ∨ j = 1 ∨ j = 2 ∨ j = 3 ∨ j = 4 ∨ j = 5 ∨ j = 6 ∨ j = 7 ∨ j = 8 ∨ j = 9 ∨ j = 10 ∨ j = 11 ∨ j = 12 ∨ j = 13 ∨ j = 14 ∨ j = 15 ∨ j = 16 ∨ j = 17 ∨ j = 18 ∨ j = 19 ∨ j = 20 ∨ j = 21 ∨ j = 22 ∨ j = 23 ∨ j = 24 ∨ j = 25 ∨ j = 26 ∨ j = 27 ∨ j = 28 ∨ j = 29 ∨ j = 30 ∨ j = 31 ∨ j = 32 ∨ j = 33 ∨ j = 34 ∨ j = 35 ∨ j = 36 ∨ j = 37 ∨ j = 38 ∨ j = 39 ∨ j = 40 ∨ j = 41 ∨ j = 42 ∨ j = 43 ∨ j = 44 ∨ j = 45 ∨ j = 46 ∨ j = 47 ∨ j = 48 ∨ j = 49 ∨ j = 50 ∨ j = 51 ∨ j = 52 ∨ j = 53 ∨ j = 54 ∨ j = 55 ∨ j = 56 ∨ j = 57 ∨ j = 58 ∨ j = 59 ∨ j = 60 ∨ j = 61 ∨ j = 62 ∨ j = 63 ∨ j = 64 ∨ j = 65 by omega) with rfl | rfl | rfl | rfl | rfl | rfl | rfl | rfl | rfl | rfl | rfl | rfl | rfl | rfl | rfl | rfl | rfl | rfl | rfl | rfl | rfl | rfl | rfl | rfl | rfl | rfl | rfl | rfl | rfl | rfl | rfl | rfl | rfl | rfl | rfl | rfl | rfl | rfl | rfl | rfl | rfl | rfl | rfl | rfl | rfl | rfl | rfl | rfl | rfl | rfl | rfl | rfl | rfl | rfl | rfl | rfl | rfl | rfl | rfl | rfl | rfl | rfl | rfl | rfl | rfl | rfl <;> rfl) (Nat.le_of_ble_eq_true rfl) (Nat.le_of_ble_eq_true rfl) dL_8 (fun a_m H hP hD hS => ?_)
  refine W.cs (cells' := 28) (slots' := 1383) rfl rfl ?_
  have hP : va_P D vwCl [(a_x, .inr (0, [.ref x0, .ref x5, .ref x8, .ref x9, .ref x13, .ref x18, .ref x20, .ref x21, .ref x23, .ref x25, .int 0, .int 0, .int 0])), (x0, .inr (1, [.ref x1, .ref x2, .ref x3, .ref x4, .int 0, .int 0])), (x1, .inl (G 0, 6, .inl (fun _ => 0))), (x2, .inl (G 0, 8, .inl (fun _ => 0))), (x3, .inl (G 0, 8, .inl (fun _ => 0))), (x4, .inl (G 0, 8, .inl (fun _ => 0))), (x5, .inr (2, [.ref x6, .ref x7, .int 0])), (x6, .inl (G 0, 3, .inl (fun _ => 0))), (x7, .inl (G 0, 9, .inl (fun _ => 0))), (x8, .inr (3, [.int 0, .int (-1), .int 0, .int 0, .int 0, .int 0])), (x9, .inr (4, [.ref x10, .ref x11, .ref x12])), (x10, .inl (G 0, 63, .inl (fun _ => 0))), (x11, .inl (G 1, 504, .inr (.inl (fun _ => 0)))), (x12, .inl (G 0, 4, .inl (fun _ => 0))), (x13, .inr (5, [.ref x14, .long 0, .long 0, .int 0, .int 0])), (x14, .inr (4, [.ref x15, .ref x16, .ref x17])), (x15, .inl (G 0, 63, .inl (fun _ => 0))), (x16, .inl (G 1, 504, .inr (.inl (fun _ => 0)))), (x17, .inl (G 0, 4, .inl (fun _ => 0))), (x18, .inr (6, [.ref x19, .int 0])), (x19, .inl (G 2, 60, .inl (fun _ => 0))), (x20, .inl (G 4, 13, .inr (.inr (.inr (.inr (fun _ => none)))))), (x21, .inr (8, [.ref x0, .ref x22, .null, .null, .int 0, .int 0])), (x22, .inl (G 0, 3, .inl (fun _ => 0))), (x23, .inr (9, [.ref x9, .ref x24, .null])), (x24, .inl (G 0, 3, .inl (fun _ => 0))), (x25, .inr (10, [.int 0, .long 0, .long 0, .int 0])), (a_m, .inr (11, [.int 0, .null, .int 0, .null, .null, .null, .int 0, .int 0, .null, .null, .int 0, .null, .null, .null, .null, .null, .null, .null, .long 0, .int 0, .int 0, .long 0, .long 0, .long 0, .int 0, .int 0, .int 0, .int 0, .int 0, .int 0, .int 0, .int 0, .null, .int 0, .null, .null, .null, .null, .null, .null, .null, .null, .int 0, .int 0, .int 0, .int 0, .null, .null, .int 0, .int 0, .null, .null, .int 0, .null, .int 0, .null, .null, .null, .int 0, .int 0, .long 0, .int 0, .int 0, .null, .long 0, .int 0]))] H := hP
  have hD : va_D A [(a_x, .inr (0, [.ref x0, .ref x5, .ref x8, .ref x9, .ref x13, .ref x18, .ref x20, .ref x21, .ref x23, .ref x25, .int 0, .int 0, .int 0])), (x0, .inr (1, [.ref x1, .ref x2, .ref x3, .ref x4, .int 0, .int 0])), (x1, .inl (G 0, 6, .inl (fun _ => 0))), (x2, .inl (G 0, 8, .inl (fun _ => 0))), (x3, .inl (G 0, 8, .inl (fun _ => 0))), (x4, .inl (G 0, 8, .inl (fun _ => 0))), (x5, .inr (2, [.ref x6, .ref x7, .int 0])), (x6, .inl (G 0, 3, .inl (fun _ => 0))), (x7, .inl (G 0, 9, .inl (fun _ => 0))), (x8, .inr (3, [.int 0, .int (-1), .int 0, .int 0, .int 0, .int 0])), (x9, .inr (4, [.ref x10, .ref x11, .ref x12])), (x10, .inl (G 0, 63, .inl (fun _ => 0))), (x11, .inl (G 1, 504, .inr (.inl (fun _ => 0)))), (x12, .inl (G 0, 4, .inl (fun _ => 0))), (x13, .inr (5, [.ref x14, .long 0, .long 0, .int 0, .int 0])), (x14, .inr (4, [.ref x15, .ref x16, .ref x17])), (x15, .inl (G 0, 63, .inl (fun _ => 0))), (x16, .inl (G 1, 504, .inr (.inl (fun _ => 0)))), (x17, .inl (G 0, 4, .inl (fun _ => 0))), (x18, .inr (6, [.ref x19, .int 0])), (x19, .inl (G 2, 60, .inl (fun _ => 0))), (x20, .inl (G 4, 13, .inr (.inr (.inr (.inr (fun _ => none)))))), (x21, .inr (8, [.ref x0, .ref x22, .null, .null, .int 0, .int 0])), (x22, .inl (G 0, 3, .inl (fun _ => 0))), (x23, .inr (9, [.ref x9, .ref x24, .null])), (x24, .inl (G 0, 3, .inl (fun _ => 0))), (x25, .inr (10, [.int 0, .long 0, .long 0, .int 0])), (a_m, .inr (11, [.int 0, .null, .int 0, .null, .null, .null, .int 0, .int 0, .null, .null, .int 0, .null, .null, .null, .null, .null, .null, .null, .long 0, .int 0, .int 0, .long 0, .long 0, .long 0, .int 0, .int 0, .int 0, .int 0, .int 0, .int 0, .int 0, .int 0, .null, .int 0, .null, .null, .null, .null, .null, .null, .null, .null, .int 0, .int 0, .int 0, .int 0, .null, .null, .int 0, .int 0, .null, .null, .int 0, .null, .int 0, .null, .null, .null, .int 0, .int 0, .long 0, .int 0, .int 0, .null, .long 0, .int 0]))] := hD
  refine lv_dup hx hb dL_11 rfl ?_
  have hFc := va_free (wc := [(a_m, .inr (11, [.int 0, .null, .int 0, .null, .null, .null, .int 0, .int 0, .null, .null, .int 0, .null, .null, .null, .null, .null, .null, .null, .long 0, .int 0, .int 0, .long 0, .long 0, .long 0, .int 0, .int 0, .int 0, .int 0, .int 0, .int 0, .int 0, .int 0, .null, .int 0, .null, .null, .null, .null, .null, .null, .null, .null, .int 0, .int 0, .int 0, .int 0, .null, .null, .int 0, .int 0, .null, .null, .int 0, .null, .int 0, .null, .null, .null, .int 0, .int 0, .long 0, .int 0, .int 0, .null, .long 0, .int 0]))]) hD hS hA [27] rfl
  refine va_callv (va_runI (As := []) (rest := [.ref a_m]) ⟨hx, hb, hml, hown, hts⟩ (n_M l D G a_m H.size) (cwI 0 hts (gN tw785) rfl rfl rfl (hts _ tw11) (hts _ tw783) (hts _ tw784) rfl (by decide +kernel) ⟨Nat.le_of_ble_eq_true rfl, Nat.le_of_ble_eq_true rfl⟩) (ob_preS hZ hK hP hD [27] rfl rfl) rfl rfl hl.1 rfl (lv_room (Nat.le_of_ble_eq_true rfl)) dL_12 ⟨Nat.le_of_ble_eq_true rfl, Nat.le_of_ble_eq_true rfl⟩) hS (fun q _ h => hFc q h) hFc (fun u t H1 locs ht hvm hw hB hz1 hk1 hS => ?_)
  obtain ⟨hP1, hK1, hD1⟩ := hB
  rw [ht] at hP1
  obtain ⟨m0, m1, m2, m3, m4, m5, m6, m7, m8, m9, m10, m11, m12, m13, m14, m15, m16, m17, m18, m19, m20, m21, m22, m23, m24, m25, m26, m27, m28, m29, m30⟩ := u
  dsimp only at hP1 hD1
  obtain ⟨hP, hD⟩ := va_join (wr := [(a_x, .inr (0, [.ref x0, .ref x5, .ref x8, .ref x9, .ref x13, .ref x18, .ref x20, .ref x21, .ref x23, .ref x25, .int 0, .int 0, .int 0])), (x0, .inr (1, [.ref x1, .ref x2, .ref x3, .ref x4, .int 0, .int 0])), (x1, .inl (G 0, 6, .inl (fun _ => 0))), (x2, .inl (G 0, 8, .inl (fun _ => 0))), (x3, .inl (G 0, 8, .inl (fun _ => 0))), (x4, .inl (G 0, 8, .inl (fun _ => 0))), (x5, .inr (2, [.ref x6, .ref x7, .int 0])), (x6, .inl (G 0, 3, .inl (fun _ => 0))), (x7, .inl (G 0, 9, .inl (fun _ => 0))), (x8, .inr (3, [.int 0, .int (-1), .int 0, .int 0, .int 0, .int 0])), (x9, .inr (4, [.ref x10, .ref x11, .ref x12])), (x10, .inl (G 0, 63, .inl (fun _ => 0))), (x11, .inl (G 1, 504, .inr (.inl (fun _ => 0)))), (x12, .inl (G 0, 4, .inl (fun _ => 0))), (x13, .inr (5, [.ref x14, .long 0, .long 0, .int 0, .int 0])), (x14, .inr (4, [.ref x15, .ref x16, .ref x17])), (x15, .inl (G 0, 63, .inl (fun _ => 0))), (x16, .inl (G 1, 504, .inr (.inl (fun _ => 0)))), (x17, .inl (G 0, 4, .inl (fun _ => 0))), (x18, .inr (6, [.ref x19, .int 0])), (x19, .inl (G 2, 60, .inl (fun _ => 0))), (x20, .inl (G 4, 13, .inr (.inr (.inr (.inr (fun _ => none)))))), (x21, .inr (8, [.ref x0, .ref x22, .null, .null, .int 0, .int 0])), (x22, .inl (G 0, 3, .inl (fun _ => 0))), (x23, .inr (9, [.ref x9, .ref x24, .null])), (x24, .inl (G 0, 3, .inl (fun _ => 0))), (x25, .inr (10, [.int 0, .long 0, .long 0, .int 0]))]) (w1 := nw_M G a_m m0 m1 m2 m3 m4 m5 m6 m7 m8 m9 m10 m11 m12 m13 m14 m15 m16 m17 m18 m19 m20 m21 m22 m23 m24 m25 m26 m27 m28 m29 m30) hP hD [27] [0, 1, 2, 3, 4, 5, 6, 7, 8, 9, 10, 11, 12, 13, 14, 15, 16, 17, 18, 19, 20, 21, 22, 23, 24, 25, 26] rfl rfl (by decide) (by decide) hk1 hFc hP1 hD1
  clear hP1 hD1 hK1 hFc
  generalize H1 = H at hP hS ⊢
  refine W.cs (cells' := 59) (slots' := 7221) rfl rfl ?_
  have hP : va_P D vwCl [(a_x, .inr (0, [.ref x0, .ref x5, .ref x8, .ref x9, .ref x13, .ref x18, .ref x20, .ref x21, .ref x23, .ref x25, .int 0, .int 0, .int 0])), (x0, .inr (1, [.ref x1, .ref x2, .ref x3, .ref x4, .int 0, .int 0])), (x1, .inl (G 0, 6, .inl (fun _ => 0))), (x2, .inl (G 0, 8, .inl (fun _ => 0))), (x3, .inl (G 0, 8, .inl (fun _ => 0))), (x4, .inl (G 0, 8, .inl (fun _ => 0))), (x5, .inr (2, [.ref x6, .ref x7, .int 0])), (x6, .inl (G 0, 3, .inl (fun _ => 0))), (x7, .inl (G 0, 9, .inl (fun _ => 0))), (x8, .inr (3, [.int 0, .int (-1), .int 0, .int 0, .int 0, .int 0])), (x9, .inr (4, [.ref x10, .ref x11, .ref x12])), (x10, .inl (G 0, 63, .inl (fun _ => 0))), (x11, .inl (G 1, 504, .inr (.inl (fun _ => 0)))), (x12, .inl (G 0, 4, .inl (fun _ => 0))), (x13, .inr (5, [.ref x14, .long 0, .long 0, .int 0, .int 0])), (x14, .inr (4, [.ref x15, .ref x16, .ref x17])), (x15, .inl (G 0, 63, .inl (fun _ => 0))), (x16, .inl (G 1, 504, .inr (.inl (fun _ => 0)))), (x17, .inl (G 0, 4, .inl (fun _ => 0))), (x18, .inr (6, [.ref x19, .int 0])), (x19, .inl (G 2, 60, .inl (fun _ => 0))), (x20, .inl (G 4, 13, .inr (.inr (.inr (.inr (fun _ => none)))))), (x21, .inr (8, [.ref x0, .ref x22, .null, .null, .int 0, .int 0])), (x22, .inl (G 0, 3, .inl (fun _ => 0))), (x23, .inr (9, [.ref x9, .ref x24, .null])), (x24, .inl (G 0, 3, .inl (fun _ => 0))), (x25, .inr (10, [.int 0, .long 0, .long 0, .int 0])), (a_m, .inr (11, [.int 0, .ref m0, .int 0, .ref m1, .ref m2, .ref m3, .int 0, .int 0, .ref m4, .ref m5, .int 0, .ref m6, .ref m7, .ref m8, .ref m9, .ref m10, .ref m11, .ref m12, .long 0, .int 0, .int 0, .long 0, .long 0, .long 0, .int 0, .int 0, .int (-1), .int 0, .int 0, .int 0, .int 0, .int 0, .ref m13, .int 0, .ref m14, .ref m15, .ref m16, .ref m17, .ref m18, .ref m19, .ref m20, .ref m21, .int 0, .int 0, .int 0, .int 0, .ref m22, .ref m23, .int 0, .int 0, .ref m24, .ref m25, .int 0, .ref m26, .int 0, .ref m27, .ref m28, .ref m29, .int 0, .int 0, .long 0, .int 0, .int 0, .ref m30, .long 0, .int 0])), (m0, .inl (G 0, 6, .inl (fun _ => 0))), (m1, .inl (G 0, 8, .inl (fun _ => 0))), (m2, .inl (G 0, 8, .inl (fun _ => 0))), (m3, .inl (G 0, 8, .inl (fun _ => 0))), (m4, .inl (G 0, 3, .inl (fun _ => 0))), (m5, .inl (G 0, 9, .inl (fun _ => 0))), (m6, .inl (G 0, 63, .inl (fun _ => 0))), (m7, .inl (G 0, 504, .inl (fun _ => 0))), (m8, .inl (G 1, 504, .inr (.inl (fun _ => 0)))), (m9, .inl (G 0, 4, .inl (fun _ => 0))), (m10, .inl (G 0, 504, .inl (fun _ => 0))), (m11, .inl (G 1, 504, .inr (.inl (fun _ => 0)))), (m12, .inl (G 0, 4, .inl (fun _ => 0))), (m13, .inl (G 0, 60, .inl (fun _ => 0))), (m14, .inl (G 0, 13, .inl (fun _ => 0))), (m15, .inl (G 0, 832, .inl (fun _ => 0))), (m16, .inl (G 0, 13, .inl (fun _ => 0))), (m17, .inl (G 3, 13, .inl (fun _ => 0))), (m18, .inl (G 0, 13, .inl (fun _ => 0))), (m19, .inl (G 0, 832, .inl (fun _ => 0))), (m20, .inl (G 0, 832, .inl (fun _ => 0))), (m21, .inl (G 0, 832, .inl (fun _ => 0))), (m22, .inl (G 0, 64, .inl (fun _ => 0))), (m23, .inl (G 0, 64, .inl (fun _ => 0))), (m24, .inl (G 0, 3, .inl (fun _ => 0))), (m25, .inl (G 0, 3, .inl (fun _ => 0))), (m26, .inl (G 3, 64, .inl (fun _ => 0))), (m27, .inl (G 1, 3, .inr (.inl (fun _ => 0)))), (m28, .inl (G 0, 3, .inl (fun _ => 0))), (m29, .inl (G 3, 3, .inl (fun _ => 0))), (m30, .inl (G 0, 62, .inl (fun _ => 0)))] H := hP
  have hD : va_D A [(a_x, .inr (0, [.ref x0, .ref x5, .ref x8, .ref x9, .ref x13, .ref x18, .ref x20, .ref x21, .ref x23, .ref x25, .int 0, .int 0, .int 0])), (x0, .inr (1, [.ref x1, .ref x2, .ref x3, .ref x4, .int 0, .int 0])), (x1, .inl (G 0, 6, .inl (fun _ => 0))), (x2, .inl (G 0, 8, .inl (fun _ => 0))), (x3, .inl (G 0, 8, .inl (fun _ => 0))), (x4, .inl (G 0, 8, .inl (fun _ => 0))), (x5, .inr (2, [.ref x6, .ref x7, .int 0])), (x6, .inl (G 0, 3, .inl (fun _ => 0))), (x7, .inl (G 0, 9, .inl (fun _ => 0))), (x8, .inr (3, [.int 0, .int (-1), .int 0, .int 0, .int 0, .int 0])), (x9, .inr (4, [.ref x10, .ref x11, .ref x12])), (x10, .inl (G 0, 63, .inl (fun _ => 0))), (x11, .inl (G 1, 504, .inr (.inl (fun _ => 0)))), (x12, .inl (G 0, 4, .inl (fun _ => 0))), (x13, .inr (5, [.ref x14, .long 0, .long 0, .int 0, .int 0])), (x14, .inr (4, [.ref x15, .ref x16, .ref x17])), (x15, .inl (G 0, 63, .inl (fun _ => 0))), (x16, .inl (G 1, 504, .inr (.inl (fun _ => 0)))), (x17, .inl (G 0, 4, .inl (fun _ => 0))), (x18, .inr (6, [.ref x19, .int 0])), (x19, .inl (G 2, 60, .inl (fun _ => 0))), (x20, .inl (G 4, 13, .inr (.inr (.inr (.inr (fun _ => none)))))), (x21, .inr (8, [.ref x0, .ref x22, .null, .null, .int 0, .int 0])), (x22, .inl (G 0, 3, .inl (fun _ => 0))), (x23, .inr (9, [.ref x9, .ref x24, .null])), (x24, .inl (G 0, 3, .inl (fun _ => 0))), (x25, .inr (10, [.int 0, .long 0, .long 0, .int 0])), (a_m, .inr (11, [.int 0, .ref m0, .int 0, .ref m1, .ref m2, .ref m3, .int 0, .int 0, .ref m4, .ref m5, .int 0, .ref m6, .ref m7, .ref m8, .ref m9, .ref m10, .ref m11, .ref m12, .long 0, .int 0, .int 0, .long 0, .long 0, .long 0, .int 0, .int 0, .int (-1), .int 0, .int 0, .int 0, .int 0, .int 0, .ref m13, .int 0, .ref m14, .ref m15, .ref m16, .ref m17, .ref m18, .ref m19, .ref m20, .ref m21, .int 0, .int 0, .int 0, .int 0, .ref m22, .ref m23, .int 0, .int 0, .ref m24, .ref m25, .int 0, .ref m26, .int 0, .ref m27, .ref m28, .ref m29, .int 0, .int 0, .long 0, .int 0, .int 0, .ref m30, .long 0, .int 0])), (m0, .inl (G 0, 6, .inl (fun _ => 0))), (m1, .inl (G 0, 8, .inl (fun _ => 0))), (m2, .inl (G 0, 8, .inl (fun _ => 0))), (m3, .inl (G 0, 8, .inl (fun _ => 0))), (m4, .inl (G 0, 3, .inl (fun _ => 0))), (m5, .inl (G 0, 9, .inl (fun _ => 0))), (m6, .inl (G 0, 63, .inl (fun _ => 0))), (m7, .inl (G 0, 504, .inl (fun _ => 0))), (m8, .inl (G 1, 504, .inr (.inl (fun _ => 0)))), (m9, .inl (G 0, 4, .inl (fun _ => 0))), (m10, .inl (G 0, 504, .inl (fun _ => 0))), (m11, .inl (G 1, 504, .inr (.inl (fun _ => 0)))), (m12, .inl (G 0, 4, .inl (fun _ => 0))), (m13, .inl (G 0, 60, .inl (fun _ => 0))), (m14, .inl (G 0, 13, .inl (fun _ => 0))), (m15, .inl (G 0, 832, .inl (fun _ => 0))), (m16, .inl (G 0, 13, .inl (fun _ => 0))), (m17, .inl (G 3, 13, .inl (fun _ => 0))), (m18, .inl (G 0, 13, .inl (fun _ => 0))), (m19, .inl (G 0, 832, .inl (fun _ => 0))), (m20, .inl (G 0, 832, .inl (fun _ => 0))), (m21, .inl (G 0, 832, .inl (fun _ => 0))), (m22, .inl (G 0, 64, .inl (fun _ => 0))), (m23, .inl (G 0, 64, .inl (fun _ => 0))), (m24, .inl (G 0, 3, .inl (fun _ => 0))), (m25, .inl (G 0, 3, .inl (fun _ => 0))), (m26, .inl (G 3, 64, .inl (fun _ => 0))), (m27, .inl (G 1, 3, .inr (.inl (fun _ => 0)))), (m28, .inl (G 0, 3, .inl (fun _ => 0))), (m29, .inl (G 3, 3, .inl (fun _ => 0))), (m30, .inl (G 0, 62, .inl (fun _ => 0)))] := hD
  refine lv_astore_n (lv' := [(2, .ref a_m), (1, .ref a_x), (0, .ref b)]) hx hb dL_15 rfl hl (by decide) rfl (fun ls hl => ?_)
  have hP : va_P D vwCl (lw_w G a_x x0 x1 x2 x3 x4 x5 x6 x7 x8 x9 x10 x11 x12 x13 x14 x15 x16 x17 x18 x19 x20 x21 x22 x23 x24 x25 a_m m0 m1 m2 m3 m4 m5 m6 m7 m8 m9 m10 m11 m12 m13 m14 m15 m16 m17 m18 m19 m20 m21 m22 m23 m24 m25 m26 m27 m28 m29 m30) H := hP
  have hD : va_D A (lw_w G a_x x0 x1 x2 x3 x4 x5 x6 x7 x8 x9 x10 x11 x12 x13 x14 x15 x16 x17 x18 x19 x20 x21 x22 x23 x24 x25 a_m m0 m1 m2 m3 m4 m5 m6 m7 m8 m9 m10 m11 m12 m13 m14 m15 m16 m17 m18 m19 m20 m21 m22 m23 m24 m25 m26 m27 m28 m29 m30) := hD
  refine lv_iconst (v := 0) hx hb dL_16 (by decide) ?_
  refine lv_istore_n (lv' := [(3, .int 0), (2, .ref a_m), (1, .ref a_x), (0, .ref b)]) hx hb dL_17 rfl hl (by decide) rfl (fun ls hl => ?_)
  have tailE : ∀ (ls : Array Slot) (H : Heap) (locs : List Loc) (cells slots : Nat), cells ≤ 600000 → slots ≤ 7302250 → va_S A s.heap H locs → W p l e room_1 s m #[Value.ref b] below meth c H locs cells slots (lw_Z below #[Value.ref b] s) (F0 m 883 ls []) := by
    intro ls H locs cells slots hc1 hc2 hS
    refine va_forget (fun q hq => hA2 _ (hS.2.2 q hq)) ?_
    refine W.widen hc1 hc2 ?_
    refine lv_iconst (v := 1) hx hb dL_883 (by decide) ?_
    exact lw_ret hx hb hr hlk dL_884
  refine lv_iload_n hx hb dL_18 rfl (lv_at hl 0 rfl) ?_
  refine lv_aload_n hx hb dL_19 rfl (lv_at hl 3 rfl) ?_
  refine va_slen hx hb hX hbl hbA hS dL_20 ?_
  refine lv_iconst (v := 5) hx hb dL_21 (by decide) ?_
  refine lv_isub hx hb dL_22 ?_
  refine lv_icmp_gt (tgt := 883) hx hb dL_23 (by decide) (fun _ => tailE ls H locs _ _ (Nat.le_of_ble_eq_true rfl) (Nat.le_of_ble_eq_true rfl) hS) (fun hcL => ?_)
  have hL5 : L = 5 := by
    rcases (show L = 0 ∨ L = 1 ∨ L = 2 ∨ L = 3 ∨ L = 4 ∨ L = 5 by omega) with rfl | rfl | rfl | rfl | rfl | rfl
    · exact absurd (by decide) hcL
    · exact absurd (by decide) hcL
    · exact absurd (by decide) hcL
    · exact absurd (by decide) hcL
    · exact absurd (by decide) hcL
    · rfl
  subst hL5
  have tailN : ∀ (ls : Array Slot) (H : Heap) (locs : List Loc) (cells slots : Nat), cells ≤ 600000 → slots ≤ 7302250 → lv_has ls 4 [(3, .int 0), (0, .ref b)] → va_S A s.heap H locs → W p l e room_1 s m #[Value.ref b] below meth c H locs cells slots (lw_Z below #[Value.ref b] s) (F0 m 877 ls []) := by
    intro ls H locs cells slots hc1 hc2 hl hS
    refine lv_iinc (k := 0) (v := 5) (lv' := [(3, .int 5), (0, .ref b)]) hx hb dL_877 hl rfl (by decide) (by decide) rfl (fun ls hl => ?_)
    refine lv_goto (tgt := 18) hx hb dL_880 (by decide) ?_
    refine lv_iload_n hx hb dL_18 rfl (lv_at hl 0 rfl) ?_
    refine lv_aload_n hx hb dL_19 rfl (lv_at hl 1 rfl) ?_
    refine va_slen hx hb hX hbl hbA hS dL_20 ?_
    refine lv_iconst (v := 5) hx hb dL_21 (by decide) ?_
    refine lv_isub hx hb dL_22 ?_
    refine lv_icmp_gt (tgt := 883) hx hb dL_23 (by decide) (fun _ => tailE ls H locs _ _ hc1 hc2 hS) (fun h => absurd (by decide) h)
  refine lv_aload_n hx hb dL_26 rfl (lv_at hl 3 rfl) ?_
  refine lv_iload_n hx hb dL_27 rfl (lv_at hl 0 rfl) ?_
  refine va_sld hx hb hX hbl hbA hS (vp_in_iff.mpr (by decide)) dL_28 ?_
  refine lv_bipush (v := 31) hx hb dL_29 (by decide) ?_
  refine lv_iand hx hb dL_31 ?_
  generalize xs (0 : Int32).toNatClampNeg &&& 31 = op
  by_cases hc_0 : op = 0
  · refine lv_tableIn (off := 120) (tgt := 152) hx hb dL_32 (by rw [hc_0]; decide) (by rw [hc_0]; decide) (by rw [hc_0]; rfl) (by decide) ?_
    exact law_0 l hx hb hml hown hts hZ hK hA hX hbl hbA hP hD hS hl tailN
  by_cases hc_1 : op = 1
  · refine lv_tableIn (off := 143) (tgt := 175) hx hb dL_32 (by rw [hc_1]; decide) (by rw [hc_1]; decide) (by rw [hc_1]; rfl) (by decide) ?_
    exact law_1 l hx hb hml hown hts hZ hK hA hX hbl hbA hP hD hS hl tailN
  by_cases hc_2 : op = 2
  · refine lv_tableIn (off := 186) (tgt := 218) hx hb dL_32 (by rw [hc_2]; decide) (by rw [hc_2]; decide) (by rw [hc_2]; rfl) (by decide) ?_
    exact law_2 l hx hb hml hown hts hZ hK hA hX hbl hbA hP hD hS hl tailN
  by_cases hc_3 : op = 3
  · refine lv_tableIn (off := 239) (tgt := 271) hx hb dL_32 (by rw [hc_3]; decide) (by rw [hc_3]; decide) (by rw [hc_3]; rfl) (by decide) ?_
    exact law_3 l hx hb hml hown hts hZ hK hA hX hbl hbA hP hD hS hl tailN
  by_cases hc_4 : op = 4
  · refine lv_tableIn (off := 252) (tgt := 284) hx hb dL_32 (by rw [hc_4]; decide) (by rw [hc_4]; decide) (by rw [hc_4]; rfl) (by decide) ?_
    exact law_4 l hx hb hml hown hts hZ hK hA hX hbl hbA hP hD hS hl tailN
  by_cases hc_5 : op = 5
  · refine lv_tableIn (off := 275) (tgt := 307) hx hb dL_32 (by rw [hc_5]; decide) (by rw [hc_5]; decide) (by rw [hc_5]; rfl) (by decide) ?_
    exact law_5 l hx hb hml hown hts hZ hK hA hX hbl hbA hP hD hS hl tailN
  by_cases hc_6 : op = 6
  · refine lv_tableIn (off := 318) (tgt := 350) hx hb dL_32 (by rw [hc_6]; decide) (by rw [hc_6]; decide) (by rw [hc_6]; rfl) (by decide) ?_
    exact law_6 l hx hb hml hown hts hZ hK hA hX hbl hbA hP hD hS hl tailN
  by_cases hc_7 : op = 7
  · refine lv_tableIn (off := 361) (tgt := 393) hx hb dL_32 (by rw [hc_7]; decide) (by rw [hc_7]; decide) (by rw [hc_7]; rfl) (by decide) ?_
    exact law_7 l hx hb hml hown hts hZ hK hA hX hbl hbA hP hD hS hl tailN
  by_cases hc_8 : op = 8
  · refine lv_tableIn (off := 430) (tgt := 462) hx hb dL_32 (by rw [hc_8]; decide) (by rw [hc_8]; decide) (by rw [hc_8]; rfl) (by decide) ?_
    exact law_8 l hx hb hml hown hts hZ hK hA hX hbl hbA hP hD hS hl tailN
  by_cases hc_9 : op = 9
  · refine lv_tableIn (off := 463) (tgt := 495) hx hb dL_32 (by rw [hc_9]; decide) (by rw [hc_9]; decide) (by rw [hc_9]; rfl) (by decide) ?_
    exact law_9 l hx hb hml hown hts hZ hK hA hX hbl hbA hP hD hS hl tailN
  by_cases hc_10 : op = 10
  · refine lv_tableIn (off := 476) (tgt := 508) hx hb dL_32 (by rw [hc_10]; decide) (by rw [hc_10]; decide) (by rw [hc_10]; rfl) (by decide) ?_
    exact law_10 l hx hb hml hown hts hZ hK hA hX hbl hbA hP hD hS hl tailN
  by_cases hc_11 : op = 11
  · refine lv_tableIn (off := 489) (tgt := 521) hx hb dL_32 (by rw [hc_11]; decide) (by rw [hc_11]; decide) (by rw [hc_11]; rfl) (by decide) ?_
    exact law_11 l hx hb hml hown hts hZ hK hA hX hbl hbA hP hD hS hl tailN
  by_cases hc_12 : op = 12
  · refine lv_tableIn (off := 502) (tgt := 534) hx hb dL_32 (by rw [hc_12]; decide) (by rw [hc_12]; decide) (by rw [hc_12]; rfl) (by decide) ?_
    exact law_12 l hx hb hml hown hts hZ hK hA hX hbl hbA hP hD hS hl tailN
  by_cases hc_13 : op = 13
  · refine lv_tableIn (off := 525) (tgt := 557) hx hb dL_32 (by rw [hc_13]; decide) (by rw [hc_13]; decide) (by rw [hc_13]; rfl) (by decide) ?_
    exact law_13 l hx hb hml hown hts hZ hK hA hX hbl hbA hP hD hS hl tailN
  by_cases hc_14 : op = 14
  · refine lv_tableIn (off := 538) (tgt := 570) hx hb dL_32 (by rw [hc_14]; decide) (by rw [hc_14]; decide) (by rw [hc_14]; rfl) (by decide) ?_
    exact law_14 l hx hb hml hown hts hZ hK hA hX hbl hbA hP hD hS hl tailN
  by_cases hc_15 : op = 15
  · refine lv_tableIn (off := 551) (tgt := 583) hx hb dL_32 (by rw [hc_15]; decide) (by rw [hc_15]; decide) (by rw [hc_15]; rfl) (by decide) ?_
    exact law_15 l hx hb hml hown hts hZ hK hA hX hbl hbA hP hD hS hl tailN
  by_cases hc_16 : op = 16
  · refine lv_tableIn (off := 574) (tgt := 606) hx hb dL_32 (by rw [hc_16]; decide) (by rw [hc_16]; decide) (by rw [hc_16]; rfl) (by decide) ?_
    exact law_16 l hx hb hml hown hts hZ hK hA hX hbl hbA hP hD hS hl tailN
  by_cases hc_17 : op = 17
  · refine lv_tableIn (off := 597) (tgt := 629) hx hb dL_32 (by rw [hc_17]; decide) (by rw [hc_17]; decide) (by rw [hc_17]; rfl) (by decide) ?_
    exact law_17 l hx hb hml hown hts hZ hK hA hX hbl hbA hP hD hS hl tailN
  by_cases hc_18 : op = 18
  · refine lv_tableIn (off := 630) (tgt := 662) hx hb dL_32 (by rw [hc_18]; decide) (by rw [hc_18]; decide) (by rw [hc_18]; rfl) (by decide) ?_
    exact law_18 l hx hb hml hown hts hZ hK hA hX hbl hbA hP hD hS hl tailN
  by_cases hc_19 : op = 19
  · refine lv_tableIn (off := 673) (tgt := 705) hx hb dL_32 (by rw [hc_19]; decide) (by rw [hc_19]; decide) (by rw [hc_19]; rfl) (by decide) ?_
    exact law_19 l hx hb hml hown hts hZ hK hA hX hbl hbA hP hD hS hl tailN
  by_cases hc_20 : op = 20
  · refine lv_tableIn (off := 696) (tgt := 728) hx hb dL_32 (by rw [hc_20]; decide) (by rw [hc_20]; decide) (by rw [hc_20]; rfl) (by decide) ?_
    exact law_20 l hx hb hml hown hts hZ hK hA hX hbl hbA hP hD hS hl tailN
  by_cases hc_21 : op = 21
  · refine lv_tableIn (off := 749) (tgt := 781) hx hb dL_32 (by rw [hc_21]; decide) (by rw [hc_21]; decide) (by rw [hc_21]; rfl) (by decide) ?_
    exact law_21 l hx hb hml hown hts hZ hK hA hX hbl hbA hP hD hS hl tailN
  by_cases hc_22 : op = 22
  · refine lv_tableIn (off := 762) (tgt := 794) hx hb dL_32 (by rw [hc_22]; decide) (by rw [hc_22]; decide) (by rw [hc_22]; rfl) (by decide) ?_
    exact law_22 l hx hb hml hown hts hZ hK hA hX hbl hbA hP hD hS hl tailN
  by_cases hc_23 : op = 23
  · refine lv_tableIn (off := 785) (tgt := 817) hx hb dL_32 (by rw [hc_23]; decide) (by rw [hc_23]; decide) (by rw [hc_23]; rfl) (by decide) ?_
    exact law_23 l hx hb hml hown hts hZ hK hA hX hbl hbA hP hD hS hl tailN
  by_cases hc_24 : op = 24
  · refine lv_tableIn (off := 799) (tgt := 831) hx hb dL_32 (by rw [hc_24]; decide) (by rw [hc_24]; decide) (by rw [hc_24]; rfl) (by decide) ?_
    exact law_24 l hx hb hml hown hts hZ hK hA hX hbl hbA hP hD hS hl tailN
  by_cases hc_25 : op = 25
  · refine lv_tableIn (off := 822) (tgt := 854) hx hb dL_32 (by rw [hc_25]; decide) (by rw [hc_25]; decide) (by rw [hc_25]; rfl) (by decide) ?_
    exact law_25 l hx hb hml hown hts hZ hK hA hX hbl hbA hP hD hS hl tailN
  refine lv_tableOut (tgt := 877) hx hb dL_32 (by have hs0 := ob_sw hc_0 (k := 0) (by decide); have hs1 := ob_sw hc_1 (k := 1) (by decide); have hs2 := ob_sw hc_2 (k := 2) (by decide); have hs3 := ob_sw hc_3 (k := 3) (by decide); have hs4 := ob_sw hc_4 (k := 4) (by decide); have hs5 := ob_sw hc_5 (k := 5) (by decide); have hs6 := ob_sw hc_6 (k := 6) (by decide); have hs7 := ob_sw hc_7 (k := 7) (by decide); have hs8 := ob_sw hc_8 (k := 8) (by decide); have hs9 := ob_sw hc_9 (k := 9) (by decide); have hs10 := ob_sw hc_10 (k := 10) (by decide); have hs11 := ob_sw hc_11 (k := 11) (by decide); have hs12 := ob_sw hc_12 (k := 12) (by decide); have hs13 := ob_sw hc_13 (k := 13) (by decide); have hs14 := ob_sw hc_14 (k := 14) (by decide); have hs15 := ob_sw hc_15 (k := 15) (by decide); have hs16 := ob_sw hc_16 (k := 16) (by decide); have hs17 := ob_sw hc_17 (k := 17) (by decide); have hs18 := ob_sw hc_18 (k := 18) (by decide); have hs19 := ob_sw hc_19 (k := 19) (by decide); have hs20 := ob_sw hc_20 (k := 20) (by decide); have hs21 := ob_sw hc_21 (k := 21) (by decide); have hs22 := ob_sw hc_22 (k := 22) (by decide); have hs23 := ob_sw hc_23 (k := 23) (by decide); have hs24 := ob_sw hc_24 (k := 24) (by decide); have hs25 := ob_sw hc_25 (k := 25) (by decide); omega) (by decide) ?_
  exact tailN ls H locs _ _ (Nat.le_of_ble_eq_true rfl) (Nat.le_of_ble_eq_true rfl) (lv_sub hl [0, 3] rfl) hS
