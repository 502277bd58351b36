set_option maxHeartbeats 8000000 in
set_option maxRecDepth 100000 in
theorem law_21 {p : Program} {e : Env} {s : State} {m : MethodId} {below : List Frame} {meth : Method} {c : Code} {b L : Nat} {xs : Nat → Int32} {D : va_G} {G : Nat → ClassId} {A : Nat → Prop} {ax : AX} {am : AM} (l : Launch) (hx : p.tables.exec = Jvm.exec) (hb : c.code = code) (hml : c.maxLocals = 4) (hown : s.vm.findClass "ObjectBaseLaw" = some m.cls) (hts : ∀ w ∈ obW, w.before #[Value.ref b] s = true) (hZ : obZ s) (hK : va_K D vwCl (obT G) s) (hA : ∀ q, s.heap.size ≤ q → A q) (hX : va_X b L xs s s.heap) (hbl : b < s.heap.size) (hbA : ¬ A b) {i : Nat} (hi : i + 5 ≤ L) (hL : L ≤ 2560) {Q : State → Prop}
    (tailN : ∀ (u : CS) (xr : XR) (mr : MR) (ql : List QC) (ls : Array Slot) (H : Heap) (locs : List Loc) (cells slots : Nat), lInv u xr mr ql → cells = 59 + 9 * ql.length → slots = 7221 + 433 * ql.length → va_P D vwCl (lw_x G ax u xr ++ (lw_m G am u mr ++ lw_q G ql)) H → va_D A (lw_x G ax u xr ++ (lw_m G am u mr ++ lw_q G ql)) → va_S A s.heap H locs → lv_has ls 4 [(3, .int (nI i)), (2, .ref am.a), (1, .ref ax.a), (0, .ref b)] → W p l e room_1 s m #[Value.ref b] below meth c H locs cells slots Q (F0 m 876 ls []))
    {u : CS} {xr : XR} {mr : MR} {ql : List QC} {ls : Array Slot} {H : Heap} {locs : List Loc} {cells slots : Nat} (hI : lInv u xr mr ql) (hcl : cells = 59 + 9 * ql.length) (hsl : slots = 7221 + 433 * ql.length) (hP : va_P D vwCl (lw_x G ax u xr ++ (lw_m G am u mr ++ lw_q G ql)) H) (hD : va_D A (lw_x G ax u xr ++ (lw_m G am u mr ++ lw_q G ql))) (hS : va_S A s.heap H locs) (hl : lv_has ls 4 [(3, .int (nI i)), (2, .ref am.a), (1, .ref ax.a), (0, .ref b)]) :
    W p l e room_1 s m #[Value.ref b] below meth c H locs cells slots Q (F0 m 781 ls []) := by
  by_cases hlq : ql.length = xr.qn
  · by_cases hdn : u.dn = 0
    · exact law_21a l hx hb hml hown hts hZ hK hA hX hbl hbA hi hL tailN hI hcl hsl hP hD hS hl hlq hdn
    · exact law_21d l hx hb hml hown hts hZ hK hA hX hbl hbA hi hL tailN hI hcl hsl hP hD hS hl hlq hdn
  · exact law_21b l hx hb hml hown hts hZ hK hA hX hbl hbA hi hL tailN hI hcl hsl hP hD hS hl hlq
