theorem nz_ltail {p : Program} {l : Launch} {e : Env} {s : State} {m : MethodId} {below : List Frame} {meth : Method} {c : Code} {b : Nat} {xs : Nat → Int32} {H : Heap} {locs : List Loc} {ls : Array Slot} {D : va_G} {cB cI cJ : ClassId} {q1 q2 : Nat} (C0 : nz_Cx p s m #[Value.ref b] meth c code 4 ret R_law D cB cI cJ) (hXs : va_X b 7 xs s s.heap) (hbl : b < s.heap.size) (hS : va_S (fun q : Nat => s.heap.size ≤ q) s.heap H locs) (hl : lv_has ls 4 [(3, .int 0), (2, .ref q2), (1, .ref q1), (0, .ref b)]) : W p l e room_1 s m #[Value.ref b] below meth c H locs 124 7401 (lw_Z below #[Value.ref b] s) (F0 m 1427 ls []) := by
  obtain ⟨hx, hb, hr, hml, hown, hts, hlk, hK⟩ := id C0
  have hbA : ¬ (fun q : Nat => s.heap.size ≤ q) b := Nat.not_le.mpr hbl
  refine lv_iinc (v := 7) (lv' := [(3, .int 7), (2, .ref q2), (1, .ref q1), (0, .ref b)]) hx hb d_law_law_1427 hl (k := 0) rfl (by decide +kernel) (by decide) rfl (fun ls hl => ?_)
  refine lv_goto (tgt := 18) hx hb d_law_law_1430 (by decide) ?_
  refine lv_iload_n hx hb d_law_law_18 rfl (lv_at hl 0 rfl) ?_
  refine lv_aload_n hx hb d_law_law_19 rfl (lv_at hl 3 rfl) ?_
  refine va_slen hx hb hXs hbl hbA hS d_law_law_20 ?_
  refine lv_bipush (v := 7) hx hb d_law_law_21 (by decide +kernel) ?_
  refine lv_isub hx hb d_law_law_23 ?_
  refine lv_icmp_gt (tgt := 1433) hx hb d_law_law_24 (by decide) (fun _ => ?_) (fun q => absurd (by decide +kernel) q)
  refine lv_iconst (v := 1) hx hb d_law_law_1433 (by decide +kernel) ?_
  refine va_forget (fun q hq => hS.2.2 q hq) ?_
  exact lw_ret hx hb hr hlk d_law_law_1434
theorem nz_lshort {p : Program} {l : Launch} {e : Env} {s : State} {m : MethodId} {below : List Frame} {meth : Method} {c : Code} {b : Nat} {xs : Nat → Int32} {H : Heap} {locs : List Loc} {ls : Array Slot} {L : Nat} {D : va_G} {cB cI cJ : ClassId} {q1 q2 : Nat} (hL : L < 7) (C0 : nz_Cx p s m #[Value.ref b] meth c code 4 ret R_law D cB cI cJ) (hXs : va_X b L xs s s.heap) (hbl : b < s.heap.size) (hS : va_S (fun q : Nat => s.heap.size ≤ q) s.heap H locs) (hl : lv_has ls 4 [(3, .int 0), (2, .ref q2), (1, .ref q1), (0, .ref b)]) : W p l e room_1 s m #[Value.ref b] below meth c H locs 124 7401 (lw_Z below #[Value.ref b] s) (F0 m 18 ls []) := by
  obtain ⟨hx, hb, hr, hml, hown, hts, hlk, hK⟩ := id C0
  have hbA : ¬ (fun q : Nat => s.heap.size ≤ q) b := Nat.not_le.mpr hbl
  have hz : Int32.ofNat L - 7 < 0 := by
    rcases (show L = 0 ∨ L = 1 ∨ L = 2 ∨ L = 3 ∨ L = 4 ∨ L = 5 ∨ L = 6 by omega) with rfl | rfl | rfl | rfl | rfl | rfl | rfl <;> decide +kernel
  refine lv_iload_n hx hb d_law_law_18 rfl (lv_at hl 0 rfl) ?_
  refine lv_aload_n hx hb d_law_law_19 rfl (lv_at hl 3 rfl) ?_
  refine va_slen hx hb hXs hbl hbA hS d_law_law_20 ?_
  refine lv_bipush (v := 7) hx hb d_law_law_21 (by decide +kernel) ?_
  refine lv_isub hx hb d_law_law_23 ?_
  refine lv_icmp_gt (tgt := 1433) hx hb d_law_law_24 (by decide) (fun _ => ?_) (fun q => absurd hz q)
  refine lv_iconst (v := 1) hx hb d_law_law_1433 (by decide +kernel) ?_
  refine va_forget (fun q hq => hS.2.2 q hq) ?_
  exact lw_ret hx hb hr hlk d_law_law_1434
