theorem hret_law {p : Program} {l : Launch} {e : Env} {s : State} {m : MethodId} {below : List Frame} {meth : Method} {c : Code} {b : Nat} {D : va_G} {cB cI cJ : ClassId} {os : Nat → Nat} (C0 : nz_Cx p s m #[Value.ref b] meth c code 4 ret R_law D cB cI cJ) : ∀ (ρ0 : ab_R) (pc : Nat) (i : Instr) (ls : Array Slot) (stk : List Value) (w : va_W) (H : Heap) (locs : List Loc), decode code pc = .ok (i, 1) → ab_rto C_law.2.2.2.2.2 i stk → va_P D nz_cl w H → va_D (fun q : Nat => s.heap.size ≤ q) w → va_S (fun q : Nat => s.heap.size ≤ q) s.heap H locs → ab_po cB cI cJ os ρ0 C_law.2.2.2.2.1 stk w → W p l e room_1 s m #[Value.ref b] below meth c H locs 124 7401 (lw_Z below #[Value.ref b] s) (F0 m pc ls stk) := by
  intro ρ0 pc i ls stk w H locs hdg hr hP hD hS hpo
  obtain ⟨hx, hb, hrt, hml, hown, hts, hlk, hK⟩ := id C0
  have hr : i = .ireturn ∧ ∃ z : Int32, stk = [.int z] := hr
  obtain ⟨rfl, z, rfl⟩ := hr
  obtain ⟨q, hq, ρ', p1, p2, p3, p4⟩ := hpo
  have hq : q = ((3, [], [], []), [.inr (.inl (1, []))], []) := by
    rcases List.mem_cons.mp hq with rfl | hq
    · rfl
    · cases hq
  subst hq
  obtain ⟨⟨z', z1, z2⟩, -⟩ := p3
  cases z1
  have z2 : some ((1 : Int) + 0) = some z.toInt := z2
  have hz : z = 1 := Int32.toInt_inj.mp (by have := Option.some.inj z2; rw [← this]; decide)
  subst hz
  refine va_forget (fun q hq => hS.2.2 q hq) ?_
  exact lw_ret hx hb hrt hlk hdg
