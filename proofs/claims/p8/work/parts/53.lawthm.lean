/-! the law's body through the checker, one visit of a known place at a time: what stands in the script behind i has a name for the visit -/
def ab_SY (s : State) (A : Nat → Prop) (os : Nat → Nat) (ρ0 : ab_R) : Prop := ∃ (L : Nat) (xs : Nat → Int32), va_X (os 999) L xs s s.heap ∧ os 999 < s.heap.size ∧ ¬ A (os 999) ∧ ρ0 0 = some (L : Int) ∧ L ≤ 3584 ∧ ∃ i0 v : Int, ρ0 2 = some i0 ∧ ρ0 1 = some v ∧ ∀ j : Nat, (j : Int) = i0 + 1 → j < L → v = (xs j).toInt
theorem ab_SY.sx {s : State} {A : Nat → Prop} {os : Nat → Nat} {ρ0 : ab_R} (h : ab_SY s A os ρ0) : ab_SX s A os ρ0 := by
  obtain ⟨L, xs, h1, h2, h3, h4, h5, -⟩ := h
  exact ⟨L, xs, h1, h2, h3, h4, h5⟩
def ab_scL (i : Instr) (pc : Nat) (a : ab_A) : ab_O := match i, a.2.2.1, ab_sl 0 a.2.2.2.1, ab_sl 1 a.2.2.2.1, ab_sl 2 a.2.2.2.1 with
  | .iaload, .inr (.inl e) :: .inl k :: st, some Lf, some v, some iF => (match (Nat.beq k 999 && ab_leq e (ab_add iF (ab_cn 1))) && (ab_pv a.1 e && ab_pv a.1 (ab_sub (ab_sub Lf (ab_cn 1)) e)) with
    | true => some [(pc + 1, (a.1, a.2.1, .inr (.inl v) :: st, a.2.2.2.1, a.2.2.2.2))]
    | false => ab_scr i pc a)
  | _, _, _, _, _ => ab_scr i pc a
section ALAW
variable {p : Program} {l : Launch} {e : Env} {R : Room} {s : State} {m : MethodId} {args : Array Value} {below : List Frame} {meth : Method} {c : Code} {cells slots : Nat} {Q : State → Prop} {pc : Nat} {D : va_G} {cB cI cJ : ClassId} {cc : ByteArray} {n : Nat} {rt : Option FieldType} {own : String} {A : Nat → Prop} {os : Nat → Nat} {ρ0 : ab_R} {rk : ab_L} {z0 : Int}
theorem ab_scL_ok {i : Instr} {len : Nat} {a : ab_A} {r : List (Nat × ab_A)}
    (C0 : nz_Cx p s m args meth c cc n rt own D cB cI cJ) (hX : ab_SY s A os ρ0) (hdg0 : decode cc pc = .ok (i, len)) (hlen : ab_lenOK i len = true) (hr : ab_scL i pc a = some r)
    (hG : ∀ q ∈ r, ab_Gd D cB cI cJ A s.heap os ρ0 n rk z0 (fun pc ls stk H locs => W p l e R s m args below meth c H locs cells slots Q (F0 m pc ls stk)) q.1 q.2) :
    ab_Gd D cB cI cJ A s.heap os ρ0 n rk z0 (fun pc ls stk H locs => W p l e R s m args below meth c H locs cells slots Q (F0 m pc ls stk)) pc a := by
  obtain ⟨Γ, lv, st0, gh, hp⟩ := a
  unfold ab_scL at hr
  dsimp only at hr
  split at hr
  · rename_i ee k st Lf v iF hL hv hF
    split at hr
    · rename_i hc
      simp only [Bool.and_eq_true] at hc
      cases hr
      intro ρ ls stk ws H locs hS hz hP hD hS0
      obtain ⟨hx, hb, -⟩ := C0
      obtain ⟨L, xs, x1, x2, x3, x4, x5, i0, v0, x6, x7, x8⟩ := hX
      have hk := Nat.eq_of_beq_eq_true hc.1.1
      subst hk
      have gL := hS.2.2.2.1 _ (ab_sl_mem hL)
      have gv := hS.2.2.2.1 _ (ab_sl_mem hv)
      have gF := hS.2.2.2.1 _ (ab_sl_mem hF)
      obtain ⟨a1, a2, a3⟩ := gL
      obtain ⟨b1, b2, b3⟩ := gv
      obtain ⟨d1, d2, d3⟩ := gF
      dsimp only at a2 a3 b2 b3 d2 d3
      rw [x4] at a2
      rw [x7] at b2
      rw [x6] at d2
      cases a2
      cases b2
      cases d2
      have hs3 := hS.2.2.1
      dsimp only at hs3
      match stk, hs3 with
      | v1 :: v2 :: stk, ⟨⟨x, h0, h2⟩, h1, h5⟩ =>
        have h1 : v2 = .ref (os 999) := h1
        subst h1
        subst h0
        have p1 := ab_pv_ok hS.1 h2 hc.2.1
        have p2 := ab_pv_ok hS.1 (ab_sub_E (ab_sub_E a3 ab_cn_E) h2) hc.2.2
        obtain ⟨i1, i2, i3⟩ := ab_vin (x := x) (N := L) p1 (by omega)
        have hdg : decode cc pc = .ok (.iaload, 1) := by rw [hdg0, Nat.eq_of_beq_eq_true hlen]
        have he := ab_leq_iff hc.1.2
        have hE := ab_add_E d3 (ab_cn_E (c := 1))
        rw [← he, h2] at hE
        have hE := Option.some.inj hE
        have hval := x8 x.toNatClampNeg (by omega) i2
        exact va_sld hx hb x1 x2 x3 hS0 i1 hdg (hG _ (List.mem_cons_self ..) ρ ls (.int (xs x.toNatClampNeg) :: stk) ws H locs (hS.grow ab_sub2.rf hS.1 ⟨⟨_, rfl, by rw [← hval]; exact b3⟩, h5⟩) hz hP hD hS0)
    · exact ab_scr_ok C0 hX.sx hdg0 hlen hr hG
  · exact ab_scr_ok C0 hX.sx hdg0 hlen hr hG
def ab_stL (C : ab_C) (rk : ab_L) (t : Nat) (pc : Nat) (a : ab_A) : ab_O := match Nat.beq t 7 with
  | true => (match ab_cd pc C.1 with
    | some i => ab_scL i.1 pc a
    | none => none)
  | false => ab_st1 C rk t pc a
def ab_ckL (C : ab_C) (rk : ab_L) : List Nat → List (Nat × ab_A) → Bool
  | [], [] => true
  | [], _ :: _ => false
  | _ :: _, [] => false
  | t :: ts, q :: P => match ab_stL C rk t q.1 q.2 with
    | some r => ab_ckL C rk ts (r ++ P)
    | none => false
theorem ab_ckL_ok {C : ab_C}
    (C0 : nz_Cx p s m args meth c cc n rt own D cB cI cJ) (hA : ∀ q : Nat, s.heap.size ≤ q → A q) (hcs : cells ≤ R.cells ∧ slots ≤ R.slots) (hcode : ∀ q ∈ C.1, decode cc q.1 = .ok (q.2.1, q.2.2) ∧ ab_lenOK q.2.1 q.2.2 = true) (hT : ab_Tok own n C.2.1) (hlk : ∀ lk ∈ C.2.2.1, ab_LK l D cB cI cJ R own lk) (h0 : ab_g ρ0 C.2.2.2.2.1.2.1) (hscr : ab_SY s A os ρ0)
    (hnd : ∀ nd ∈ C.2.2.2.1, ∀ (ρ : ab_R) (ls : Array Slot) (stk : List Value) (ws : va_W) (H : Heap) (locs : List Loc) (z : Int), ab_S cB cI cJ os ρ0 ρ nd.2.1 n ls stk ws → ab_E ρ nd.2.2 = some z → z < z0 → va_P D nz_cl ws H → va_D A ws → va_S A s.heap H locs → W p l e R s m args below meth c H locs cells slots Q (F0 m nd.1 ls stk))
    (hret : ∀ (pc : Nat) (i : Instr) (ls : Array Slot) (stk : List Value) (w : va_W) (H : Heap) (locs : List Loc), decode cc pc = .ok (i, 1) → ab_rto C.2.2.2.2.2 i stk → va_P D nz_cl w H → va_D A w → va_S A s.heap H locs → ab_po cB cI cJ os ρ0 C.2.2.2.2.1 stk w → W p l e R s m args below meth c H locs cells slots Q (F0 m pc ls stk)) :
    ∀ (ts : List Nat) (P : List (Nat × ab_A)), ab_ckL C rk ts P = true → ∀ q ∈ P, ab_Gd D cB cI cJ A s.heap os ρ0 n rk z0 (fun pc ls stk H locs => W p l e R s m args below meth c H locs cells slots Q (F0 m pc ls stk)) q.1 q.2 := by
  intro ts
  induction ts with
  | nil => intro P h q hq; cases P with
    | nil => cases hq
    | cons x P => cases h
  | cons t ts ih => intro P h q hq; cases P with
    | nil => cases hq
    | cons x P =>
      unfold ab_ckL at h
      split at h
      · rename_i r hr
        have hall := ih (r ++ P) h
        rcases List.mem_cons.mp hq with rfl | hq
        · have hG : ∀ y ∈ r, ab_Gd D cB cI cJ A s.heap os ρ0 n rk z0 (fun pc ls stk H locs => W p l e R s m args below meth c H locs cells slots Q (F0 m pc ls stk)) y.1 y.2 := fun y hy => hall y (List.mem_append_left _ hy)
          unfold ab_stL at hr
          split at hr
          · split at hr
            · rename_i i hi
              have hd := hcode _ (ab_cd_ok hi)
              exact ab_scL_ok C0 hscr hd.1 hd.2 hr hG
            · cases hr
          unfold ab_st1 at hr
          split at hr
          · split at hr
            · rename_i i hi
              have hd := hcode _ (ab_cd_ok hi)
              exact ab_x_ok C0 hT hd.1 hd.2 hr hG
            · cases hr
          · split at hr
            · rename_i nd hn
              split at hr
              · rename_i hj
                simp only [Bool.and_eq_true] at hj
                intro ρ ls stk ws H locs hS hz hP hD hS0
                obtain ⟨ρ', wb, z, g1, g2, g3, g4, g5⟩ := ab_jn_ok h0.2.1 hS hz hP hD hj.2
                rw [ab_at_eq] at hn
                have := hnd nd (List.mem_of_getElem? hn) ρ' ls stk wb H locs z g1 g2 g3 g4 g5 hS0
                rw [← Nat.eq_of_beq_eq_true hj.1] at this
                exact this
              · cases hr
            · cases hr
          · split at hr
            · rename_i i lk hi hl
              split at hr
              · rename_i hj
                have hd := hcode _ (ab_cd_ok hi)
                rw [ab_at_eq] at hl
                exact ab_cl_ok C0 hA hcs (hlk lk (List.mem_of_getElem? hl)) hd.1 hd.2 hj hr hG
              · cases hr
            · cases hr
          · split at hr
            · rename_i i e hi he
              split at hr
              · rename_i hj
                simp only [Bool.and_eq_true] at hj
                have hd := hcode _ (ab_cd_ok hi)
                rw [ab_at_eq] at he
                intro ρ ls stk ws H locs hS hz hP hD hS0
                obtain ⟨w, w1, w2, w3⟩ := ab_jr_ok (List.mem_of_getElem? he) h0 hS hP hD hj.2
                have hd1 := hd.1
                rw [Nat.eq_of_beq_eq_true hj.1.1] at hd1
                exact hret _ i.1 ls stk w H locs hd1 (ab_rti_ok hS.1 hS.2.2.1 hj.1.2) w2 w3 hS0 w1
              · cases hr
            · cases hr
          · exact ab_xd_ok hr hG
          · exact ab_sp2_ok hr hG
          · exact ab_xq_ok hr hG
          · split at hr
            · rename_i i h4 hi
              have hd := hcode _ (ab_cd_ok hi)
              exact ab_scr_ok C0 hscr.sx hd.1 hd.2 hr hG
            · cases hr
          · exact ab_sp3_ok hr hG
          · cases hr
        · exact hall q (List.mem_append_right _ hq)
      · cases h
end ALAW
/-- the start of a visit: two unknowns more -/
def ab_s0 (a : ab_A) : ab_A := match a.2.2.2.1, ab_lk 3 a.2.1 with
  | [(0, Lf)], some (.inr (.inl e3)) => (ab_fr a.1 ab_m32 ab_x32, a.2.1, a.2.2.1, [(0, Lf), (1, ab_vr a.1.1), (2, e3)], a.2.2.2.2)
  | _, _ => a
def ab_s0k (a : ab_A) : Bool := match a.2.2.2.1, ab_lk 3 a.2.1 with
  | [(0, _)], some (.inr (.inl _)) => true
  | _, _ => false
theorem ab_s0k_ok {a : ab_A} (h : ab_s0k a = true) : ∃ (Lf e3 : ab_L), a.2.2.2.1 = [(0, Lf)] ∧ ab_lk 3 a.2.1 = some (.inr (.inl e3)) ∧ ab_s0 a = (ab_fr a.1 ab_m32 ab_x32, a.2.1, a.2.2.1, [(0, Lf), (1, ab_vr a.1.1), (2, e3)], a.2.2.2.2) := by
  unfold ab_s0k at h
  split at h
  · rename_i Lf e3 hgh hl
    refine ⟨Lf, e3, hgh, hl, ?_⟩
    unfold ab_s0
    rw [hgh, hl]
    rfl
  · cases h
theorem ab_lnodes {p : Program} {l : Launch} {e : Env} {R : Room} {s : State} {m : MethodId} {args : Array Value} {below : List Frame} {meth : Method} {c : Code} {cells slots : Nat} {Q : State → Prop} {D : va_G} {cB cI cJ : ClassId} {cc : ByteArray} {n : Nat} {rt : Option FieldType} {own : String} {A : Nat → Prop} {os : Nat → Nat} {ρ0 : ab_R} {C : ab_C} {L : Nat} {xs : Nat → Int32}
    (C0 : nz_Cx p s m args meth c cc n rt own D cB cI cJ) (hA : ∀ q : Nat, s.heap.size ≤ q → A q) (hcs : cells ≤ R.cells ∧ slots ≤ R.slots) (hT : ab_Tok own n C.2.1) (hlk : ∀ lk ∈ C.2.2.1, ab_LK l D cB cI cJ R own lk) (henv : C.2.2.2.2.1.2.1 = (3, [(0, 0, 3584)], [], [])) (hX1 : va_X (os 999) L xs s s.heap) (hX2 : os 999 < s.heap.size) (hX3 : ¬ A (os 999)) (hX4 : ρ0 0 = some (L : Int)) (hX5 : L ≤ 3584)
    (hret : ∀ (ρ0 : ab_R) (pc : Nat) (i : Instr) (ls : Array Slot) (stk : List Value) (w : va_W) (H : Heap) (locs : List Loc), decode cc pc = .ok (i, 1) → ab_rto C.2.2.2.2.2 i stk → va_P D nz_cl w H → va_D A w → va_S A s.heap H locs → ab_po cB cI cJ os ρ0 C.2.2.2.2.1 stk w → W p l e R s m args below meth c H locs cells slots Q (F0 m pc ls stk))
    (hck : ∀ nd ∈ C.2.2.2.1, ab_le 0 (ab_lo nd.2.1.1 nd.2.2) = true ∧ ab_s0k nd.2.1 = true ∧ ∃ cs ts, ab_cod cc cs ∧ ab_ckL (cs, C.2) nd.2.2 ts [(nd.1, ab_s0 nd.2.1)] = true) :
    ∀ (N : Nat), ∀ nd ∈ C.2.2.2.1, ∀ (ρ : ab_R) (ls : Array Slot) (stk : List Value) (ws : va_W) (H : Heap) (locs : List Loc) (z : Int), ab_S cB cI cJ os ρ0 ρ nd.2.1 n ls stk ws → ab_E ρ nd.2.2 = some z → z < N → va_P D nz_cl ws H → va_D A ws → va_S A s.heap H locs → W p l e R s m args below meth c H locs cells slots Q (F0 m nd.1 ls stk) := by
  intro N
  induction N with
  | zero =>
    intro nd hn ρ ls stk ws H locs z hS hz hlt hP hD hS0
    have h1 := ab_lo_ok hS.1 hz
    have h2 := (hck nd hn).1
    rw [ab_le_iff] at h2
    omega
  | succ N ih =>
    intro nd hn ρ ls stk ws H locs z hS hz hlt hP hD hS0
    obtain ⟨-, hk, cs, ts, hcd, hts⟩ := hck nd hn
    obtain ⟨Lf, e3, hgh, hl3, hs0⟩ := ab_s0k_ok hk
    · obtain ⟨hg, ⟨lvs, l1, l2⟩, h3, h4, h5⟩ := hS
      obtain ⟨j, v3, m1, ⟨z3, m2, m3⟩⟩ := ab_lk_ok l2 hl3
      let v : Int32 := if (z3.toInt + 1).toNat < L then xs (z3.toInt + 1).toNat else 0
      let ρ1 : ab_R := fun k => if k = 0 then some (L : Int) else if k = 1 then some v.toInt else if k = 2 then some z3.toInt else none
      obtain ⟨s1, s2, s3⟩ := ab_fr_ok hg (ab_i32 v).1 (ab_i32 v).2 (ab_i32t v)
      have h0 : ab_g ρ1 C.2.2.2.2.1.2.1 := by
        rw [henv]
        refine ⟨fun k hk => ?_, fun k u hk => ?_, fun t ht => ?_, fun c hc => (by cases hc), fun c hc => (by cases hc)⟩
        · have hk : 3 ≤ k := hk
          show (if k = 0 then some (L : Int) else if k = 1 then some v.toInt else if k = 2 then some z3.toInt else none) = none
          rw [if_neg (by omega), if_neg (by omega), if_neg (by omega)]
        · have hk : (if k = 0 then some (L : Int) else if k = 1 then some v.toInt else if k = 2 then some z3.toInt else none) = some u := hk
          split at hk
          · cases hk; unfold ab_top; omega
          · split at hk
            · cases hk; exact ab_i32t v
            · split at hk
              · cases hk; exact ab_i32t z3
              · cases hk
        · rcases List.mem_cons.mp ht with rfl | ht
          · exact ⟨L, rfl, by dsimp only; omega, by dsimp only; omega⟩
          · cases ht
      have hY : ab_SY s A os ρ1 := by
        refine ⟨L, xs, hX1, hX2, hX3, rfl, hX5, z3.toInt, v.toInt, rfl, rfl, fun j hj hjL => ?_⟩
        have hjj : (z3.toInt + 1).toNat = j := by omega
        show (if (z3.toInt + 1).toNat < L then xs (z3.toInt + 1).toNat else 0).toInt = _
        rw [hjj, if_pos hjL]
      have hg0 : ∃ u, ρ0 0 = some u ∧ ab_E ρ Lf = some u := h4 (0, Lf) (by rw [hgh]; exact List.mem_cons_self ..)
      have hL : ab_E ρ Lf = some (L : Int) := by
        obtain ⟨u, u1, u2⟩ := hg0
        rw [hX4] at u1
        cases u1
        exact u2
      have hnd : ∀ nd ∈ C.2.2.2.1, ∀ (ρ : ab_R) (ls : Array Slot) (stk : List Value) (ws : va_W) (H : Heap) (locs : List Loc) (z' : Int), ab_S cB cI cJ os ρ1 ρ nd.2.1 n ls stk ws → ab_E ρ nd.2.2 = some z' → z' < z → va_P D nz_cl ws H → va_D A ws → va_S A s.heap H locs → W p l e R s m args below meth c H locs cells slots Q (F0 m nd.1 ls stk) := by
        intro nd' hn' ρ' ls' stk' ws' H' locs' z' a1 a2 a3 a4 a5 a6
        refine ih nd' hn' ρ' ls' stk' ws' H' locs' z' ⟨a1.1, a1.2.1, a1.2.2.1, fun q hq => ?_, a1.2.2.2.2⟩ a2 (by omega) a4 a5 a6
        obtain ⟨Lf', e3', hgh', hl3', -⟩ := ab_s0k_ok (hck nd' hn').2.1
        obtain ⟨u, u1, u2⟩ := a1.2.2.2.1 q hq
        rw [hgh'] at hq
        rcases List.mem_cons.mp hq with rfl | hq
        · have u1 : some (L : Int) = some u := u1
          cases u1
          exact ⟨_, hX4, u2⟩
        · cases hq
      have hgo := ab_ckL_ok (C := (cs, C.2)) (rk := nd.2.2) (z0 := z) C0 hA hcs hcd hT hlk h0 hY hnd (hret ρ1) ts _ hts _ (List.mem_cons_self ..)
      dsimp only at hgo
      rw [hs0] at hgo
      refine hgo _ ls stk ws H locs ⟨s2, ⟨lvs, l1, ab_ls_mono s1 l2⟩, ab_ws_mono s1 h3, fun q hq => ?_, ab_h_mono s1 h5⟩ (ab_E_mono s1 hz) hP hD hS0
      rcases List.mem_cons.mp hq with rfl | hq
      · exact ⟨_, rfl, ab_E_mono s1 hL⟩
      rcases List.mem_cons.mp hq with rfl | hq
      · exact ⟨_, rfl, s3⟩
      rcases List.mem_cons.mp hq with rfl | hq
      · exact ⟨_, rfl, ab_E_mono s1 m3⟩
      · cases hq
