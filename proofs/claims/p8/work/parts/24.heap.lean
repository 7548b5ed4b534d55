/-! switches; fields; arrays -/
section AHP
variable {D : va_G} {cB cI cJ : ClassId} {A : Nat → Prop} {H0 : Heap} {os : Nat → Nat} {ρ0 : ab_R} {n : Nat} {rk : ab_L} {z0 : Int} {WW : Nat → Array Slot → List Value → Heap → List Loc → Prop} {pc pc' : Nat}
/-- the cases of a table: the number is j, j + 1 .. -/
def ab_tb (pc : Nat) (Γ : ab_G) (e : ab_L) (k : ab_G → ab_A) : Int → List Int → Option (List (Nat × ab_A))
  | _, [] => some []
  | j, o :: offs => match ab_tg2 pc o, ab_tb pc Γ e k (j + 1) offs with
    | some t, some r => (match ab_rf Γ 0 (ab_sub e (ab_cn j)) with
      | some Γ' => some ((t, k Γ') :: r)
      | none => some r)
    | _, _ => none
theorem ab_tb_ok {ρ : ab_R} {Γ : ab_G} {e : ab_L} {k : ab_G → ab_A} {v : Int} (h : ab_g ρ Γ) (q : ab_E ρ e = some v) : ∀ (offs : List Int) (j : Int) (r : List (Nat × ab_A)), ab_tb pc Γ e k j offs = some r → ∀ (i : Nat) (o : Int), offs[i]? = some o → v = j + i → ∃ (t : Nat) (Γ' : ab_G), (pc : Int) + o = (t : Int) ∧ (t, k Γ') ∈ r ∧ ab_g ρ Γ' := by
  intro offs
  induction offs with
  | nil => intro j r _ i o hi; simp at hi
  | cons o1 offs ih =>
    intro j r hr i o hi hv
    unfold ab_tb at hr
    split at hr
    · rename_i t r1 ht hr1
      cases i with
      | zero =>
        cases hi
        obtain ⟨Γ', g1, g2⟩ := ab_rf_ok (o := 0) h (ab_sub_E q (ab_cn_E (c := j))) (show v - j = 0 by omega)
        rw [g1] at hr
        cases hr
        exact ⟨t, Γ', ab_tg2_ok ht, List.mem_cons_self .., g2⟩
      | succ i =>
        obtain ⟨t', Γ', q1, q2, q3⟩ := ih (j + 1) r1 hr1 i o hi (by omega)
        refine ⟨t', Γ', q1, ?_, q3⟩
        split at hr
        · cases hr; exact List.mem_cons_of_mem _ q2
        · cases hr; exact q2
    · cases hr
def ab_tsw (pc : Nat) (d lo : Int) (offs : List Int) (a : ab_A) : ab_O := match a with
  | (Γ, lv, .inr (.inl e) :: st, gh, hp) => (match ab_tg2 pc d, ab_tb pc Γ e (fun Γ' => (Γ', lv, st, gh, hp)) lo offs with
    | some t, some r => some ((t, (Γ, lv, st, gh, hp)) :: r)
    | _, _ => none)
  | _ => none
theorem ab_tsw_ok {d lo hi : Int} {offs : Array Int} {a : ab_A} {r : List (Nat × ab_A)} (hl : (offs.toList.length : Int) = hi - lo + 1) (hr : ab_tsw pc d lo offs.toList a = some r) (hG : ∀ q ∈ r, ab_Gd D cB cI cJ A H0 os ρ0 n rk z0 WW q.1 q.2)
    (r1 : ∀ ls rest H locs (x : Int32) (t : Nat), (x.toInt < lo ∨ hi < x.toInt) → (pc : Int) + d = (t : Int) → WW t ls rest H locs → WW pc ls (.int x :: rest) H locs)
    (r2 : ∀ ls rest H locs (x : Int32) (t : Nat) (o : Int), ¬ x.toInt < lo → ¬ hi < x.toInt → offs[(x.toInt - lo).toNat]? = some o → (pc : Int) + o = (t : Int) → WW t ls rest H locs → WW pc ls (.int x :: rest) H locs) : ab_Gd D cB cI cJ A H0 os ρ0 n rk z0 WW pc a := by
  intro ρ ls stk ws H locs hS hz hP hD hS0
  unfold ab_tsw at hr
  split at hr
  · rename_i Γ lv e st gh hp
    split at hr
    · rename_i t r3 ht hr3
      cases hr
      match stk, hS.2.2.1 with
      | v1 :: stk, ⟨⟨x, h1, h2⟩, h5⟩ =>
        subst h1
        by_cases hb : x.toInt < lo ∨ hi < x.toInt
        · exact r1 ls stk H locs x t hb (ab_tg2_ok ht) (hG _ (List.mem_cons_self ..) ρ ls stk ws H locs (hS.grow ab_sub2.rf hS.1 h5) hz hP hD hS0)
        · have hb1 : ¬ x.toInt < lo := fun q => hb (Or.inl q)
          have hb2 : ¬ hi < x.toInt := fun q => hb (Or.inr q)
          have hlt : (x.toInt - lo).toNat < offs.toList.length := by omega
          have ho : offs.toList[(x.toInt - lo).toNat]? = some (offs.toList[(x.toInt - lo).toNat]'hlt) := List.getElem?_eq_getElem hlt
          obtain ⟨t', Γ', q1, q2, q3⟩ := ab_tb_ok hS.1 h2 offs.toList lo r3 hr3 (x.toInt - lo).toNat _ ho (by omega)
          refine r2 ls stk H locs x t' _ hb1 hb2 (by rw [← Array.getElem?_toList]; exact ho) q1 (hG _ (List.mem_cons_of_mem _ q2) ρ ls stk ws H locs (hS.grow ab_sub2.rf q3 h5) hz hP hD hS0)
    · cases hr
  · cases hr
/-- the cases of a list of keys -/
def ab_kb (pc : Nat) (Γ : ab_G) (e : ab_L) (k : ab_G → ab_A) (d : Int) : List (Int × Int) → Option (List (Nat × ab_A))
  | [] => (match ab_tg2 pc d with
    | some t => some [(t, k Γ)]
    | none => none)
  | o :: ps => match ab_tg2 pc o.2, ab_kb pc Γ e k d ps with
    | some t, some r => (match ab_rf Γ 0 (ab_sub e (ab_cn o.1)) with
      | some Γ' => some ((t, k Γ') :: r)
      | none => some r)
    | _, _ => none
theorem ab_kb_ok {ρ : ab_R} {Γ : ab_G} {e : ab_L} {k : ab_G → ab_A} {v d : Int} (h : ab_g ρ Γ) (q : ab_E ρ e = some v) : ∀ (ps : List (Int × Int)) (r : List (Nat × ab_A)), ab_kb pc Γ e k d ps = some r → ∃ (t : Nat) (Γ' : ab_G), (pc : Int) + Op.lookupswitch.offset ps d v = (t : Int) ∧ (t, k Γ') ∈ r ∧ ab_g ρ Γ' := by
  intro ps
  induction ps with
  | nil =>
    intro r hr
    unfold ab_kb at hr
    split at hr
    · rename_i t ht
      cases hr
      exact ⟨t, Γ, ab_tg2_ok ht, List.mem_cons_self .., h⟩
    · cases hr
  | cons o ps ih =>
    intro r hr
    obtain ⟨o1, o2⟩ := o
    unfold ab_kb at hr
    split at hr
    · rename_i t r1 ht hr1
      rw [Op.lookupswitch.offset_cons]
      by_cases hv : o1 = v
      · rw [if_pos hv]
        obtain ⟨Γ', g1, g2⟩ := ab_rf_ok (o := 0) h (ab_sub_E q (ab_cn_E (c := o1))) (show v - o1 = 0 by omega)
        rw [g1] at hr
        cases hr
        exact ⟨t, Γ', ab_tg2_ok ht, List.mem_cons_self .., g2⟩
      · rw [if_neg hv]
        obtain ⟨t', Γ', q1, q2, q3⟩ := ih r1 hr1
        refine ⟨t', Γ', q1, ?_, q3⟩
        split at hr
        · cases hr; exact List.mem_cons_of_mem _ q2
        · cases hr; exact q2
    · cases hr
def ab_ksw (pc : Nat) (d : Int) (ps : List (Int × Int)) (a : ab_A) : ab_O := match a with
  | (Γ, lv, .inr (.inl e) :: st, gh, hp) => ab_kb pc Γ e (fun Γ' => (Γ', lv, st, gh, hp)) d ps
  | _ => none
theorem ab_ksw_ok {d : Int} {ps : Array (Int × Int)} {a : ab_A} {r : List (Nat × ab_A)} (hr : ab_ksw pc d ps.toList a = some r) (hG : ∀ q ∈ r, ab_Gd D cB cI cJ A H0 os ρ0 n rk z0 WW q.1 q.2)
    (rule : ∀ ls rest H locs (x : Int32) (t : Nat), (pc : Int) + Op.lookupswitch.offset ps.toList d x.toInt = (t : Int) → WW t ls rest H locs → WW pc ls (.int x :: rest) H locs) : ab_Gd D cB cI cJ A H0 os ρ0 n rk z0 WW pc a := by
  intro ρ ls stk ws H locs hS hz hP hD hS0
  unfold ab_ksw at hr
  split at hr
  · rename_i Γ lv e st gh hp
    match stk, hS.2.2.1 with
    | v1 :: stk, ⟨⟨x, h1, h2⟩, h5⟩ =>
      subst h1
      obtain ⟨t', Γ', q1, q2, q3⟩ := ab_kb_ok hS.1 h2 ps.toList r hr
      exact rule ls stk H locs x t' q1 (hG _ q2 ρ ls stk ws H locs (hS.grow ab_sub2.rf q3 h5) hz hP hD hS0)
  · cases hr
/-- a field read -/
def ab_gf (fl : List (Nat × Nat × Nat × Nat)) (idx pc' : Nat) (a : ab_A) : ab_O := match a with
  | (Γ, lv, .inl k :: st, gh, hp) => (match ab_fk idx fl, ab_hk k hp with
    | some f, some (_, .inl o) => (match Nat.beq f.1 o.1, ab_at f.2.1 o.2 with
      | true, some (some w) => some [(pc', (Γ, lv, w :: st, gh, hp))]
      | _, _ => none)
    | _, _ => none)
  | _ => none
theorem ab_gf_ok {own : String} {fl : List (Nat × Nat × Nat × Nat)} {idx : Nat} {a : ab_A} {r : List (Nat × ab_A)} (hfl : ∀ q ∈ fl, ab_Fl own q) (hr : ab_gf fl idx pc' a = some r) (hG : ∀ q ∈ r, ab_Gd D cB cI cJ A H0 os ρ0 n rk z0 WW q.1 q.2)
    (rule : ∀ ls rest H locs ws b (ci k j : Nat) (fs : List Value) (v : Value) (C : String) (T : u_T) (N : Nat), va_P D nz_cl ws H → ws[j]? = some (b, .inr (ci, fs)) → nz_cl[ci]? = some (C, T, N) → (∀ w ∈ u_ws C T N, w ∈ nz_gd) → k < N → Cond.fieldLink own idx (T k).1 (T k).2.1 (T k).2.2.1 ∈ nz_gd → fs[k]? = some v → WW pc' ls (v :: rest) H locs → WW pc ls (.ref b :: rest) H locs) : ab_Gd D cB cI cJ A H0 os ρ0 n rk z0 WW pc a := by
  intro ρ ls stk ws H locs hS hz hP hD hS0
  unfold ab_gf at hr
  split at hr
  · rename_i Γ lv k st gh hp
    split at hr
    · rename_i f j o hf hh
      split at hr
      · rename_i w hb hw
        cases hr
        match stk, hS.2.2.1 with
        | v1 :: stk, ⟨h1, h5⟩ =>
          have h1 : v1 = .ref (os k) := h1
          subst h1
          obtain ⟨e, e1, ⟨vs, e2, e3⟩, -⟩ := ab_hk_ok hS.2.2.2.2 hh
          subst e2
          rw [ab_at_eq] at hw
          obtain ⟨v, v2, v3⟩ := ab_vs_at e3 hw
          obtain ⟨C, T, N, ty0, f1, f2, f3, f4, -⟩ := hfl _ (ab_fk_ok hf)
          rw [← Nat.eq_of_beq_eq_true hb] at e1
          exact rule ls stk H locs ws _ f.1 f.2.1 j vs v C T N hP e1 f1 f2 f3 f4 v2 (hG _ (List.mem_cons_self ..) ρ ls (v :: stk) ws H locs (hS.grow ab_sub2.rf hS.1 ⟨v3, h5⟩) hz hP hD hS0)
      · cases hr
    · cases hr
  · cases hr
/-- a field written: 0 an int, 1 a long, 2 a reference -/
def ab_kd (kd : Nat) (w : ab_W) : Bool := match w with
  | .inl _ => Nat.beq kd 2
  | .inr (.inl _) => Nat.beq kd 0
  | .inr (.inr (.inl _)) => Nat.beq kd 1
  | _ => false
def ab_pf (fl : List (Nat × Nat × Nat × Nat)) (idx pc' : Nat) (a : ab_A) : ab_O := match a with
  | (Γ, lv, w :: .inl k :: st, gh, hp) => (match ab_fk idx fl, ab_hk k hp with
    | some f, some (j, .inl o) => (match Nat.beq f.1 o.1 && (ab_kd f.2.2 w && Nat.ble (f.2.1 + 1) o.2.length) with
      | true => some [(pc', (Γ, lv, st, gh, ab_hs j (.inl (o.1, ab_set (some w) f.2.1 o.2)) hp))]
      | false => none)
    | _, _ => none)
  | _ => none
theorem ab_pf_ok {own : String} {fl : List (Nat × Nat × Nat × Nat)} {idx : Nat} {a : ab_A} {r : List (Nat × ab_A)} (hfl : ∀ q ∈ fl, ab_Fl own q) (hr : ab_pf fl idx pc' a = some r) (hG : ∀ q ∈ r, ab_Gd D cB cI cJ A H0 os ρ0 n rk z0 WW q.1 q.2)
    (rule : ∀ ls rest H locs ws b (ci k j : Nat) (fs : List Value) (v : Value) (C : String) (T : u_T) (N : Nat) (ty0 : Nat → FieldType), va_P D nz_cl ws H → va_D A ws → va_S A H0 H locs → ws[j]? = some (b, .inr (ci, fs)) → nz_cl[ci]? = some (C, T, N) → (∀ w ∈ u_ws C T N, w ∈ nz_gd) → k < N → Cond.fieldLink own idx (T k).1 (T k).2.1 (T k).2.2.1 ∈ nz_gd → (∀ k, k < N → parseFieldDescriptor (T k).2.2.1 = some (ty0 k)) → (∀ a, a < N → ∀ b, b < N → a ≠ b → (T a).2.1 ≠ (T b).2.1) → (T k).2.2.2 = false → narrow (ty0 k) v = v → fits (ty0 k) v = true → k < fs.length → (∀ (H1 : Heap) (locs1 : List Loc), va_P D nz_cl (ws.set j (b, .inr (ci, fs.set k v))) H1 → va_D A (ws.set j (b, .inr (ci, fs.set k v))) → va_S A H0 H1 locs1 → WW pc' ls rest H1 locs1) → WW pc ls (v :: .ref b :: rest) H locs) : ab_Gd D cB cI cJ A H0 os ρ0 n rk z0 WW pc a := by
  intro ρ ls stk ws H locs hS hz hP hD hS0
  unfold ab_pf at hr
  split at hr
  · rename_i Γ lv w k st gh hp
    split at hr
    · rename_i f j o hf hh
      split at hr
      · rename_i hb
        simp only [Bool.and_eq_true] at hb
        cases hr
        match stk, hS.2.2.1 with
        | v0 :: v1 :: stk, ⟨h0, h1, h5⟩ =>
          have h1 : v1 = .ref (os k) := h1
          subst h1
          obtain ⟨e, e1, ⟨vs, e2, e3⟩, -⟩ := ab_hk_ok hS.2.2.2.2 hh
          subst e2
          obtain ⟨C, T, N, ty0, f1, f2, f3, f4, f5, f6, f7, f8, f9⟩ := hfl _ (ab_fk_ok hf)
          rw [← Nat.eq_of_beq_eq_true hb.1] at e1
          have hl := Nat.le_of_ble_eq_true hb.2.2
          have hn : (T f.2.1).2.2.2 = false ∧ narrow (ty0 f.2.1) v0 = v0 ∧ fits (ty0 f.2.1) v0 = true := by
            match w, h0, hb.2.1 with
            | .inl k', h0, hk =>
              have h0 : v0 = .ref (os k') := h0
              obtain ⟨g1, C', g2⟩ := f9 (Nat.eq_of_beq_eq_true hk)
              have g2 : ty0 f.2.1 = .object C' := g2
              subst h0
              exact ⟨g1, by rw [g2]; rfl, by rw [g2]; rfl⟩
            | .inr (.inl e), ⟨z, h0, _⟩, hk =>
              obtain ⟨g1, g2⟩ := f7 (Nat.eq_of_beq_eq_true hk)
              have g2 : ty0 f.2.1 = .int := g2
              subst h0
              exact ⟨g1, by rw [g2]; rfl, by rw [g2]; rfl⟩
            | .inr (.inr (.inl e)), ⟨z, h0, _⟩, hk =>
              obtain ⟨g1, g2⟩ := f8 (Nat.eq_of_beq_eq_true hk)
              have g2 : ty0 f.2.1 = .long := g2
              subst h0
              exact ⟨g1, by rw [g2]; rfl, by rw [g2]; rfl⟩
            | .inr (.inr (.inr e)), _, hk => cases hk
          refine rule ls stk H locs ws _ f.1 f.2.1 j vs v0 C T N ty0 hP hD hS0 e1 f1 f2 f3 f4 f5 f6 hn.1 hn.2.1 hn.2.2 (by rw [ab_vs_len e3]; exact hl) (fun H1 locs1 hP1 hD1 hS1 => hG _ (List.mem_cons_self ..) ρ ls stk _ H1 locs1 ⟨hS.1, hS.2.1, h5, hS.2.2.2.1, ?_⟩ hz hP1 hD1 hS1)
          have hc : ab_c cB cI cJ os ρ (.inl (o.1, ab_set (some w) f.2.1 o.2)) (.inr (f.1, vs.set f.2.1 v0)) := ⟨_, by rw [Nat.eq_of_beq_eq_true hb.1], by rw [ab_set_eq]; exact ab_vs_set h0 e3⟩
          exact ab_hs_ok hc hS.2.2.2.2 e1
      · cases hr
    · cases hr
  · cases hr
end AHP
