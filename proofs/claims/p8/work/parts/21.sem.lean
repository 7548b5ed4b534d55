/-! what stands in a slot, on the stack, in a cell -/
abbrev ab_W : Type := Nat ⊕ (ab_L ⊕ (ab_L ⊕ ab_L))
abbrev ab_V : Type := Option ab_W
abbrev ab_Q : Type := Nat × Int × Int × List (Nat × ab_L × ab_L) × List (ab_L × ab_L) × List (ab_L × ab_L)
abbrev ab_Ac : Type := (Nat × List ab_V) ⊕ ((Bool × Nat × Int × Int) ⊕ (Nat ⊕ (List ab_L ⊕ ab_Q)))
abbrev ab_Hp : Type := List (Nat × ab_Ac)
abbrev ab_A : Type := ab_G × List (Nat × ab_W) × List ab_W × List (Nat × ab_L) × ab_Hp
def ab_w (os : Nat → Nat) (ρ : ab_R) (w : ab_W) (v : Value) : Prop := match w with
  | .inl k => v = .ref (os k)
  | .inr (.inl e) => ∃ z : Int32, v = .int z ∧ ab_E ρ e = some z.toInt
  | .inr (.inr (.inl e)) => ∃ z : Int64, v = .long z ∧ ab_E ρ e = some z.toInt
  | .inr (.inr (.inr e)) => ∃ (z : Int32) (d : Int), v = .int z ∧ ab_E ρ e = some d ∧ (z < 0 ↔ d < 0) ∧ (0 < z ↔ 0 < d)
def ab_v (os : Nat → Nat) (ρ : ab_R) (w : ab_V) (v : Value) : Prop := match w with
  | none => True
  | some w => ab_w os ρ w v
def ab_vs (os : Nat → Nat) (ρ : ab_R) : List ab_V → List Value → Prop
  | [], [] => True
  | a :: as, v :: vs => ab_v os ρ a v ∧ ab_vs os ρ as vs
  | _, _ => False
def ab_ws (os : Nat → Nat) (ρ : ab_R) : List ab_W → List Value → Prop
  | [], [] => True
  | a :: as, v :: vs => ab_w os ρ a v ∧ ab_ws os ρ as vs
  | _, _ => False
def ab_ls (os : Nat → Nat) (ρ : ab_R) : List (Nat × ab_W) → List (Nat × Value) → Prop
  | [], [] => True
  | a :: as, v :: vs => (a.1 = v.1 ∧ ab_w os ρ a.2 v.2) ∧ ab_ls os ρ as vs
  | _, _ => False
/-! an array of which more is told: how many are below 0 and what the others sum up to; elements from a place on, so many, are no more than a form; elements that are known; the count and the sum -/
def ab_cn1 (f : Nat → Int32) : Nat → Int
  | 0 => 0
  | n + 1 => ab_cn1 f n + (if (f n).toInt < 0 then 1 else 0)
def ab_sm1 (f : Nat → Int32) : Nat → Int
  | 0 => 0
  | n + 1 => ab_sm1 f n + (if (f n).toInt < 0 then 0 else (f n).toInt)
def ab_q1 (ρ : ab_R) (n : Nat) (f : Nat → Int32) (q : Nat × ab_L × ab_L) : Prop := ∃ vC vH, ab_E ρ q.2.1 = some vC ∧ ab_E ρ q.2.2 = some vH ∧ ∀ j : Nat, j < n → q.1 ≤ j → (j : Int) < q.1 + vC → (f j).toInt ≤ vH
def ab_q2 (ρ : ab_R) (n : Nat) (f : Nat → Int32) (q : ab_L × ab_L) : Prop := ∃ j : Nat, j < n ∧ ab_E ρ q.1 = some (j : Int) ∧ ab_E ρ q.2 = some (f j).toInt
def ab_q3 (ρ : ab_R) (n : Nat) (f : Nat → Int32) (q : ab_L × ab_L) : Prop := ab_E ρ q.1 = some (ab_cn1 f n) ∧ ab_E ρ q.2 = some (ab_sm1 f n)
def ab_cq (ρ : ab_R) (q : ab_Q) (f : Nat → Int32) : Prop := (∀ j, j < q.1 → q.2.1 ≤ (f j).toInt ∧ (f j).toInt ≤ q.2.2.1) ∧ (∀ x ∈ q.2.2.2.1, ab_q1 ρ q.1 f x) ∧ (∀ x ∈ q.2.2.2.2.1, ab_q2 ρ q.1 f x) ∧ (∀ x ∈ q.2.2.2.2.2, ab_q3 ρ q.1 f x)
theorem ab_cq_mono {ρ ρ' : ab_R} (h : ab_sub2 ρ ρ') {q : ab_Q} {f : Nat → Int32} (hq : ab_cq ρ q f) : ab_cq ρ' q f := by
  refine ⟨hq.1, fun x hx => ?_, fun x hx => ?_, fun x hx => ?_⟩
  · obtain ⟨vC, vH, h1, h2, h3⟩ := hq.2.1 x hx
    exact ⟨vC, vH, ab_E_mono h h1, ab_E_mono h h2, h3⟩
  · obtain ⟨j, h1, h2, h3⟩ := hq.2.2.1 x hx
    exact ⟨j, h1, ab_E_mono h h2, ab_E_mono h h3⟩
  · obtain ⟨h1, h2⟩ := hq.2.2.2 x hx
    exact ⟨ab_E_mono h h1, ab_E_mono h h2⟩
theorem ab_cn1_b (f : Nat → Int32) : ∀ n : Nat, 0 ≤ ab_cn1 f n ∧ ab_cn1 f n ≤ n := by
  intro n
  induction n with
  | zero => exact ⟨Int.le_refl _, Int.le_refl _⟩
  | succ n ih =>
    unfold ab_cn1
    split <;> omega
theorem ab_sm1_b (f : Nat → Int32) (M : Int) (hM : 0 ≤ M) : ∀ n : Nat, (∀ j, j < n → (f j).toInt ≤ M) → 0 ≤ ab_sm1 f n ∧ ab_sm1 f n ≤ n * M := by
  intro n
  induction n with
  | zero => intro _; exact ⟨Int.le_refl _, by simp [ab_sm1]⟩
  | succ n ih =>
    intro h
    have h1 := ih (fun j hj => h j (by omega))
    have h2 := h n (by omega)
    unfold ab_sm1
    have e : ((n + 1 : Nat) : Int) * M = n * M + M := by
      rw [Int.natCast_add, Int.add_mul]; simp
    rw [e]
    split <;> omega
def ab_c (cB cI cJ : ClassId) (os : Nat → Nat) (ρ : ab_R) (c : ab_Ac) (e : va_E) : Prop := match c with
  | .inl o => ∃ vs : List Value, e = .inr (o.1, vs) ∧ ab_vs os ρ o.2 vs
  | .inr (.inl u) => ∃ f : Nat → Int32, e = .inl ((match u.1 with
      | true => cB
      | false => cI), u.2.1, .inl f) ∧ ∀ j, j < u.2.1 → u.2.2.1 ≤ (f j).toInt ∧ (f j).toInt ≤ u.2.2.2
  | .inr (.inr (.inl n)) => ∃ f : Nat → Int64, e = .inl (cJ, n, .inr (.inl f))
  | .inr (.inr (.inr (.inl es))) => ∃ f : Nat → Int32, e = .inl (cI, es.length, .inl f) ∧ ∀ (j : Nat) (x : ab_L), es[j]? = some x → ab_E ρ x = some (f j).toInt
  | .inr (.inr (.inr (.inr q))) => ∃ f : Nat → Int32, e = .inl (cI, q.1, .inl f) ∧ ab_cq ρ q f
def ab_h (cB cI cJ : ClassId) (os : Nat → Nat) (ρ : ab_R) : ab_Hp → va_W → Prop
  | [], [] => True
  | c :: cs, q :: qs => (q.1 = os c.1 ∧ ab_c cB cI cJ os ρ c.2 q.2) ∧ ab_h cB cI cJ os ρ cs qs
  | _, _ => False
section AMONO
variable {os : Nat → Nat} {ρ ρ' : ab_R} {cB cI cJ : ClassId}
theorem ab_w_mono (h : ab_sub2 ρ ρ') {w : ab_W} {v : Value} (q : ab_w os ρ w v) : ab_w os ρ' w v := by
  match w, q with
  | .inl k, q => exact q
  | .inr (.inl e), ⟨z, h1, h2⟩ => exact ⟨z, h1, ab_E_mono h h2⟩
  | .inr (.inr (.inl e)), ⟨z, h1, h2⟩ => exact ⟨z, h1, ab_E_mono h h2⟩
  | .inr (.inr (.inr e)), ⟨z, d, h1, h2, h3⟩ => exact ⟨z, d, h1, ab_E_mono h h2, h3⟩
theorem ab_v_mono (h : ab_sub2 ρ ρ') {w : ab_V} {v : Value} (q : ab_v os ρ w v) : ab_v os ρ' w v := by
  match w, q with
  | none, q => exact q
  | some w, q => exact ab_w_mono (w := w) h q
theorem ab_vs_mono (h : ab_sub2 ρ ρ') : ∀ {as : List ab_V} {vs : List Value}, ab_vs os ρ as vs → ab_vs os ρ' as vs := by
  intro as
  induction as with
  | nil => intro vs q; cases vs with
    | nil => trivial
    | cons v vs => exact q.elim
  | cons a as ih => intro vs q; cases vs with
    | nil => exact q.elim
    | cons v vs => exact ⟨ab_v_mono h q.1, ih q.2⟩
theorem ab_ws_mono (h : ab_sub2 ρ ρ') : ∀ {as : List ab_W} {vs : List Value}, ab_ws os ρ as vs → ab_ws os ρ' as vs := by
  intro as
  induction as with
  | nil => intro vs q; cases vs with
    | nil => trivial
    | cons v vs => exact q.elim
  | cons a as ih => intro vs q; cases vs with
    | nil => exact q.elim
    | cons v vs => exact ⟨ab_w_mono h q.1, ih q.2⟩
theorem ab_ls_mono (h : ab_sub2 ρ ρ') : ∀ {as : List (Nat × ab_W)} {vs : List (Nat × Value)}, ab_ls os ρ as vs → ab_ls os ρ' as vs := by
  intro as
  induction as with
  | nil => intro vs q; cases vs with
    | nil => trivial
    | cons v vs => exact q.elim
  | cons a as ih => intro vs q; cases vs with
    | nil => exact q.elim
    | cons v vs => exact ⟨⟨q.1.1, ab_w_mono h q.1.2⟩, ih q.2⟩
theorem ab_c_mono (h : ab_sub2 ρ ρ') {c : ab_Ac} {e : va_E} (q : ab_c cB cI cJ os ρ c e) : ab_c cB cI cJ os ρ' c e := by
  match c, q with
  | .inl o, ⟨vs, h1, h2⟩ => exact ⟨vs, h1, ab_vs_mono h h2⟩
  | .inr (.inl u), q => exact q
  | .inr (.inr (.inl n)), q => exact q
  | .inr (.inr (.inr (.inl es))), ⟨f, h1, h2⟩ => exact ⟨f, h1, fun j x hx => ab_E_mono h (h2 j x hx)⟩
  | .inr (.inr (.inr (.inr q))), ⟨f, h1, h2⟩ => exact ⟨f, h1, ab_cq_mono h h2⟩
theorem ab_h_mono (h : ab_sub2 ρ ρ') : ∀ {cs : ab_Hp} {qs : va_W}, ab_h cB cI cJ os ρ cs qs → ab_h cB cI cJ os ρ' cs qs := by
  intro cs
  induction cs with
  | nil => intro qs q; cases qs with
    | nil => trivial
    | cons v qs => exact q.elim
  | cons c cs ih => intro qs q; cases qs with
    | nil => exact q.elim
    | cons v qs => exact ⟨⟨q.1.1, ab_c_mono h q.1.2⟩, ih q.2⟩
end AMONO
/-- the whole of it -/
def ab_S (cB cI cJ : ClassId) (os : Nat → Nat) (ρ0 ρ : ab_R) (a : ab_A) (n : Nat) (ls : Array Slot) (stk : List Value) (ws : va_W) : Prop := ab_g ρ a.1 ∧ (∃ lvs, lv_has ls n lvs ∧ ab_ls os ρ a.2.1 lvs) ∧ ab_ws os ρ a.2.2.1 stk ∧ (∀ q ∈ a.2.2.2.1, ∃ v, ρ0 q.1 = some v ∧ ab_E ρ q.2 = some v) ∧ ab_h cB cI cJ os ρ a.2.2.2.2 ws
theorem ab_S.grow {cB cI cJ : ClassId} {os : Nat → Nat} {ρ0 ρ ρ' : ab_R} {Γ Γ' : ab_G} {lv : List (Nat × ab_W)} {st st' : List ab_W} {gh : List (Nat × ab_L)} {hp : ab_Hp} {n : Nat} {ls : Array Slot} {stk stk' : List Value} {ws : va_W} (h : ab_S cB cI cJ os ρ0 ρ (Γ, lv, st, gh, hp) n ls stk ws) (hs : ab_sub2 ρ ρ') (hg : ab_g ρ' Γ') (hst : ab_ws os ρ' st' stk') : ab_S cB cI cJ os ρ0 ρ' (Γ', lv, st', gh, hp) n ls stk' ws := by
  obtain ⟨h1, ⟨lvs, h2, h3⟩, h4, h5, h6⟩ := h
  refine ⟨hg, ⟨lvs, h2, ab_ls_mono hs h3⟩, hst, fun q hq => ?_, ab_h_mono hs h6⟩
  obtain ⟨v, q1, q2⟩ := h5 q hq
  exact ⟨v, q1, ab_E_mono hs q2⟩
/-! slots by number -/
def ab_lk (k : Nat) : List (Nat × ab_W) → Option ab_W
  | [] => none
  | t :: ts => match Nat.beq k t.1 with
    | true => some t.2
    | false => ab_lk k ts
theorem ab_lk_ok {os : Nat → Nat} {ρ : ab_R} {k : Nat} {w : ab_W} : ∀ {as : List (Nat × ab_W)} {vs : List (Nat × Value)}, ab_ls os ρ as vs → ab_lk k as = some w → ∃ (j : Nat) (v : Value), vs[j]? = some (k, v) ∧ ab_w os ρ w v := by
  intro as
  induction as with
  | nil => intro vs _ h; cases h
  | cons a as ih => intro vs q h; cases vs with
    | nil => exact q.elim
    | cons v vs =>
      unfold ab_lk at h
      cases hb : Nat.beq k a.1 with
      | true =>
        rw [hb] at h
        cases h
        refine ⟨0, v.2, ?_, q.1.2⟩
        rw [Nat.eq_of_beq_eq_true hb, q.1.1]
        rfl
      | false =>
        rw [hb] at h
        obtain ⟨j, v', h1, h2⟩ := ih q.2 h
        exact ⟨j + 1, v', h1, h2⟩
def ab_cat (w : ab_W) : Bool := match w with
  | .inr (.inr (.inl _)) => true
  | _ => false
theorem ab_cat_ok {os : Nat → Nat} {ρ : ab_R} {w : ab_W} {v : Value} (h : ab_w os ρ w v) : (v.category == 2) = ab_cat w := by
  match w, h with
  | .inl k, h => cases h; rfl
  | .inr (.inl e), ⟨z, h1, h2⟩ => cases h1; rfl
  | .inr (.inr (.inl e)), ⟨z, h1, h2⟩ => cases h1; rfl
  | .inr (.inr (.inr e)), ⟨z, d, h1, h2⟩ => cases h1; rfl
/-- what stays when slot i is written: one slot, two slots -/
def ab_f1 (i : Nat) : List (Nat × ab_W) → List (Nat × ab_W)
  | [] => []
  | t :: ts => match !(t.1 == i) && !(t.1 + 1 == i && ab_cat t.2) with
    | true => t :: ab_f1 i ts
    | false => ab_f1 i ts
def ab_f2 (i : Nat) : List (Nat × ab_W) → List (Nat × ab_W)
  | [] => []
  | t :: ts => match !(t.1 == i) && (!(t.1 == i + 1) && !(t.1 + 1 == i && ab_cat t.2)) with
    | true => t :: ab_f2 i ts
    | false => ab_f2 i ts
theorem ab_f1_ok {os : Nat → Nat} {ρ : ab_R} {i : Nat} : ∀ {as : List (Nat × ab_W)} {vs : List (Nat × Value)}, ab_ls os ρ as vs → ab_ls os ρ (ab_f1 i as) (vs.filter (fun q => !(q.1 == i) && !(q.1 + 1 == i && q.2.category == 2))) := by
  intro as
  induction as with
  | nil => intro vs q; cases vs with
    | nil => trivial
    | cons v vs => exact q.elim
  | cons a as ih => intro vs q; cases vs with
    | nil => exact q.elim
    | cons v vs =>
      unfold ab_f1
      rw [List.filter_cons, ab_cat_ok q.1.2, ← q.1.1]
      cases (!(a.1 == i) && !(a.1 + 1 == i && ab_cat a.2)) with
      | true => exact ⟨q.1, ih q.2⟩
      | false => exact ih q.2
theorem ab_f2_ok {os : Nat → Nat} {ρ : ab_R} {i : Nat} : ∀ {as : List (Nat × ab_W)} {vs : List (Nat × Value)}, ab_ls os ρ as vs → ab_ls os ρ (ab_f2 i as) (vs.filter (fun q => !(q.1 == i) && (!(q.1 == i + 1) && !(q.1 + 1 == i && q.2.category == 2)))) := by
  intro as
  induction as with
  | nil => intro vs q; cases vs with
    | nil => trivial
    | cons v vs => exact q.elim
  | cons a as ih => intro vs q; cases vs with
    | nil => exact q.elim
    | cons v vs =>
      unfold ab_f2
      rw [List.filter_cons, ab_cat_ok q.1.2, ← q.1.1]
      cases (!(a.1 == i) && (!(a.1 == i + 1) && !(a.1 + 1 == i && ab_cat a.2))) with
      | true => exact ⟨q.1, ih q.2⟩
      | false => exact ih q.2
/-! cells by number -/
def ab_hk (k : Nat) : ab_Hp → Option (Nat × ab_Ac)
  | [] => none
  | t :: ts => match Nat.beq k t.1 with
    | true => some (0, t.2)
    | false => match ab_hk k ts with
      | some q => some (q.1 + 1, q.2)
      | none => none
theorem ab_hk_ok {cB cI cJ : ClassId} {os : Nat → Nat} {ρ : ab_R} {k : Nat} : ∀ {cs : ab_Hp} {ws : va_W} {j : Nat} {c : ab_Ac}, ab_h cB cI cJ os ρ cs ws → ab_hk k cs = some (j, c) → ∃ e : va_E, ws[j]? = some (os k, e) ∧ ab_c cB cI cJ os ρ c e ∧ cs[j]? = some (k, c) := by
  intro cs
  induction cs with
  | nil => intro ws j c _ h; cases h
  | cons a as ih => intro ws j c q h; cases ws with
    | nil => exact q.elim
    | cons v vs =>
      unfold ab_hk at h
      cases hb : Nat.beq k a.1 with
      | true =>
        rw [hb] at h
        cases h
        have hk := Nat.eq_of_beq_eq_true hb
        refine ⟨v.2, ?_, q.1.2, ?_⟩
        · rw [hk, ← q.1.1]; rfl
        · rw [hk]; rfl
      | false =>
        rw [hb] at h
        cases hr : ab_hk k as with
        | none => rw [hr] at h; cases h
        | some r =>
          rw [hr] at h
          cases h
          obtain ⟨e, h1, h2, h3⟩ := ih q.2 hr
          exact ⟨e, h1, h2, h3⟩
def ab_hs (j : Nat) (c : ab_Ac) : ab_Hp → ab_Hp
  | [] => []
  | t :: ts => match j with
    | 0 => (t.1, c) :: ts
    | j + 1 => t :: ab_hs j c ts
theorem ab_hs_ok {cB cI cJ : ClassId} {os : Nat → Nat} {ρ : ab_R} {c : ab_Ac} {e' : va_E} (hc : ab_c cB cI cJ os ρ c e') : ∀ {cs : ab_Hp} {ws : va_W} {j a : Nat} {e : va_E}, ab_h cB cI cJ os ρ cs ws → ws[j]? = some (a, e) → ab_h cB cI cJ os ρ (ab_hs j c cs) (ws.set j (a, e')) := by
  intro cs
  induction cs with
  | nil => intro ws j a e q h; cases ws with
    | nil => simp at h
    | cons v vs => exact q.elim
  | cons b cs ih => intro ws j a e q h; cases ws with
    | nil => exact q.elim
    | cons v vs =>
      cases j with
      | zero =>
        cases h
        exact ⟨⟨q.1.1, hc⟩, q.2⟩
      | succ j => exact ⟨q.1, ih q.2 h⟩
def ab_at {α : Type} : Nat → List α → Option α
  | _, [] => none
  | 0, a :: _ => some a
  | j + 1, _ :: as => ab_at j as
theorem ab_at_eq {α : Type} : ∀ (as : List α) (j : Nat), ab_at j as = as[j]? := by
  intro as
  induction as with
  | nil => intro j; cases j <;> rfl
  | cons a as ih => intro j; cases j with
    | zero => rfl
    | succ j => exact ih j
def ab_set {α : Type} (x : α) : Nat → List α → List α
  | _, [] => []
  | 0, _ :: as => x :: as
  | j + 1, a :: as => a :: ab_set x j as
theorem ab_set_eq {α : Type} {x : α} : ∀ (as : List α) (j : Nat), ab_set x j as = as.set j x := by
  intro as
  induction as with
  | nil => intro j; cases j <;> rfl
  | cons a as ih => intro j; cases j with
    | zero => rfl
    | succ j => exact congrArg (List.cons a) (ih j)
theorem ab_vs_at {os : Nat → Nat} {ρ : ab_R} : ∀ {as : List ab_V} {vs : List Value} {j : Nat} {w : ab_W}, ab_vs os ρ as vs → as[j]? = some (some w) → ∃ v, vs[j]? = some v ∧ ab_w os ρ w v := by
  intro as
  induction as with
  | nil => intro vs j w _ h; simp at h
  | cons a as ih => intro vs j w q h; cases vs with
    | nil => exact q.elim
    | cons v vs => cases j with
      | zero => cases h; exact ⟨v, rfl, q.1⟩
      | succ j =>
        obtain ⟨v', h1, h2⟩ := ih (vs := vs) (j := j) q.2 h
        exact ⟨v', h1, h2⟩
theorem ab_vs_len {os : Nat → Nat} {ρ : ab_R} : ∀ {as : List ab_V} {vs : List Value}, ab_vs os ρ as vs → vs.length = as.length := by
  intro as
  induction as with
  | nil => intro vs q; cases vs with
    | nil => rfl
    | cons v vs => exact q.elim
  | cons a as ih => intro vs q; cases vs with
    | nil => exact q.elim
    | cons v vs => simp [ih q.2]
theorem ab_vs_set {os : Nat → Nat} {ρ : ab_R} {w : ab_W} {v : Value} (h : ab_w os ρ w v) : ∀ {as : List ab_V} {vs : List Value} {j : Nat}, ab_vs os ρ as vs → ab_vs os ρ (as.set j (some w)) (vs.set j v) := by
  intro as
  induction as with
  | nil => intro vs j q; cases vs with
    | nil => trivial
    | cons v vs => exact q.elim
  | cons a as ih => intro vs j q; cases vs with
    | nil => exact q.elim
    | cons v vs => cases j with
      | zero => exact ⟨h, q.2⟩
      | succ j => exact ⟨q.1, ih q.2⟩
