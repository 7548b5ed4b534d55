/-! linear forms over numbered unknowns; bounds; what may be assumed and what is shown -/
abbrev ab_L : Type := Int × List (Nat × Int)
abbrev ab_R : Type := Nat → Option Int
def ab_le (a b : Int) : Bool := match b - a with
  | .ofNat _ => true
  | .negSucc _ => false
theorem ab_le_iff {a b : Int} : ab_le a b = true ↔ a ≤ b := by
  unfold ab_le
  constructor
  · intro h
    cases hd : b - a with
    | ofNat n =>
      have hd : b - a = (n : Int) := hd
      omega
    | negSucc n => rw [hd] at h; simp at h
  · intro h
    cases hd : b - a with
    | ofNat n => rfl
    | negSucc n => omega
def ab_z (a : Int) : Bool := match a with
  | .ofNat n => Nat.beq n 0
  | .negSucc _ => false
theorem ab_z_iff {a : Int} : ab_z a = true ↔ a = 0 := by
  unfold ab_z
  cases a with
  | ofNat n => simp
  | negSucc n => simp
def ab_ieq (a b : Int) : Bool := match a, b with
  | .ofNat n, .ofNat m => Nat.beq n m
  | .negSucc n, .negSucc m => Nat.beq n m
  | _, _ => false
theorem ab_ieq_iff {a b : Int} : ab_ieq a b = true → a = b := by
  unfold ab_ieq
  intro h
  cases a with
  | ofNat n => cases b with
    | ofNat m => exact congrArg Int.ofNat (Nat.eq_of_beq_eq_true h)
    | negSucc m => cases h
  | negSucc n => cases b with
    | ofNat m => cases h
    | negSucc m => exact congrArg Int.negSucc (Nat.eq_of_beq_eq_true h)
def ab_ev (ρ : ab_R) : List (Nat × Int) → Option Int
  | [] => some 0
  | t :: ts => match ρ t.1, ab_ev ρ ts with
    | some v, some w => some (t.2 * v + w)
    | _, _ => none
def ab_E (ρ : ab_R) (e : ab_L) : Option Int := match ab_ev ρ e.2 with
  | some w => some (e.1 + w)
  | none => none
def ab_sub2 (ρ ρ' : ab_R) : Prop := ∀ k v, ρ k = some v → ρ' k = some v
theorem ab_sub2.rf {ρ : ab_R} : ab_sub2 ρ ρ := fun _ _ h => h
theorem ab_sub2.tr {ρ ρ1 ρ2 : ab_R} (h : ab_sub2 ρ ρ1) (h1 : ab_sub2 ρ1 ρ2) : ab_sub2 ρ ρ2 := fun k v q => h1 k v (h k v q)
theorem ab_ev_cons {ρ : ab_R} {t : Nat × Int} {ts : List (Nat × Int)} {z : Int} : ab_ev ρ (t :: ts) = some z ↔ ∃ v w, ρ t.1 = some v ∧ ab_ev ρ ts = some w ∧ z = t.2 * v + w := by
  simp only [ab_ev]
  cases ρ t.1 with
  | none => simp
  | some v => cases ab_ev ρ ts with
    | none => simp
    | some w =>
      simp only [Option.some.injEq]
      constructor
      · intro h; exact ⟨v, w, rfl, rfl, h.symm⟩
      · rintro ⟨v', w', rfl, rfl, h⟩; exact h.symm
theorem ab_E_iff {ρ : ab_R} {e : ab_L} {z : Int} : ab_E ρ e = some z ↔ ∃ w, ab_ev ρ e.2 = some w ∧ z = e.1 + w := by
  unfold ab_E
  cases ab_ev ρ e.2 with
  | none => simp
  | some w =>
    simp only [Option.some.injEq]
    constructor
    · intro h; exact ⟨w, rfl, h.symm⟩
    · rintro ⟨w', rfl, h⟩; exact h.symm
theorem ab_ev_mono {ρ ρ' : ab_R} (h : ab_sub2 ρ ρ') : ∀ (ts : List (Nat × Int)) (z : Int), ab_ev ρ ts = some z → ab_ev ρ' ts = some z := by
  intro ts
  induction ts with
  | nil => intro z q; exact q
  | cons t ts ih =>
    intro z q
    obtain ⟨v, w, h1, h2, h3⟩ := ab_ev_cons.mp q
    exact ab_ev_cons.mpr ⟨v, w, h _ _ h1, ih w h2, h3⟩
theorem ab_E_mono {ρ ρ' : ab_R} (h : ab_sub2 ρ ρ') {e : ab_L} {z : Int} (q : ab_E ρ e = some z) : ab_E ρ' e = some z := by
  obtain ⟨w, h1, h2⟩ := ab_E_iff.mp q
  exact ab_E_iff.mpr ⟨w, ab_ev_mono h _ _ h1, h2⟩
def ab_in (k : Nat) (a : Int) : List (Nat × Int) → List (Nat × Int)
  | [] => match ab_z a with
    | true => []
    | false => [(k, a)]
  | t :: ts => match Nat.beq k t.1 with
    | true => (match ab_z (a + t.2) with
      | true => ts
      | false => (k, a + t.2) :: ts)
    | false => match Nat.ble k t.1 with
      | true => (k, a) :: t :: ts
      | false => t :: ab_in k a ts
theorem ab_in_ev {ρ : ab_R} {k : Nat} {a v : Int} (hk : ρ k = some v) : ∀ (ts : List (Nat × Int)) (w : Int), ab_ev ρ ts = some w → ab_ev ρ (ab_in k a ts) = some (a * v + w) := by
  intro ts
  induction ts with
  | nil =>
    intro w h
    simp only [ab_ev, Option.some.injEq] at h
    subst h
    unfold ab_in
    cases hz : ab_z a with
    | true => rw [ab_z_iff] at hz; subst hz; simp [ab_ev]
    | false => simp only [ab_ev, hk]
  | cons t ts ih =>
    intro w h
    obtain ⟨v1, w1, h1, h2, h3⟩ := ab_ev_cons.mp h
    unfold ab_in
    cases hb : Nat.beq k t.1 with
    | true =>
      have hkt : k = t.1 := Nat.eq_of_beq_eq_true hb
      have hv : v1 = v := by rw [hkt, h1] at hk; exact Option.some.inj hk
      subst hv
      cases hz : ab_z (a + t.2) with
      | true =>
        rw [ab_z_iff] at hz
        have hw : a * v1 + w = w1 := by
          have : a * v1 + t.2 * v1 = 0 := by rw [← Int.add_mul, hz, Int.zero_mul]
          omega
        simp only []
        rw [h2, hw]
      | false =>
        refine ab_ev_cons.mpr ⟨v1, w1, hk, h2, ?_⟩
        simp only [Int.add_mul]
        omega
    | false =>
      cases Nat.ble k t.1 with
      | true => exact ab_ev_cons.mpr ⟨v, w, hk, h, rfl⟩
      | false =>
        refine ab_ev_cons.mpr ⟨v1, a * v + w1, h1, ih w1 h2, ?_⟩
        omega
def ab_ad2 : List (Nat × Int) → List (Nat × Int) → List (Nat × Int)
  | [], us => us
  | t :: ts, us => ab_in t.1 t.2 (ab_ad2 ts us)
theorem ab_ad2_ev {ρ : ab_R} : ∀ (ts us : List (Nat × Int)) (v w : Int), ab_ev ρ ts = some v → ab_ev ρ us = some w → ab_ev ρ (ab_ad2 ts us) = some (v + w) := by
  intro ts
  induction ts with
  | nil =>
    intro us v w h1 h2
    simp only [ab_ev, Option.some.injEq] at h1
    subst h1
    simpa [ab_ad2] using h2
  | cons t ts ih =>
    intro us v w h1 h2
    obtain ⟨v1, w1, q1, q2, q3⟩ := ab_ev_cons.mp h1
    have := ab_in_ev (a := t.2) q1 _ _ (ih us w1 w q2 h2)
    rw [show v + w = t.2 * v1 + (w1 + w) by omega]
    exact this
def ab_ml2 (c : Int) : List (Nat × Int) → List (Nat × Int)
  | [] => []
  | t :: ts => (t.1, c * t.2) :: ab_ml2 c ts
theorem ab_ml2_ev {ρ : ab_R} {c : Int} : ∀ (ts : List (Nat × Int)) (v : Int), ab_ev ρ ts = some v → ab_ev ρ (ab_ml2 c ts) = some (c * v) := by
  intro ts
  induction ts with
  | nil => intro v h; simp only [ab_ev, Option.some.injEq] at h; subst h; simp [ab_ml2, ab_ev]
  | cons t ts ih =>
    intro v h
    obtain ⟨v1, w1, q1, q2, q3⟩ := ab_ev_cons.mp h
    refine ab_ev_cons.mpr ⟨v1, c * w1, q1, ih w1 q2, ?_⟩
    subst q3
    simp only [Int.mul_add, Int.mul_assoc]
def ab_add (e f : ab_L) : ab_L := (e.1 + f.1, ab_ad2 e.2 f.2)
def ab_mul (c : Int) (e : ab_L) : ab_L := match ab_z c with
  | true => (0, [])
  | false => (c * e.1, ab_ml2 c e.2)
def ab_sub (e f : ab_L) : ab_L := ab_add e (ab_mul (-1) f)
def ab_cn (c : Int) : ab_L := (c, [])
def ab_vr (k : Nat) : ab_L := (0, [(k, 1)])
theorem ab_add_E {ρ : ab_R} {e f : ab_L} {v w : Int} (h1 : ab_E ρ e = some v) (h2 : ab_E ρ f = some w) : ab_E ρ (ab_add e f) = some (v + w) := by
  obtain ⟨a, p1, p2⟩ := ab_E_iff.mp h1
  obtain ⟨b, q1, q2⟩ := ab_E_iff.mp h2
  exact ab_E_iff.mpr ⟨a + b, ab_ad2_ev _ _ _ _ p1 q1, by show v + w = (e.1 + f.1) + (a + b); omega⟩
theorem ab_mul_E {ρ : ab_R} {c : Int} {e : ab_L} {v : Int} (h1 : ab_E ρ e = some v) : ab_E ρ (ab_mul c e) = some (c * v) := by
  obtain ⟨a, p1, p2⟩ := ab_E_iff.mp h1
  unfold ab_mul
  cases hz : ab_z c with
  | true => rw [ab_z_iff] at hz; subst hz; simp [ab_E, ab_ev]
  | false => exact ab_E_iff.mpr ⟨c * a, ab_ml2_ev _ _ p1, by subst p2; show _ = c * e.1 + c * a; rw [Int.mul_add]⟩
theorem ab_sub_E {ρ : ab_R} {e f : ab_L} {v w : Int} (h1 : ab_E ρ e = some v) (h2 : ab_E ρ f = some w) : ab_E ρ (ab_sub e f) = some (v - w) := by
  have := ab_add_E h1 (ab_mul_E (c := -1) h2)
  rw [show v - w = v + -1 * w by omega]
  exact this
theorem ab_cn_E {ρ : ab_R} {c : Int} : ab_E ρ (ab_cn c) = some c := by simp [ab_E, ab_ev, ab_cn]
theorem ab_vr_E {ρ : ab_R} {k : Nat} {v : Int} (h : ρ k = some v) : ab_E ρ (ab_vr k) = some v := by simp [ab_E, ab_ev, ab_vr, h]
theorem ab_vr_E' {ρ : ab_R} {k : Nat} {v : Int} (h : ab_E ρ (ab_vr k) = some v) : ρ k = some v := by
  obtain ⟨w, h1, h2⟩ := ab_E_iff.mp h
  obtain ⟨a, b, h3, h4, h5⟩ := ab_ev_cons.mp h1
  simp only [ab_ev, Option.some.injEq] at h4
  rw [h3]
  simp only [ab_vr] at h2 h5
  congr 1
  omega
/-- equal as written -/
def ab_teq : List (Nat × Int) → List (Nat × Int) → Bool
  | [], [] => true
  | t :: ts, u :: us => Nat.beq t.1 u.1 && (ab_ieq t.2 u.2 && ab_teq ts us)
  | _, _ => false
theorem ab_teq_iff : ∀ {ts us : List (Nat × Int)}, ab_teq ts us = true → ts = us := by
  intro ts
  induction ts with
  | nil => intro us h; cases us with
    | nil => rfl
    | cons u us => simp [ab_teq] at h
  | cons t ts ih => intro us h; cases us with
    | nil => simp [ab_teq] at h
    | cons u us =>
      simp only [ab_teq, Bool.and_eq_true] at h
      obtain ⟨t1, t2⟩ := t
      obtain ⟨u1, u2⟩ := u
      have a := Nat.eq_of_beq_eq_true h.1
      have b := ab_ieq_iff h.2.1
      have c := ih h.2.2
      subst c
      simp only at a b
      subst a; subst b; rfl
def ab_leq (e f : ab_L) : Bool := ab_ieq e.1 f.1 && ab_teq e.2 f.2
theorem ab_leq_iff {e f : ab_L} (h : ab_leq e f = true) : e = f := by
  simp only [ab_leq, Bool.and_eq_true] at h
  obtain ⟨e1, e2⟩ := e
  obtain ⟨f1, f2⟩ := f
  have a := ab_ieq_iff h.1
  have b := ab_teq_iff h.2
  simp only at a b
  subst a; subst b; rfl
/-! what is known of the unknowns: the next free number, bounds, forms that are not negative, forms that are not 0 -/
abbrev ab_B : Type := List (Nat × Int × Int)
abbrev ab_G : Type := Nat × ab_B × List ab_L × List ab_L
abbrev ab_top : Int := 18446744073709551616
def ab_g (ρ : ab_R) (Γ : ab_G) : Prop := (∀ k, Γ.1 ≤ k → ρ k = none) ∧ (∀ k v, ρ k = some v → -ab_top ≤ v ∧ v ≤ ab_top) ∧ (∀ t ∈ Γ.2.1, ∃ v, ρ t.1 = some v ∧ t.2.1 ≤ v ∧ v ≤ t.2.2) ∧ (∀ c ∈ Γ.2.2.1, ∃ v, ab_E ρ c = some v ∧ 0 ≤ v) ∧ (∀ c ∈ Γ.2.2.2, ∃ v, ab_E ρ c = some v ∧ v ≠ 0)
def ab_bk (k : Nat) : ab_B → Int × Int
  | [] => (-ab_top, ab_top)
  | t :: ts => match Nat.beq k t.1 with
    | true => t.2
    | false => ab_bk k ts
theorem ab_bk_ok {ρ : ab_R} {k : Nat} {v : Int} (hk : ρ k = some v) (ht : -ab_top ≤ v ∧ v ≤ ab_top) : ∀ (bd : ab_B), (∀ t ∈ bd, ∃ v, ρ t.1 = some v ∧ t.2.1 ≤ v ∧ v ≤ t.2.2) → (ab_bk k bd).1 ≤ v ∧ v ≤ (ab_bk k bd).2 := by
  intro bd
  induction bd with
  | nil => intro _; exact ht
  | cons t ts ih =>
    intro h
    unfold ab_bk
    cases hb : Nat.beq k t.1 with
    | true =>
      obtain ⟨v', h1, h2⟩ := h t (List.mem_cons_self ..)
      rw [← Nat.eq_of_beq_eq_true hb, hk] at h1
      cases h1
      exact h2
    | false => exact ih (fun t ht => h t (List.mem_cons_of_mem _ ht))
def ab_lb (bd : ab_B) : List (Nat × Int) → Int
  | [] => 0
  | t :: ts => (match ab_le 0 t.2 with
    | true => t.2 * (ab_bk t.1 bd).1
    | false => t.2 * (ab_bk t.1 bd).2) + ab_lb bd ts
theorem ab_lb_ok {ρ : ab_R} {Γ : ab_G} (h : ab_g ρ Γ) : ∀ (ts : List (Nat × Int)) (w : Int), ab_ev ρ ts = some w → ab_lb Γ.2.1 ts ≤ w := by
  intro ts
  induction ts with
  | nil => intro w q; simp only [ab_ev, Option.some.injEq] at q; subst q; exact Int.le_refl _
  | cons t ts ih =>
    intro w q
    obtain ⟨v, w1, h1, h2, h3⟩ := ab_ev_cons.mp q
    have hb := ab_bk_ok h1 (h.2.1 _ _ h1) Γ.2.1 h.2.2.1
    have hi := ih w1 h2
    subst h3
    unfold ab_lb
    cases hz : ab_le 0 t.2 with
    | true =>
      rw [ab_le_iff] at hz
      have := Int.mul_le_mul_of_nonneg_left hb.1 hz
      simp only []
      omega
    | false =>
      have hz : t.2 ≤ 0 := by
        rcases Int.le_total 0 t.2 with q | q
        · rw [ab_le_iff.mpr q] at hz; cases hz
        · exact q
      have := Int.mul_le_mul_of_nonpos_left hz hb.2
      simp only []
      omega
def ab_lo (Γ : ab_G) (e : ab_L) : Int := e.1 + ab_lb Γ.2.1 e.2
def ab_hi (Γ : ab_G) (e : ab_L) : Int := e.1 - ab_lb Γ.2.1 (ab_ml2 (-1) e.2)
theorem ab_lo_ok {ρ : ab_R} {Γ : ab_G} {e : ab_L} {v : Int} (h : ab_g ρ Γ) (q : ab_E ρ e = some v) : ab_lo Γ e ≤ v := by
  obtain ⟨w, h1, h2⟩ := ab_E_iff.mp q
  have := ab_lb_ok h _ _ h1
  unfold ab_lo
  omega
theorem ab_hi_ok {ρ : ab_R} {Γ : ab_G} {e : ab_L} {v : Int} (h : ab_g ρ Γ) (q : ab_E ρ e = some v) : v ≤ ab_hi Γ e := by
  obtain ⟨w, h1, h2⟩ := ab_E_iff.mp q
  have := ab_lb_ok h _ _ (ab_ml2_ev (c := -1) _ _ h1)
  unfold ab_hi
  omega
def ab_any (f : ab_L → Bool) : List ab_L → Bool
  | [] => false
  | c :: cs => f c || ab_any f cs
theorem ab_any_iff {f : ab_L → Bool} : ∀ {cs : List ab_L}, ab_any f cs = true → ∃ c ∈ cs, f c = true := by
  intro cs
  induction cs with
  | nil => intro h; cases h
  | cons c cs ih =>
    intro h
    simp only [ab_any, Bool.or_eq_true] at h
    rcases h with h | h
    · exact ⟨c, List.mem_cons_self .., h⟩
    · obtain ⟨d, h1, h2⟩ := ih h
      exact ⟨d, List.mem_cons_of_mem _ h1, h2⟩
/-- shown: not negative; with the help of one form, as often as its first unknown wants -/
def ab_cf (k : Nat) : List (Nat × Int) → Int
  | [] => 0
  | t :: ts => match Nat.beq k t.1 with
    | true => t.2
    | false => ab_cf k ts
def ab_ra2 (e : ab_L) : List (Nat × Int) → Int
  | [] => 0
  | t :: ts => (let q := ab_cf t.1 e.2 / t.2; match ab_le 1 q with
    | true => q
    | false => ab_ra2 e ts)
def ab_ra (e c : ab_L) : Int := ab_ra2 e c.2
theorem ab_ra_nn (e c : ab_L) : 0 ≤ ab_ra e c := by
  unfold ab_ra
  induction c.2 with
  | nil => exact Int.le_refl _
  | cons t ts ih =>
    unfold ab_ra2
    dsimp only
    split
    · rename_i h
      rw [ab_le_iff] at h
      omega
    · exact ih
def ab_s1 (e c : ab_L) : ab_L := ab_sub e (ab_mul (ab_ra e c) c)
theorem ab_s1_ok {ρ : ab_R} {e c : ab_L} {v w : Int} (h1 : ab_E ρ e = some v) (h2 : ab_E ρ c = some w) (hw : 0 ≤ w) : ∃ u, ab_E ρ (ab_s1 e c) = some u ∧ u ≤ v := by
  have h4 := Int.mul_nonneg (ab_ra_nn e c) hw
  exact ⟨_, ab_sub_E h1 (ab_mul_E (c := ab_ra e c) h2), by omega⟩
/-- with the help of one form, or of two -/
def ab_pv (Γ : ab_G) (e : ab_L) : Bool := ab_le 0 (ab_lo Γ e) || (ab_any (fun c => ab_le 0 (ab_lo Γ (ab_s1 e c))) Γ.2.2.1 || ab_any (fun c => !(ab_z (ab_ra e c)) && ab_any (fun d => ab_le 0 (ab_lo Γ (ab_s1 (ab_s1 e c) d))) Γ.2.2.1) Γ.2.2.1)
theorem ab_pv_ok {ρ : ab_R} {Γ : ab_G} {e : ab_L} {v : Int} (h : ab_g ρ Γ) (q : ab_E ρ e = some v) (hp : ab_pv Γ e = true) : 0 ≤ v := by
  simp only [ab_pv, Bool.or_eq_true] at hp
  rcases hp with hp | hp | hp
  · have := ab_lo_ok h q
    rw [ab_le_iff] at hp
    omega
  · obtain ⟨c, hc, hp⟩ := ab_any_iff hp
    obtain ⟨w, h1, h2⟩ := h.2.2.2.1 c hc
    obtain ⟨u, u1, u2⟩ := ab_s1_ok q h1 h2
    have h3 := ab_lo_ok h u1
    rw [ab_le_iff] at hp
    omega
  · obtain ⟨c, hc, hp⟩ := ab_any_iff hp
    simp only [Bool.and_eq_true] at hp
    obtain ⟨d, hd, hp⟩ := ab_any_iff hp.2
    obtain ⟨w, h1, h2⟩ := h.2.2.2.1 c hc
    obtain ⟨w', h1', h2'⟩ := h.2.2.2.1 d hd
    obtain ⟨u, u1, u2⟩ := ab_s1_ok q h1 h2
    obtain ⟨u', u1', u2'⟩ := ab_s1_ok u1 h1' h2'
    have h3 := ab_lo_ok h u1'
    rw [ab_le_iff] at hp
    omega
/-- shown: not 0 -/
def ab_pn (Γ : ab_G) (e : ab_L) : Bool := ab_le 1 (ab_lo Γ e) || (ab_le (ab_hi Γ e) (-1) || ab_any (fun c => ab_leq c e) Γ.2.2.2)
theorem ab_pn_ok {ρ : ab_R} {Γ : ab_G} {e : ab_L} {v : Int} (h : ab_g ρ Γ) (q : ab_E ρ e = some v) (hp : ab_pn Γ e = true) : v ≠ 0 := by
  simp only [ab_pn, Bool.or_eq_true] at hp
  rcases hp with hp | hp | hp
  · have := ab_lo_ok h q
    rw [ab_le_iff] at hp
    omega
  · have := ab_hi_ok h q
    rw [ab_le_iff] at hp
    omega
  · obtain ⟨c, hc, hp⟩ := ab_any_iff hp
    obtain ⟨w, h1, h2⟩ := h.2.2.2.2 c hc
    rw [ab_leq_iff hp, q] at h1
    cases h1
    exact h2
/-- bounds that follow from a form's not being negative -/
def ab_tg (Γ : ab_G) (e : ab_L) : List (Nat × Int) → ab_B → ab_B
  | [], bd => bd
  | t :: ts, bd => match ab_ieq t.2 1 with
    | true => (let b := ab_bk t.1 Γ.2.1; let n := -(ab_hi Γ (ab_sub e (ab_vr t.1))); match ab_le n b.1 with
      | true => ab_tg Γ e ts bd
      | false => ab_tg Γ e ts ((t.1, n, b.2) :: bd))
    | false => match ab_ieq t.2 (-1) with
      | true => (let b := ab_bk t.1 Γ.2.1; let n := ab_hi Γ (ab_add e (ab_vr t.1)); match ab_le b.2 n with
        | true => ab_tg Γ e ts bd
        | false => ab_tg Γ e ts ((t.1, b.1, n) :: bd))
      | false => ab_tg Γ e ts bd
theorem ab_tg_ok {ρ : ab_R} {Γ : ab_G} {e : ab_L} {v : Int} (h : ab_g ρ Γ) (q : ab_E ρ e = some v) (hv : 0 ≤ v) : ∀ (ts : List (Nat × Int)) (bd : ab_B) (w : Int), ab_ev ρ ts = some w → (∀ t ∈ bd, ∃ v, ρ t.1 = some v ∧ t.2.1 ≤ v ∧ v ≤ t.2.2) → ∀ t ∈ ab_tg Γ e ts bd, ∃ v, ρ t.1 = some v ∧ t.2.1 ≤ v ∧ v ≤ t.2.2 := by
  intro ts
  induction ts with
  | nil => intro bd w _ hb; exact hb
  | cons t ts ih =>
    intro bd w hw hb
    obtain ⟨v1, w1, h1, h2, h3⟩ := ab_ev_cons.mp hw
    have hbk := ab_bk_ok h1 (h.2.1 _ _ h1) Γ.2.1 h.2.2.1
    unfold ab_tg
    cases he : ab_ieq t.2 1 with
    | true =>
      have q1 := ab_hi_ok h (ab_sub_E q (ab_vr_E h1))
      dsimp only
      split
      · exact ih bd w1 h2 hb
      · refine ih _ w1 h2 ?_
        intro t' ht'
        rcases List.mem_cons.mp ht' with rfl | ht'
        · exact ⟨v1, h1, by dsimp only; omega, hbk.2⟩
        · exact hb t' ht'
    | false =>
      cases he2 : ab_ieq t.2 (-1) with
      | true =>
        have q1 := ab_hi_ok h (ab_add_E q (ab_vr_E h1))
        have ht2 := ab_ieq_iff he2
        dsimp only
        split
        · exact ih bd w1 h2 hb
        · refine ih _ w1 h2 ?_
          intro t' ht'
          rcases List.mem_cons.mp ht' with rfl | ht'
          · refine ⟨v1, h1, hbk.1, ?_⟩
            dsimp only
            omega
          · exact hb t' ht'
      | false => exact ih bd w1 h2 hb
def ab_two : List (Nat × Int) → Bool
  | _ :: _ :: _ => true
  | _ => false
/-- bounds that follow from what is known already -/
def ab_pg (cs : List ab_L) (Γ : ab_G) : ab_G := match cs with
  | [] => Γ
  | c :: cs => ab_pg cs (Γ.1, ab_tg Γ c c.2 Γ.2.1, Γ.2.2.1, Γ.2.2.2)
theorem ab_tg_g {ρ : ab_R} {Γ : ab_G} {e : ab_L} {v : Int} (h : ab_g ρ Γ) (q : ab_E ρ e = some v) (hv : 0 ≤ v) : ab_g ρ (Γ.1, ab_tg Γ e e.2 Γ.2.1, Γ.2.2.1, Γ.2.2.2) := by
  obtain ⟨w, h1, h2⟩ := ab_E_iff.mp q
  exact ⟨h.1, h.2.1, ab_tg_ok h q hv e.2 Γ.2.1 w h1 h.2.2.1, h.2.2.2.1, h.2.2.2.2⟩
theorem ab_pg_ok {ρ : ab_R} : ∀ {cs : List ab_L} {Γ : ab_G}, ab_g ρ Γ → (∀ c ∈ cs, ∃ v, ab_E ρ c = some v ∧ 0 ≤ v) → ab_g ρ (ab_pg cs Γ) := by
  intro cs
  induction cs with
  | nil => intro Γ h _; exact h
  | cons c cs ih =>
    intro Γ h hc
    obtain ⟨v, v1, v2⟩ := hc c (List.mem_cons_self ..)
    exact ih (ab_tg_g h v1 v2) (fun d hd => hc d (List.mem_cons_of_mem _ hd))
/-- assume that a form is not negative; none: that can't be -/
def ab_as (Γ : ab_G) (e : ab_L) : Option ab_G := match ab_le (ab_hi Γ e) (-1) || ab_any (fun c => ab_le (ab_hi Γ (ab_add e c)) (-1)) Γ.2.2.1 with
  | true => none
  | false => (let Δ := ab_pg Γ.2.2.1 (Γ.1, ab_tg Γ e e.2 Γ.2.1, Γ.2.2.1, Γ.2.2.2); some (Γ.1, Δ.2.1, (match ab_two e.2 with
    | true => e :: Γ.2.2.1
    | false => Γ.2.2.1), Γ.2.2.2))
theorem ab_as_ok {ρ : ab_R} {Γ : ab_G} {e : ab_L} {v : Int} (h : ab_g ρ Γ) (q : ab_E ρ e = some v) (hv : 0 ≤ v) : ∃ Γ', ab_as Γ e = some Γ' ∧ ab_g ρ Γ' := by
  unfold ab_as
  cases hc : (ab_le (ab_hi Γ e) (-1) || ab_any (fun c => ab_le (ab_hi Γ (ab_add e c)) (-1)) Γ.2.2.1) with
  | true =>
    exfalso
    simp only [Bool.or_eq_true] at hc
    rcases hc with hc | hc
    · have := ab_hi_ok h q
      rw [ab_le_iff] at hc
      omega
    · obtain ⟨c, hm, hp⟩ := ab_any_iff hc
      obtain ⟨w, h1, h2⟩ := h.2.2.2.1 c hm
      have := ab_hi_ok h (ab_add_E q h1)
      rw [ab_le_iff] at hp
      omega
  | false =>
    have hg2 := ab_pg_ok (ab_tg_g h q hv) h.2.2.2.1
    refine ⟨_, rfl, h.1, h.2.1, hg2.2.2.1, ?_, h.2.2.2.2⟩
    intro c hm
    dsimp only at hm
    cases ht : ab_two e.2 with
    | true =>
      rw [ht] at hm
      rcases List.mem_cons.mp hm with rfl | hm
      · exact ⟨v, q, hv⟩
      · exact h.2.2.2.1 c hm
    | false => rw [ht] at hm; exact h.2.2.2.1 c hm
/-- a list of forms to assume -/
def ab_asl (Γ : ab_G) : List ab_L → Option ab_G
  | [] => some Γ
  | e :: es => match ab_as Γ e with
    | some Γ' => ab_asl Γ' es
    | none => none
theorem ab_asl_ok {ρ : ab_R} : ∀ {es : List ab_L} {Γ : ab_G}, ab_g ρ Γ → (∀ e ∈ es, ∃ v, ab_E ρ e = some v ∧ 0 ≤ v) → ∃ Γ', ab_asl Γ es = some Γ' ∧ ab_g ρ Γ' := by
  intro es
  induction es with
  | nil => intro Γ h _; exact ⟨Γ, rfl, h⟩
  | cons e es ih =>
    intro Γ h hs
    obtain ⟨v, h1, h2⟩ := hs e (List.mem_cons_self ..)
    obtain ⟨Γ1, h3, h4⟩ := ab_as_ok h h1 h2
    obtain ⟨Γ2, h5, h6⟩ := ih h4 (fun e he => hs e (List.mem_cons_of_mem _ he))
    exact ⟨Γ2, by simp only [ab_asl, h3, h5], h6⟩
/-- the sides of a comparison with 0: 0 eq, 1 ne, 2 lt, 3 ge, 4 gt, 5 le -/
def ab_rf (Γ : ab_G) (o : Nat) (e : ab_L) : Option ab_G := match o with
  | 0 => ab_asl Γ [e, ab_mul (-1) e]
  | 1 => (match ab_ieq (ab_lo Γ e) 0 with
    | true => ab_as Γ (ab_sub e (ab_cn 1))
    | false => match ab_ieq (ab_hi Γ e) 0 with
      | true => ab_as Γ (ab_sub (ab_cn (-1)) e)
      | false => some (Γ.1, Γ.2.1, Γ.2.2.1, e :: Γ.2.2.2))
  | 2 => ab_as Γ (ab_sub (ab_cn (-1)) e)
  | 3 => ab_as Γ e
  | 4 => ab_as Γ (ab_sub e (ab_cn 1))
  | _ => ab_as Γ (ab_mul (-1) e)
def ab_cm (o : Nat) (v : Int) : Prop := match o with
  | 0 => v = 0
  | 1 => v ≠ 0
  | 2 => v < 0
  | 3 => 0 ≤ v
  | 4 => 0 < v
  | _ => v ≤ 0
theorem ab_rf_ok {ρ : ab_R} {Γ : ab_G} {e : ab_L} {v : Int} {o : Nat} (h : ab_g ρ Γ) (q : ab_E ρ e = some v) (hc : ab_cm o v) : ∃ Γ', ab_rf Γ o e = some Γ' ∧ ab_g ρ Γ' := by
  unfold ab_rf
  unfold ab_cm at hc
  split at hc
  · refine ab_asl_ok h ?_
    intro c hm
    rcases List.mem_cons.mp hm with rfl | hm
    · exact ⟨v, q, by omega⟩
    · rcases List.mem_cons.mp hm with rfl | hm
      · exact ⟨_, ab_mul_E q, by omega⟩
      · cases hm
  · have hl := ab_lo_ok h q
    have hh := ab_hi_ok h q
    cases h1 : ab_ieq (ab_lo Γ e) 0 with
    | true =>
      have := ab_ieq_iff h1
      exact ab_as_ok h (ab_sub_E q ab_cn_E) (by omega)
    | false =>
      cases h2 : ab_ieq (ab_hi Γ e) 0 with
      | true =>
        have := ab_ieq_iff h2
        exact ab_as_ok h (ab_sub_E ab_cn_E q) (by omega)
      | false =>
        refine ⟨_, rfl, h.1, h.2.1, h.2.2.1, h.2.2.2.1, ?_⟩
        intro c hm
        rcases List.mem_cons.mp hm with rfl | hm
        · exact ⟨v, q, hc⟩
        · exact h.2.2.2.2 c hm
  · exact ab_as_ok h (ab_sub_E ab_cn_E q) (by omega)
  · exact ab_as_ok h q hc
  · exact ab_as_ok h (ab_sub_E q ab_cn_E) (by omega)
  · exact ab_as_ok h (ab_mul_E q) (by omega)
/-- a new unknown -/
def ab_fr (Γ : ab_G) (lo hi : Int) : ab_G := (Γ.1 + 1, (Γ.1, lo, hi) :: Γ.2.1, Γ.2.2.1, Γ.2.2.2)
def ab_up (ρ : ab_R) (k : Nat) (z : Int) : ab_R := fun j => if j = k then some z else ρ j
theorem ab_fr_ok {ρ : ab_R} {Γ : ab_G} {lo hi z : Int} (h : ab_g ρ Γ) (h1 : lo ≤ z) (h2 : z ≤ hi) (h3 : -ab_top ≤ z ∧ z ≤ ab_top) : ab_sub2 ρ (ab_up ρ Γ.1 z) ∧ ab_g (ab_up ρ Γ.1 z) (ab_fr Γ lo hi) ∧ ab_E (ab_up ρ Γ.1 z) (ab_vr Γ.1) = some z := by
  have hs : ab_sub2 ρ (ab_up ρ Γ.1 z) := by
    intro k v q
    unfold ab_up
    by_cases hk : k = Γ.1
    · subst hk; rw [h.1 _ (Nat.le_refl _)] at q; cases q
    · rw [if_neg hk]; exact q
  have hn : ab_up ρ Γ.1 z Γ.1 = some z := by unfold ab_up; rw [if_pos rfl]
  refine ⟨hs, ⟨?_, ?_, ?_, ?_, ?_⟩, ab_vr_E hn⟩
  · intro k hk
    have hk : Γ.1 + 1 ≤ k := hk
    unfold ab_up
    rw [if_neg (by omega)]
    exact h.1 k (by omega)
  · intro k v q
    unfold ab_up at q
    by_cases hk : k = Γ.1
    · rw [if_pos hk] at q; cases q; exact h3
    · rw [if_neg hk] at q; exact h.2.1 k v q
  · intro t ht
    rcases List.mem_cons.mp ht with rfl | ht
    · exact ⟨z, hn, h1, h2⟩
    · obtain ⟨v, q1, q2⟩ := h.2.2.1 t ht
      exact ⟨v, hs _ _ q1, q2⟩
  · intro c hc
    obtain ⟨v, q1, q2⟩ := h.2.2.2.1 c hc
    exact ⟨v, ab_E_mono hs q1, q2⟩
  · intro c hc
    obtain ⟨v, q1, q2⟩ := h.2.2.2.2 c hc
    exact ⟨v, ab_E_mono hs q1, q2⟩
/-- a form that stands for a number in a grown state -/
def ab_ok (ρ : ab_R) (q : ab_G × ab_L) (z : Int) : Prop := ∃ ρ', ab_sub2 ρ ρ' ∧ ab_g ρ' q.1 ∧ ab_E ρ' q.2 = some z
theorem ab_ok.here {ρ : ab_R} {Γ : ab_G} {e : ab_L} {z : Int} (h : ab_g ρ Γ) (q : ab_E ρ e = some z) : ab_ok ρ (Γ, e) z := ⟨ρ, ab_sub2.rf, h, q⟩
def ab_fv (Γ : ab_G) (lo hi : Int) : ab_G × ab_L := (ab_fr Γ lo hi, ab_vr Γ.1)
theorem ab_fv_ok {ρ : ab_R} {Γ : ab_G} {lo hi z : Int} (h : ab_g ρ Γ) (h1 : lo ≤ z) (h2 : z ≤ hi) (h3 : -ab_top ≤ z ∧ z ≤ ab_top) : ab_ok ρ (ab_fv Γ lo hi) z := ⟨_, (ab_fr_ok h h1 h2 h3).1, (ab_fr_ok h h1 h2 h3).2.1, (ab_fr_ok h h1 h2 h3).2.2⟩
abbrev ab_m32 : Int := -2147483648
abbrev ab_x32 : Int := 2147483647
abbrev ab_m64 : Int := -9223372036854775808
abbrev ab_x64 : Int := 9223372036854775807
theorem ab_i32 (x : Int32) : ab_m32 ≤ x.toInt ∧ x.toInt ≤ ab_x32 := ⟨Int32.le_toInt x, by have := Int32.toInt_lt x; show x.toInt ≤ 2147483647; omega⟩
theorem ab_i64 (x : Int64) : ab_m64 ≤ x.toInt ∧ x.toInt ≤ ab_x64 := ⟨Int64.le_toInt x, by have := Int64.toInt_lt x; show x.toInt ≤ 9223372036854775807; omega⟩
theorem ab_i32t (x : Int32) : -ab_top ≤ x.toInt ∧ x.toInt ≤ ab_top := by have := ab_i32 x; unfold ab_m32 ab_x32 at this; unfold ab_top; omega
theorem ab_i64t (x : Int64) : -ab_top ≤ x.toInt ∧ x.toInt ≤ ab_top := by have := ab_i64 x; unfold ab_m64 ab_x64 at this; unfold ab_top; omega
theorem ab_f32 {ρ : ab_R} {Γ : ab_G} (h : ab_g ρ Γ) (x : Int32) : ab_ok ρ (ab_fv Γ ab_m32 ab_x32) x.toInt := ab_fv_ok h (ab_i32 x).1 (ab_i32 x).2 (ab_i32t x)
theorem ab_f64 {ρ : ab_R} {Γ : ab_G} (h : ab_g ρ Γ) (x : Int64) : ab_ok ρ (ab_fv Γ ab_m64 ab_x64) x.toInt := ab_fv_ok h (ab_i64 x).1 (ab_i64 x).2 (ab_i64t x)
/-- a form, if it can't leave the range; else a new unknown -/
def ab_w32 (Γ : ab_G) (e : ab_L) : ab_G × ab_L := match ab_le ab_m32 (ab_lo Γ e) && ab_le (ab_hi Γ e) ab_x32 with
  | true => (Γ, e)
  | false => ab_fv Γ ab_m32 ab_x32
def ab_w64 (Γ : ab_G) (e : ab_L) : ab_G × ab_L := match ab_le ab_m64 (ab_lo Γ e) && ab_le (ab_hi Γ e) ab_x64 with
  | true => (Γ, e)
  | false => ab_fv Γ ab_m64 ab_x64
theorem ab_w32_ok {ρ : ab_R} {Γ : ab_G} {e : ab_L} {v : Int} {x : Int32} (h : ab_g ρ Γ) (q : ab_E ρ e = some v) (hx : ab_m32 ≤ v → v ≤ ab_x32 → x.toInt = v) : ab_ok ρ (ab_w32 Γ e) x.toInt := by
  unfold ab_w32
  cases hc : (ab_le ab_m32 (ab_lo Γ e) && ab_le (ab_hi Γ e) ab_x32) with
  | true =>
    simp only [Bool.and_eq_true, ab_le_iff] at hc
    have h1 := ab_lo_ok h q
    have h2 := ab_hi_ok h q
    exact ab_ok.here h (by rw [hx (by omega) (by omega)]; exact q)
  | false => exact ab_f32 h x
theorem ab_w64_ok {ρ : ab_R} {Γ : ab_G} {e : ab_L} {v : Int} {x : Int64} (h : ab_g ρ Γ) (q : ab_E ρ e = some v) (hx : ab_m64 ≤ v → v ≤ ab_x64 → x.toInt = v) : ab_ok ρ (ab_w64 Γ e) x.toInt := by
  unfold ab_w64
  cases hc : (ab_le ab_m64 (ab_lo Γ e) && ab_le (ab_hi Γ e) ab_x64) with
  | true =>
    simp only [Bool.and_eq_true, ab_le_iff] at hc
    have h1 := ab_lo_ok h q
    have h2 := ab_hi_ok h q
    exact ab_ok.here h (by rw [hx (by omega) (by omega)]; exact q)
  | false => exact ab_f64 h x
