theorem ab_set_self {α : Type} : ∀ {ws : List α} {j : Nat} {a : α}, ws[j]? = some a → ws.set j a = ws := by
  intro ws
  induction ws with
  | nil => intro j a h; simp at h
  | cons w ws ih => intro j a h; cases j with
    | zero => cases h; rfl
    | succ j => exact congrArg (List.cons w) (ih h)
/-! arrays of which more is told: reads and writes -/
def ab_mx (a b : Int) : Int := match ab_le a b with
  | true => b
  | false => a
theorem ab_mx_ok (a b : Int) : a ≤ ab_mx a b ∧ b ≤ ab_mx a b := by
  unfold ab_mx
  cases h : ab_le a b with
  | true => rw [ab_le_iff] at h; exact ⟨h, Int.le_refl _⟩
  | false =>
    have : ¬ a ≤ b := fun q => by rw [ab_le_iff.mpr q] at h; cases h
    exact ⟨Int.le_refl _, by dsimp only; omega⟩
theorem ab_cn1_u (f : Nat → Int32) (i : Nat) (x : Int32) : ∀ n : Nat, ab_cn1 (upd f i x) n = ab_cn1 f n + (if i < n then (if x.toInt < 0 then 1 else 0) - (if (f i).toInt < 0 then 1 else 0) else 0) := by
  intro n
  induction n with
  | zero => simp [ab_cn1]
  | succ n ih =>
    unfold ab_cn1
    rw [ih]
    unfold upd
    by_cases h1 : n = i
    · subst h1
      rw [if_pos rfl, if_neg (Nat.lt_irrefl _), if_pos (Nat.lt_succ_self _)]
      omega
    · rw [if_neg h1]
      by_cases h2 : i < n
      · rw [if_pos h2, if_pos (show i < n + 1 by omega)]
        omega
      · rw [if_neg h2, if_neg (show ¬ i < n + 1 by omega)]
        omega
theorem ab_sm1_u (f : Nat → Int32) (i : Nat) (x : Int32) : ∀ n : Nat, ab_sm1 (upd f i x) n = ab_sm1 f n + (if i < n then (if x.toInt < 0 then 0 else x.toInt) - (if (f i).toInt < 0 then 0 else (f i).toInt) else 0) := by
  intro n
  induction n with
  | zero => simp [ab_sm1]
  | succ n ih =>
    unfold ab_sm1
    rw [ih]
    unfold upd
    by_cases h1 : n = i
    · subst h1
      rw [if_pos rfl, if_neg (Nat.lt_irrefl _), if_pos (Nat.lt_succ_self _)]
      omega
    · rw [if_neg h1]
      by_cases h2 : i < n
      · rw [if_pos h2, if_pos (show i < n + 1 by omega)]
        omega
      · rw [if_neg h2, if_neg (show ¬ i < n + 1 by omega)]
        omega
def ab_kw (e : ab_L) : List (ab_L × ab_L) → Option ab_L
  | [] => none
  | x :: xs => match ab_leq x.1 e with
    | true => some x.2
    | false => ab_kw e xs
theorem ab_kw_ok {e v : ab_L} : ∀ {xs : List (ab_L × ab_L)}, ab_kw e xs = some v → (e, v) ∈ xs := by
  intro xs
  induction xs with
  | nil => intro h; cases h
  | cons x xs ih =>
    intro h
    unfold ab_kw at h
    cases hb : ab_leq x.1 e with
    | true =>
      rw [hb] at h
      cases h
      have := ab_leq_iff hb
      obtain ⟨x1, x2⟩ := x
      dsimp only at this
      subst this
      exact List.mem_cons_self ..
    | false => rw [hb] at h; exact List.mem_cons_of_mem _ (ih h)
/-- what a read at e tells of its value -/
def ab_ap (Γ : ab_G) (e v : ab_L) : List (Nat × ab_L × ab_L) → List ab_L
  | [] => []
  | x :: xs => match ab_pv Γ (ab_sub e (ab_cn x.1)) && ab_pv Γ (ab_sub (ab_sub (ab_add (ab_cn x.1) x.2.1) (ab_cn 1)) e) with
    | true => ab_sub x.2.2 v :: ab_ap Γ e v xs
    | false => ab_ap Γ e v xs
theorem ab_ap_ok {ρ ρ' : ab_R} {Γ : ab_G} {e v : ab_L} {n j : Nat} {f : Nat → Int32} (hg : ab_g ρ Γ) (hs : ab_sub2 ρ ρ') (he : ab_E ρ e = some (j : Int)) (hj : j < n) (hv : ab_E ρ' v = some (f j).toInt) : ∀ {xs : List (Nat × ab_L × ab_L)}, (∀ x ∈ xs, ab_q1 ρ n f x) → ∀ y ∈ ab_ap Γ e v xs, ∃ w, ab_E ρ' y = some w ∧ 0 ≤ w := by
  intro xs
  induction xs with
  | nil => intro _ y hy; cases hy
  | cons x xs ih =>
    intro hx y hy
    unfold ab_ap at hy
    cases hb : (ab_pv Γ (ab_sub e (ab_cn x.1)) && ab_pv Γ (ab_sub (ab_sub (ab_add (ab_cn x.1) x.2.1) (ab_cn 1)) e)) with
    | true =>
      rw [hb] at hy
      rcases List.mem_cons.mp hy with rfl | hy
      · obtain ⟨vC, vH, h1, h2, h3⟩ := hx x (List.mem_cons_self ..)
        simp only [Bool.and_eq_true] at hb
        have p1 := ab_pv_ok hg (ab_sub_E he ab_cn_E) hb.1
        have p2 := ab_pv_ok hg (ab_sub_E (ab_sub_E (ab_add_E ab_cn_E h1) ab_cn_E) he) hb.2
        have p3 := h3 j hj (by omega) (by omega)
        exact ⟨_, ab_sub_E (ab_E_mono hs h2) hv, by omega⟩
      · exact ih (fun z hz => hx z (List.mem_cons_of_mem _ hz)) y hy
    | false => rw [hb] at hy; exact ih (fun z hz => hx z (List.mem_cons_of_mem _ hz)) y hy
def ab_rq (pc' : Nat) (Γ : ab_G) (e : ab_L) (q : ab_Q) (j : Nat) (lv : List (Nat × ab_W)) (st : List ab_W) (gh : List (Nat × ab_L)) (hp : ab_Hp) : Option (List (Nat × ab_A)) := match ab_kw e q.2.2.2.2.1 with
  | some v => some [(pc', (Γ, lv, .inr (.inl v) :: st, gh, hp))]
  | none => (match ab_asl (ab_fr Γ q.2.1 q.2.2.1) (ab_ap Γ e (ab_vr Γ.1) q.2.2.2.1) with
    | some Δ => some [(pc', (Δ, lv, .inr (.inl (ab_vr Γ.1)) :: st, gh, ab_hs j (.inr (.inr (.inr (.inr (q.1, q.2.1, q.2.2.1, q.2.2.2.1, (e, ab_vr Γ.1) :: q.2.2.2.2.1, q.2.2.2.2.2))))) hp))]
    | none => some [])
/-- what is told after a write -/
def ab_w1 (Γ : ab_G) (e ev : ab_L) (x : Nat × ab_L × ab_L) : Nat × ab_L × ab_L := match ab_pv Γ (ab_sub x.2.2 ev) with
  | true => (match ab_leq e (ab_add (ab_cn x.1) x.2.1) with
    | true => (x.1, ab_add x.2.1 (ab_cn 1), x.2.2)
    | false => x)
  | false => (match ab_pv Γ (ab_sub (ab_sub e (ab_cn x.1)) x.2.1) || ab_pv Γ (ab_sub (ab_cn ((x.1 : Int) - 1)) e) with
    | true => x
    | false => (x.1, x.2.1, ab_cn (ab_mx (ab_hi Γ x.2.2) (ab_hi Γ ev))))
theorem ab_w1_ok {ρ : ab_R} {Γ : ab_G} {e ev : ab_L} {n i : Nat} {f : Nat → Int32} {y : Int32} (hg : ab_g ρ Γ) (he : ab_E ρ e = some (i : Int)) (hv : ab_E ρ ev = some y.toInt) {x : Nat × ab_L × ab_L} (hx : ab_q1 ρ n f x) : ab_q1 ρ n (upd f i y) (ab_w1 Γ e ev x) := by
  obtain ⟨vC, vH, h1, h2, h3⟩ := hx
  unfold ab_w1
  cases hb : ab_pv Γ (ab_sub x.2.2 ev) with
  | true =>
    have p1 := ab_pv_ok hg (ab_sub_E h2 hv) hb
    dsimp only
    cases hl : ab_leq e (ab_add (ab_cn x.1) x.2.1) with
    | true =>
      have hl := ab_leq_iff hl
      have hE := ab_add_E (ρ := ρ) (ab_cn_E (c := (x.1 : Int))) h1
      rw [← hl, he] at hE
      have hE := Option.some.inj hE
      refine ⟨vC + 1, vH, ab_add_E h1 ab_cn_E, h2, fun j hj h4 h5 => ?_⟩
      unfold upd
      dsimp only at h4 h5
      by_cases hji : j = i
      · rw [if_pos hji]; omega
      · rw [if_neg hji]; exact h3 j hj h4 (by omega)
    | false =>
      refine ⟨vC, vH, h1, h2, fun j hj h4 h5 => ?_⟩
      unfold upd
      by_cases hji : j = i
      · rw [if_pos hji]; omega
      · rw [if_neg hji]; exact h3 j hj h4 h5
  | false =>
    dsimp only
    cases ho : (ab_pv Γ (ab_sub (ab_sub e (ab_cn x.1)) x.2.1) || ab_pv Γ (ab_sub (ab_cn ((x.1 : Int) - 1)) e)) with
    | true =>
      refine ⟨vC, vH, h1, h2, fun j hj h4 h5 => ?_⟩
      dsimp only at h4 h5
      have hji : j ≠ i := by
        simp only [Bool.or_eq_true] at ho
        rcases ho with ho | ho
        · have := ab_pv_ok hg (ab_sub_E (ab_sub_E he ab_cn_E) h1) ho
          omega
        · have := ab_pv_ok hg (ab_sub_E ab_cn_E he) ho
          omega
      unfold upd
      rw [if_neg hji]
      exact h3 j hj h4 h5
    | false =>
      have m := ab_mx_ok (ab_hi Γ x.2.2) (ab_hi Γ ev)
      have q1 := ab_hi_ok hg h2
      have q2 := ab_hi_ok hg hv
      refine ⟨vC, _, h1, ab_cn_E, fun j hj h4 h5 => ?_⟩
      unfold upd
      by_cases hji : j = i
      · rw [if_pos hji]; omega
      · rw [if_neg hji]; have := h3 j hj h4 h5; omega
def ab_wc (Γ : ab_G) (e ev : ab_L) : List (Nat × ab_L × ab_L) → List (Nat × ab_L × ab_L)
  | [] => []
  | x :: xs => ab_w1 Γ e ev x :: ab_wc Γ e ev xs
theorem ab_wc_ok {ρ : ab_R} {Γ : ab_G} {e ev : ab_L} {n i : Nat} {f : Nat → Int32} {y : Int32} (hg : ab_g ρ Γ) (he : ab_E ρ e = some (i : Int)) (hv : ab_E ρ ev = some y.toInt) : ∀ {xs : List (Nat × ab_L × ab_L)}, (∀ x ∈ xs, ab_q1 ρ n f x) → ∀ x ∈ ab_wc Γ e ev xs, ab_q1 ρ n (upd f i y) x := by
  intro xs
  induction xs with
  | nil => intro _ x hx; cases hx
  | cons z xs ih =>
    intro h x hx
    rcases List.mem_cons.mp hx with rfl | hx
    · exact ab_w1_ok hg he hv (h z (List.mem_cons_self ..))
    · exact ih (fun z hz => h z (List.mem_cons_of_mem _ hz)) x hx
/-- the count and the sum after a write over v by ev, which is not below 0 -/
def ab_wp (Γ : ab_G) (v ev : ab_L) : List (ab_L × ab_L) → List (ab_L × ab_L)
  | [] => []
  | x :: xs => match ab_pv Γ ev with
    | true => (match ab_pv Γ v with
      | true => (x.1, ab_add (ab_sub x.2 v) ev) :: ab_wp Γ v ev xs
      | false => match ab_pv Γ (ab_sub (ab_cn (-1)) v) with
        | true => (ab_sub x.1 (ab_cn 1), ab_add x.2 ev) :: ab_wp Γ v ev xs
        | false => [])
    | false => []
theorem ab_wp_ok {ρ : ab_R} {Γ : ab_G} {v ev : ab_L} {n i : Nat} {f : Nat → Int32} {y : Int32} (hg : ab_g ρ Γ) (hi : i < n) (hv : ab_E ρ v = some (f i).toInt) (hev : ab_E ρ ev = some y.toInt) : ∀ {xs : List (ab_L × ab_L)}, (∀ x ∈ xs, ab_q3 ρ n f x) → ∀ x ∈ ab_wp Γ v ev xs, ab_q3 ρ n (upd f i y) x := by
  intro xs
  induction xs with
  | nil => intro _ x hx; cases hx
  | cons z xs ih =>
    intro h x hx
    have ih := ih (fun z hz => h z (List.mem_cons_of_mem _ hz)) x
    obtain ⟨z1, z2⟩ := h z (List.mem_cons_self ..)
    have c1 := ab_cn1_u f i y n
    have c2 := ab_sm1_u f i y n
    rw [if_pos hi] at c1 c2
    unfold ab_wp at hx
    cases b1 : ab_pv Γ ev with
    | true =>
      rw [b1] at hx
      dsimp only at hx
      have p1 := ab_pv_ok hg hev b1
      rw [if_neg (by omega)] at c1 c2
      cases b2 : ab_pv Γ v with
      | true =>
        rw [b2] at hx
        dsimp only at hx
        have p2 := ab_pv_ok hg hv b2
        rw [if_neg (by omega)] at c1 c2
        rcases List.mem_cons.mp hx with rfl | hx
        · refine ⟨?_, ?_⟩
          · rw [c1]; dsimp only; rw [z1]; congr 1; omega
          · rw [c2]
            have := ab_add_E (ab_sub_E z2 hv) hev
            dsimp only
            rw [this]; congr 1; omega
        · exact ih hx
      | false =>
        rw [b2] at hx
        dsimp only at hx
        cases b3 : ab_pv Γ (ab_sub (ab_cn (-1)) v) with
        | true =>
          rw [b3] at hx
          dsimp only at hx
          have p3 := ab_pv_ok hg (ab_sub_E ab_cn_E hv) b3
          rw [if_pos (by omega)] at c1 c2
          rcases List.mem_cons.mp hx with rfl | hx
          · refine ⟨?_, ?_⟩
            · rw [c1]
              have := ab_sub_E z1 (ab_cn_E (c := 1))
              dsimp only
              rw [this]; exact congrArg some (by omega)
            · rw [c2]
              have := ab_add_E z2 hev
              dsimp only
              rw [this]; congr 1; omega
          · exact ih hx
        | false => rw [b3] at hx; cases hx
    | false => rw [b1] at hx; cases hx
def ab_wp0 (Γ : ab_G) (v : Option ab_L) (ev : ab_L) (xs : List (ab_L × ab_L)) : List (ab_L × ab_L) := match v with
  | some v => ab_wp Γ v ev xs
  | none => []
/-- what holds of every count and sum -/
def ab_pfs (n : Nat) (hi : Int) : List (ab_L × ab_L) → List ab_L
  | [] => []
  | x :: xs => x.1 :: ab_sub (ab_cn n) x.1 :: x.2 :: ab_sub (ab_cn (n * ab_mx hi 0)) x.2 :: ab_pfs n hi xs
theorem ab_pfs_ok {ρ : ab_R} {n : Nat} {hi : Int} {f : Nat → Int32} (hf : ∀ j, j < n → (f j).toInt ≤ hi) : ∀ {xs : List (ab_L × ab_L)}, (∀ x ∈ xs, ab_q3 ρ n f x) → ∀ y ∈ ab_pfs n hi xs, ∃ w, ab_E ρ y = some w ∧ 0 ≤ w := by
  intro xs
  induction xs with
  | nil => intro _ y hy; cases hy
  | cons x xs ih =>
    intro h y hy
    obtain ⟨z1, z2⟩ := h x (List.mem_cons_self ..)
    have c := ab_cn1_b f n
    have m := ab_mx_ok hi 0
    have d := ab_sm1_b f (ab_mx hi 0) m.2 n (fun j hj => Int.le_trans (hf j hj) m.1)
    rcases List.mem_cons.mp hy with rfl | hy
    · exact ⟨_, z1, c.1⟩
    rcases List.mem_cons.mp hy with rfl | hy
    · exact ⟨_, ab_sub_E ab_cn_E z1, by omega⟩
    rcases List.mem_cons.mp hy with rfl | hy
    · exact ⟨_, z2, d.1⟩
    rcases List.mem_cons.mp hy with rfl | hy
    · exact ⟨_, ab_sub_E ab_cn_E z2, by omega⟩
    · exact ih (fun z hz => h z (List.mem_cons_of_mem _ hz)) y hy
def ab_wq (pc' : Nat) (Γ : ab_G) (e ev : ab_L) (q : ab_Q) (j : Nat) (lv : List (Nat × ab_W)) (st : List ab_W) (gh : List (Nat × ab_L)) (hp : ab_Hp) : Option (List (Nat × ab_A)) :=
  let ps := ab_wp0 Γ (ab_kw e q.2.2.2.2.1) ev q.2.2.2.2.2
  match ab_asl Γ (ab_pfs q.1 q.2.2.1 ps) with
  | some Δ => some [(pc', (Δ, lv, st, gh, ab_hs j (.inr (.inr (.inr (.inr (q.1, q.2.1, q.2.2.1, ab_wc Γ e ev q.2.2.2.1, [(e, ev)], ps))))) hp))]
  | none => some []
