/-! calls; the whole of a method -/
def ab_mm (k : Nat) : ab_Hp → Bool
  | [] => false
  | t :: ts => Nat.beq k t.1 || ab_mm k ts
theorem ab_mm_iff {k : Nat} : ∀ {cs : ab_Hp}, ab_mm k cs = true ↔ ∃ b ∈ cs, b.1 = k := by
  intro cs
  induction cs with
  | nil => simp [ab_mm]
  | cons c cs ih =>
    simp only [ab_mm, Bool.or_eq_true, ih]
    constructor
    · rintro (h | ⟨b, h1, h2⟩)
      · exact ⟨c, List.mem_cons_self .., (Nat.eq_of_beq_eq_true h).symm⟩
      · exact ⟨b, List.mem_cons_of_mem _ h1, h2⟩
    · rintro ⟨b, h1, h2⟩
      rcases List.mem_cons.mp h1 with rfl | h1
      · exact Or.inl (by rw [h2]; exact Nat.beq_refl k)
      · exact Or.inr ⟨b, h1, h2⟩
def ab_rx (B : ab_Hp) : Nat → ab_Hp → List Nat
  | _, [] => []
  | j, a :: as => match ab_mm a.1 B with
    | true => ab_rx B (j + 1) as
    | false => j :: ab_rx B (j + 1) as
def ab_rh (B : ab_Hp) : ab_Hp → ab_Hp
  | [] => []
  | a :: as => match ab_mm a.1 B with
    | true => ab_rh B as
    | false => a :: ab_rh B as
theorem ab_rh_ok {cB cI cJ : ClassId} {os : Nat → Nat} {ρ : ab_R} {B : ab_Hp} : ∀ {hp : ab_Hp} {ws : va_W}, ab_h cB cI cJ os ρ hp ws → ∃ wr, ab_h cB cI cJ os ρ (ab_rh B hp) wr ∧ ∀ pre : va_W, (ab_rx B pre.length hp).map (fun i => (pre ++ ws)[i]?) = wr.map some := by
  intro hp
  induction hp with
  | nil => intro ws h; exact ⟨[], trivial, fun _ => rfl⟩
  | cons a as ih => intro ws h; cases ws with
    | nil => exact h.elim
    | cons v vs =>
      obtain ⟨wr, h1, h2⟩ := ih h.2
      unfold ab_rh ab_rx
      cases hm : ab_mm a.1 B with
      | true =>
        refine ⟨wr, h1, fun pre => ?_⟩
        have := h2 (pre ++ [v])
        rw [List.length_append, List.append_assoc] at this
        exact this
      | false =>
        refine ⟨v :: wr, ⟨h.1, h1⟩, fun pre => ?_⟩
        have := h2 (pre ++ [v])
        rw [List.length_append, List.append_assoc] at this
        have e0 : (pre ++ v :: vs)[pre.length]? = some v := by
          rw [List.getElem?_append_right (Nat.le_refl _), Nat.sub_self]
          rfl
        simp only [List.map_cons, e0]
        exact congrArg (List.cons (some v)) this
theorem ab_rx_ge {B : ab_Hp} : ∀ {hp : ab_Hp} {j i : Nat}, i ∈ ab_rx B j hp → j ≤ i ∧ ∃ q, hp[i - j]? = some q ∧ ab_mm q.1 B = false := by
  intro hp
  induction hp with
  | nil => intro j i h; cases h
  | cons a as ih =>
    intro j i h
    unfold ab_rx at h
    cases hm : ab_mm a.1 B with
    | true =>
      rw [hm] at h
      obtain ⟨h1, q, h2, h3⟩ := ih h
      refine ⟨by omega, q, ?_, h3⟩
      rw [show i - j = (i - (j + 1)) + 1 by omega]
      exact h2
    | false =>
      rw [hm] at h
      rcases List.mem_cons.mp h with rfl | h
      · exact ⟨Nat.le_refl _, a, by rw [Nat.sub_self]; rfl, hm⟩
      · obtain ⟨h1, q, h2, h3⟩ := ih h
        refine ⟨by omega, q, ?_, h3⟩
        rw [show i - j = (i - (j + 1)) + 1 by omega]
        exact h2
theorem ab_rx_nd {B : ab_Hp} : ∀ {hp : ab_Hp} {j : Nat}, va_nd (ab_rx B j hp) = true := by
  intro hp
  induction hp with
  | nil => intro j; rfl
  | cons a as ih =>
    intro j
    unfold ab_rx
    cases hm : ab_mm a.1 B with
    | true => exact ih
    | false =>
      unfold va_nd
      simp only [Bool.and_eq_true, decide_eq_true_eq]
      refine ⟨fun h => ?_, ih⟩
      have := (ab_rx_ge h).1
      omega
theorem ab_rx_dis {A B : ab_Hp} (hq : ∀ b ∈ B, ∃ q, ab_hk b.1 A = some q) : ∀ i ∈ ab_rx B 0 A, i ∉ ab_ixs A B := by
  intro i h1 h2
  obtain ⟨-, q, h3, h4⟩ := ab_rx_ge h1
  obtain ⟨b, h5, c, h6⟩ := ab_ixs_mem hq h2
  rw [Nat.sub_zero, h6] at h3
  cases h3
  rw [ab_mm_iff.mpr ⟨b, h5, rfl⟩] at h4
  cases h4
/-- the arguments, from the stack -/
def ab_spl : Nat → List ab_W → List ab_W → Option (List ab_W × List ab_W)
  | 0, acc, st => some (acc, st)
  | n + 1, acc, w :: st => ab_spl n (w :: acc) st
  | _ + 1, _, [] => none
theorem ab_spl_ok {os : Nat → Nat} {ρ : ab_R} : ∀ {n : Nat} {acc st as rest : List ab_W} {va stk : List Value}, ab_ws os ρ acc va → ab_ws os ρ st stk → ab_spl n acc st = some (as, rest) → ∃ As rs, As.reverse ++ rs = va.reverse ++ stk ∧ ab_ws os ρ as As ∧ ab_ws os ρ rest rs := by
  intro n
  induction n with
  | zero => intro acc st as rest va stk h1 h2 h; cases h; exact ⟨va, stk, rfl, h1, h2⟩
  | succ n ih =>
    intro acc st as rest va stk h1 h2 h
    cases st with
    | nil => cases h
    | cons w st => cases stk with
      | nil => exact h2.elim
      | cons v stk =>
        obtain ⟨As, rs, q1, q2, q3⟩ := ih (acc := w :: acc) (va := v :: va) ⟨h2.1, h1⟩ h2.2 h
        exact ⟨As, rs, by rw [q1]; simp, q2, q3⟩
def ab_c8 : List ab_W → Nat
  | [] => 0
  | w :: ws => (match ab_cat w with
    | true => 2
    | false => 1) + ab_c8 ws
theorem ab_c8_ok {os : Nat → Nat} {ρ : ab_R} : ∀ {st : List ab_W} {stk : List Value}, ab_ws os ρ st stk → (stk.map fun v => v.category).sum = ab_c8 st := by
  intro st
  induction st with
  | nil => intro stk h; cases stk with
    | nil => rfl
    | cons v stk => exact h.elim
  | cons w st ih => intro stk h; cases stk with
    | nil => exact h.elim
    | cons v stk =>
      have h1 := ab_cat_ok h.1
      rw [List.map_cons, List.sum_cons, ih h.2, ab_c8]
      cases hc : ab_cat w with
      | true => rw [hc] at h1; rw [eq_of_beq h1]
      | false => rw [hc] at h1; rw [ab_cat1 h1]
/-- the unknowns of an end -/
def ab_ext (nx base : Nat) : Nat → List (Nat × ab_L) → List (Nat × ab_L)
  | 0, σ => σ
  | j + 1, σ => (nx + j, ab_vr (base + j)) :: ab_ext nx base j σ
theorem ab_ext_ok {nx base : Nat} {σ : List (Nat × ab_L)} {k : Nat} : ∀ {d : Nat}, (k < nx → ab_sl k (ab_ext nx base d σ) = ab_sl k σ) ∧ (nx ≤ k → k < nx + d → ab_sl k (ab_ext nx base d σ) = some (ab_vr (base + (k - nx)))) ∧ (nx + d ≤ k → ab_sl k (ab_ext nx base d σ) = ab_sl k σ) := by
  intro d
  induction d with
  | zero => exact ⟨fun _ => rfl, fun _ _ => by omega, fun _ => rfl⟩
  | succ d ih =>
    have hf : k ≠ nx + d → ab_sl k (ab_ext nx base (d + 1) σ) = ab_sl k (ab_ext nx base d σ) := by
      intro hk
      have hb : Nat.beq k (nx + d) = false := by
        cases hq : Nat.beq k (nx + d) with
        | true => exact absurd (Nat.eq_of_beq_eq_true hq) hk
        | false => rfl
      rw [ab_ext, ab_sl]
      dsimp only
      rw [hb]
    refine ⟨fun h => ?_, fun h1 h2 => ?_, fun h => ?_⟩
    · rw [hf (by omega)]; exact ih.1 h
    · by_cases hk : k = nx + d
      · subst hk
        rw [ab_ext, ab_sl]
        dsimp only
        rw [Nat.beq_refl]
        simp
      · rw [hf hk]; exact ih.2.1 h1 (by omega)
    · rw [hf (by omega)]; exact ih.2.2 (by omega)
def ab_fo (σ : List (Nat × ab_L)) : ab_B → Option (List ab_L)
  | [] => some []
  | t :: ts => match ab_sl t.1 σ, ab_fo σ ts with
    | some e, some r => some (ab_sub e (ab_cn t.2.1) :: ab_sub (ab_cn t.2.2) e :: r)
    | _, _ => none
def ab_fc (σ : List (Nat × ab_L)) : List ab_L → Option (List ab_L)
  | [] => some []
  | c :: cs => match ab_se σ c, ab_fc σ cs with
    | some e, some r => some (e :: r)
    | _, _ => none
def ab_sw (σ : List (Nat × ab_L)) (w : ab_W) : Option ab_W := match w with
  | .inl k => some (.inl k)
  | .inr (.inl e) => (match ab_se σ e with
    | some f => some (.inr (.inl f))
    | none => none)
  | .inr (.inr (.inl e)) => (match ab_se σ e with
    | some f => some (.inr (.inr (.inl f)))
    | none => none)
  | .inr (.inr (.inr _)) => none
def ab_sws (σ : List (Nat × ab_L)) : List ab_W → Option (List ab_W)
  | [] => some []
  | c :: cs => match ab_sw σ c, ab_sws σ cs with
    | some e, some r => some (e :: r)
    | _, _ => none
def ab_svs (σ : List (Nat × ab_L)) : List ab_V → Option (List ab_V)
  | [] => some []
  | none :: cs => (match ab_svs σ cs with
    | some r => some (none :: r)
    | none => none)
  | some c :: cs => match ab_sw σ c, ab_svs σ cs with
    | some e, some r => some (some e :: r)
    | _, _ => none
def ab_s3 (σ : List (Nat × ab_L)) : List (Nat × ab_L × ab_L) → Option (List (Nat × ab_L × ab_L))
  | [] => some []
  | x :: xs => match ab_se σ x.2.1, ab_se σ x.2.2, ab_s3 σ xs with
    | some C, some H, some r => some ((x.1, C, H) :: r)
    | _, _, _ => none
def ab_sc (σ : List (Nat × ab_L)) (c : ab_Ac) : Option ab_Ac := match c with
  | .inl o => (match ab_svs σ o.2 with
    | some r => some (.inl (o.1, r))
    | none => none)
  | .inr (.inl u) => some (.inr (.inl u))
  | .inr (.inr (.inl N)) => some (.inr (.inr (.inl N)))
  | .inr (.inr (.inr (.inl es))) => (match ab_fc σ es with
    | some r => some (.inr (.inr (.inr (.inl r))))
    | none => none)
  | .inr (.inr (.inr (.inr q))) => (match ab_s3 σ q.2.2.2.1 with
    | some r => some (.inr (.inr (.inr (.inr (q.1, q.2.1, q.2.2.1, r, [], [])))))
    | none => none)
def ab_sh (σ : List (Nat × ab_L)) : ab_Hp → Option ab_Hp
  | [] => some []
  | c :: cs => match ab_sc σ c.2, ab_sh σ cs with
    | some e, some r => some ((c.1, e) :: r)
    | _, _ => none
section ASB
variable {cB cI cJ : ClassId} {os : Nat → Nat} {ρ ρ' : ab_R} {σ : List (Nat × ab_L)}
theorem ab_fo_ok (h : ab_Rp ρ' σ ρ) : ∀ {bd : ab_B} {r : List ab_L}, ab_fo σ bd = some r → (∀ t ∈ bd, ∃ v, ρ' t.1 = some v ∧ t.2.1 ≤ v ∧ v ≤ t.2.2) → ∀ e ∈ r, ∃ v, ab_E ρ e = some v ∧ 0 ≤ v := by
  intro bd
  induction bd with
  | nil => intro r hr _ e he; cases hr; cases he
  | cons t bd ih =>
    intro r hr hb e he
    unfold ab_fo at hr
    split at hr
    · rename_i f r1 hf hr1
      cases hr
      obtain ⟨v, v1, v2, v3⟩ := hb t (List.mem_cons_self ..)
      have hv := h _ _ _ hf v1
      rcases List.mem_cons.mp he with rfl | he
      · exact ⟨_, ab_sub_E hv ab_cn_E, by omega⟩
      · rcases List.mem_cons.mp he with rfl | he
        · exact ⟨_, ab_sub_E ab_cn_E hv, by omega⟩
        · exact ih hr1 (fun t ht => hb t (List.mem_cons_of_mem _ ht)) e he
    · cases hr
theorem ab_fc_ok (h : ab_Rp ρ' σ ρ) {X : Int → Prop} : ∀ {cs r : List ab_L}, ab_fc σ cs = some r → (∀ c ∈ cs, ∃ v, ab_E ρ' c = some v ∧ X v) → ∀ e ∈ r, ∃ v, ab_E ρ e = some v ∧ X v := by
  intro cs
  induction cs with
  | nil => intro r hr _ e he; cases hr; cases he
  | cons t cs ih =>
    intro r hr hb e he
    unfold ab_fc at hr
    split at hr
    · rename_i f r1 hf hr1
      cases hr
      rcases List.mem_cons.mp he with rfl | he
      · obtain ⟨v, v1, v2⟩ := hb t (List.mem_cons_self ..)
        exact ⟨v, ab_se_ok h hf v1, v2⟩
      · exact ih hr1 (fun t ht => hb t (List.mem_cons_of_mem _ ht)) e he
    · cases hr
theorem ab_fc_at (h : ab_Rp ρ' σ ρ) : ∀ {cs r : List ab_L} {f : Nat → Int32}, ab_fc σ cs = some r → (∀ (j : Nat) (x : ab_L), cs[j]? = some x → ab_E ρ' x = some (f j).toInt) → r.length = cs.length ∧ ∀ (j : Nat) (x : ab_L), r[j]? = some x → ab_E ρ x = some (f j).toInt := by
  intro cs
  induction cs with
  | nil => intro r f hr _; cases hr; exact ⟨rfl, fun j x hj => by simp at hj⟩
  | cons t cs ih =>
    intro r f hr hb
    unfold ab_fc at hr
    split at hr
    · rename_i g r1 hf hr1
      cases hr
      obtain ⟨h1, h2⟩ := ih (f := fun j => f (j + 1)) hr1 (fun j x hj => hb (j + 1) x hj)
      refine ⟨by simp [h1], fun j x hj => ?_⟩
      cases j with
      | zero => cases hj; exact ab_se_ok h hf (hb 0 t rfl)
      | succ j => exact h2 j x hj
    · cases hr
theorem ab_sw_ok (h : ab_Rp ρ' σ ρ) {w w' : ab_W} {v : Value} (hw : ab_sw σ w = some w') (hv : ab_w os ρ' w v) : ab_w os ρ w' v := by
  match w, hw, hv with
  | .inl k, hw, hv => cases hw; exact hv
  | .inr (.inl e), hw, ⟨z, h1, h2⟩ =>
    unfold ab_sw at hw
    dsimp only at hw
    split at hw
    · rename_i f hf
      cases hw
      exact ⟨z, h1, ab_se_ok h hf h2⟩
    · cases hw
  | .inr (.inr (.inl e)), hw, ⟨z, h1, h2⟩ =>
    unfold ab_sw at hw
    dsimp only at hw
    split at hw
    · rename_i f hf
      cases hw
      exact ⟨z, h1, ab_se_ok h hf h2⟩
    · cases hw
  | .inr (.inr (.inr e)), hw, _ => cases hw
theorem ab_sws_ok (h : ab_Rp ρ' σ ρ) : ∀ {cs r : List ab_W} {vs : List Value}, ab_sws σ cs = some r → ab_ws os ρ' cs vs → ab_ws os ρ r vs := by
  intro cs
  induction cs with
  | nil => intro r vs hr hv; cases hr; cases vs with
    | nil => trivial
    | cons v vs => exact hv.elim
  | cons c cs ih => intro r vs hr hv; cases vs with
    | nil => exact hv.elim
    | cons v vs =>
      unfold ab_sws at hr
      split at hr
      · rename_i g r1 hf hr1
        cases hr
        exact ⟨ab_sw_ok h hf hv.1, ih hr1 hv.2⟩
      · cases hr
theorem ab_svs_ok (h : ab_Rp ρ' σ ρ) : ∀ {cs r : List ab_V} {vs : List Value}, ab_svs σ cs = some r → ab_vs os ρ' cs vs → ab_vs os ρ r vs := by
  intro cs
  induction cs with
  | nil => intro r vs hr hv; cases hr; cases vs with
    | nil => trivial
    | cons v vs => exact hv.elim
  | cons c cs ih => intro r vs hr hv; cases vs with
    | nil => exact hv.elim
    | cons v vs =>
      cases c with
      | none =>
        unfold ab_svs at hr
        split at hr
        · rename_i r1 hr1
          cases hr
          exact ⟨trivial, ih hr1 hv.2⟩
        · cases hr
      | some c =>
        unfold ab_svs at hr
        split at hr
        · rename_i g r1 hf hr1
          cases hr
          exact ⟨ab_sw_ok h hf hv.1, ih hr1 hv.2⟩
        · cases hr
theorem ab_s3_ok (h : ab_Rp ρ' σ ρ) {n : Nat} {f : Nat → Int32} : ∀ {xs r : List (Nat × ab_L × ab_L)}, ab_s3 σ xs = some r → (∀ x ∈ xs, ab_q1 ρ' n f x) → ∀ x ∈ r, ab_q1 ρ n f x := by
  intro xs
  induction xs with
  | nil => intro r hr _ x hx; cases hr; cases hx
  | cons z xs ih =>
    intro r hr hq x hx
    unfold ab_s3 at hr
    split at hr
    · rename_i C H r1 hC hH hr1
      cases hr
      rcases List.mem_cons.mp hx with rfl | hx
      · obtain ⟨vC, vH, h1, h2, h3⟩ := hq z (List.mem_cons_self ..)
        exact ⟨vC, vH, ab_se_ok h hC h1, ab_se_ok h hH h2, h3⟩
      · exact ih hr1 (fun y hy => hq y (List.mem_cons_of_mem _ hy)) x hx
    · cases hr
theorem ab_sc_ok (h : ab_Rp ρ' σ ρ) {c r : ab_Ac} {e : va_E} (hc : ab_sc σ c = some r) (hv : ab_c cB cI cJ os ρ' c e) : ab_c cB cI cJ os ρ r e := by
  match c, hc, hv with
  | .inl o, hc, ⟨vs, h1, h2⟩ =>
    unfold ab_sc at hc
    dsimp only at hc
    split at hc
    · rename_i r1 hr1
      cases hc
      exact ⟨vs, h1, ab_svs_ok h hr1 h2⟩
    · cases hc
  | .inr (.inl u), hc, hv => cases hc; exact hv
  | .inr (.inr (.inl N)), hc, hv => cases hc; exact hv
  | .inr (.inr (.inr (.inr q))), hc, ⟨f, h1, h2⟩ =>
    unfold ab_sc at hc
    dsimp only at hc
    split at hc
    · rename_i r1 hr1
      cases hc
      exact ⟨f, h1, h2.1, ab_s3_ok h hr1 h2.2.1, fun x hx => (by cases hx), fun x hx => (by cases hx)⟩
    · cases hc
  | .inr (.inr (.inr (.inl es))), hc, ⟨f, h1, h2⟩ =>
    unfold ab_sc at hc
    dsimp only at hc
    split at hc
    · rename_i r1 hr1
      cases hc
      obtain ⟨q1, q2⟩ := ab_fc_at h hr1 h2
      exact ⟨f, by rw [q1]; exact h1, q2⟩
    · cases hc
theorem ab_sh_ok (h : ab_Rp ρ' σ ρ) : ∀ {cs r : ab_Hp} {ws : va_W}, ab_sh σ cs = some r → ab_h cB cI cJ os ρ' cs ws → ab_h cB cI cJ os ρ r ws := by
  intro cs
  induction cs with
  | nil => intro r vs hr hv; cases hr; cases vs with
    | nil => trivial
    | cons v vs => exact hv.elim
  | cons c cs ih => intro r vs hr hv; cases vs with
    | nil => exact hv.elim
    | cons v vs =>
      unfold ab_sh at hr
      split at hr
      · rename_i g r1 hf hr1
        cases hr
        exact ⟨⟨hv.1.1, ab_sc_ok h hf hv.1.2⟩, ih hr1 hv.2⟩
      · cases hr
theorem ab_h_app : ∀ {cs ds : ab_Hp} {ws us : va_W}, ab_h cB cI cJ os ρ cs ws → ab_h cB cI cJ os ρ ds us → ab_h cB cI cJ os ρ (cs ++ ds) (ws ++ us) := by
  intro cs
  induction cs with
  | nil => intro ds ws us h1 h2; cases ws with
    | nil => exact h2
    | cons v vs => exact h1.elim
  | cons c cs ih => intro ds ws us h1 h2; cases ws with
    | nil => exact h1.elim
    | cons v vs => exact ⟨h1.1, ih h1.2 h2⟩
theorem ab_ws_app : ∀ {cs ds : List ab_W} {ws us : List Value}, ab_ws os ρ cs ws → ab_ws os ρ ds us → ab_ws os ρ (cs ++ ds) (ws ++ us) := by
  intro cs
  induction cs with
  | nil => intro ds ws us h1 h2; cases ws with
    | nil => exact h2
    | cons v vs => exact h1.elim
  | cons c cs ih => intro ds ws us h1 h2; cases ws with
    | nil => exact h1.elim
    | cons v vs => exact ⟨h1.1, ih h1.2 h2⟩
end ASB
/-- after the call, by one of the contract's ends -/
def ab_p1 (nx : Nat) (σ : List (Nat × ab_L)) (Γ : ab_G) (lv : List (Nat × ab_W)) (rest : List ab_W) (gh : List (Nat × ab_L)) (hr : ab_Hp) (pc' : Nat) (q : ab_P) : Option (List (Nat × ab_A)) := match Nat.ble nx q.1.1 with
  | true => (let d := q.1.1 - nx; let τ := ab_ext nx Γ.1 d σ; match ab_fo τ q.1.2.1, ab_fc τ q.1.2.2.1, ab_fc τ q.1.2.2.2, ab_sws τ q.2.1, ab_sh τ q.2.2 with
    | some f1, some f2, some f3, some rt, some hp => (match ab_asl (Γ.1 + d, Γ.2.1, Γ.2.2.1, Γ.2.2.2) (f1 ++ f2) with
      | some Δ => some [(pc', ((Δ.1, Δ.2.1, Δ.2.2.1, f3 ++ Δ.2.2.2), lv, rt ++ rest, gh, hr ++ hp))]
      | none => some [])
    | _, _, _, _, _ => none)
  | false => none
def ab_pl (nx : Nat) (σ : List (Nat × ab_L)) (Γ : ab_G) (lv : List (Nat × ab_W)) (rest : List ab_W) (gh : List (Nat × ab_L)) (hr : ab_Hp) (pc' : Nat) : List ab_P → ab_O
  | [] => some []
  | q :: qs => match ab_p1 nx σ Γ lv rest gh hr pc' q, ab_pl nx σ Γ lv rest gh hr pc' qs with
    | some r1, some r2 => some (r1 ++ r2)
    | _, _ => none
theorem ab_pl_mem {nx : Nat} {σ : List (Nat × ab_L)} {Γ : ab_G} {lv : List (Nat × ab_W)} {rest : List ab_W} {gh : List (Nat × ab_L)} {hr : ab_Hp} {pc' : Nat} {q : ab_P} : ∀ {qs : List ab_P} {r : List (Nat × ab_A)}, ab_pl nx σ Γ lv rest gh hr pc' qs = some r → q ∈ qs → ∃ r1, ab_p1 nx σ Γ lv rest gh hr pc' q = some r1 ∧ ∀ x ∈ r1, x ∈ r := by
  intro qs
  induction qs with
  | nil => intro r _ h; cases h
  | cons q' qs ih =>
    intro r h hq
    unfold ab_pl at h
    split at h
    · rename_i r1 r2 h1 h2
      cases h
      rcases List.mem_cons.mp hq with rfl | hq
      · exact ⟨r1, h1, fun x hx => List.mem_append_left _ hx⟩
      · obtain ⟨r3, h3, h4⟩ := ih h2 hq
        exact ⟨r3, h3, fun x hx => List.mem_append_right _ (h4 x hx)⟩
    · cases h
theorem ab_p1_ok {cB cI cJ : ClassId} {os : Nat → Nat} {ρ0 ρ ρ' : ab_R} {n nx : Nat} {s : ab_Sg} {Γ : ab_G} {lv : List (Nat × ab_W)} {rest : List ab_W} {gh : List (Nat × ab_L)} {hr : ab_Hp} {pc' : Nat} {q : ab_P} {r1 : List (Nat × ab_A)} {ls : Array Slot} {vs rs : List Value} {wr u : va_W}
    (h : ab_p1 nx s.2 Γ lv rest gh hr pc' q = some r1) (hI : ab_Iv ρ s) (hn : s.1 = nx) (hall : ∀ k, k < nx → ∃ v, ab_rs ρ s.2 k = some v) (hg : ab_g ρ Γ) (hl : ∃ lvs, lv_has ls n lvs ∧ ab_ls os ρ lv lvs) (hrs : ab_ws os ρ rest rs) (hgh : ∀ q ∈ gh, ∃ v, ρ0 q.1 = some v ∧ ab_E ρ q.2 = some v) (hwr : ab_h cB cI cJ os ρ hr wr)
    (hs : ab_sub2 (ab_rs ρ s.2) ρ') (hgq : ab_g ρ' q.1) (hvs : ab_ws os ρ' q.2.1 vs) (hu : ab_h cB cI cJ os ρ' q.2.2 u) : ∃ (ρ2 : ab_R) (x : Nat × ab_A), x ∈ r1 ∧ x.1 = pc' ∧ ab_sub2 ρ ρ2 ∧ ab_S cB cI cJ os ρ0 ρ2 x.2 n ls (vs ++ rs) (wr ++ u) := by
  unfold ab_p1 at h
  split at h
  · rename_i hle
    have hle := Nat.le_of_ble_eq_true hle
    dsimp only at h
    split at h
    · rename_i f1 f2 f3 rt hp hf1 hf2 hf3 hrt hhp
      let ρ2 : ab_R := fun k => if k < Γ.1 then ρ k else if k < Γ.1 + (q.1.1 - nx) then ρ' (nx + (k - Γ.1)) else none
      have hs2 : ab_sub2 ρ ρ2 := by
        intro k v hk
        by_cases hlt : k < Γ.1
        · show (if k < Γ.1 then ρ k else _) = _
          rw [if_pos hlt]
          exact hk
        · rw [hg.1 k (by omega)] at hk; cases hk
      have hrp : ab_Rp ρ' (ab_ext nx Γ.1 (q.1.1 - nx) s.2) ρ2 := by
        intro k e v hk hv
        have hx := ab_ext_ok (nx := nx) (base := Γ.1) (σ := s.2) (k := k) (d := q.1.1 - nx)
        by_cases h1 : k < nx
        · rw [hx.1 h1] at hk
          obtain ⟨w, hw⟩ := hall k h1
          have hw2 := hs _ _ hw
          rw [hv] at hw2
          cases hw2
          unfold ab_rs at hw
          rw [hk] at hw
          exact ab_E_mono hs2 hw
        · by_cases h2 : k < nx + (q.1.1 - nx)
          · rw [hx.2.1 (by omega) h2] at hk
            cases hk
            refine ab_vr_E ?_
            show (if _ < Γ.1 then _ else if _ < _ then ρ' _ else none) = _
            rw [if_neg (by omega), if_pos (by omega)]
            rw [show nx + (Γ.1 + (k - nx) - Γ.1) = k by omega]
            exact hv
          · rw [hgq.1 k (by omega)] at hv; cases hv
      have hg2 : ab_g ρ2 (Γ.1 + (q.1.1 - nx), Γ.2.1, Γ.2.2.1, Γ.2.2.2) := by
        refine ⟨fun k hk => ?_, fun k v hk => ?_, fun t ht => ?_, fun c hc => ?_, fun c hc => ?_⟩
        · have hk : Γ.1 + (q.1.1 - nx) ≤ k := hk
          show (if _ < Γ.1 then _ else if _ < _ then ρ' _ else none) = _
          rw [if_neg (by omega), if_neg (by omega)]
        · have hk : (if k < Γ.1 then ρ k else if k < Γ.1 + (q.1.1 - nx) then ρ' (nx + (k - Γ.1)) else none) = some v := hk
          split at hk
          · exact hg.2.1 k v hk
          · split at hk
            · exact hgq.2.1 _ v hk
            · cases hk
        · obtain ⟨v, v1, v2⟩ := hg.2.2.1 t ht
          exact ⟨v, hs2 _ _ v1, v2⟩
        · obtain ⟨v, v1, v2⟩ := hg.2.2.2.1 c hc
          exact ⟨v, ab_E_mono hs2 v1, v2⟩
        · obtain ⟨v, v1, v2⟩ := hg.2.2.2.2 c hc
          exact ⟨v, ab_E_mono hs2 v1, v2⟩
      have hfs : ∀ e ∈ f1 ++ f2, ∃ v, ab_E ρ2 e = some v ∧ 0 ≤ v := by
        intro e he
        rcases List.mem_append.mp he with he | he
        · exact ab_fo_ok hrp hf1 hgq.2.2.1 e he
        · exact ab_fc_ok hrp hf2 hgq.2.2.2.1 e he
      obtain ⟨Δ, d1, d2⟩ := ab_asl_ok hg2 hfs
      rw [d1] at h
      cases h
      refine ⟨ρ2, _, List.mem_cons_self .., rfl, hs2, ⟨d2.1, d2.2.1, d2.2.2.1, d2.2.2.2.1, fun c hc => ?_⟩, ?_, ab_ws_app (ab_sws_ok hrp hrt hvs) (ab_ws_mono hs2 hrs), fun q hq => ?_, ab_h_app (ab_h_mono hs2 hwr) (ab_sh_ok hrp hhp hu)⟩
      · rcases List.mem_append.mp hc with hc | hc
        · exact ab_fc_ok (X := fun v => v ≠ 0) hrp hf3 hgq.2.2.2.2 c hc
        · exact d2.2.2.2.2 c hc
      · obtain ⟨lvs, l1, l2⟩ := hl
        exact ⟨lvs, l1, ab_ls_mono hs2 l2⟩
      · obtain ⟨v, v1, v2⟩ := hgh q hq
        exact ⟨v, v1, ab_E_mono hs2 v2⟩
    · cases h
  · cases h
