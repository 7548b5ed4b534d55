/-! arrays -/
theorem ab_vin {x : Int32} {N : Nat} (h1 : 0 ≤ x.toInt) (h2 : x.toInt < N) : vp_in x N ∧ x.toNatClampNeg < N ∧ (x.toNatClampNeg : Int) = x.toInt := by
  have h3 : x.toNatClampNeg = x.toInt.toNat := rfl
  exact ⟨vp_in_iff.mpr ⟨h1, h2⟩, by omega, by omega⟩
def ab_ix (Γ : ab_G) (e : ab_L) (N : Nat) : Bool := ab_pv Γ e && ab_pv Γ (ab_sub (ab_cn ((N : Int) - 1)) e)
theorem ab_ix_ok {ρ : ab_R} {Γ : ab_G} {e : ab_L} {N : Nat} {x : Int32} (h : ab_g ρ Γ) (q : ab_E ρ e = some x.toInt) (hc : ab_ix Γ e N = true) : vp_in x N ∧ x.toNatClampNeg < N ∧ (x.toNatClampNeg : Int) = x.toInt := by
  simp only [ab_ix, Bool.and_eq_true] at hc
  have h1 := ab_pv_ok h q hc.1
  have h2 := ab_pv_ok h (ab_sub_E ab_cn_E q) hc.2
  exact ab_vin h1 (by omega)
def ab_hl (Γ : ab_G) (l h : Int) : List ab_L → Int × Int
  | [] => (l, h)
  | e :: es => ab_hl Γ (match ab_le l (ab_lo Γ e) with
      | true => l
      | false => ab_lo Γ e) (match ab_le (ab_hi Γ e) h with
      | true => h
      | false => ab_hi Γ e) es
theorem ab_hl_ok {ρ : ab_R} {Γ : ab_G} (hg : ab_g ρ Γ) : ∀ {es : List ab_L} {l h : Int}, ((ab_hl Γ l h es).1 ≤ l ∧ h ≤ (ab_hl Γ l h es).2) ∧ ∀ (j : Nat) (x : ab_L) (v : Int), es[j]? = some x → ab_E ρ x = some v → (ab_hl Γ l h es).1 ≤ v ∧ v ≤ (ab_hl Γ l h es).2 := by
  intro es
  induction es with
  | nil => intro l h; exact ⟨⟨Int.le_refl _, Int.le_refl _⟩, fun j x v hj => by simp at hj⟩
  | cons e es ih =>
    intro l h
    have hi := ih (l := match ab_le l (ab_lo Γ e) with
      | true => l
      | false => ab_lo Γ e) (h := match ab_le (ab_hi Γ e) h with
      | true => h
      | false => ab_hi Γ e)
    have h1 : (match ab_le l (ab_lo Γ e) with
      | true => l
      | false => ab_lo Γ e) ≤ l ∧ (match ab_le l (ab_lo Γ e) with
      | true => l
      | false => ab_lo Γ e) ≤ ab_lo Γ e := by
      cases hc : ab_le l (ab_lo Γ e) with
      | true => rw [ab_le_iff] at hc; exact ⟨Int.le_refl _, hc⟩
      | false =>
        have : ¬ l ≤ ab_lo Γ e := fun q => by rw [ab_le_iff.mpr q] at hc; cases hc
        exact ⟨by dsimp only; omega, Int.le_refl _⟩
    have h2 : h ≤ (match ab_le (ab_hi Γ e) h with
      | true => h
      | false => ab_hi Γ e) ∧ ab_hi Γ e ≤ (match ab_le (ab_hi Γ e) h with
      | true => h
      | false => ab_hi Γ e) := by
      cases hc : ab_le (ab_hi Γ e) h with
      | true => rw [ab_le_iff] at hc; exact ⟨Int.le_refl _, hc⟩
      | false =>
        have : ¬ ab_hi Γ e ≤ h := fun q => by rw [ab_le_iff.mpr q] at hc; cases hc
        exact ⟨by dsimp only; omega, Int.le_refl _⟩
    refine ⟨⟨Int.le_trans hi.1.1 h1.1, Int.le_trans h2.1 hi.1.2⟩, fun j x v hj hv => ?_⟩
    cases j with
    | zero =>
      cases hj
      exact ⟨Int.le_trans hi.1.1 (Int.le_trans h1.2 (ab_lo_ok hg hv)), Int.le_trans (ab_hi_ok hg hv) (Int.le_trans h2.2 hi.1.2)⟩
    | succ j => exact hi.2 j x v hj hv
section AAR
variable {D : va_G} {cB cI cJ : ClassId} {A : Nat → Prop} {H0 : Heap} {os : Nat → Nat} {ρ0 : ab_R} {n : Nat} {rk : ab_L} {z0 : Int} {WW : Nat → Array Slot → List Value → Heap → List Loc → Prop} {pc pc' : Nat}
/-- an element read; the flag: of bytes -/
def ab_al (by_ : Bool) (pc' : Nat) (a : ab_A) : ab_O := match a with
  | (Γ, lv, .inr (.inl e) :: .inl k :: st, gh, hp) => (match ab_hk k hp with
    | some (_, .inr (.inl u)) => (match u.1 == by_ && ab_ix Γ e u.2.1 with
      | true => (match ab_ieq u.2.2.1 u.2.2.2 with
        | true => some [(pc', (Γ, lv, .inr (.inl (ab_cn u.2.2.1)) :: st, gh, hp))]
        | false => some [(pc', (ab_fr Γ u.2.2.1 u.2.2.2, lv, .inr (.inl (ab_vr Γ.1)) :: st, gh, hp))])
      | false => none)
    | some (_, .inr (.inr (.inr (.inl es)))) => (match by_, ab_ct Γ e with
      | false, some (.ofNat c) => (match ab_at c es with
        | some x => some [(pc', (Γ, lv, .inr (.inl x) :: st, gh, hp))]
        | none => none)
      | false, none => (match ab_ix Γ e es.length with
        | true => (let q := ab_hl Γ ab_x32 ab_m32 es; some [(pc', (ab_fr Γ q.1 q.2, lv, .inr (.inl (ab_vr Γ.1)) :: st, gh, hp))])
        | false => none)
      | _, _ => none)
    | some (j, .inr (.inr (.inr (.inr q)))) => (match by_ with
      | false => (match ab_ix Γ e q.1 with
        | true => ab_rq pc' Γ e q j lv st gh hp
        | false => none)
      | true => none)
    | _ => none)
  | _ => none
theorem ab_al_ok {by_ : Bool} {a : ab_A} {r : List (Nat × ab_A)} (hr : ab_al by_ pc' a = some r) (hG : ∀ q ∈ r, ab_Gd D cB cI cJ A H0 os ρ0 n rk z0 WW q.1 q.2)
    (rule : ∀ ls rest H locs ws b (j N : Nat) (f : Nat → Int32) (i : Int32), va_P D nz_cl ws H → ws[j]? = some (b, .inl ((match by_ with
      | true => cB
      | false => cI), N, .inl f)) → vp_in i N → WW pc' ls (.int (f i.toNatClampNeg) :: rest) H locs → WW pc ls (.int i :: .ref b :: rest) H locs) : ab_Gd D cB cI cJ A H0 os ρ0 n rk z0 WW pc a := by
  intro ρ ls stk ws H locs hS hz hP hD hS0
  unfold ab_al at hr
  split at hr
  · rename_i Γ lv e k st gh hp
    match stk, hS.2.2.1 with
    | v0 :: v1 :: stk, ⟨⟨x, h0, h2⟩, h1, h5⟩ =>
      have h1 : v1 = .ref (os k) := h1
      subst h1
      subst h0
      split at hr
      · rename_i j u hh
        obtain ⟨ee, e1, ⟨f, e2, e3⟩, -⟩ := ab_hk_ok hS.2.2.2.2 hh
        subst e2
        split at hr
        · rename_i hc
          simp only [Bool.and_eq_true] at hc
          have hu := eq_of_beq hc.1
          rw [hu] at e1
          obtain ⟨i1, i2, i3⟩ := ab_ix_ok hS.1 h2 hc.2
          have hb := e3 _ i2
          split at hr
          · rename_i hq
            cases hr
            have := ab_ieq_iff hq
            have hv : u.2.2.1 = (f x.toNatClampNeg).toInt := by omega
            exact rule ls stk H locs ws _ j u.2.1 f x hP e1 i1 (hG _ (List.mem_cons_self ..) ρ ls (.int (f x.toNatClampNeg) :: stk) ws H locs (hS.grow ab_sub2.rf hS.1 ⟨⟨_, rfl, by rw [← hv]; exact ab_cn_E⟩, h5⟩) hz hP hD hS0)
          · cases hr
            obtain ⟨s1, s2, s3⟩ := ab_fr_ok hS.1 hb.1 hb.2 (ab_i32t _)
            exact rule ls stk H locs ws _ j u.2.1 f x hP e1 i1 (hG _ (List.mem_cons_self ..) _ ls (.int (f x.toNatClampNeg) :: stk) ws H locs (hS.grow s1 s2 ⟨⟨_, rfl, s3⟩, ab_ws_mono s1 h5⟩) (ab_E_mono s1 hz) hP hD hS0)
        · cases hr
      · rename_i j es hh
        obtain ⟨ee, e1, ⟨f, e2, e3⟩, -⟩ := ab_hk_ok hS.2.2.2.2 hh
        subst e2
        split at hr
        · rename_i c hc
          split at hr
          · rename_i y hy
            cases hr
            rw [ab_at_eq] at hy
            have hx := ab_ct_ok hS.1 h2 hc
            have hx : x.toInt = (c : Int) := hx
            have hlt := (List.getElem?_eq_some_iff.mp hy).1
            obtain ⟨i1, i2, i3⟩ := ab_vin (x := x) (N := es.length) (by omega) (by omega)
            have hcx : x.toNatClampNeg = c := by omega
            refine rule ls stk H locs ws _ j es.length f x hP e1 i1 (hG _ (List.mem_cons_self ..) ρ ls (.int (f x.toNatClampNeg) :: stk) ws H locs (hS.grow ab_sub2.rf hS.1 ⟨⟨_, rfl, ?_⟩, h5⟩) hz hP hD hS0)
            rw [hcx]
            exact e3 c y hy
          · cases hr
        · split at hr
          · rename_i hc
            cases hr
            obtain ⟨i1, i2, i3⟩ := ab_ix_ok hS.1 h2 hc
            have hx : es[x.toNatClampNeg]? = some es[x.toNatClampNeg] := List.getElem?_eq_getElem i2
            have hb := (ab_hl_ok hS.1 (l := ab_x32) (h := ab_m32)).2 _ _ _ hx (e3 _ _ hx)
            obtain ⟨s1, s2, s3⟩ := ab_fr_ok hS.1 hb.1 hb.2 (ab_i32t _)
            exact rule ls stk H locs ws _ j es.length f x hP e1 i1 (hG _ (List.mem_cons_self ..) _ ls (.int (f x.toNatClampNeg) :: stk) ws H locs (hS.grow s1 s2 ⟨⟨_, rfl, s3⟩, ab_ws_mono s1 h5⟩) (ab_E_mono s1 hz) hP hD hS0)
          · cases hr
        · cases hr
      · rename_i j q hh
        split at hr
        · split at hr
          · rename_i hc
            obtain ⟨ee, e1, ⟨f, e2, e3⟩, -⟩ := ab_hk_ok hS.2.2.2.2 hh
            subst e2
            obtain ⟨i1, i2, i3⟩ := ab_ix_ok hS.1 h2 hc
            have h2' : ab_E ρ e = some ((x.toNatClampNeg : Nat) : Int) := by rw [i3]; exact h2
            unfold ab_rq at hr
            split at hr
            · rename_i v hv
              cases hr
              obtain ⟨j', k1, k2, k3⟩ := e3.2.2.1 _ (ab_kw_ok hv)
              dsimp only at k2 k3
              rw [h2'] at k2
              have hjj : x.toNatClampNeg = j' := by have := Option.some.inj k2; omega
              exact rule ls stk H locs ws _ j q.1 f x hP e1 i1 (hG _ (List.mem_cons_self ..) ρ ls (.int (f x.toNatClampNeg) :: stk) ws H locs (hS.grow ab_sub2.rf hS.1 ⟨⟨_, rfl, by rw [hjj]; exact k3⟩, h5⟩) hz hP hD hS0)
            · have hb := e3.1 _ i2
              obtain ⟨s1, s2, s3⟩ := ab_fr_ok hS.1 hb.1 hb.2 (ab_i32t (f x.toNatClampNeg))
              obtain ⟨Δ, d1, d2⟩ := ab_asl_ok s2 (ab_ap_ok (n := q.1) hS.1 s1 h2' i2 s3 e3.2.1)
              rw [d1] at hr
              cases hr
              have hc2 : ab_c cB cI cJ os (ab_up ρ Γ.1 (f x.toNatClampNeg).toInt) (.inr (.inr (.inr (.inr (q.1, q.2.1, q.2.2.1, q.2.2.2.1, (e, ab_vr Γ.1) :: q.2.2.2.2.1, q.2.2.2.2.2))))) (.inl (cI, q.1, .inl f)) := by
                have hm := ab_cq_mono s1 e3
                refine ⟨f, rfl, hm.1, hm.2.1, fun y hy => ?_, hm.2.2.2⟩
                rcases List.mem_cons.mp hy with rfl | hy
                · exact ⟨x.toNatClampNeg, i2, ab_E_mono s1 h2', s3⟩
                · exact hm.2.2.1 y hy
              have hh2 := ab_hs_ok hc2 (ab_h_mono s1 hS.2.2.2.2) e1
              rw [ab_set_self e1] at hh2
              obtain ⟨lvs, l1, l2⟩ := hS.2.1
              refine rule ls stk H locs ws _ j q.1 f x hP e1 i1 (hG _ (List.mem_cons_self ..) _ ls (.int (f x.toNatClampNeg) :: stk) ws H locs ⟨d2, ⟨lvs, l1, ab_ls_mono s1 l2⟩, ⟨⟨_, rfl, s3⟩, ab_ws_mono s1 h5⟩, fun g hg => ?_, hh2⟩ (ab_E_mono s1 hz) hP hD hS0)
              obtain ⟨v, v1, v2⟩ := hS.2.2.2.1 g hg
              exact ⟨v, v1, ab_E_mono s1 v2⟩
          · cases hr
        · cases hr
      · cases hr
  · cases hr
def ab_ll (pc' : Nat) (a : ab_A) : ab_O := match a with
  | (Γ, lv, .inr (.inl e) :: .inl k :: st, gh, hp) => (match ab_hk k hp with
    | some (_, .inr (.inr (.inl N))) => (match ab_ix Γ e N with
      | true => some [(pc', (ab_fr Γ ab_m64 ab_x64, lv, .inr (.inr (.inl (ab_vr Γ.1))) :: st, gh, hp))]
      | false => none)
    | _ => none)
  | _ => none
theorem ab_ll_ok {a : ab_A} {r : List (Nat × ab_A)} (hr : ab_ll pc' a = some r) (hG : ∀ q ∈ r, ab_Gd D cB cI cJ A H0 os ρ0 n rk z0 WW q.1 q.2)
    (rule : ∀ ls rest H locs ws b (j N : Nat) (f : Nat → Int64) (i : Int32), va_P D nz_cl ws H → ws[j]? = some (b, .inl (cJ, N, .inr (.inl f))) → vp_in i N → WW pc' ls (.long (f i.toNatClampNeg) :: rest) H locs → WW pc ls (.int i :: .ref b :: rest) H locs) : ab_Gd D cB cI cJ A H0 os ρ0 n rk z0 WW pc a := by
  intro ρ ls stk ws H locs hS hz hP hD hS0
  unfold ab_ll at hr
  split at hr
  · rename_i Γ lv e k st gh hp
    match stk, hS.2.2.1 with
    | v0 :: v1 :: stk, ⟨⟨x, h0, h2⟩, h1, h5⟩ =>
      have h1 : v1 = .ref (os k) := h1
      subst h1
      subst h0
      split at hr
      · rename_i j N hh
        obtain ⟨ee, e1, ⟨f, e2⟩, -⟩ := ab_hk_ok hS.2.2.2.2 hh
        subst e2
        split at hr
        · rename_i hc
          obtain ⟨i1, i2, i3⟩ := ab_ix_ok hS.1 h2 hc
          cases hr
          obtain ⟨s1, s2, s3⟩ := ab_fr_ok hS.1 (ab_i64 (f x.toNatClampNeg)).1 (ab_i64 (f x.toNatClampNeg)).2 (ab_i64t _)
          exact rule ls stk H locs ws _ j N f x hP e1 i1 (hG _ (List.mem_cons_self ..) _ ls (.long (f x.toNatClampNeg) :: stk) ws H locs (hS.grow s1 s2 ⟨⟨_, rfl, s3⟩, ab_ws_mono s1 h5⟩) (ab_E_mono s1 hz) hP hD hS0)
        · cases hr
      · cases hr
  · cases hr
/-- an element written -/
def ab_as1 (pc' : Nat) (a : ab_A) : ab_O := match a with
  | (Γ, lv, .inr (.inl ev) :: .inr (.inl e) :: .inl k :: st, gh, hp) => (match ab_hk k hp with
    | some (_, .inr (.inl u)) => (match (!u.1 && ab_ix Γ e u.2.1) && (ab_pv Γ (ab_sub ev (ab_cn u.2.2.1)) && ab_pv Γ (ab_sub (ab_cn u.2.2.2) ev)) with
      | true => some [(pc', (Γ, lv, st, gh, hp))]
      | false => none)
    | some (j, .inr (.inr (.inr (.inl es)))) => (match ab_ct Γ e with
      | some (.ofNat c) => (match Nat.ble (c + 1) es.length with
        | true => some [(pc', (Γ, lv, st, gh, ab_hs j (.inr (.inr (.inr (.inl (ab_set ev c es))))) hp))]
        | false => none)
      | _ => none)
    | some (j, .inr (.inr (.inr (.inr q)))) => (match ab_ix Γ e q.1 && (ab_pv Γ (ab_sub ev (ab_cn q.2.1)) && ab_pv Γ (ab_sub (ab_cn q.2.2.1) ev)) with
      | true => ab_wq pc' Γ e ev q j lv st gh hp
      | false => none)
    | _ => none)
  | _ => none
theorem ab_hs_self {cB cI cJ : ClassId} {os : Nat → Nat} {ρ : ab_R} : ∀ {cs : ab_Hp} {ws : va_W} {j a k : Nat} {c : ab_Ac} {e e' : va_E}, ab_h cB cI cJ os ρ cs ws → ws[j]? = some (a, e) → cs[j]? = some (k, c) → ab_c cB cI cJ os ρ c e' → ab_h cB cI cJ os ρ cs (ws.set j (a, e')) := by
  intro cs
  induction cs with
  | nil => intro ws j a k c e e' q h h2; simp at h2
  | cons b cs ih => intro ws j a k c e e' q h h2 hc; cases ws with
    | nil => exact q.elim
    | cons v vs =>
      cases j with
      | zero =>
        cases h
        cases h2
        exact ⟨⟨q.1.1, hc⟩, q.2⟩
      | succ j => exact ⟨q.1, ih q.2 h h2 hc⟩
theorem ab_as1_ok {a : ab_A} {r : List (Nat × ab_A)} (hr : ab_as1 pc' a = some r) (hG : ∀ q ∈ r, ab_Gd D cB cI cJ A H0 os ρ0 n rk z0 WW q.1 q.2)
    (rule : ∀ ls rest H locs ws b (j N : Nat) (f : Nat → Int32) (i x : Int32), va_P D nz_cl ws H → va_D A ws → va_S A H0 H locs → ws[j]? = some (b, .inl (cI, N, .inl f)) → vp_in i N → (∀ (H1 : Heap) (locs1 : List Loc), va_P D nz_cl (ws.set j (b, .inl (cI, N, .inl (upd f i.toNatClampNeg x)))) H1 → va_D A (ws.set j (b, .inl (cI, N, .inl (upd f i.toNatClampNeg x)))) → va_S A H0 H1 locs1 → WW pc' ls rest H1 locs1) → WW pc ls (.int x :: .int i :: .ref b :: rest) H locs) : ab_Gd D cB cI cJ A H0 os ρ0 n rk z0 WW pc a := by
  intro ρ ls stk ws H locs hS hz hP hD hS0
  unfold ab_as1 at hr
  split at hr
  · rename_i Γ lv ev e k st gh hp
    match stk, hS.2.2.1 with
    | v2 :: v0 :: v1 :: stk, ⟨⟨y, g0, g2⟩, ⟨x, h0, h2⟩, h1, h5⟩ =>
      have h1 : v1 = .ref (os k) := h1
      subst h1
      subst h0
      subst g0
      split at hr
      · rename_i j u hh
        obtain ⟨ee, e1, ⟨f, e2, e3⟩, e4⟩ := ab_hk_ok hS.2.2.2.2 hh
        subst e2
        split at hr
        · rename_i hc
          simp only [Bool.and_eq_true, Bool.not_eq_true'] at hc
          rw [hc.1.1] at e1
          obtain ⟨i1, i2, i3⟩ := ab_ix_ok hS.1 h2 hc.1.2
          have p1 := ab_pv_ok hS.1 (ab_sub_E g2 ab_cn_E) hc.2.1
          have p2 := ab_pv_ok hS.1 (ab_sub_E ab_cn_E g2) hc.2.2
          cases hr
          refine rule ls stk H locs ws _ j u.2.1 f x y hP hD hS0 e1 i1 (fun H1 locs1 hP1 hD1 hS1 => hG _ (List.mem_cons_self ..) ρ ls stk _ H1 locs1 ⟨hS.1, hS.2.1, h5, hS.2.2.2.1, ?_⟩ hz hP1 hD1 hS1)
          refine ab_hs_self hS.2.2.2.2 e1 e4 ⟨_, by rw [hc.1.1], fun q hq => ?_⟩
          unfold upd
          by_cases hqx : q = x.toNatClampNeg
          · rw [if_pos hqx]; omega
          · rw [if_neg hqx]; exact e3 q hq
        · cases hr
      · rename_i j es hh
        obtain ⟨ee, e1, ⟨f, e2, e3⟩, e4⟩ := ab_hk_ok hS.2.2.2.2 hh
        subst e2
        split at hr
        · rename_i c hc
          split at hr
          · rename_i hy
            cases hr
            have hlt := Nat.le_of_ble_eq_true hy
            have hx : x.toInt = (c : Int) := ab_ct_ok hS.1 h2 hc
            obtain ⟨i1, i2, i3⟩ := ab_vin (x := x) (N := es.length) (by omega) (by omega)
            have hcx : x.toNatClampNeg = c := by omega
            refine rule ls stk H locs ws _ j es.length f x y hP hD hS0 e1 i1 (fun H1 locs1 hP1 hD1 hS1 => hG _ (List.mem_cons_self ..) ρ ls stk _ H1 locs1 ⟨hS.1, hS.2.1, h5, hS.2.2.2.1, ?_⟩ hz hP1 hD1 hS1)
            have hcc : ab_c cB cI cJ os ρ (.inr (.inr (.inr (.inl (ab_set ev c es))))) (.inl (cI, es.length, .inl (upd f x.toNatClampNeg y))) := by
              refine ⟨_, by rw [ab_set_eq, List.length_set], fun q z hz => ?_⟩
              rw [ab_set_eq] at hz
              unfold upd
              rw [hcx]
              by_cases hqc : q = c
              · subst hqc
                rw [List.getElem?_set_self (by omega)] at hz
                cases hz
                rw [if_pos rfl]
                exact g2
              · rw [List.getElem?_set_ne (fun q' => hqc q'.symm)] at hz
                rw [if_neg hqc]
                exact e3 q z hz
            exact ab_hs_ok hcc hS.2.2.2.2 e1
          · cases hr
        · cases hr
      · rename_i j q hh
        obtain ⟨ee, e1, ⟨f, e2, e3⟩, e4⟩ := ab_hk_ok hS.2.2.2.2 hh
        subst e2
        split at hr
        · rename_i hc
          simp only [Bool.and_eq_true] at hc
          obtain ⟨i1, i2, i3⟩ := ab_ix_ok hS.1 h2 hc.1
          have p1 := ab_pv_ok hS.1 (ab_sub_E g2 ab_cn_E) hc.2.1
          have p2 := ab_pv_ok hS.1 (ab_sub_E ab_cn_E g2) hc.2.2
          have h2' : ab_E ρ e = some ((x.toNatClampNeg : Nat) : Int) := by rw [i3]; exact h2
          have hfb : ∀ j, j < q.1 → q.2.1 ≤ ((upd f x.toNatClampNeg y) j).toInt ∧ ((upd f x.toNatClampNeg y) j).toInt ≤ q.2.2.1 := by
            intro j hj
            unfold upd
            by_cases hjx : j = x.toNatClampNeg
            · rw [if_pos hjx]; omega
            · rw [if_neg hjx]; exact e3.1 j hj
          have hps : ∀ z ∈ ab_wp0 Γ (ab_kw e q.2.2.2.2.1) ev q.2.2.2.2.2, ab_q3 ρ q.1 (upd f x.toNatClampNeg y) z := by
            unfold ab_wp0
            split
            · rename_i v hv
              obtain ⟨j', k1, k2, k3⟩ := e3.2.2.1 _ (ab_kw_ok hv)
              dsimp only at k2 k3
              rw [h2'] at k2
              have hjj : x.toNatClampNeg = j' := by have := Option.some.inj k2; omega
              exact ab_wp_ok hS.1 i2 (by rw [hjj]; exact k3) g2 e3.2.2.2
            · intro z hz; cases hz
          unfold ab_wq at hr
          dsimp only at hr
          obtain ⟨Δ, d1, d2⟩ := ab_asl_ok hS.1 (ab_pfs_ok (fun j hj => (hfb j hj).2) hps)
          rw [d1] at hr
          cases hr
          refine rule ls stk H locs ws _ j q.1 f x y hP hD hS0 e1 i1 (fun H1 locs1 hP1 hD1 hS1 => hG _ (List.mem_cons_self ..) ρ ls stk _ H1 locs1 ⟨d2, hS.2.1, h5, hS.2.2.2.1, ?_⟩ hz hP1 hD1 hS1)
          have hcc : ab_c cB cI cJ os ρ (.inr (.inr (.inr (.inr (q.1, q.2.1, q.2.2.1, ab_wc Γ e ev q.2.2.2.1, [(e, ev)], ab_wp0 Γ (ab_kw e q.2.2.2.2.1) ev q.2.2.2.2.2))))) (.inl (cI, q.1, .inl (upd f x.toNatClampNeg y))) := by
            refine ⟨_, rfl, hfb, ab_wc_ok hS.1 h2' g2 e3.2.1, fun z hz => ?_, hps⟩
            rcases List.mem_cons.mp hz with rfl | hz
            · refine ⟨x.toNatClampNeg, i2, h2', ?_⟩
              unfold upd
              rw [if_pos rfl]
              exact g2
            · cases hz
          exact ab_hs_ok hcc hS.2.2.2.2 e1
        · cases hr
      · cases hr
  · cases hr
def ab_bs (pc' : Nat) (a : ab_A) : ab_O := match a with
  | (Γ, lv, .inr (.inl _) :: .inr (.inl e) :: .inl k :: st, gh, hp) => (match ab_hk k hp with
    | some (_, .inr (.inl u)) => (match (u.1 && ab_ix Γ e u.2.1) && (ab_le u.2.2.1 (-128) && ab_le 127 u.2.2.2) with
      | true => some [(pc', (Γ, lv, st, gh, hp))]
      | false => none)
    | _ => none)
  | _ => none
theorem ab_nar (x : Int32) : -128 ≤ (vp_nar .byte x).toInt ∧ (vp_nar .byte x).toInt ≤ 127 := ab_i2b x
theorem ab_bs_ok {a : ab_A} {r : List (Nat × ab_A)} (hr : ab_bs pc' a = some r) (hG : ∀ q ∈ r, ab_Gd D cB cI cJ A H0 os ρ0 n rk z0 WW q.1 q.2)
    (rule : ∀ ls rest H locs ws b (j N : Nat) (f : Nat → Int32) (i x : Int32), va_P D nz_cl ws H → va_D A ws → va_S A H0 H locs → ws[j]? = some (b, .inl (cB, N, .inl f)) → vp_in i N → (∀ (H1 : Heap) (locs1 : List Loc), va_P D nz_cl (ws.set j (b, .inl (cB, N, .inl (upd f i.toNatClampNeg (vp_nar .byte x))))) H1 → va_D A (ws.set j (b, .inl (cB, N, .inl (upd f i.toNatClampNeg (vp_nar .byte x))))) → va_S A H0 H1 locs1 → WW pc' ls rest H1 locs1) → WW pc ls (.int x :: .int i :: .ref b :: rest) H locs) : ab_Gd D cB cI cJ A H0 os ρ0 n rk z0 WW pc a := by
  intro ρ ls stk ws H locs hS hz hP hD hS0
  unfold ab_bs at hr
  split at hr
  · rename_i Γ lv ev e k st gh hp
    match stk, hS.2.2.1 with
    | v2 :: v0 :: v1 :: stk, ⟨⟨y, g0, g2⟩, ⟨x, h0, h2⟩, h1, h5⟩ =>
      have h1 : v1 = .ref (os k) := h1
      subst h1
      subst h0
      subst g0
      split at hr
      · rename_i j u hh
        obtain ⟨ee, e1, ⟨f, e2, e3⟩, e4⟩ := ab_hk_ok hS.2.2.2.2 hh
        subst e2
        split at hr
        · rename_i hc
          simp only [Bool.and_eq_true, ab_le_iff] at hc
          rw [hc.1.1] at e1
          obtain ⟨i1, i2, i3⟩ := ab_ix_ok hS.1 h2 hc.1.2
          have hn := ab_nar y
          cases hr
          refine rule ls stk H locs ws _ j u.2.1 f x y hP hD hS0 e1 i1 (fun H1 locs1 hP1 hD1 hS1 => hG _ (List.mem_cons_self ..) ρ ls stk _ H1 locs1 ⟨hS.1, hS.2.1, h5, hS.2.2.2.1, ?_⟩ hz hP1 hD1 hS1)
          refine ab_hs_self hS.2.2.2.2 e1 e4 ⟨_, by rw [hc.1.1], fun q hq => ?_⟩
          unfold upd
          by_cases hqx : q = x.toNatClampNeg
          · rw [if_pos hqx]; omega
          · rw [if_neg hqx]; exact e3 q hq
        · cases hr
      · cases hr
  · cases hr
def ab_ls1 (pc' : Nat) (a : ab_A) : ab_O := match a with
  | (Γ, lv, .inr (.inr (.inl _)) :: .inr (.inl e) :: .inl k :: st, gh, hp) => (match ab_hk k hp with
    | some (_, .inr (.inr (.inl N))) => (match ab_ix Γ e N with
      | true => some [(pc', (Γ, lv, st, gh, hp))]
      | false => none)
    | _ => none)
  | _ => none
theorem ab_ls1_ok {a : ab_A} {r : List (Nat × ab_A)} (hr : ab_ls1 pc' a = some r) (hG : ∀ q ∈ r, ab_Gd D cB cI cJ A H0 os ρ0 n rk z0 WW q.1 q.2)
    (rule : ∀ ls rest H locs ws b (j N : Nat) (f : Nat → Int64) (i : Int32) (x : Int64), va_P D nz_cl ws H → va_D A ws → va_S A H0 H locs → ws[j]? = some (b, .inl (cJ, N, .inr (.inl f))) → vp_in i N → (∀ (H1 : Heap) (locs1 : List Loc), va_P D nz_cl (ws.set j (b, .inl (cJ, N, .inr (.inl (vp_updL f i.toNatClampNeg x))))) H1 → va_D A (ws.set j (b, .inl (cJ, N, .inr (.inl (vp_updL f i.toNatClampNeg x))))) → va_S A H0 H1 locs1 → WW pc' ls rest H1 locs1) → WW pc ls (.long x :: .int i :: .ref b :: rest) H locs) : ab_Gd D cB cI cJ A H0 os ρ0 n rk z0 WW pc a := by
  intro ρ ls stk ws H locs hS hz hP hD hS0
  unfold ab_ls1 at hr
  split at hr
  · rename_i Γ lv ev e k st gh hp
    match stk, hS.2.2.1 with
    | v2 :: v0 :: v1 :: stk, ⟨⟨y, g0, g2⟩, ⟨x, h0, h2⟩, h1, h5⟩ =>
      have h1 : v1 = .ref (os k) := h1
      subst h1
      subst h0
      subst g0
      split at hr
      · rename_i j N hh
        obtain ⟨ee, e1, ⟨f, e2⟩, e4⟩ := ab_hk_ok hS.2.2.2.2 hh
        subst e2
        split at hr
        · rename_i hc
          obtain ⟨i1, i2, i3⟩ := ab_ix_ok hS.1 h2 hc
          cases hr
          refine rule ls stk H locs ws _ j N f x y hP hD hS0 e1 i1 (fun H1 locs1 hP1 hD1 hS1 => hG _ (List.mem_cons_self ..) ρ ls stk _ H1 locs1 ⟨hS.1, hS.2.1, h5, hS.2.2.2.1, ?_⟩ hz hP1 hD1 hS1)
          exact ab_hs_self hS.2.2.2.2 e1 e4 ⟨_, rfl⟩
        · cases hr
      · cases hr
  · cases hr
def ab_len1 (c : ab_Ac) : Option Nat := match c with
  | .inl _ => none
  | .inr (.inl u) => some u.2.1
  | .inr (.inr (.inl N)) => some N
  | .inr (.inr (.inr (.inl es))) => some es.length
  | .inr (.inr (.inr (.inr q))) => some q.1
def ab_ar (pc' : Nat) (a : ab_A) : ab_O := match a with
  | (Γ, lv, .inl k :: st, gh, hp) => (match ab_hk k hp with
    | some (_, c) => (match ab_len1 c with
      | some N => (match Nat.ble N 2147483647 with
        | true => some [(pc', (Γ, lv, .inr (.inl (ab_cn N)) :: st, gh, hp))]
        | false => none)
      | none => none)
    | _ => none)
  | _ => none
theorem ab_ar_ok {a : ab_A} {r : List (Nat × ab_A)} (hr : ab_ar pc' a = some r) (hG : ∀ q ∈ r, ab_Gd D cB cI cJ A H0 os ρ0 n rk z0 WW q.1 q.2)
    (rule : ∀ ls rest H locs ws b (j t : Nat) (x : ClassId × vp_A) (ty : FieldType), va_P D nz_cl ws H → ws[j]? = some (b, .inl x) → (nz_ty cB cI cJ)[t]? = some (x.1, ty) → WW pc' ls (.int (Int32.ofNat x.2.1) :: rest) H locs → WW pc ls (.ref b :: rest) H locs) : ab_Gd D cB cI cJ A H0 os ρ0 n rk z0 WW pc a := by
  intro ρ ls stk ws H locs hS hz hP hD hS0
  unfold ab_ar at hr
  split at hr
  · rename_i Γ lv k st gh hp
    match stk, hS.2.2.1 with
    | v1 :: stk, ⟨h1, h5⟩ =>
      have h1 : v1 = .ref (os k) := h1
      subst h1
      split at hr
      · rename_i j c hh
        split at hr
        · rename_i N hN
          split at hr
          · rename_i hle
            have hle := Nat.le_of_ble_eq_true hle
            cases hr
            obtain ⟨ee, e1, e2, e4⟩ := ab_hk_ok hS.2.2.2.2 hh
            have hx : ∃ (x : ClassId × vp_A) (t : Nat) (ty : FieldType), ee = .inl x ∧ (nz_ty cB cI cJ)[t]? = some (x.1, ty) ∧ x.2.1 = N := by
              match c, e2, hN with
              | .inr (.inl u), ⟨f, e2, _⟩, hN =>
                cases hN
                cases hu : u.1 with
                | true => rw [hu] at e2; exact ⟨_, 0, .byte, e2, rfl, rfl⟩
                | false => rw [hu] at e2; exact ⟨_, 1, .int, e2, rfl, rfl⟩
              | .inr (.inr (.inl N')), ⟨f, e2⟩, hN => cases hN; exact ⟨_, 2, .long, e2, rfl, rfl⟩
              | .inr (.inr (.inr (.inl es))), ⟨f, e2, _⟩, hN => cases hN; exact ⟨_, 1, .int, e2, rfl, rfl⟩
              | .inr (.inr (.inr (.inr q))), ⟨f, e2, _⟩, hN => cases hN; exact ⟨_, 1, .int, e2, rfl, rfl⟩
            obtain ⟨x, t, ty, x1, x2, x3⟩ := hx
            subst x1
            subst x3
            refine rule ls stk H locs ws _ j t x ty hP e1 x2 (hG _ (List.mem_cons_self ..) ρ ls (.int (Int32.ofNat x.2.1) :: stk) ws H locs (hS.grow ab_sub2.rf hS.1 ⟨⟨_, rfl, ?_⟩, h5⟩) hz hP hD hS0)
            rw [Int32.toInt_ofNat_of_lt (by omega)]
            exact ab_cn_E
          · cases hr
        · cases hr
      · cases hr
  · cases hr
end AAR
