/-! from the checker's yes to a contract, and from a contract to a link -/
def ab_par : Nat → List ab_W → List (Nat × ab_W)
  | _, [] => []
  | i, w :: ws => (i, w) :: ab_par (match ab_cat w with
    | true => i + 2
    | false => i + 1) ws
theorem ab_par_ok {os : Nat → Nat} {ρ : ab_R} : ∀ {pa : List ab_W} {av : List Value} {i : Nat}, ab_ws os ρ pa av → ab_ls os ρ (ab_par i pa) (lv_args i av) := by
  intro pa
  induction pa with
  | nil => intro av i h; cases av with
    | nil => trivial
    | cons v av => exact h.elim
  | cons w pa ih => intro av i h; cases av with
    | nil => exact h.elim
    | cons v av =>
      have h1 := ab_cat_ok h.1
      refine ⟨⟨rfl, h.1⟩, ?_⟩
      cases hc : ab_cat w with
      | true =>
        rw [hc] at h1
        rw [if_pos (eq_of_beq h1)]
        exact ih h.2
      | false =>
        rw [hc] at h1
        rw [if_neg (by rw [ab_cat1 h1]; decide)]
        exact ih h.2
theorem ab_slen {os : Nat → Nat} {ρ : ab_R} : ∀ {pa : List ab_W} {av : List Value}, ab_ws os ρ pa av → (lg_sl av).length = ab_c8 pa := by
  intro pa
  induction pa with
  | nil => intro av h; cases av with
    | nil => rfl
    | cons v av => exact h.elim
  | cons w pa ih => intro av h; cases av with
    | nil => exact h.elim
    | cons v av =>
      have h1 := ab_cat_ok h.1
      have h2 := ih h.2
      have e : lg_sl (v :: av) = (if v.category = 2 then [.val v, .second] else [.val v]) ++ lg_sl av := rfl
      rw [e, List.length_append, h2, ab_c8]
      cases hc : ab_cat w with
      | true => rw [hc] at h1; rw [if_pos (eq_of_beq h1)]; rfl
      | false => rw [hc] at h1; rw [if_neg (by rw [ab_cat1 h1]; decide)]; rfl
def ab_gh0 : ab_B → List (Nat × ab_L)
  | [] => []
  | t :: ts => (t.1, ab_vr t.1) :: ab_gh0 ts
theorem ab_gh0_ok {ρ : ab_R} : ∀ {bd : ab_B}, (∀ t ∈ bd, ∃ v, ρ t.1 = some v ∧ t.2.1 ≤ v ∧ v ≤ t.2.2) → ∀ q ∈ ab_gh0 bd, ∃ v, ρ q.1 = some v ∧ ab_E ρ q.2 = some v := by
  intro bd
  induction bd with
  | nil => intro _ q hq; cases hq
  | cons t bd ih =>
    intro h q hq
    rcases List.mem_cons.mp hq with rfl | hq
    · obtain ⟨v, v1, -⟩ := h t (List.mem_cons_self ..)
      exact ⟨v, v1, ab_vr_E v1⟩
    · exact ih (fun t ht => h t (List.mem_cons_of_mem _ ht)) q hq
def ab_a0 (K : ab_K) : ab_A := (K.2.1, ab_par 0 K.1, [], ab_gh0 K.2.1.2.1, K.2.2.1)
/-- what is checked of a method: the entry and every known place -/
def ab_cks (C : ab_C) : List ab_N → List (List Nat) → Bool
  | [], [] => true
  | nd :: ns, ts :: tss => (ab_le 0 (ab_lo nd.2.1.1 nd.2.2) && ab_ck C nd.2.2 ts [(nd.1, nd.2.1)]) && ab_cks C ns tss
  | _, _ => false
theorem ab_cks_ok {C : ab_C} : ∀ {ns : List ab_N} {tss : List (List Nat)}, ab_cks C ns tss = true → ∀ nd ∈ ns, ab_le 0 (ab_lo nd.2.1.1 nd.2.2) = true ∧ ∃ ts, ab_ck C nd.2.2 ts [(nd.1, nd.2.1)] = true := by
  intro ns
  induction ns with
  | nil => intro tss _ nd hn; cases hn
  | cons n ns ih => intro tss h nd hn; cases tss with
    | nil => cases h
    | cons ts tss =>
      simp only [ab_cks, Bool.and_eq_true] at h
      rcases List.mem_cons.mp hn with rfl | hn
      · exact ⟨h.1.1, ts, h.1.2⟩
      · exact ih h.2 nd hn
def ab_mok (C : ab_C) (nL : Nat) (N0 : Nat) (t0 : List Nat) (tss : List (List Nat)) : Bool := (Nat.ble (ab_c8 C.2.2.2.2.1.1) nL && ab_ck C (ab_cn N0) t0 [(0, ab_a0 C.2.2.2.2.1)]) && ab_cks C C.2.2.2.1 tss
def ab_cod (cc : ByteArray) (C : List (Nat × Instr × Nat)) : Prop := ∀ q ∈ C, decode cc q.1 = .ok (q.2.1, q.2.2) ∧ ab_lenOK q.2.1 q.2.2 = true
abbrev ab_rm (f k : Nat) : Room := { frames := f, cells := 0, slots := 0, locals := k }
theorem ab_run {p : Program} {l : Launch} {e : Env} {R : Room} {s : State} {m : MethodId} {args : Array Value} {below : List Frame} {meth : Method} {c : Code} {cells slots : Nat} {Q : State → Prop} {D : va_G} {cB cI cJ : ClassId} {cc : ByteArray} {n : Nat} {rt : Option FieldType} {own : String} {A : Nat → Prop} {os : Nat → Nat} {ρ0 : ab_R} {C : ab_C} {N0 : Nat} {t0 : List Nat} {tss : List (List Nat)} {av : List Value} {ws : va_W} {ls : Array Slot} {locs : List Loc}
    (hcode : ab_cod cc C.1) (hT : ab_Tok own n C.2.1) (hlk : ∀ lk ∈ C.2.2.1, ab_LK l D cB cI cJ R own lk) (hok : ab_mok C n N0 t0 tss = true) (h4 : C.2.2.2.2.2 ≠ 4)
    (C0 : nz_Cx p s m args meth c cc n rt own D cB cI cJ) (hA : ∀ q : Nat, s.heap.size ≤ q → A q) (hcs : cells ≤ R.cells ∧ slots ≤ R.slots) (h0 : ab_pre cB cI cJ os ρ0 C.2.2.2.2.1 av ws) (hl : lv_has ls n (lv_args 0 av)) (hP : va_P D nz_cl ws s.heap) (hD : va_D A ws) (hS : va_S A s.heap s.heap locs)
    (hret : ∀ (pc : Nat) (i : Instr) (ls : Array Slot) (stk : List Value) (w : va_W) (H : Heap) (locs : List Loc), decode cc pc = .ok (i, 1) → ab_rto C.2.2.2.2.2 i stk → va_P D nz_cl w H → va_D A w → va_S A s.heap H locs → ab_po cB cI cJ os ρ0 C.2.2.2.2.1 stk w → W p l e R s m args below meth c H locs cells slots Q (F0 m pc ls stk)) :
    W p l e R s m args below meth c s.heap locs cells slots Q (F0 m 0 ls []) := by
  simp only [ab_mok, Bool.and_eq_true] at hok
  have hn := ab_nodes C0 hA hcs hcode hT hlk h0.1 (fun q => absurd q h4) hret (ab_cks_ok hok.2) N0
  have hg := ab_ck_ok (rk := ab_cn N0) (z0 := N0) C0 hA hcs hcode hT hlk h0.1 (fun q => absurd q h4) hn hret t0 _ hok.1.2 _ (List.mem_cons_self ..)
  exact hg ρ0 ls [] ws s.heap locs ⟨h0.1, ⟨_, hl, ab_par_ok h0.2.1⟩, trivial, ab_gh0_ok h0.1.2.2.1, h0.2.2⟩ ab_cn_E hP hD hS
section ACON
variable {l : Launch} {D : va_G} {cB cI cJ : ClassId} {y : MethodName} {cc : ByteArray} {n f k : Nat} {C : ab_C} {N0 : Nat} {t0 : List Nat} {tss : List (List Nat)}
theorem ab_Ki (hy : plainName y.cls = true) (hcode : ab_cod cc C.1) (hT : ab_Tok y.cls n C.2.1) (hlk : ∀ lk ∈ C.2.2.1, ab_LK l D cB cI cJ (ab_rm f k) y.cls lk) (hk : C.2.2.2.2.2 = 0) (hok : ab_mok C n N0 t0 tss = true) (os : Nat → Nat) (ρ : ab_R) (av : List Value) (ws : va_W) (h0 : ab_pre cB cI cJ os ρ C.2.2.2.2.1 av ws) : nz_Ci l D cB cI cJ nz_x0 y cc n (some .int) (ab_rm f k) av ws (fun z w => ab_po cB cI cJ os ρ C.2.2.2.2.1 [.int z] w) := by
  refine nz_Ci.mk hy (by
    have h1 := ab_slen h0.2.1
    simp only [ab_mok, Bool.and_eq_true] at hok
    have h2 := Nat.le_of_ble_eq_true hok.1.1
    omega) ?_
  intro p e s m below meth c A ls C0 hnm hP hD hS hA hX hl
  refine ab_run hcode hT hlk hok (by rw [hk]; decide) C0 hA ⟨Nat.le_refl _, Nat.le_refl _⟩ h0 hl hP hD hS ?_
  intro pc i ls stk w H locs hdg hr hP hD hS hpo
  rw [hk] at hr
  obtain ⟨rfl, z, rfl⟩ := hr
  exact nz_reti C0 hP hD hS hpo hdg
theorem ab_Kz (hy : plainName y.cls = true) (hcode : ab_cod cc C.1) (hT : ab_Tok y.cls n C.2.1) (hlk : ∀ lk ∈ C.2.2.1, ab_LK l D cB cI cJ (ab_rm f k) y.cls lk) (hk : C.2.2.2.2.2 = 1) (hok : ab_mok C n N0 t0 tss = true) (os : Nat → Nat) (ρ : ab_R) (av : List Value) (ws : va_W) (h0 : ab_pre cB cI cJ os ρ C.2.2.2.2.1 av ws) : nz_Ci l D cB cI cJ nz_x0 y cc n (some .boolean) (ab_rm f k) av ws (fun z w => ab_po cB cI cJ os ρ C.2.2.2.2.1 [.int z] w) := by
  refine nz_Ci.mk hy (by
    have h1 := ab_slen h0.2.1
    simp only [ab_mok, Bool.and_eq_true] at hok
    have h2 := Nat.le_of_ble_eq_true hok.1.1
    omega) ?_
  intro p e s m below meth c A ls C0 hnm hP hD hS hA hX hl
  refine ab_run hcode hT hlk hok (by rw [hk]; decide) C0 hA ⟨Nat.le_refl _, Nat.le_refl _⟩ h0 hl hP hD hS ?_
  intro pc i ls stk w H locs hdg hr hP hD hS hpo
  rw [hk] at hr
  obtain ⟨rfl, z, rfl, hz⟩ := hr
  exact nz_retz C0 (by rcases hz with rfl | rfl <;> rfl) hP hD hS hpo hdg
theorem ab_Kl (hy : plainName y.cls = true) (hcode : ab_cod cc C.1) (hT : ab_Tok y.cls n C.2.1) (hlk : ∀ lk ∈ C.2.2.1, ab_LK l D cB cI cJ (ab_rm f k) y.cls lk) (hk : C.2.2.2.2.2 = 2) (hok : ab_mok C n N0 t0 tss = true) (os : Nat → Nat) (ρ : ab_R) (av : List Value) (ws : va_W) (h0 : ab_pre cB cI cJ os ρ C.2.2.2.2.1 av ws) : nz_Cl l D cB cI cJ nz_x0 y cc n (some .long) (ab_rm f k) av ws (fun z w => ab_po cB cI cJ os ρ C.2.2.2.2.1 [.long z] w) := by
  refine nz_Cl.mk hy (by
    have h1 := ab_slen h0.2.1
    simp only [ab_mok, Bool.and_eq_true] at hok
    have h2 := Nat.le_of_ble_eq_true hok.1.1
    omega) ?_
  intro p e s m below meth c A ls C0 hnm hP hD hS hA hX hl
  refine ab_run hcode hT hlk hok (by rw [hk]; decide) C0 hA ⟨Nat.le_refl _, Nat.le_refl _⟩ h0 hl hP hD hS ?_
  intro pc i ls stk w H locs hdg hr hP hD hS hpo
  rw [hk] at hr
  obtain ⟨rfl, z, rfl⟩ := hr
  exact nz_retl C0 hP hD hS hpo hdg
theorem ab_Kv (hy : plainName y.cls = true) (hcode : ab_cod cc C.1) (hT : ab_Tok y.cls n C.2.1) (hlk : ∀ lk ∈ C.2.2.1, ab_LK l D cB cI cJ (ab_rm f k) y.cls lk) (hk : C.2.2.2.2.2 = 3) (hok : ab_mok C n N0 t0 tss = true) (os : Nat → Nat) (ρ : ab_R) (av : List Value) (ws : va_W) (h0 : ab_pre cB cI cJ os ρ C.2.2.2.2.1 av ws) : nz_Cv l D cB cI cJ nz_x0 y cc n none (ab_rm f k) av ws (fun w => ab_po cB cI cJ os ρ C.2.2.2.2.1 [] w) := by
  refine nz_Cv.mk hy (by
    have h1 := ab_slen h0.2.1
    simp only [ab_mok, Bool.and_eq_true] at hok
    have h2 := Nat.le_of_ble_eq_true hok.1.1
    omega) ?_
  intro p e s m below meth c A ls C0 hnm hP hD hS hA hX hl
  refine ab_run hcode hT hlk hok (by rw [hk]; decide) C0 hA ⟨Nat.le_refl _, Nat.le_refl _⟩ h0 hl hP hD hS ?_
  intro pc i ls stk w H locs hdg hr hP hD hS hpo
  rw [hk] at hr
  obtain ⟨rfl, rfl⟩ := hr
  exact nz_retv C0 hP hD hS hpo hdg
end ACON
theorem ab_wslen {os : Nat → Nat} {ρ : ab_R} : ∀ {as : List ab_W} {vs : List Value}, ab_ws os ρ as vs → vs.length = as.length := by
  intro as
  induction as with
  | nil => intro vs q; cases vs with
    | nil => rfl
    | cons v vs => exact q.elim
  | cons a as ih => intro vs q; cases vs with
    | nil => exact q.elim
    | cons v vs => simp [ih q.2]
section ALNK
variable {l : Launch} {D : va_G} {cB cI cJ : ClassId} {y : MethodName} {cc1 : ByteArray} {n1 f1 k1 f2 k2 cells2 slots2 : Nat} {r1 : Option FieldType} {K : ab_K} {own host : String} {idx : Nat}
theorem ab_lkVi {k0 ci N1 : Nat} {T1 : u_T} {pa : List ab_W} {fs : List ab_V} {hp : ab_Hp} (hpa : K.1 = .inl k0 :: pa) (hhp : K.2.2.1 = (k0, .inl (ci, fs)) :: hp) (hci : nz_cl[ci]? = some (y.cls, T1, N1)) (hM : ∀ (os : Nat → Nat) (ρ : ab_R) (av : List Value) (ws : va_W), ab_pre cB cI cJ os ρ K av ws → nz_Ci l D cB cI cJ nz_x0 y cc1 n1 r1 (ab_rm f1 k1) av ws (fun z w => ab_po cB cI cJ os ρ K [.int z] w)) (hw : nz_wV own idx y cc1 n1 r1 pa.length) (hR : f1 + 1 ≤ f2 ∧ 8 + (n1 + 11) + k1 ≤ k2) : ab_LK l D cB cI cJ { frames := f2, cells := cells2, slots := slots2, locals := k2 } own (idx, true, K) := by
  intro p e s m args below meth c cc n rt A Q cells slots pc os ρ ls As rest ws wc wr isC isR H locs C0 hls hP hD hS hA hC hRr hnC hnR hdis hpre hcat hdg h1 h2 kk
  have hpre' := hpre
  obtain ⟨hg, ha, hh⟩ := hpre'
  have ha : ab_ws os ρ K.1 As := ha
  have hh : ab_h cB cI cJ os ρ K.2.2.1 wc := hh
  rw [hpa] at ha
  rw [hhp] at hh
  match As, ha, wc, hh, hC, hpre with
  | v :: As, ⟨hv, ha⟩, q :: wc, ⟨⟨hq, vs, he, _⟩, _⟩, hC, hpre =>
    have hv : v = .ref (os k0) := hv
    subst hv
    obtain ⟨q1, q2⟩ := q
    dsimp only at hq he
    subst hq
    subst he
    have hlen : As.length = pa.length := ab_wslen ha
    rw [List.reverse_cons, List.append_assoc]
    exact nz_calVi C0 (hM os ρ _ _ hpre) hw hlen nz_xb0 hR hls hP hD hS hA isC isR hC hRr hnC hnR hdis hci rfl (fun _ _ _ => trivial) rfl hcat hdg ⟨h1, h2⟩ (fun z u H1 locs1 hp hP1 hD1 hS1 => kk _ u H1 locs1 hp hP1 hD1 hS1)
theorem ab_lkVl {k0 ci N1 : Nat} {T1 : u_T} {pa : List ab_W} {fs : List ab_V} {hp : ab_Hp} (hpa : K.1 = .inl k0 :: pa) (hhp : K.2.2.1 = (k0, .inl (ci, fs)) :: hp) (hci : nz_cl[ci]? = some (y.cls, T1, N1)) (hM : ∀ (os : Nat → Nat) (ρ : ab_R) (av : List Value) (ws : va_W), ab_pre cB cI cJ os ρ K av ws → nz_Cl l D cB cI cJ nz_x0 y cc1 n1 r1 (ab_rm f1 k1) av ws (fun z w => ab_po cB cI cJ os ρ K [.long z] w)) (hw : nz_wV own idx y cc1 n1 r1 pa.length) (hR : f1 + 1 ≤ f2 ∧ 8 + (n1 + 11) + k1 ≤ k2) : ab_LK l D cB cI cJ { frames := f2, cells := cells2, slots := slots2, locals := k2 } own (idx, true, K) := by
  intro p e s m args below meth c cc n rt A Q cells slots pc os ρ ls As rest ws wc wr isC isR H locs C0 hls hP hD hS hA hC hRr hnC hnR hdis hpre hcat hdg h1 h2 kk
  have hpre' := hpre
  obtain ⟨hg, ha, hh⟩ := hpre'
  have ha : ab_ws os ρ K.1 As := ha
  have hh : ab_h cB cI cJ os ρ K.2.2.1 wc := hh
  rw [hpa] at ha
  rw [hhp] at hh
  match As, ha, wc, hh, hC, hpre with
  | v :: As, ⟨hv, ha⟩, q :: wc, ⟨⟨hq, vs, he, _⟩, _⟩, hC, hpre =>
    have hv : v = .ref (os k0) := hv
    subst hv
    obtain ⟨q1, q2⟩ := q
    dsimp only at hq he
    subst hq
    subst he
    have hlen : As.length = pa.length := ab_wslen ha
    rw [List.reverse_cons, List.append_assoc]
    exact nz_calVl C0 (hM os ρ _ _ hpre) hw hlen nz_xb0 hR hls hP hD hS hA isC isR hC hRr hnC hnR hdis hci rfl (fun _ _ _ => trivial) rfl hcat hdg ⟨h1, h2⟩ (fun z u H1 locs1 hp hP1 hD1 hS1 => kk _ u H1 locs1 hp hP1 hD1 hS1)
theorem ab_lkVv {k0 ci N1 : Nat} {T1 : u_T} {pa : List ab_W} {fs : List ab_V} {hp : ab_Hp} (hpa : K.1 = .inl k0 :: pa) (hhp : K.2.2.1 = (k0, .inl (ci, fs)) :: hp) (hci : nz_cl[ci]? = some (y.cls, T1, N1)) (hM : ∀ (os : Nat → Nat) (ρ : ab_R) (av : List Value) (ws : va_W), ab_pre cB cI cJ os ρ K av ws → nz_Cv l D cB cI cJ nz_x0 y cc1 n1 r1 (ab_rm f1 k1) av ws (fun w => ab_po cB cI cJ os ρ K [] w)) (hw : nz_wV own idx y cc1 n1 r1 pa.length) (hR : f1 + 1 ≤ f2 ∧ 8 + (n1 + 11) + k1 ≤ k2) : ab_LK l D cB cI cJ { frames := f2, cells := cells2, slots := slots2, locals := k2 } own (idx, true, K) := by
  intro p e s m args below meth c cc n rt A Q cells slots pc os ρ ls As rest ws wc wr isC isR H locs C0 hls hP hD hS hA hC hRr hnC hnR hdis hpre hcat hdg h1 h2 kk
  have hpre' := hpre
  obtain ⟨hg, ha, hh⟩ := hpre'
  have ha : ab_ws os ρ K.1 As := ha
  have hh : ab_h cB cI cJ os ρ K.2.2.1 wc := hh
  rw [hpa] at ha
  rw [hhp] at hh
  match As, ha, wc, hh, hC, hpre with
  | v :: As, ⟨hv, ha⟩, q :: wc, ⟨⟨hq, vs, he, _⟩, _⟩, hC, hpre =>
    have hv : v = .ref (os k0) := hv
    subst hv
    obtain ⟨q1, q2⟩ := q
    dsimp only at hq he
    subst hq
    subst he
    have hlen : As.length = pa.length := ab_wslen ha
    rw [List.reverse_cons, List.append_assoc]
    exact nz_calVv C0 (hM os ρ _ _ hpre) hw hlen nz_xb0 hR hls hP hD hS hA isC isR hC hRr hnC hnR hdis hci rfl (fun _ _ _ => trivial) rfl hcat hdg ⟨h1, h2⟩ (fun u H1 locs1 hp hP1 hD1 hS1 => kk _ u H1 locs1 hp hP1 hD1 hS1)
theorem ab_lkSi (hM : ∀ (os : Nat → Nat) (ρ : ab_R) (av : List Value) (ws : va_W), ab_pre cB cI cJ os ρ K av ws → nz_Ci l D cB cI cJ nz_x0 y cc1 n1 r1 (ab_rm f1 k1) av ws (fun z w => ab_po cB cI cJ os ρ K [.int z] w)) (hw : nz_wS own idx y cc1 n1 r1 K.1.length) (hR : f1 + 1 ≤ f2 ∧ 8 + (n1 + 11) + k1 ≤ k2) : ab_LK l D cB cI cJ { frames := f2, cells := cells2, slots := slots2, locals := k2 } own (idx, false, K) := by
  intro p e s m args below meth c cc n rt A Q cells slots pc os ρ ls As rest ws wc wr isC isR H locs C0 hls hP hD hS hA hC hRr hnC hnR hdis hpre hcat hdg h1 h2 kk
  have hlen : As.length = K.1.length := ab_wslen hpre.2.1
  exact nz_calSi C0 (hM os ρ _ _ hpre) hw hlen nz_xb0 hR hls hP hD hS hA isC isR hC hRr hnC hnR hdis (fun _ _ _ => trivial) rfl hcat hdg ⟨h1, h2⟩ (fun z u H1 locs1 hp hP1 hD1 hS1 => kk _ u H1 locs1 hp hP1 hD1 hS1)
theorem ab_lkSl (hM : ∀ (os : Nat → Nat) (ρ : ab_R) (av : List Value) (ws : va_W), ab_pre cB cI cJ os ρ K av ws → nz_Cl l D cB cI cJ nz_x0 y cc1 n1 r1 (ab_rm f1 k1) av ws (fun z w => ab_po cB cI cJ os ρ K [.long z] w)) (hw : nz_wS own idx y cc1 n1 r1 K.1.length) (hR : f1 + 1 ≤ f2 ∧ 8 + (n1 + 11) + k1 ≤ k2) : ab_LK l D cB cI cJ { frames := f2, cells := cells2, slots := slots2, locals := k2 } own (idx, false, K) := by
  intro p e s m args below meth c cc n rt A Q cells slots pc os ρ ls As rest ws wc wr isC isR H locs C0 hls hP hD hS hA hC hRr hnC hnR hdis hpre hcat hdg h1 h2 kk
  have hlen : As.length = K.1.length := ab_wslen hpre.2.1
  exact nz_calSl C0 (hM os ρ _ _ hpre) hw hlen nz_xb0 hR hls hP hD hS hA isC isR hC hRr hnC hnR hdis (fun _ _ _ => trivial) rfl hcat hdg ⟨h1, h2⟩ (fun z u H1 locs1 hp hP1 hD1 hS1 => kk _ u H1 locs1 hp hP1 hD1 hS1)
theorem ab_lkSv (hM : ∀ (os : Nat → Nat) (ρ : ab_R) (av : List Value) (ws : va_W), ab_pre cB cI cJ os ρ K av ws → nz_Cv l D cB cI cJ nz_x0 y cc1 n1 r1 (ab_rm f1 k1) av ws (fun w => ab_po cB cI cJ os ρ K [] w)) (hw : nz_wS own idx y cc1 n1 r1 K.1.length) (hR : f1 + 1 ≤ f2 ∧ 8 + (n1 + 11) + k1 ≤ k2) : ab_LK l D cB cI cJ { frames := f2, cells := cells2, slots := slots2, locals := k2 } own (idx, false, K) := by
  intro p e s m args below meth c cc n rt A Q cells slots pc os ρ ls As rest ws wc wr isC isR H locs C0 hls hP hD hS hA hC hRr hnC hnR hdis hpre hcat hdg h1 h2 kk
  have hlen : As.length = K.1.length := ab_wslen hpre.2.1
  exact nz_calSv C0 (hM os ρ _ _ hpre) hw hlen nz_xb0 hR hls hP hD hS hA isC isR hC hRr hnC hnR hdis (fun _ _ _ => trivial) rfl hcat hdg ⟨h1, h2⟩ (fun u H1 locs1 hp hP1 hD1 hS1 => kk _ u H1 locs1 hp hP1 hD1 hS1)
theorem ab_lkSNi (hM : ∀ (os : Nat → Nat) (ρ : ab_R) (av : List Value) (ws : va_W), ab_pre cB cI cJ os ρ K av ws → nz_Ci l D cB cI cJ nz_x0 y cc1 n1 r1 (ab_rm f1 k1) av ws (fun z w => ab_po cB cI cJ os ρ K [.int z] w)) (hw : nz_wSN own idx y host cc1 n1 r1 K.1.length) (hR : f1 + 1 ≤ f2 ∧ 8 + (n1 + 11) + k1 ≤ k2) : ab_LK l D cB cI cJ { frames := f2, cells := cells2, slots := slots2, locals := k2 } own (idx, false, K) := by
  intro p e s m args below meth c cc n rt A Q cells slots pc os ρ ls As rest ws wc wr isC isR H locs C0 hls hP hD hS hA hC hRr hnC hnR hdis hpre hcat hdg h1 h2 kk
  have hlen : As.length = K.1.length := ab_wslen hpre.2.1
  exact nz_calSNi C0 (hM os ρ _ _ hpre) hw hlen nz_xb0 hR hls hP hD hS hA isC isR hC hRr hnC hnR hdis (fun _ _ _ => trivial) rfl hcat hdg ⟨h1, h2⟩ (fun z u H1 locs1 hp hP1 hD1 hS1 => kk _ u H1 locs1 hp hP1 hD1 hS1)
theorem ab_lkSNl (hM : ∀ (os : Nat → Nat) (ρ : ab_R) (av : List Value) (ws : va_W), ab_pre cB cI cJ os ρ K av ws → nz_Cl l D cB cI cJ nz_x0 y cc1 n1 r1 (ab_rm f1 k1) av ws (fun z w => ab_po cB cI cJ os ρ K [.long z] w)) (hw : nz_wSN own idx y host cc1 n1 r1 K.1.length) (hR : f1 + 1 ≤ f2 ∧ 8 + (n1 + 11) + k1 ≤ k2) : ab_LK l D cB cI cJ { frames := f2, cells := cells2, slots := slots2, locals := k2 } own (idx, false, K) := by
  intro p e s m args below meth c cc n rt A Q cells slots pc os ρ ls As rest ws wc wr isC isR H locs C0 hls hP hD hS hA hC hRr hnC hnR hdis hpre hcat hdg h1 h2 kk
  have hlen : As.length = K.1.length := ab_wslen hpre.2.1
  exact nz_calSNl C0 (hM os ρ _ _ hpre) hw hlen nz_xb0 hR hls hP hD hS hA isC isR hC hRr hnC hnR hdis (fun _ _ _ => trivial) rfl hcat hdg ⟨h1, h2⟩ (fun z u H1 locs1 hp hP1 hD1 hS1 => kk _ u H1 locs1 hp hP1 hD1 hS1)
end ALNK
