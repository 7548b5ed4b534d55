/-! the operations on numbers -/
theorem ab_bm32 {v : Int} (h1 : ab_m32 ≤ v) (h2 : v ≤ ab_x32) : v.bmod (2 ^ 32) = v := by
  unfold ab_m32 at h1
  unfold ab_x32 at h2
  rw [Int.bmod_def]
  split <;> omega
theorem ab_bm64 {v : Int} (h1 : ab_m64 ≤ v) (h2 : v ≤ ab_x64) : v.bmod (2 ^ 64) = v := by
  unfold ab_m64 at h1
  unfold ab_x64 at h2
  rw [Int.bmod_def]
  split <;> omega
def ab_ct (Γ : ab_G) (e : ab_L) : Option Int := match ab_ieq (ab_lo Γ e) (ab_hi Γ e) with
  | true => some (ab_lo Γ e)
  | false => none
theorem ab_ct_ok {ρ : ab_R} {Γ : ab_G} {e : ab_L} {v c : Int} (h : ab_g ρ Γ) (q : ab_E ρ e = some v) (hc : ab_ct Γ e = some c) : v = c := by
  unfold ab_ct at hc
  split at hc
  · rename_i hq
    cases hc
    have := ab_ieq_iff hq
    have := ab_lo_ok h q
    have := ab_hi_ok h q
    omega
  · cases hc
section AOPS
variable {ρ : ab_R} {Γ : ab_G} {e1 e2 : ab_L}
def ab_iadd (Γ : ab_G) (e1 e2 : ab_L) : ab_G × ab_L := ab_w32 Γ (ab_add e1 e2)
theorem ab_iadd_ok {x y : Int32} (h : ab_g ρ Γ) (q1 : ab_E ρ e1 = some x.toInt) (q2 : ab_E ρ e2 = some y.toInt) : ab_ok ρ (ab_iadd Γ e1 e2) (x + y).toInt := ab_w32_ok h (ab_add_E q1 q2) (fun a b => by rw [Int32.toInt_add]; exact ab_bm32 a b)
def ab_isub (Γ : ab_G) (e1 e2 : ab_L) : ab_G × ab_L := ab_w32 Γ (ab_sub e1 e2)
theorem ab_isub_ok {x y : Int32} (h : ab_g ρ Γ) (q1 : ab_E ρ e1 = some x.toInt) (q2 : ab_E ρ e2 = some y.toInt) : ab_ok ρ (ab_isub Γ e1 e2) (x - y).toInt := ab_w32_ok h (ab_sub_E q1 q2) (fun a b => by rw [Int32.toInt_sub]; exact ab_bm32 a b)
def ab_imul (Γ : ab_G) (e1 e2 : ab_L) : ab_G × ab_L := match ab_ct Γ e2 with
  | some c => ab_w32 Γ (ab_mul c e1)
  | none => match ab_ct Γ e1 with
    | some c => ab_w32 Γ (ab_mul c e2)
    | none => ab_fv Γ ab_m32 ab_x32
theorem ab_imul_ok {x y : Int32} (h : ab_g ρ Γ) (q1 : ab_E ρ e1 = some x.toInt) (q2 : ab_E ρ e2 = some y.toInt) : ab_ok ρ (ab_imul Γ e1 e2) (x * y).toInt := by
  unfold ab_imul
  split
  · rename_i c hc
    refine ab_w32_ok h (ab_mul_E q1) (fun a b => ?_)
    have hy := ab_ct_ok h q2 hc
    rw [← hy] at a b ⊢
    rw [Int32.toInt_mul, Int.mul_comm x.toInt]
    exact ab_bm32 a b
  · split
    · rename_i c hc
      refine ab_w32_ok h (ab_mul_E q2) (fun a b => ?_)
      rw [Int32.toInt_mul]
      rw [← ab_ct_ok h q1 hc] at *
      exact ab_bm32 a b
    · exact ab_f32 h _
theorem ab_and32 {x y : Int32} (h : 0 ≤ y.toInt) : 0 ≤ (x &&& y).toInt ∧ (x &&& y).toInt ≤ y.toInt := by
  have e1 : ∀ z : Int32, z.toInt = z.toBitVec.toInt := fun _ => rfl
  rw [e1] at h
  rw [e1, e1, Int32.toBitVec_and]
  have hm : y.toBitVec.msb = false := by
    rw [BitVec.msb_eq_toInt]
    simp only [decide_eq_false_iff_not]
    omega
  have hm2 : (x.toBitVec &&& y.toBitVec).msb = false := by rw [BitVec.msb_and, hm, Bool.and_false]
  rw [BitVec.toInt_eq_toNat_of_msb hm2, BitVec.toInt_eq_toNat_of_msb hm, BitVec.toNat_and]
  have : x.toBitVec.toNat &&& y.toBitVec.toNat ≤ y.toBitVec.toNat := Nat.and_le_right
  omega
def ab_iand (Γ : ab_G) (e1 e2 : ab_L) : ab_G × ab_L := match ab_le 0 (ab_lo Γ e2) with
  | true => ab_fv Γ 0 (ab_hi Γ e2)
  | false => match ab_le 0 (ab_lo Γ e1) with
    | true => ab_fv Γ 0 (ab_hi Γ e1)
    | false => ab_fv Γ ab_m32 ab_x32
theorem ab_iand_ok {x y : Int32} (h : ab_g ρ Γ) (q1 : ab_E ρ e1 = some x.toInt) (q2 : ab_E ρ e2 = some y.toInt) : ab_ok ρ (ab_iand Γ e1 e2) (x &&& y).toInt := by
  have l1 := ab_lo_ok h q1
  have l2 := ab_lo_ok h q2
  have u1 := ab_hi_ok h q1
  have u2 := ab_hi_ok h q2
  unfold ab_iand
  split
  · rename_i hc
    rw [ab_le_iff] at hc
    have := ab_and32 (x := x) (y := y) (by omega)
    exact ab_fv_ok h (by omega) (by omega) (ab_i32t _)
  · split
    · rename_i hc
      rw [ab_le_iff] at hc
      have := ab_and32 (x := y) (y := x) (by omega)
      rw [Int32.and_comm]
      exact ab_fv_ok h (by omega) (by omega) (ab_i32t _)
    · exact ab_f32 h _
theorem ab_shl1 : ∀ k : Nat, k < 31 → ((1 : Int32) <<< (Int32.ofNat k &&& 31)).toInt = 2 ^ k := by decide
def ab_ishl (Γ : ab_G) (e1 e2 : ab_L) : ab_G × ab_L := match ab_ct Γ e1 with
  | some c => (match ab_ieq c 1 && (ab_le 0 (ab_lo Γ e2) && ab_le (ab_hi Γ e2) 30) with
    | true => ab_fv Γ 1 (2 ^ (ab_hi Γ e2).toNat)
    | false => ab_fv Γ ab_m32 ab_x32)
  | none => ab_fv Γ ab_m32 ab_x32
theorem ab_ishl_ok {x y : Int32} (h : ab_g ρ Γ) (q1 : ab_E ρ e1 = some x.toInt) (q2 : ab_E ρ e2 = some y.toInt) : ab_ok ρ (ab_ishl Γ e1 e2) (x <<< (y &&& 31)).toInt := by
  unfold ab_ishl
  split
  · rename_i c hc
    split
    · rename_i hd
      simp only [Bool.and_eq_true, ab_le_iff] at hd
      have h1 := ab_ct_ok h q1 hc
      rw [ab_ieq_iff hd.1] at h1
      have hx : x = 1 := Int32.toInt_inj.mp h1
      have l2 := ab_lo_ok h q2
      have u2 := ab_hi_ok h q2
      have hy : y = Int32.ofNat y.toInt.toNat := by
        rw [← Int32.toInt_inj, Int32.toInt_ofNat_of_lt (by omega)]
        omega
      have hs := ab_shl1 y.toInt.toNat (by omega)
      rw [← hy] at hs
      subst hx
      have p1 : (1 : Int) ≤ 2 ^ y.toInt.toNat := by
        have := Nat.one_le_two_pow (n := y.toInt.toNat)
        exact_mod_cast this
      have p2 : (2 : Int) ^ y.toInt.toNat ≤ 2 ^ (ab_hi Γ e2).toNat := by
        have := Nat.pow_le_pow_right (n := 2) (by decide) (show y.toInt.toNat ≤ (ab_hi Γ e2).toNat by omega)
        exact_mod_cast this
      exact ab_fv_ok h (by rw [hs]; exact p1) (by rw [hs]; exact p2) (ab_i32t _)
    · exact ab_f32 h _
  · exact ab_f32 h _
theorem ab_div32 {x y : Int32} (hx : 0 ≤ x.toInt) (hy : 1 ≤ y.toInt) : (x / y).toInt = x.toInt / y.toInt := by
  have h1 := ab_i32 x
  rw [Int32.toInt_div, Int.tdiv_eq_ediv_of_nonneg hx]
  have p1 := Int.ediv_le_self y.toInt hx
  have p2 := Int.ediv_nonneg hx (show 0 ≤ y.toInt by omega)
  unfold ab_m32 ab_x32 at h1
  exact ab_bm32 (by unfold ab_m32; omega) (by unfold ab_x32; omega)
theorem ab_div64 {x y : Int64} (hx : 0 ≤ x.toInt) (hy : 1 ≤ y.toInt) : (x / y).toInt = x.toInt / y.toInt := by
  have h1 := ab_i64 x
  rw [Int64.toInt_div, Int.tdiv_eq_ediv_of_nonneg hx]
  have p1 := Int.ediv_le_self y.toInt hx
  have p2 := Int.ediv_nonneg hx (show 0 ≤ y.toInt by omega)
  unfold ab_m64 ab_x64 at h1
  exact ab_bm64 (by unfold ab_m64; omega) (by unfold ab_x64; omega)
theorem ab_rem32 {x y : Int32} (hx : 0 ≤ x.toInt) (hy : 1 ≤ y.toInt) : (x - x / y * y).toInt = x.toInt % y.toInt := by
  have h1 := ab_i32 x
  have p0 := Int.mul_ediv_add_emod x.toInt y.toInt
  have p1 := Int.emod_nonneg x.toInt (show y.toInt ≠ 0 by omega)
  have p2 := Int.emod_lt_of_pos x.toInt (show 0 < y.toInt by omega)
  have p3 := Int.mul_nonneg (show 0 ≤ y.toInt by omega) (Int.ediv_nonneg hx (show 0 ≤ y.toInt by omega))
  rw [Int.mul_comm] at p0 p3
  unfold ab_m32 ab_x32 at h1
  have hm : (x / y * y).toInt = x.toInt / y.toInt * y.toInt := by
    rw [Int32.toInt_mul, ab_div32 hx hy]
    exact ab_bm32 (by unfold ab_m32; omega) (by unfold ab_x32; omega)
  rw [Int32.toInt_sub, hm, ab_bm32 (by unfold ab_m32; omega) (by unfold ab_x32; omega)]
  omega
theorem ab_rem64 {x y : Int64} (hx : 0 ≤ x.toInt) (hy : 1 ≤ y.toInt) : (x - x / y * y).toInt = x.toInt % y.toInt := by
  have h1 := ab_i64 x
  have p0 := Int.mul_ediv_add_emod x.toInt y.toInt
  have p1 := Int.emod_nonneg x.toInt (show y.toInt ≠ 0 by omega)
  have p2 := Int.emod_lt_of_pos x.toInt (show 0 < y.toInt by omega)
  have p3 := Int.mul_nonneg (show 0 ≤ y.toInt by omega) (Int.ediv_nonneg hx (show 0 ≤ y.toInt by omega))
  rw [Int.mul_comm] at p0 p3
  unfold ab_m64 ab_x64 at h1
  have hm : (x / y * y).toInt = x.toInt / y.toInt * y.toInt := by
    rw [Int64.toInt_mul, ab_div64 hx hy]
    exact ab_bm64 (by unfold ab_m64; omega) (by unfold ab_x64; omega)
  rw [Int64.toInt_sub, hm, ab_bm64 (by unfold ab_m64; omega) (by unfold ab_x64; omega)]
  omega
/-- 32 q + r, if it was asked for before -/
def ab_q32 (Γ : ab_G) (e : ab_L) : List ab_L → Option (Nat × Nat)
  | [] => none
  | f :: fs => match ab_sub e f with
    | (c0, [t, u]) => (match (ab_z c0 && (ab_ieq t.2 32 && ab_ieq u.2 1)) && (ab_any (fun h => ab_leq h (ab_mul (-1) f)) Γ.2.2.1 && (ab_le 0 (ab_bk u.1 Γ.2.1).1 && ab_le (ab_bk u.1 Γ.2.1).2 31)) with
      | true => some (t.1, u.1)
      | false => ab_q32 Γ e fs)
    | _ => ab_q32 Γ e fs
theorem ab_q32_ok {v : Int} {q r : Nat} {e : ab_L} (h : ab_g ρ Γ) (he : ab_E ρ e = some v) : ∀ {fs : List ab_L}, (∀ f ∈ fs, f ∈ Γ.2.2.1) → ab_q32 Γ e fs = some (q, r) → ∃ x y, ρ q = some x ∧ ρ r = some y ∧ v = 32 * x + y ∧ 0 ≤ y ∧ y ≤ 31 := by
  intro fs
  induction fs with
  | nil => intro _ hq; cases hq
  | cons f fs ih =>
    intro hm hq
    unfold ab_q32 at hq
    split at hq
    · rename_i c0 t u hs
      split at hq
      · rename_i hc
        simp only [Bool.and_eq_true, ab_le_iff] at hc
        obtain ⟨⟨z1, z2, z3⟩, z4, z5, z6⟩ := hc
        cases hq
        obtain ⟨w, f1, f2⟩ := h.2.2.2.1 f (hm f (List.mem_cons_self ..))
        obtain ⟨g, g1, g2⟩ := ab_any_iff z4
        obtain ⟨w2, g3, g4⟩ := h.2.2.2.1 g g1
        rw [ab_leq_iff g2, ab_mul_E f1] at g3
        cases g3
        have hd := ab_sub_E he f1
        rw [hs] at hd
        obtain ⟨s1, s2, s3⟩ := ab_E_iff.mp hd
        obtain ⟨x, x2, x3, x4, x5⟩ := ab_ev_cons.mp s2
        obtain ⟨y, y2, y3, y4, y5⟩ := ab_ev_cons.mp x4
        simp only [ab_ev, Option.some.injEq] at y4
        have b1 := ab_bk_ok y3 (h.2.1 _ _ y3) Γ.2.1 h.2.2.1
        rw [ab_ieq_iff z2] at x5
        rw [ab_ieq_iff z3] at y5
        rw [ab_z_iff] at z1
        dsimp only at s3
        exact ⟨x, y, x3, y3, by omega, by omega, by omega⟩
      · exact ih (fun f hf => hm f (List.mem_cons_of_mem _ hf)) hq
    · exact ih (fun f hf => hm f (List.mem_cons_of_mem _ hf)) hq
def ab_n32 (Γ : ab_G) (e : ab_L) : ab_G := (let h := ab_hi Γ e; let Δ := ab_fr (ab_fr Γ 0 (h / 32)) 0 (match ab_le h 31 with
    | true => h
    | false => 31); let f := ab_sub e (ab_add (ab_mul 32 (ab_vr Γ.1)) (ab_vr (Γ.1 + 1))); (Δ.1, Δ.2.1, f :: ab_mul (-1) f :: Δ.2.2.1, Δ.2.2.2))
theorem ab_n32_ok {v : Int} {e : ab_L} (h : ab_g ρ Γ) (he : ab_E ρ e = some v) (h0 : 0 ≤ v) (hx : v ≤ ab_x32) : ∃ ρ', ab_sub2 ρ ρ' ∧ ab_g ρ' (ab_n32 Γ e) ∧ ab_E ρ' (ab_vr Γ.1) = some (v / 32) ∧ ab_E ρ' (ab_vr (Γ.1 + 1)) = some (v % 32) := by
  have hh := ab_hi_ok h he
  unfold ab_x32 at hx
  obtain ⟨a1, a2, a3⟩ := ab_fr_ok (lo := 0) (hi := ab_hi Γ e / 32) (z := v / 32) h (by omega) (by omega) (by unfold ab_top; omega)
  obtain ⟨b1, b2, b3⟩ := ab_fr_ok (lo := 0) (hi := match ab_le (ab_hi Γ e) 31 with
    | true => ab_hi Γ e
    | false => 31) (z := v % 32) a2 (by omega) (by
      split
      · rename_i q; rw [ab_le_iff] at q; omega
      · omega) (by unfold ab_top; omega)
  have hf := ab_sub_E (ab_E_mono b1 (ab_E_mono a1 he)) (ab_add_E (ab_mul_E (c := 32) (ab_E_mono b1 a3)) b3)
  refine ⟨_, a1.tr b1, ⟨b2.1, b2.2.1, b2.2.2.1, ?_, b2.2.2.2.2⟩, ab_E_mono b1 a3, b3⟩
  intro c hc
  rcases List.mem_cons.mp hc with rfl | hc
  · exact ⟨_, hf, by omega⟩
  · rcases List.mem_cons.mp hc with rfl | hc
    · exact ⟨_, ab_mul_E hf, by omega⟩
    · exact b2.2.2.2.1 c hc
def ab_is32 (Γ : ab_G) (e1 e2 : ab_L) : Bool := match ab_ct Γ e2 with
  | some c => ab_ieq c 32 && ab_le 0 (ab_lo Γ e1)
  | none => false
theorem ab_is32_ok {x y : Int32} (h : ab_g ρ Γ) (q1 : ab_E ρ e1 = some x.toInt) (q2 : ab_E ρ e2 = some y.toInt) (hc : ab_is32 Γ e1 e2 = true) : y.toInt = 32 ∧ 0 ≤ x.toInt := by
  unfold ab_is32 at hc
  split at hc
  · rename_i c hct
    simp only [Bool.and_eq_true, ab_le_iff] at hc
    have := ab_ct_ok h q2 hct
    have := ab_ieq_iff hc.1
    have := ab_lo_ok h q1
    omega
  · cases hc
def ab_idiv (Γ : ab_G) (e1 e2 : ab_L) : ab_G × ab_L := match ab_is32 Γ e1 e2 with
  | true => (match ab_q32 Γ e1 Γ.2.2.1 with
    | some (q, _) => (Γ, ab_vr q)
    | none => (ab_n32 Γ e1, ab_vr Γ.1))
  | false => ab_fv Γ ab_m32 ab_x32
theorem ab_idiv_ok {x y : Int32} (h : ab_g ρ Γ) (q1 : ab_E ρ e1 = some x.toInt) (q2 : ab_E ρ e2 = some y.toInt) : ab_ok ρ (ab_idiv Γ e1 e2) (x / y).toInt := by
  unfold ab_idiv
  split
  · rename_i hc
    obtain ⟨hy, hx⟩ := ab_is32_ok h q1 q2 hc
    rw [ab_div32 hx (by omega), hy]
    split
    · rename_i q r hq
      obtain ⟨a, b, h1, h2, h3, h4, h5⟩ := ab_q32_ok h q1 (fun _ hf => hf) hq
      have : x.toInt / 32 = a := by omega
      rw [this]
      exact ab_ok.here h (ab_vr_E h1)
    · obtain ⟨ρ', h1, h2, h3, h4⟩ := ab_n32_ok h q1 hx (ab_i32 x).2
      exact ⟨ρ', h1, h2, h3⟩
  · exact ab_f32 h _
def ab_irem (Γ : ab_G) (e1 e2 : ab_L) : ab_G × ab_L := match ab_is32 Γ e1 e2 with
  | true => (match ab_q32 Γ e1 Γ.2.2.1 with
    | some (_, r) => (Γ, ab_vr r)
    | none => (ab_n32 Γ e1, ab_vr (Γ.1 + 1)))
  | false => ab_fv Γ ab_m32 ab_x32
theorem ab_irem_ok {x y : Int32} (h : ab_g ρ Γ) (q1 : ab_E ρ e1 = some x.toInt) (q2 : ab_E ρ e2 = some y.toInt) : ab_ok ρ (ab_irem Γ e1 e2) (x - x / y * y).toInt := by
  unfold ab_irem
  split
  · rename_i hc
    obtain ⟨hy, hx⟩ := ab_is32_ok h q1 q2 hc
    rw [ab_rem32 hx (by omega), hy]
    split
    · rename_i q r hq
      obtain ⟨a, b, h1, h2, h3, h4, h5⟩ := ab_q32_ok h q1 (fun _ hf => hf) hq
      have : x.toInt % 32 = b := by omega
      rw [this]
      exact ab_ok.here h (ab_vr_E h2)
    · obtain ⟨ρ', h1, h2, h3, h4⟩ := ab_n32_ok h q1 hx (ab_i32 x).2
      exact ⟨ρ', h1, h2, h4⟩
  · exact ab_f32 h _
def ab_ladd (Γ : ab_G) (e1 e2 : ab_L) : ab_G × ab_L := ab_w64 Γ (ab_add e1 e2)
theorem ab_ladd_ok {x y : Int64} (h : ab_g ρ Γ) (q1 : ab_E ρ e1 = some x.toInt) (q2 : ab_E ρ e2 = some y.toInt) : ab_ok ρ (ab_ladd Γ e1 e2) (x + y).toInt := ab_w64_ok h (ab_add_E q1 q2) (fun a b => by rw [Int64.toInt_add]; exact ab_bm64 a b)
def ab_lmul (Γ : ab_G) (e1 e2 : ab_L) : ab_G × ab_L := match ab_ct Γ e2 with
  | some c => ab_w64 Γ (ab_mul c e1)
  | none => match ab_ct Γ e1 with
    | some c => ab_w64 Γ (ab_mul c e2)
    | none => match ab_le 0 (ab_lo Γ e1) && (ab_le 0 (ab_lo Γ e2) && ab_le (ab_hi Γ e1 * ab_hi Γ e2) ab_x64) with
      | true => ab_fv Γ 0 (ab_hi Γ e1 * ab_hi Γ e2)
      | false => ab_fv Γ ab_m64 ab_x64
theorem ab_lmul_ok {x y : Int64} (h : ab_g ρ Γ) (q1 : ab_E ρ e1 = some x.toInt) (q2 : ab_E ρ e2 = some y.toInt) : ab_ok ρ (ab_lmul Γ e1 e2) (x * y).toInt := by
  unfold ab_lmul
  split
  · rename_i c hc
    refine ab_w64_ok h (ab_mul_E q1) (fun a b => ?_)
    have hy := ab_ct_ok h q2 hc
    rw [← hy] at a b ⊢
    rw [Int64.toInt_mul, Int.mul_comm x.toInt]
    exact ab_bm64 a b
  · split
    · rename_i c hc
      refine ab_w64_ok h (ab_mul_E q2) (fun a b => ?_)
      rw [Int64.toInt_mul]
      rw [← ab_ct_ok h q1 hc] at *
      exact ab_bm64 a b
    · split
      · rename_i hd
        simp only [Bool.and_eq_true, ab_le_iff] at hd
        have l1 := ab_lo_ok h q1
        have u1 := ab_hi_ok h q1
        have l2 := ab_lo_ok h q2
        have u2 := ab_hi_ok h q2
        have p1 : x.toInt * y.toInt ≤ ab_hi Γ e1 * ab_hi Γ e2 := Int.mul_le_mul u1 u2 (by omega) (by omega)
        have p2 : 0 ≤ x.toInt * y.toInt := Int.mul_nonneg (by omega) (by omega)
        have p3 : (x * y).toInt = x.toInt * y.toInt := by
          rw [Int64.toInt_mul]
          exact ab_bm64 (by unfold ab_m64; omega) (by omega)
        exact ab_fv_ok h (by omega) (by omega) (ab_i64t _)
      · exact ab_f64 h _
/-- a rest: with the bound by the divisor -/
def ab_lrem (Γ : ab_G) (e1 e2 : ab_L) : ab_G × ab_L := match ab_le 0 (ab_lo Γ e1) && ab_le 1 (ab_lo Γ e2) with
  | true => (let Δ := ab_fr Γ 0 (ab_hi Γ e2 - 1); ((Δ.1, Δ.2.1, ab_sub (ab_sub e2 (ab_cn 1)) (ab_vr Γ.1) :: Δ.2.2.1, Δ.2.2.2), ab_vr Γ.1))
  | false => ab_fv Γ ab_m64 ab_x64
theorem ab_lrem_ok {x y : Int64} (h : ab_g ρ Γ) (q1 : ab_E ρ e1 = some x.toInt) (q2 : ab_E ρ e2 = some y.toInt) : ab_ok ρ (ab_lrem Γ e1 e2) (x - x / y * y).toInt := by
  unfold ab_lrem
  split
  · rename_i hd
    simp only [Bool.and_eq_true, ab_le_iff] at hd
    have l1 := ab_lo_ok h q1
    have l2 := ab_lo_ok h q2
    have u2 := ab_hi_ok h q2
    have p1 := Int.emod_nonneg x.toInt (show y.toInt ≠ 0 by omega)
    have p2 := Int.emod_lt_of_pos x.toInt (show 0 < y.toInt by omega)
    have p3 := ab_rem64 (x := x) (y := y) (by omega) (by omega)
    obtain ⟨r1, r2, r3⟩ := ab_fr_ok (lo := 0) (hi := ab_hi Γ e2 - 1) h (show 0 ≤ (x - x / y * y).toInt by omega) (by omega) (ab_i64t _)
    refine ⟨_, r1, ⟨r2.1, r2.2.1, r2.2.2.1, ?_, r2.2.2.2.2⟩, r3⟩
    intro c hm
    rcases List.mem_cons.mp hm with rfl | hm
    · exact ⟨_, ab_sub_E (ab_sub_E (ab_E_mono r1 q2) ab_cn_E) r3, by omega⟩
    · exact r2.2.2.2.1 c hm
  · exact ab_f64 h _

theorem ab_ush8 (x : Int64) : ((x.toUInt64 >>> ((8 : Int32).toInt64.toUInt64 &&& Int64.toUInt64 63)).toInt64).toInt = (x.toUInt64.toNat / 256 : Nat) := by
  have h8 : ((8 : Int32).toInt64.toUInt64 &&& Int64.toUInt64 63) = 8 := by decide
  rw [h8]
  have hn : (x.toUInt64 >>> 8).toNat = x.toUInt64.toNat / 256 := by
    rw [UInt64.toNat_shiftRight]
    show x.toUInt64.toNat >>> (8 % 64) = _
    rw [Nat.shiftRight_eq_div_pow]
  have hlt := UInt64.toNat_lt x.toUInt64
  have hm : ((x.toUInt64 >>> 8).toBitVec).msb = false := by
    rw [BitVec.msb_eq_decide]
    simp only [decide_eq_false_iff_not]
    show ¬ 2 ^ (64 - 1) ≤ (x.toUInt64 >>> 8).toNat
    rw [hn]
    omega
  show ((x.toUInt64 >>> 8).toBitVec).toInt = _
  rw [BitVec.toInt_eq_toNat_of_msb hm]
  show (((x.toUInt64 >>> 8).toNat : Nat) : Int) = _
  rw [hn]
theorem ab_unat {x : Int64} (h : 0 ≤ x.toInt) : (x.toUInt64.toNat : Int) = x.toInt := by
  have hm : x.toBitVec.msb = false := by
    rw [BitVec.msb_eq_toInt]
    simp only [decide_eq_false_iff_not]
    show ¬ x.toInt < 0
    omega
  show (x.toBitVec.toNat : Int) = x.toBitVec.toInt
  rw [BitVec.toInt_eq_toNat_of_msb hm]
def ab_lushr (Γ : ab_G) (e1 e2 : ab_L) : ab_G × ab_L := match ab_ct Γ e2 with
  | some c => (match ab_ieq c 8 with
    | true => (match ab_le 0 (ab_lo Γ e1) with
      | true => ab_fv Γ 0 (ab_hi Γ e1 / 256)
      | false => ab_fv Γ 0 72057594037927935)
    | false => ab_fv Γ ab_m64 ab_x64)
  | none => ab_fv Γ ab_m64 ab_x64
theorem ab_lushr_ok {x : Int64} {y : Int32} (h : ab_g ρ Γ) (q1 : ab_E ρ e1 = some x.toInt) (q2 : ab_E ρ e2 = some y.toInt) : ab_ok ρ (ab_lushr Γ e1 e2) ((x.toUInt64 >>> (y.toInt64.toUInt64 &&& Int64.toUInt64 63)).toInt64).toInt := by
  unfold ab_lushr
  split
  · rename_i c hc
    split
    · rename_i hd
      have h1 := ab_ct_ok h q2 hc
      rw [ab_ieq_iff hd] at h1
      have hy : y = 8 := Int32.toInt_inj.mp h1
      subst hy
      have hu := ab_ush8 x
      have hlt := UInt64.toNat_lt x.toUInt64
      split
      · rename_i hl
        rw [ab_le_iff] at hl
        have l1 := ab_lo_ok h q1
        have u1 := ab_hi_ok h q1
        have hx := ab_unat (x := x) (by omega)
        exact ab_fv_ok h (by omega) (by omega) (ab_i64t _)
      · exact ab_fv_ok h (by omega) (by omega) (ab_i64t _)
    · exact ab_f64 h _
  · exact ab_f64 h _
theorem ab_i2b (x : Int32) : -128 ≤ x.toInt8.toInt32.toInt ∧ x.toInt8.toInt32.toInt ≤ 127 := by
  rw [Int8.toInt_toInt32]
  have h1 := Int8.le_toInt x.toInt8
  have h2 := Int8.toInt_lt x.toInt8
  omega
theorem ab_i2b_ok {x : Int32} (h : ab_g ρ Γ) : ab_ok ρ (ab_fv Γ (-128) 127) x.toInt8.toInt32.toInt := ab_fv_ok h (ab_i2b x).1 (ab_i2b x).2 (ab_i32t _)
end AOPS
