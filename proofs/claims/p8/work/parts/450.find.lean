/-! the model's find, by hand: who was found from whom is a tree with places in line -/
def fi_lo (e : ab_L) : Bool := e.2.all (fun t => Nat.ble 4 t.1)
theorem fi_ev {ρ ρ' : ab_R} (h : ∀ k, 4 ≤ k → ρ k = ρ' k) : ∀ {ts : List (Nat × Int)}, ts.all (fun t => Nat.ble 4 t.1) = true → ab_ev ρ ts = ab_ev ρ' ts := by
  intro ts
  induction ts with
  | nil => intro _; rfl
  | cons t ts ih =>
    intro hc
    simp only [List.all_cons, Bool.and_eq_true] at hc
    simp only [ab_ev]
    rw [h t.1 (Nat.le_of_ble_eq_true hc.1), ih hc.2]
theorem fi_E {ρ ρ' : ab_R} (h : ∀ k, 4 ≤ k → ρ k = ρ' k) {e : ab_L} (hc : fi_lo e = true) : ab_E ρ e = ab_E ρ' e := by
  unfold ab_E
  rw [fi_ev h hc]
def fi_v (w : ab_V) : Bool := match w with
  | none => true
  | some (.inl _) => true
  | some (.inr (.inl e)) => fi_lo e
  | some (.inr (.inr (.inl e))) => fi_lo e
  | some (.inr (.inr (.inr e))) => fi_lo e
theorem fi_vok {os : Nat → Nat} {ρ ρ' : ab_R} (h : ∀ k, 4 ≤ k → ρ k = ρ' k) {w : ab_V} {v : Value} (hc : fi_v w = true) (hv : ab_v os ρ w v) : ab_v os ρ' w v := by
  match w, hc, hv with
  | none, _, _ => trivial
  | some (.inl k), _, hv => exact hv
  | some (.inr (.inl e)), hc, ⟨z, h1, h2⟩ => exact ⟨z, h1, by rw [← fi_E h hc]; exact h2⟩
  | some (.inr (.inr (.inl e))), hc, ⟨z, h1, h2⟩ => exact ⟨z, h1, by rw [← fi_E h hc]; exact h2⟩
  | some (.inr (.inr (.inr e))), hc, ⟨z, d, h1, h2, h3⟩ => exact ⟨z, d, h1, by rw [← fi_E h hc]; exact h2, h3⟩
theorem fi_vs {os : Nat → Nat} {ρ ρ' : ab_R} (h : ∀ k, 4 ≤ k → ρ k = ρ' k) : ∀ {as : List ab_V} {vs : List Value}, as.all fi_v = true → ab_vs os ρ as vs → ab_vs os ρ' as vs := by
  intro as
  induction as with
  | nil => intro vs _ hv; cases vs with
    | nil => trivial
    | cons v vs => exact hv.elim
  | cons a as ih => intro vs hc hv; cases vs with
    | nil => exact hv.elim
    | cons v vs =>
      simp only [List.all_cons, Bool.and_eq_true] at hc
      exact ⟨fi_vok h hc.1 hv.1, ih hc.2 hv.2⟩
def fi_c (c : ab_Ac) : Bool := match c with
  | .inl o => o.2.all fi_v
  | .inr (.inl _) => true
  | .inr (.inr (.inl _)) => true
  | _ => false
theorem fi_cok {cB cI cJ : ClassId} {os : Nat → Nat} {ρ ρ' : ab_R} (h : ∀ k, 4 ≤ k → ρ k = ρ' k) {c : ab_Ac} {e : va_E} (hc : fi_c c = true) (hv : ab_c cB cI cJ os ρ c e) : ab_c cB cI cJ os ρ' c e := by
  match c, hc, hv with
  | .inl o, hc, ⟨vs, h1, h2⟩ => exact ⟨vs, h1, fi_vs h hc h2⟩
  | .inr (.inl u), _, hv => exact hv
  | .inr (.inr (.inl N)), _, hv => exact hv
theorem fi_h {cB cI cJ : ClassId} {os : Nat → Nat} {ρ ρ' : ab_R} (h : ∀ k, 4 ≤ k → ρ k = ρ' k) : ∀ {cs : ab_Hp} {ws : va_W}, cs.all (fun c => fi_c c.2) = true → ab_h cB cI cJ os ρ cs ws → ab_h cB cI cJ os ρ' cs ws := by
  intro cs
  induction cs with
  | nil => intro ws _ hv; cases ws with
    | nil => trivial
    | cons v vs => exact hv.elim
  | cons c cs ih => intro ws hc hv; cases ws with
    | nil => exact hv.elim
    | cons v vs =>
      simp only [List.all_cons, Bool.and_eq_true] at hc
      exact ⟨⟨hv.1.1, fi_cok h hc.1 hv.1.2⟩, ih hc.2 hv.2⟩
theorem fi_len {cB cI cJ : ClassId} {os : Nat → Nat} {ρ : ab_R} : ∀ {cs : ab_Hp} {ws : va_W}, ab_h cB cI cJ os ρ cs ws → ws.length = cs.length := by
  intro cs
  induction cs with
  | nil => intro ws hv; cases ws with
    | nil => rfl
    | cons v vs => exact hv.elim
  | cons c cs ih => intro ws hv; cases ws with
    | nil => exact hv.elim
    | cons v vs => simp [ih hv.2]
theorem fi_split {cB cI cJ : ClassId} {os : Nat → Nat} {ρ : ab_R} : ∀ {cs ds : ab_Hp} {ws : va_W}, ab_h cB cI cJ os ρ (cs ++ ds) ws → ∃ w1 w2, ws = w1 ++ w2 ∧ ab_h cB cI cJ os ρ cs w1 ∧ ab_h cB cI cJ os ρ ds w2 := by
  intro cs
  induction cs with
  | nil => intro ds ws h; exact ⟨[], ws, rfl, trivial, h⟩
  | cons c cs ih => intro ds ws h; cases ws with
    | nil => exact h.elim
    | cons v vs =>
      obtain ⟨w1, w2, h1, h2, h3⟩ := ih h.2
      exact ⟨v :: w1, w2, by rw [h1]; rfl, ⟨h.1, h2⟩, h3⟩
theorem fi_rg {α : Type} : ∀ (B A : List α), (List.range' A.length B.length).map (fun i => (A ++ B)[i]?) = B.map some := by
  intro B
  induction B with
  | nil => intro A; rfl
  | cons b B ih =>
    intro A
    have h := ih (A ++ [b])
    rw [List.length_append, List.append_assoc] at h
    simp only [List.length_cons, List.range'_succ, List.map_cons]
    have e0 : (A ++ b :: B)[A.length]? = some b := by
      rw [List.getElem?_append_right (Nat.le_refl _), Nat.sub_self]
      rfl
    rw [e0]
    exact congrArg (List.cons (some b)) h
theorem fi_rg0 {α : Type} (A B : List α) : (List.range' 0 A.length).map (fun i => (A ++ B)[i]?) = A.map some := by
  have h := fi_rg A ([] : List α)
  rw [← h]
  apply List.map_congr_left
  intro i hi
  have hi := (List.mem_range'_1.mp hi).2
  simp only [List.nil_append]
  rw [List.getElem?_append_left (by simpa using hi)]
/-- the tree -/
def fi_I (f g : Nat → Int32) (r n : Nat) : Prop := (∀ j, j < 12 → -1 ≤ (f j).toInt ∧ (f j).toInt ≤ 11) ∧ (∀ j, j < 12 → 0 ≤ (g j).toInt ∧ (g j).toInt ≤ 11) ∧ r < 12 ∧ (f r).toInt = r ∧ (n : Int) + ab_cn1 f 12 = 12 ∧ ∃ pos : Nat → Nat, (∀ b, b < 12 → 0 ≤ (f b).toInt → pos b < n ∧ 0 ≤ (f (f b).toInt.toNat).toInt ∧ (b ≠ r → pos (f b).toInt.toNat < pos b)) ∧ (∀ j, j < n → 0 ≤ (f (g j).toInt.toNat).toInt ∧ pos (g j).toInt.toNat = j)
theorem fi_neg1 {f : Nat → Int32} : ∀ {n : Nat}, (∀ j, j < n → (f j).toInt < 0) → ab_cn1 f n = n := by
  intro n
  induction n with
  | zero => intro _; rfl
  | succ n ih =>
    intro h
    unfold ab_cn1
    rw [ih (fun j hj => h j (by omega)), if_pos (h n (by omega))]
    omega
theorem fi_pos1 {f : Nat → Int32} {b n : Nat} (hb : b < n) (h : (f b).toInt < 0) : 1 ≤ ab_cn1 f n := by
  have h1 := ab_cn1_u f b 0 n
  have h2 := (ab_cn1_b (upd f b 0) n).1
  rw [if_pos hb, if_pos h, if_neg (by decide)] at h1
  omega
theorem fi_init {f g : Nat → Int32} {x : Int32} {r : Nat} (hx : x.toInt = r) (hr : r < 12) (hf : ∀ j, j < 12 → (f j).toInt = -1) (hg : ∀ j, j < 12 → 0 ≤ (g j).toInt ∧ (g j).toInt ≤ 11) : fi_I (upd f r x) (upd g 0 x) r 1 := by
  have e1 : ∀ j, j < 12 → 0 ≤ (upd f r x j).toInt → j = r := by
    intro j hj h
    unfold upd at h
    by_cases hjr : j = r
    · exact hjr
    · rw [if_neg hjr, hf j hj] at h; omega
  have e2 : upd f r x r = x := by unfold upd; rw [if_pos rfl]
  have e3 : upd g 0 x 0 = x := by unfold upd; rw [if_pos rfl]
  refine ⟨fun j hj => ?_, fun j hj => ?_, hr, by rw [e2]; exact hx, ?_, fun _ => 0, fun b hb h => ?_, fun j hj => ?_⟩
  · unfold upd
    by_cases hjr : j = r
    · rw [if_pos hjr]; omega
    · rw [if_neg hjr, hf j hj]; omega
  · unfold upd
    by_cases hj0 : j = 0
    · rw [if_pos hj0]; omega
    · rw [if_neg hj0]; exact hg j hj
  · have h1 := ab_cn1_u f r x 12
    have h2 := fi_neg1 (f := f) (n := 12) (fun j hj => by rw [hf j hj]; decide)
    rw [if_pos hr, if_neg (by omega), if_pos (by rw [hf r hr]; decide)] at h1
    omega
  · have hb := e1 b hb h
    subst hb
    refine ⟨Nat.one_pos, ?_, fun q => absurd rfl q⟩
    rw [e2, hx, Int.toNat_natCast, e2]
    omega
  · have hj0 : j = 0 := by omega
    subst hj0
    rw [e3, hx, Int.toNat_natCast, e2]
    exact ⟨by omega, rfl⟩
theorem fi_step {f g : Nat → Int32} {r n i b : Nat} {x : Int32} (h : fi_I f g r n) (hi : i < n) (hb : b < 12) (hx : x.toInt = b) (hn : (f b).toInt < 0) : n < 12 ∧ fi_I (upd f b (g i)) (upd g n x) r (n + 1) := by
  obtain ⟨h1, h2, h3, h4, h5, pos, h6, h7⟩ := h
  have c1 := fi_pos1 hb hn
  have c0 := ab_cn1_u f b (g i) 12
  have hn12 : n < 12 := by omega
  have hgi := h2 i (by omega)
  have hfg := h7 i hi
  have hne : ∀ y : Nat, 0 ≤ (f y).toInt → y ≠ b := fun y hy q => by rw [q] at hy; omega
  have eb : upd f b (g i) b = g i := by unfold upd; rw [if_pos rfl]
  have en : ∀ y : Nat, y ≠ b → upd f b (g i) y = f y := fun y q => by unfold upd; rw [if_neg q]
  have gn : upd g n x n = x := by unfold upd; rw [if_pos rfl]
  have gm : ∀ y : Nat, y ≠ n → upd g n x y = g y := fun y q => by unfold upd; rw [if_neg q]
  obtain ⟨pos', pb, pn⟩ : ∃ pos' : Nat → Nat, pos' b = n ∧ ∀ y, y ≠ b → pos' y = pos y := ⟨fun y => if y = b then n else pos y, if_pos rfl, fun y h => if_neg h⟩
  refine ⟨hn12, fun j hj => ?_, fun j hj => ?_, h3, ?_, ?_, pos', fun y hy hp => ?_, fun j hj => ?_⟩
  · by_cases hjb : j = b
    · rw [hjb, eb]; omega
    · rw [en j hjb]; exact h1 j hj
  · by_cases hjn : j = n
    · rw [hjn, gn]; omega
    · rw [gm j hjn]; exact h2 j hj
  · rw [en r (hne r (by omega))]; exact h4
  · rw [if_pos hb, if_neg (by omega), if_pos hn] at c0
    omega
  · by_cases hyb : y = b
    · subst hyb
      have hgy := hne _ hfg.1
      rw [eb, en _ hgy]
      refine ⟨by rw [pb]; omega, hfg.1, fun _ => ?_⟩
      rw [pb, pn _ hgy, hfg.2]
      exact hi
    · rw [en y hyb] at hp
      obtain ⟨k1, k2, k3⟩ := h6 y hy hp
      have hfy := hne _ k2
      rw [en y hyb, en _ hfy]
      refine ⟨by rw [pn _ hyb]; omega, k2, fun q => ?_⟩
      rw [pn _ hyb, pn _ hfy]
      exact k3 q
  · by_cases hjn : j = n
    · subst hjn
      rw [gn, hx, Int.toNat_natCast, eb, pb]
      exact ⟨hgi.1, rfl⟩
    · have hj' : j < n := by omega
      obtain ⟨k1, k2⟩ := h7 j hj'
      have hgj := hne _ k1
      rw [gm j hjn, en _ hgj, pn _ hgj]
      exact ⟨k1, k2⟩
theorem fi_nx {f g : Nat → Int32} {r n k : Nat} (h : fi_I f g r n) (hk : k < 12) (hf : 0 ≤ (f k).toInt) : True ∧ (f k).toInt.toNat < 12 ∧ 0 ≤ (f (f k).toInt.toNat).toInt := by
  obtain ⟨h1, h2, h3, h4, h5, pos, h6, h7⟩ := h
  have := h1 k hk
  exact ⟨trivial, by omega, (h6 k hk hf).2.1⟩
theorem d_Mo_find_0 : decode b_Mo_find 0 = .ok (.iconst 0, 1) := by decide +kernel
theorem d_Mo_find_1 : decode b_Mo_find 1 = .ok (.istore 5, 2) := by decide +kernel
theorem d_Mo_find_3 : decode b_Mo_find 3 = .ok (.iload 5, 2) := by decide +kernel
theorem d_Mo_find_5 : decode b_Mo_find 5 = .ok (.bipush 12, 2) := by decide +kernel
theorem d_Mo_find_7 : decode b_Mo_find 7 = .ok (.if_icmp .ge 17, 3) := by decide +kernel
theorem d_Mo_find_10 : decode b_Mo_find 10 = .ok (.aload_n 0, 1) := by decide +kernel
theorem d_Mo_find_11 : decode b_Mo_find 11 = .ok (.getfield 130, 3) := by decide +kernel
theorem d_Mo_find_14 : decode b_Mo_find 14 = .ok (.iload 5, 2) := by decide +kernel
theorem d_Mo_find_16 : decode b_Mo_find 16 = .ok (.iconst (-1), 1) := by decide +kernel
theorem d_Mo_find_17 : decode b_Mo_find 17 = .ok (.iastore, 1) := by decide +kernel
theorem d_Mo_find_18 : decode b_Mo_find 18 = .ok (.iinc 5 1, 3) := by decide +kernel
theorem d_Mo_find_21 : decode b_Mo_find 21 = .ok (.goto (-18), 3) := by decide +kernel
theorem d_Mo_find_24 : decode b_Mo_find 24 = .ok (.aload_n 0, 1) := by decide +kernel
theorem d_Mo_find_25 : decode b_Mo_find 25 = .ok (.getfield 130, 3) := by decide +kernel
theorem d_Mo_find_28 : decode b_Mo_find 28 = .ok (.iload_n 1, 1) := by decide +kernel
theorem d_Mo_find_29 : decode b_Mo_find 29 = .ok (.iload_n 1, 1) := by decide +kernel
theorem d_Mo_find_30 : decode b_Mo_find 30 = .ok (.iastore, 1) := by decide +kernel
theorem d_Mo_find_31 : decode b_Mo_find 31 = .ok (.aload_n 0, 1) := by decide +kernel
theorem d_Mo_find_32 : decode b_Mo_find 32 = .ok (.getfield 133, 3) := by decide +kernel
theorem d_Mo_find_35 : decode b_Mo_find 35 = .ok (.iconst 0, 1) := by decide +kernel
theorem d_Mo_find_36 : decode b_Mo_find 36 = .ok (.iload_n 1, 1) := by decide +kernel
theorem d_Mo_find_37 : decode b_Mo_find 37 = .ok (.iastore, 1) := by decide +kernel
theorem d_Mo_find_38 : decode b_Mo_find 38 = .ok (.iconst 1, 1) := by decide +kernel
theorem d_Mo_find_39 : decode b_Mo_find 39 = .ok (.istore 5, 2) := by decide +kernel
theorem d_Mo_find_41 : decode b_Mo_find 41 = .ok (.iconst 0, 1) := by decide +kernel
theorem d_Mo_find_42 : decode b_Mo_find 42 = .ok (.istore 6, 2) := by decide +kernel
theorem d_Mo_find_44 : decode b_Mo_find 44 = .ok (.iload 6, 2) := by decide +kernel
theorem d_Mo_find_46 : decode b_Mo_find 46 = .ok (.iload 5, 2) := by decide +kernel
theorem d_Mo_find_48 : decode b_Mo_find 48 = .ok (.if_icmp .ge 90, 3) := by decide +kernel
theorem d_Mo_find_51 : decode b_Mo_find 51 = .ok (.iconst 0, 1) := by decide +kernel
theorem d_Mo_find_52 : decode b_Mo_find 52 = .ok (.istore 7, 2) := by decide +kernel
theorem d_Mo_find_54 : decode b_Mo_find 54 = .ok (.iload 7, 2) := by decide +kernel
theorem d_Mo_find_56 : decode b_Mo_find 56 = .ok (.aload_n 0, 1) := by decide +kernel
theorem d_Mo_find_57 : decode b_Mo_find 57 = .ok (.getfield 33, 3) := by decide +kernel
theorem d_Mo_find_60 : decode b_Mo_find 60 = .ok (.aload_n 0, 1) := by decide +kernel
theorem d_Mo_find_61 : decode b_Mo_find 61 = .ok (.getfield 240, 3) := by decide +kernel
theorem d_Mo_find_64 : decode b_Mo_find 64 = .ok (.iaload, 1) := by decide +kernel
theorem d_Mo_find_65 : decode b_Mo_find 65 = .ok (.if_icmp .ge 67, 3) := by decide +kernel
theorem d_Mo_find_68 : decode b_Mo_find 68 = .ok (.aload_n 0, 1) := by decide +kernel
theorem d_Mo_find_69 : decode b_Mo_find 69 = .ok (.getfield 130, 3) := by decide +kernel
theorem d_Mo_find_72 : decode b_Mo_find 72 = .ok (.iload 7, 2) := by decide +kernel
theorem d_Mo_find_74 : decode b_Mo_find 74 = .ok (.iaload, 1) := by decide +kernel
theorem d_Mo_find_75 : decode b_Mo_find 75 = .ok (.ifCond .ge 51, 3) := by decide +kernel
theorem d_Mo_find_78 : decode b_Mo_find 78 = .ok (.aload_n 0, 1) := by decide +kernel
theorem d_Mo_find_79 : decode b_Mo_find 79 = .ok (.aload_n 0, 1) := by decide +kernel
theorem d_Mo_find_80 : decode b_Mo_find 80 = .ok (.getfield 133, 3) := by decide +kernel
theorem d_Mo_find_83 : decode b_Mo_find 83 = .ok (.iload 6, 2) := by decide +kernel
theorem d_Mo_find_85 : decode b_Mo_find 85 = .ok (.iaload, 1) := by decide +kernel
theorem d_Mo_find_86 : decode b_Mo_find 86 = .ok (.iload 7, 2) := by decide +kernel
theorem d_Mo_find_88 : decode b_Mo_find 88 = .ok (.iload_n 3, 1) := by decide +kernel
theorem d_Mo_find_89 : decode b_Mo_find 89 = .ok (.iload 4, 2) := by decide +kernel
theorem d_Mo_find_91 : decode b_Mo_find 91 = .ok (.invokevirtual 417, 3) := by decide +kernel
theorem d_Mo_find_94 : decode b_Mo_find 94 = .ok (.ifCond .ne 6, 3) := by decide +kernel
theorem d_Mo_find_97 : decode b_Mo_find 97 = .ok (.goto 29, 3) := by decide +kernel
theorem d_Mo_find_100 : decode b_Mo_find 100 = .ok (.aload_n 0, 1) := by decide +kernel
theorem d_Mo_find_101 : decode b_Mo_find 101 = .ok (.getfield 130, 3) := by decide +kernel
theorem d_Mo_find_104 : decode b_Mo_find 104 = .ok (.iload 7, 2) := by decide +kernel
theorem d_Mo_find_106 : decode b_Mo_find 106 = .ok (.aload_n 0, 1) := by decide +kernel
theorem d_Mo_find_107 : decode b_Mo_find 107 = .ok (.getfield 133, 3) := by decide +kernel
theorem d_Mo_find_110 : decode b_Mo_find 110 = .ok (.iload 6, 2) := by decide +kernel
theorem d_Mo_find_112 : decode b_Mo_find 112 = .ok (.iaload, 1) := by decide +kernel
theorem d_Mo_find_113 : decode b_Mo_find 113 = .ok (.iastore, 1) := by decide +kernel
theorem d_Mo_find_114 : decode b_Mo_find 114 = .ok (.aload_n 0, 1) := by decide +kernel
theorem d_Mo_find_115 : decode b_Mo_find 115 = .ok (.getfield 133, 3) := by decide +kernel
theorem d_Mo_find_118 : decode b_Mo_find 118 = .ok (.iload 5, 2) := by decide +kernel
theorem d_Mo_find_120 : decode b_Mo_find 120 = .ok (.iload 7, 2) := by decide +kernel
theorem d_Mo_find_122 : decode b_Mo_find 122 = .ok (.iastore, 1) := by decide +kernel
theorem d_Mo_find_123 : decode b_Mo_find 123 = .ok (.iinc 5 1, 3) := by decide +kernel
theorem d_Mo_find_126 : decode b_Mo_find 126 = .ok (.iinc 7 1, 3) := by decide +kernel
theorem d_Mo_find_129 : decode b_Mo_find 129 = .ok (.goto (-75), 3) := by decide +kernel
theorem d_Mo_find_132 : decode b_Mo_find 132 = .ok (.iinc 6 1, 3) := by decide +kernel
theorem d_Mo_find_135 : decode b_Mo_find 135 = .ok (.goto (-91), 3) := by decide +kernel
theorem d_Mo_find_138 : decode b_Mo_find 138 = .ok (.aload_n 0, 1) := by decide +kernel
theorem d_Mo_find_139 : decode b_Mo_find 139 = .ok (.getfield 130, 3) := by decide +kernel
theorem d_Mo_find_142 : decode b_Mo_find 142 = .ok (.iload_n 2, 1) := by decide +kernel
theorem d_Mo_find_143 : decode b_Mo_find 143 = .ok (.iaload, 1) := by decide +kernel
theorem d_Mo_find_144 : decode b_Mo_find 144 = .ok (.ifCond .ge 5, 3) := by decide +kernel
theorem d_Mo_find_147 : decode b_Mo_find 147 = .ok (.iconst (-1), 1) := by decide +kernel
theorem d_Mo_find_148 : decode b_Mo_find 148 = .ok (.ireturn, 1) := by decide +kernel
theorem d_Mo_find_149 : decode b_Mo_find 149 = .ok (.iconst 1, 1) := by decide +kernel
theorem d_Mo_find_150 : decode b_Mo_find 150 = .ok (.istore 6, 2) := by decide +kernel
theorem d_Mo_find_152 : decode b_Mo_find 152 = .ok (.iload_n 2, 1) := by decide +kernel
theorem d_Mo_find_153 : decode b_Mo_find 153 = .ok (.istore 7, 2) := by decide +kernel
theorem d_Mo_find_155 : decode b_Mo_find 155 = .ok (.iload 7, 2) := by decide +kernel
theorem d_Mo_find_157 : decode b_Mo_find 157 = .ok (.iload_n 1, 1) := by decide +kernel
theorem d_Mo_find_158 : decode b_Mo_find 158 = .ok (.if_icmp .eq 18, 3) := by decide +kernel
theorem d_Mo_find_161 : decode b_Mo_find 161 = .ok (.iinc 6 1, 3) := by decide +kernel
theorem d_Mo_find_164 : decode b_Mo_find 164 = .ok (.aload_n 0, 1) := by decide +kernel
theorem d_Mo_find_165 : decode b_Mo_find 165 = .ok (.getfield 130, 3) := by decide +kernel
theorem d_Mo_find_168 : decode b_Mo_find 168 = .ok (.iload 7, 2) := by decide +kernel
theorem d_Mo_find_170 : decode b_Mo_find 170 = .ok (.iaload, 1) := by decide +kernel
theorem d_Mo_find_171 : decode b_Mo_find 171 = .ok (.istore 7, 2) := by decide +kernel
theorem d_Mo_find_173 : decode b_Mo_find 173 = .ok (.goto (-18), 3) := by decide +kernel
theorem d_Mo_find_176 : decode b_Mo_find 176 = .ok (.iload 6, 2) := by decide +kernel
theorem d_Mo_find_178 : decode b_Mo_find 178 = .ok (.istore 7, 2) := by decide +kernel
theorem d_Mo_find_180 : decode b_Mo_find 180 = .ok (.iload_n 2, 1) := by decide +kernel
theorem d_Mo_find_181 : decode b_Mo_find 181 = .ok (.istore 8, 2) := by decide +kernel
theorem d_Mo_find_183 : decode b_Mo_find 183 = .ok (.iload 7, 2) := by decide +kernel
theorem d_Mo_find_185 : decode b_Mo_find 185 = .ok (.ifCond .le 27, 3) := by decide +kernel
theorem d_Mo_find_188 : decode b_Mo_find 188 = .ok (.iinc 7 (-1), 3) := by decide +kernel
theorem d_Mo_find_191 : decode b_Mo_find 191 = .ok (.aload_n 0, 1) := by decide +kernel
theorem d_Mo_find_192 : decode b_Mo_find 192 = .ok (.getfield 136, 3) := by decide +kernel
theorem d_Mo_find_195 : decode b_Mo_find 195 = .ok (.iload 7, 2) := by decide +kernel
theorem d_Mo_find_197 : decode b_Mo_find 197 = .ok (.iload 8, 2) := by decide +kernel
theorem d_Mo_find_199 : decode b_Mo_find 199 = .ok (.iastore, 1) := by decide +kernel
theorem d_Mo_find_200 : decode b_Mo_find 200 = .ok (.aload_n 0, 1) := by decide +kernel
theorem d_Mo_find_201 : decode b_Mo_find 201 = .ok (.getfield 130, 3) := by decide +kernel
theorem d_Mo_find_204 : decode b_Mo_find 204 = .ok (.iload 8, 2) := by decide +kernel
theorem d_Mo_find_206 : decode b_Mo_find 206 = .ok (.iaload, 1) := by decide +kernel
theorem d_Mo_find_207 : decode b_Mo_find 207 = .ok (.istore 8, 2) := by decide +kernel
theorem d_Mo_find_209 : decode b_Mo_find 209 = .ok (.goto (-26), 3) := by decide +kernel
theorem d_Mo_find_212 : decode b_Mo_find 212 = .ok (.iload 6, 2) := by decide +kernel
theorem d_Mo_find_214 : decode b_Mo_find 214 = .ok (.ireturn, 1) := by decide +kernel
def fd_F : List ab_V := match (ob_100 (av_ 4) (av_ 5) (av_ 6) (av_ 7) (av_ 8) (av_ 9) (av_ 10) (av_ 11) (aj_ 12) (av_ 13) (av_ 14) (av_ 15) (av_ 16)).2 with
  | .inl o => o.2
  | _ => []
section FIND
variable {p : Program} {l : Launch} {e : Env} {R : Room} {s : State} {m : MethodId} {args : Array Value} {below : List Frame} {meth : Method} {c : Code} {cells slots : Nat} {Q : State → Prop} {D : va_G} {cB cI cJ : ClassId} {A : Nat → Prop} {os : Nat → Nat} {ρw ρ : ab_R} {f g w : Nat → Int32} {wp : va_W} {H : Heap} {locs : List Loc} {pc : Nat} {ls : Array Slot} {rest : List Value}
def fW (D : va_G) (cB cI cJ : ClassId) (A : Nat → Prop) (s : State) (os : Nat → Nat) (ρw : ab_R) (f g w : Nat → Int32) (wp : va_W) (H : Heap) (locs : List Loc) : Prop := va_P D nz_cl ((os 139, .inl (cI, 12, .inl f)) :: (os 140, .inl (cI, 12, .inl g)) :: (os 141, .inl (cI, 12, .inl w)) :: wp) H ∧ va_D A ((os 139, .inl (cI, 12, .inl f)) :: (os 140, .inl (cI, 12, .inl g)) :: (os 141, .inl (cI, 12, .inl w)) :: wp) ∧ va_S A s.heap H locs ∧ ab_h cB cI cJ os ρw k_Mo_passes_931.2.2.1 wp
theorem fW.h (hW : fW D cB cI cJ A s os ρw f g w wp H locs) : ab_h cB cI cJ os ρw k_Mo_passes_931.2.2.1 wp := hW.2.2.2
theorem fW.mk {f' g' w' : Nat → Int32} {H' : Heap} {locs' : List Loc} (h : ab_h cB cI cJ os ρw k_Mo_passes_931.2.2.1 wp) (hP : va_P D nz_cl ((os 139, .inl (cI, 12, .inl f')) :: (os 140, .inl (cI, 12, .inl g')) :: (os 141, .inl (cI, 12, .inl w')) :: wp) H') (hD : va_D A ((os 139, .inl (cI, 12, .inl f')) :: (os 140, .inl (cI, 12, .inl g')) :: (os 141, .inl (cI, 12, .inl w')) :: wp)) (hS : va_S A s.heap H' locs') : fW D cB cI cJ A s os ρw f' g' w' wp H' locs' := ⟨hP, hD, hS, h⟩
abbrev fC (p : Program) (s : State) (m : MethodId) (args : Array Value) (meth : Method) (c : Code) (D : va_G) (cB cI cJ : ClassId) : Prop := nz_Cx p s m args meth c b_Mo_find 9 (some .int) R_Mo D cB cI cJ
theorem fd_get {k key idx kd : Nat} (C0 : fC p s m args meth c D cB cI cJ) (hW : fW D cB cI cJ A s os ρw f g w wp H locs) (hF : ab_Fl R_Mo (idx, 12, k, kd)) (hk : fd_F[k]? = some (some (.inl key))) (hdg : decode b_Mo_find pc = .ok (.getfield idx, 3)) (kk : W p l e R s m args below meth c H locs cells slots Q (F0 m (pc + 3) ls (.ref (os key) :: rest))) : W p l e R s m args below meth c H locs cells slots Q (F0 m pc ls (.ref (os 100) :: rest)) := by
  obtain ⟨hx, hb, -, -, hown, hts, -, hK⟩ := C0
  obtain ⟨ee, e1, ⟨vs, e2, e3⟩, -⟩ := ab_hk_ok (k := 100) (j := 0) (c := .inl (12, fd_F)) hW.2.2.2 rfl
  subst e2
  obtain ⟨v, v1, v2⟩ := ab_vs_at e3 hk
  have v2 : v = .ref (os key) := v2
  subst v2
  obtain ⟨C, T, N, ty0, hc, hin, hlt, hl, -⟩ := hF
  exact va_get (C := C) (T := T) (N := N) hx hb hts hin hown hK.1 hW.1 3 e1 hc k hlt (hts _ hl) (fun _ h => h) v1 hdg kk
theorem fd_bank (C0 : fC p s m args meth c D cB cI cJ) (hW : fW D cB cI cJ A s os ρw f g w wp H locs) (hbk : ∀ v, ρw 13 = some v → 0 ≤ v ∧ v ≤ 1) (hdg : decode b_Mo_find pc = .ok (.getfield 240, 3)) (kk : ∀ z : Int32, 0 ≤ z.toInt ∧ z.toInt ≤ 1 → W p l e R s m args below meth c H locs cells slots Q (F0 m (pc + 3) ls (.int z :: rest))) : W p l e R s m args below meth c H locs cells slots Q (F0 m pc ls (.ref (os 100) :: rest)) := by
  obtain ⟨hx, hb, -, -, hown, hts, -, hK⟩ := C0
  obtain ⟨ee, e1, ⟨vs, e2, e3⟩, -⟩ := ab_hk_ok (k := 100) (j := 0) (c := .inl (12, fd_F)) hW.2.2.2 rfl
  subst e2
  obtain ⟨v, v1, v2⟩ := ab_vs_at (j := 39) (w := .inr (.inl (0, [(13, 1)]))) e3 rfl
  obtain ⟨z, v3, v4⟩ := v2
  subst v3
  obtain ⟨C, T, N, ty0, hc, hin, hlt, hl, -⟩ := f_Mo_240
  exact va_get (C := C) (T := T) (N := N) hx hb hts hin hown hK.1 hW.1 3 e1 hc 39 hlt (hts _ hl) (fun _ h => h) v1 hdg (kk z (hbk _ (ab_vr_E' v4)))
theorem fd_per (C0 : fC p s m args meth c D cB cI cJ) (hW : fW D cB cI cJ A s os ρw f g w wp H locs) {z : Int32} (hz : 0 ≤ z.toInt ∧ z.toInt ≤ 1) (hdg : decode b_Mo_find pc = .ok (.iaload, 1)) (kk : ∀ x : Int32, 0 ≤ x.toInt ∧ x.toInt ≤ 12 → W p l e R s m args below meth c H locs cells slots Q (F0 m (pc + 1) ls (.int x :: rest))) : W p l e R s m args below meth c H locs cells slots Q (F0 m pc ls (.int z :: .ref (os 107) :: rest)) := by
  obtain ⟨hx, hb, -, -, hown, hts, -, hK⟩ := C0
  obtain ⟨ee, e1, ⟨h, e2, e3⟩, -⟩ := ab_hk_ok (k := 107) (j := 3) (c := .inr (.inl (false, 2, 0, 12))) hW.2.2.2 rfl
  subst e2
  obtain ⟨i1, i2, i3⟩ := ab_vin (x := z) (N := 2) hz.1 (by omega)
  exact va_iald hx hb hK.1 hW.1 6 1 e1 rfl i1 hdg (kk _ (e3 _ i2))
theorem fd_in {x : Int32} {n : Nat} (h : x.toInt = n) (hn : n < 12) : vp_in x 12 ∧ x.toNatClampNeg = n := by
  obtain ⟨i1, i2, i3⟩ := ab_vin (x := x) (N := 12) (by omega) (by omega)
  exact ⟨i1, by omega⟩
theorem fd_inc {x : Int32} {n : Nat} (h : x.toInt = n) (hn : n < 1000) : (x + Int32.ofInt 1).toInt = ((n + 1 : Nat) : Int) := by
  have e1 : (Int32.ofInt 1).toInt = 1 := by decide
  rw [Int32.toInt_add, h, e1]
  rw [Int.bmod_eq_of_le (by omega) (by omega)]
  omega
theorem fd_dec {x : Int32} {n : Nat} (h : x.toInt = ((n + 1 : Nat) : Int)) (hn : n < 1000) : (x + Int32.ofInt (-1)).toInt = (n : Int) := by
  have e1 : (Int32.ofInt (-1)).toInt = -1 := by decide
  rw [Int32.toInt_add, h, e1]
  rw [Int.bmod_eq_of_le (by omega) (by omega)]
  omega
abbrev fP (D : va_G) (cB cI cJ : ClassId) (A : Nat → Prop) (s : State) (os : Nat → Nat) (ρw : ab_R) (x : Int32) (H : Heap) (locs : List Loc) : Prop := ∃ (f g w : Nat → Int32) (wp : va_W), fW D cB cI cJ A s os ρw f g w wp H locs ∧ (-1 ≤ x.toInt ∧ x.toInt ≤ 12) ∧ (∀ j, j < 12 → -1 ≤ (f j).toInt ∧ (f j).toInt ≤ 11) ∧ (∀ j, j < 12 → 0 ≤ (g j).toInt ∧ (g j).toInt ≤ 11)
variable {x1 x2 x3 x4 : Int32} {r : Nat}
set_option maxHeartbeats 4000000 in
theorem fd_L5 {u0 : Nat} (C0 : fC p s m args meth c D cB cI cJ) (hret : ∀ (x : Int32) (ls : Array Slot) (H : Heap) (locs : List Loc) (pc : Nat), decode b_Mo_find pc = .ok (.ireturn, 1) → fP D cB cI cJ A s os ρw x H locs → W p l e R s m args below meth c H locs cells slots Q (F0 m pc ls [.int x])) (hI : fi_I f g r u0) {y : Int32} (hy : 0 ≤ y.toInt ∧ y.toInt ≤ 12) : ∀ (N : Nat) (k a u : Int32) (kn : Nat) (w : Nat → Int32) (ls : Array Slot) (H : Heap) (locs : List Loc), a.toInt = N → N ≤ 12 → k.toInt = kn → kn < 12 → 0 ≤ (f kn).toInt → fW D cB cI cJ A s os ρw f g w wp H locs → lv_has ls 9 [(8, .int k), (7, .int a), (6, .int y), (5, .int u), (0, .ref (os 100)), (1, .int x1), (2, .int x2), (3, .int x3), (4, .int x4)] → W p l e R s m args below meth c H locs cells slots Q (F0 m 183 ls []) := by
  intro N
  obtain ⟨hx, hb, hr, hml, hown, hts, hlk, hK⟩ := id C0
  induction N with
  | zero =>
    intro k a u kn w ls H locs ha hN hk hkn hf hW hl
    refine lv_iload hx hb d_Mo_find_183 (lv_at hl 1 rfl) ?_
    refine lv_if_le (tgt := 212) hx hb d_Mo_find_185 (by decide) (fun hc => ?_) (fun hc => ?_)
    · have hc := hc
      refine lv_iload hx hb d_Mo_find_212 (lv_at hl 2 rfl) ?_
      exact hret y ls H locs 214 d_Mo_find_214 ⟨f, g, w, wp, hW, ⟨by omega, hy.2⟩, hI.1, hI.2.1⟩
    · have hc := hc
      exact absurd (Int32.le_iff_toInt_le.mpr (by rw [ha]; decide)) hc
  | succ N ih =>
    intro k a u kn w ls H locs ha hN hk hkn hf hW hl
    refine lv_iload hx hb d_Mo_find_183 (lv_at hl 1 rfl) ?_
    refine lv_if_le (tgt := 212) hx hb d_Mo_find_185 (by decide) (fun hc => ?_) (fun hc => ?_)
    · have hc := hc
      refine lv_iload hx hb d_Mo_find_212 (lv_at hl 2 rfl) ?_
      exact hret y ls H locs 214 d_Mo_find_214 ⟨f, g, w, wp, hW, ⟨by omega, hy.2⟩, hI.1, hI.2.1⟩
    · have hc := hc
      have ha1 := fd_dec ha (by omega)
      obtain ⟨b, hb0⟩ : ∃ b : Int32, b = a + Int32.ofInt (-1) := ⟨_, rfl⟩
      rw [← hb0] at ha1
      refine lv_iinc (v := b) (lv' := [(7, .int b), (8, .int k), (6, .int y), (5, .int u), (0, .ref (os 100)), (1, .int x1), (2, .int x2), (3, .int x3), (4, .int x4)]) hx hb d_Mo_find_188 hl (k := 1) rfl hb0.symm (by decide) rfl (fun ls hl => ?_)
      refine lv_aload_n hx hb d_Mo_find_191 rfl (lv_at hl 4 rfl) ?_
      refine fd_get (k := 53) (key := 141) C0 hW f_Mo_136 rfl d_Mo_find_192 ?_
      refine lv_iload hx hb d_Mo_find_195 (lv_at hl 0 rfl) ?_
      refine lv_iload hx hb d_Mo_find_197 (lv_at hl 1 rfl) ?_
      obtain ⟨i1, i2⟩ := fd_in ha1 (by omega)
      refine va_iast hx hb hK.1 hW.1 hW.2.1 hW.2.2.1 2 1 rfl rfl i1 d_Mo_find_199 (fun H locs hP hD hS => ?_)
      have hW := fW.mk (fW.h hW) hP hD hS
      refine lv_aload_n hx hb d_Mo_find_200 rfl (lv_at hl 4 rfl) ?_
      refine fd_get (k := 51) (key := 139) C0 hW f_Mo_130 rfl d_Mo_find_201 ?_
      refine lv_iload hx hb d_Mo_find_204 (lv_at hl 1 rfl) ?_
      obtain ⟨j1, j2⟩ := fd_in hk hkn
      refine va_iald hx hb hK.1 hW.1 0 1 rfl rfl j1 d_Mo_find_206 ?_
      rw [j2]
      refine lv_istore (lv' := [(8, .int (f kn)), (7, .int b), (6, .int y), (5, .int u), (0, .ref (os 100)), (1, .int x1), (2, .int x2), (3, .int x3), (4, .int x4)]) hx hb d_Mo_find_207 hl (by decide) rfl (fun ls hl => ?_)
      refine lv_goto (tgt := 183) hx hb d_Mo_find_209 (by decide) ?_
      obtain ⟨k1, k2, k3⟩ := fi_nx hI hkn hf
      exact ih (f kn) b u (f kn).toInt.toNat _ ls H locs ha1 (by omega) (by omega) k2 k3 hW (lv_sub hl [0, 1, 2, 3, 4, 5, 6, 7, 8] rfl)
set_option maxHeartbeats 4000000 in
theorem fd_L4 {u0 : Nat} (C0 : fC p s m args meth c D cB cI cJ) (hret : ∀ (x : Int32) (ls : Array Slot) (H : Heap) (locs : List Loc) (pc : Nat), decode b_Mo_find pc = .ok (.ireturn, 1) → fP D cB cI cJ A s os ρw x H locs → W p l e R s m args below meth c H locs cells slots Q (F0 m pc ls [.int x])) (hI : fi_I f g r u0) (h1 : x1.toInt = r) {hn : Nat} (h2 : x2.toInt = hn) (hn2 : hn < 12) (hfh : 0 ≤ (f hn).toInt) {pos : Nat → Nat} (hp : ∀ b, b < 12 → 0 ≤ (f b).toInt → pos b < u0 ∧ 0 ≤ (f (f b).toInt.toNat).toInt ∧ (b ≠ r → pos (f b).toInt.toNat < pos b)) (hu0 : u0 ≤ 12) : ∀ (N : Nat) (k y u : Int32) (kn yn : Nat) (ls : Array Slot), N = pos kn → k.toInt = kn → kn < 12 → 0 ≤ (f kn).toInt → y.toInt = yn → yn + N ≤ 12 → fW D cB cI cJ A s os ρw f g w wp H locs → lv_has ls 9 [(7, .int k), (6, .int y), (5, .int u), (0, .ref (os 100)), (1, .int x1), (2, .int x2), (3, .int x3), (4, .int x4)] → W p l e R s m args below meth c H locs cells slots Q (F0 m 155 ls []) := by
  intro N
  obtain ⟨hx, hb, hr, hml, hown, hts, hlk, hK⟩ := id C0
  induction N using Nat.strongRecOn with
  | _ N ih =>
    intro k y u kn yn ls hN hk hkn hf hy hyN hW hl
    refine lv_iload hx hb d_Mo_find_155 (lv_at hl 0 rfl) ?_
    refine lv_iload_n hx hb d_Mo_find_157 rfl (lv_at hl 4 rfl) ?_
    refine lv_icmp_eq (tgt := 176) hx hb d_Mo_find_158 (by decide) (fun hc => ?_) (fun hc => ?_)
    · have hc := hc
      refine lv_iload hx hb d_Mo_find_176 (lv_at hl 1 rfl) ?_
      refine lv_istore (lv' := [(7, .int y), (6, .int y), (5, .int u), (0, .ref (os 100)), (1, .int x1), (2, .int x2), (3, .int x3), (4, .int x4)]) hx hb d_Mo_find_178 hl (by decide) rfl (fun ls hl => ?_)
      refine lv_iload_n hx hb d_Mo_find_180 rfl (lv_at hl 5 rfl) ?_
      refine lv_istore (lv' := [(8, .int x2), (7, .int y), (6, .int y), (5, .int u), (0, .ref (os 100)), (1, .int x1), (2, .int x2), (3, .int x3), (4, .int x4)]) hx hb d_Mo_find_181 hl (by decide) rfl (fun ls hl => ?_)
      exact fd_L5 C0 hret hI ⟨by omega, by omega⟩ yn x2 y u hn w ls H locs hy (by omega) h2 hn2 hfh hW (lv_sub hl [0, 1, 2, 3, 4, 5, 6, 7, 8] rfl)
    · have hc := hc
      have hkr : kn ≠ r := fun q => hc (Int32.toInt_inj.mp (by omega))
      obtain ⟨k1, k2, k3⟩ := fi_nx hI hkn hf
      have hpk := (hp kn hkn hf).2.2 hkr
      have hy1 := fd_inc hy (by omega)
      obtain ⟨y2, hy2⟩ : ∃ b : Int32, b = y + Int32.ofInt 1 := ⟨_, rfl⟩
      rw [← hy2] at hy1
      refine lv_iinc (v := y2) (lv' := [(6, .int y2), (7, .int k), (5, .int u), (0, .ref (os 100)), (1, .int x1), (2, .int x2), (3, .int x3), (4, .int x4)]) hx hb d_Mo_find_161 hl (k := 1) rfl hy2.symm (by decide) rfl (fun ls hl => ?_)
      refine lv_aload_n hx hb d_Mo_find_164 rfl (lv_at hl 3 rfl) ?_
      refine fd_get (k := 51) (key := 139) C0 hW f_Mo_130 rfl d_Mo_find_165 ?_
      refine lv_iload hx hb d_Mo_find_168 (lv_at hl 1 rfl) ?_
      obtain ⟨j1, j2⟩ := fd_in hk hkn
      refine va_iald hx hb hK.1 hW.1 0 1 rfl rfl j1 d_Mo_find_170 ?_
      rw [j2]
      refine lv_istore (lv' := [(7, .int (f kn)), (6, .int y2), (5, .int u), (0, .ref (os 100)), (1, .int x1), (2, .int x2), (3, .int x3), (4, .int x4)]) hx hb d_Mo_find_171 hl (by decide) rfl (fun ls hl => ?_)
      refine lv_goto (tgt := 155) hx hb d_Mo_find_173 (by decide) ?_
      exact ih (pos (f kn).toInt.toNat) (by omega) (f kn) y2 u (f kn).toInt.toNat (yn + 1) ls rfl (by omega) k2 k3 hy1 (by omega) hW (lv_sub hl [0, 1, 2, 3, 4, 5, 6, 7] rfl)
set_option maxHeartbeats 4000000 in
theorem fd_end {u0 : Nat} (C0 : fC p s m args meth c D cB cI cJ) (hret : ∀ (x : Int32) (ls : Array Slot) (H : Heap) (locs : List Loc) (pc : Nat), decode b_Mo_find pc = .ok (.ireturn, 1) → fP D cB cI cJ A s os ρw x H locs → W p l e R s m args below meth c H locs cells slots Q (F0 m pc ls [.int x])) (hI : fi_I f g r u0) (h1 : x1.toInt = r) {hn : Nat} (h2 : x2.toInt = hn) (hn2 : hn < 12) {u : Int32} (hW : fW D cB cI cJ A s os ρw f g w wp H locs) (hl : lv_has ls 9 [(5, .int u), (0, .ref (os 100)), (1, .int x1), (2, .int x2), (3, .int x3), (4, .int x4)]) : W p l e R s m args below meth c H locs cells slots Q (F0 m 138 ls []) := by
  obtain ⟨hx, hb, hr, hml, hown, hts, hlk, hK⟩ := id C0
  refine lv_aload_n hx hb d_Mo_find_138 rfl (lv_at hl 1 rfl) ?_
  refine fd_get (k := 51) (key := 139) C0 hW f_Mo_130 rfl d_Mo_find_139 ?_
  refine lv_iload_n hx hb d_Mo_find_142 rfl (lv_at hl 3 rfl) ?_
  obtain ⟨j1, j2⟩ := fd_in h2 hn2
  refine va_iald hx hb hK.1 hW.1 0 1 rfl rfl j1 d_Mo_find_143 ?_
  rw [j2]
  refine lv_if_ge (tgt := 149) hx hb d_Mo_find_144 (by decide) (fun hc => ?_) (fun hc => ?_)
  · have hc := Int32.le_iff_toInt_le.mp hc
    have hc : 0 ≤ (f hn).toInt := hc
    refine lv_iconst (v := 1) hx hb d_Mo_find_149 (by decide +kernel) ?_
    refine lv_istore (lv' := [(6, .int 1), (5, .int u), (0, .ref (os 100)), (1, .int x1), (2, .int x2), (3, .int x3), (4, .int x4)]) hx hb d_Mo_find_150 hl (by decide) rfl (fun ls hl => ?_)
    refine lv_iload_n hx hb d_Mo_find_152 rfl (lv_at hl 4 rfl) ?_
    refine lv_istore (lv' := [(7, .int x2), (6, .int 1), (5, .int u), (0, .ref (os 100)), (1, .int x1), (2, .int x2), (3, .int x3), (4, .int x4)]) hx hb d_Mo_find_153 hl (by decide) rfl (fun ls hl => ?_)
    have hI2 := hI
    obtain ⟨-, -, -, -, h5, pos, h6, -⟩ := hI2
    have hcn := (ab_cn1_b f 12).1
    exact fd_L4 C0 hret hI h1 h2 hn2 hc h6 (by omega) (pos hn) x2 1 u hn 1 ls rfl h2 hn2 hc (by decide) (by have := (h6 hn hn2 hc).1; omega) hW (lv_sub hl [0, 1, 2, 3, 4, 5, 6, 7] rfl)
  · have hc := hc
    refine lv_iconst (v := (-1)) hx hb d_Mo_find_147 (by decide +kernel) ?_
    exact hret _ ls H locs 148 d_Mo_find_148 ⟨f, g, w, wp, hW, by decide, hI.1, hI.2.1⟩
theorem fd_call (C0 : fC p s m args meth c D cB cI cJ) (hlkP : ab_LK l D cB cI cJ R R_Mo (417, true, k_Mo_passes_931)) (hA : ∀ q : Nat, s.heap.size ≤ q → A q) (hcs : cells ≤ R.cells ∧ slots ≤ R.slots) (hls : ls.size = 9) (hg : ab_g ρ k_Mo_passes_931.2.1) (hρ : ∀ k, 4 ≤ k → ρ k = ρw k) (h3 : 0 ≤ x3.toInt ∧ x3.toInt ≤ 7) (h4 : 0 ≤ x4.toInt ∧ x4.toInt ≤ 199) (hW : fW D cB cI cJ A s os ρw f g w wp H locs) {a b : Int32} (ha : 0 ≤ a.toInt ∧ a.toInt ≤ 11) (hb : 0 ≤ b.toInt ∧ b.toInt ≤ 11) (hdg : decode b_Mo_find pc = .ok (.invokevirtual 417, 3)) (kk : ∀ (z : Int32) (wp : va_W) (H : Heap) (locs : List Loc), fW D cB cI cJ A s os ρw f g w wp H locs → W p l e R s m args below meth c H locs cells slots Q (F0 m (pc + 3) ls [.int z])) : W p l e R s m args below meth c H locs cells slots Q (F0 m pc ls [.int x4, .int x3, .int b, .int a, .ref (os 100)]) := by
  obtain ⟨hP, hD, hS, hh⟩ := hW
  have hlen : wp.length = 23 := fi_len hh
  let ρc : ab_R := fun k => if k = 0 then some a.toInt else if k = 1 then some b.toInt else if k = 2 then some x3.toInt else if k = 3 then some x4.toInt else ρ k
  have hc4 : ∀ k, 4 ≤ k → ρc k = ρ k := by
    intro k hk
    show (if k = 0 then some a.toInt else if k = 1 then some b.toInt else if k = 2 then some x3.toInt else if k = 3 then some x4.toInt else ρ k) = ρ k
    rw [if_neg (by omega), if_neg (by omega), if_neg (by omega), if_neg (by omega)]
  have hgc : ab_g ρc k_Mo_passes_931.2.1 := by
    refine ⟨fun k hk => ?_, fun k v hk => ?_, fun t ht => ?_, fun c hc => (by cases hc), fun c hc => (by cases hc)⟩
    · have hk : 17 ≤ k := hk
      rw [hc4 k (by omega)]
      exact hg.1 k hk
    · by_cases hk4 : 4 ≤ k
      · rw [hc4 k hk4] at hk; exact hg.2.1 k v hk
      · have hk3 : k = 0 ∨ k = 1 ∨ k = 2 ∨ k = 3 := by omega
        rcases hk3 with rfl | rfl | rfl | rfl
        · have hk : some a.toInt = some v := hk
          cases hk; exact ab_i32t _
        · have hk : some b.toInt = some v := hk
          cases hk; exact ab_i32t _
        · have hk : some x3.toInt = some v := hk
          cases hk; exact ab_i32t _
        · have hk : some x4.toInt = some v := hk
          cases hk; exact ab_i32t _
    · have ht' := ht
      obtain ⟨v, v1, v2⟩ := hg.2.2.1 t ht
      by_cases hk4 : 4 ≤ t.1
      · exact ⟨v, by rw [hc4 _ hk4]; exact v1, v2⟩
      · have hmem : t = (0, 0, 11) ∨ t = (1, 0, 11) ∨ t = (2, 0, 7) ∨ t = (3, 0, 199) := by
          simp only [k_Mo_passes_931, b32_, b64_, List.mem_cons, List.not_mem_nil, or_false] at ht'
          rcases ht' with rfl | rfl | rfl | rfl | rfl | rfl | rfl | rfl | rfl | rfl | rfl | rfl | rfl | rfl | rfl | rfl | rfl
          · exact Or.inl rfl
          · exact Or.inr (Or.inl rfl)
          · exact Or.inr (Or.inr (Or.inl rfl))
          · exact Or.inr (Or.inr (Or.inr rfl))
          all_goals exact absurd (by decide) hk4
        rcases hmem with rfl | rfl | rfl | rfl
        · exact ⟨_, rfl, ha⟩
        · exact ⟨_, rfl, hb⟩
        · exact ⟨_, rfl, h3⟩
        · exact ⟨_, rfl, h4⟩
  have hhc : ab_h cB cI cJ os ρc k_Mo_passes_931.2.2.1 wp := fi_h (fun k hk => by rw [hc4 k hk, hρ k hk]) (by decide +kernel) hh
  refine hlkP p e s m args below meth c b_Mo_find 9 (some .int) A Q cells slots pc os ρc ls [.ref (os 100), .int a, .int b, .int x3, .int x4] [] _ wp [(os 139, .inl (cI, 12, .inl f)), (os 140, .inl (cI, 12, .inl g)), (os 141, .inl (cI, 12, .inl w))] (List.range' 3 23) [0, 1, 2] H locs C0 hls hP hD hS hA (by rw [← hlen]; exact fi_rg wp [(os 139, .inl (cI, 12, .inl f)), (os 140, .inl (cI, 12, .inl g)), (os 141, .inl (cI, 12, .inl w))]) rfl (by decide) (by decide) (by decide) ⟨hgc, ⟨rfl, ⟨_, rfl, ab_vr_E rfl⟩, ⟨_, rfl, ab_vr_E rfl⟩, ⟨_, rfl, ab_vr_E rfl⟩, ⟨_, rfl, ab_vr_E rfl⟩, trivial⟩, hhc⟩ (by decide) hdg hcs.1 hcs.2 ?_
  intro vs u H1 locs1 hpo hP1 hD1 hS1
  obtain ⟨q, hq, ρ', p1, p2, p3, p4⟩ := hpo
  have hb' : ∀ k, 4 ≤ k → ρ' k = ρw k := by
    intro k hk
    rw [← hρ k hk]
    by_cases hk17 : 17 ≤ k
    · rw [hg.1 k hk17]
      have hq17 : q.1.1 = 17 := by
        simp only [k_Mo_passes_931, List.mem_cons, List.not_mem_nil, or_false] at hq
        rcases hq with rfl | rfl <;> rfl
      exact p2.1 k (by omega)
    · have htot : ∃ v, ρ k = some v := by
        have hall : ∀ i : Fin 17, (k_Mo_passes_931.2.1.2.1[i.val]?).map (fun t => t.1) = some i.val := by decide +kernel
        have h0 := hall ⟨k, by omega⟩
        cases hi : k_Mo_passes_931.2.1.2.1[k]? with
        | none => rw [hi] at h0; cases h0
        | some t =>
          rw [hi] at h0
          have h0 : t.1 = k := Option.some.inj h0
          obtain ⟨v, v1, -⟩ := hg.2.2.1 t (List.mem_of_getElem? hi)
          exact ⟨v, by rw [← h0]; exact v1⟩
      obtain ⟨v, hv⟩ := htot
      rw [hv]
      exact p1 k v (by rw [hc4 k hk]; exact hv)
  simp only [k_Mo_passes_931, List.mem_cons, List.not_mem_nil, or_false] at hq
  rcases hq with rfl | rfl
  · match vs, p3 with
    | [v], ⟨⟨z, z1, z2⟩, _⟩ =>
      subst z1
      exact kk z u H1 locs1 ⟨hP1, hD1, hS1, fi_h hb' (by decide +kernel) p4⟩
  · match vs, p3 with
    | [v], ⟨⟨z, z1, z2⟩, _⟩ =>
      subst z1
      exact kk z u H1 locs1 ⟨hP1, hD1, hS1, fi_h hb' (by decide +kernel) p4⟩
set_option maxHeartbeats 4000000 in
theorem fd_L3 (C0 : fC p s m args meth c D cB cI cJ) (hlkP : ab_LK l D cB cI cJ R R_Mo (417, true, k_Mo_passes_931)) (hA : ∀ q : Nat, s.heap.size ≤ q → A q) (hcs : cells ≤ R.cells ∧ slots ≤ R.slots) (hg : ab_g ρ k_Mo_passes_931.2.1) (hρ : ∀ k, 4 ≤ k → ρ k = ρw k) (hbk : ∀ v, ρw 13 = some v → 0 ≤ v ∧ v ≤ 1) (h3 : 0 ≤ x3.toInt ∧ x3.toInt ≤ 7) (h4 : 0 ≤ x4.toInt ∧ x4.toInt ≤ 199) {i : Int32} {im : Nat} (hi : i.toInt = im) (hnx : ∀ (i2 u : Int32) (un : Nat) (f g : Nat → Int32) (w : Nat → Int32) (wp : va_W) (ls : Array Slot) (H : Heap) (locs : List Loc), i2.toInt = ((im + 1 : Nat) : Int) → u.toInt = un → fi_I f g r un → fW D cB cI cJ A s os ρw f g w wp H locs → lv_has ls 9 [(6, .int i2), (5, .int u), (0, .ref (os 100)), (1, .int x1), (2, .int x2), (3, .int x3), (4, .int x4)] → W p l e R s m args below meth c H locs cells slots Q (F0 m 44 ls [])) : ∀ (N : Nat) (b u : Int32) (bn un : Nat) (f g : Nat → Int32) (w : Nat → Int32) (wp : va_W) (ls : Array Slot) (H : Heap) (locs : List Loc), bn + N = 12 → b.toInt = bn → u.toInt = un → im < un → fi_I f g r un → fW D cB cI cJ A s os ρw f g w wp H locs → lv_has ls 9 [(7, .int b), (6, .int i), (5, .int u), (0, .ref (os 100)), (1, .int x1), (2, .int x2), (3, .int x3), (4, .int x4)] → W p l e R s m args below meth c H locs cells slots Q (F0 m 54 ls []) := by
  intro N
  obtain ⟨hx, hb, hr, hml, hown, hts, hlk, hK⟩ := id C0
  induction N with
  | zero =>
    intro b u bn un f g w wp ls H locs hbN hb2 hu him hI hW hl
    have hcn := (ab_cn1_b f 12).1
    have h5 := hI.2.2.2.2.1
    refine lv_iload hx hb d_Mo_find_54 (lv_at hl 0 rfl) ?_
    refine lv_aload_n hx hb d_Mo_find_56 rfl (lv_at hl 3 rfl) ?_
    refine fd_get (k := 15) (key := 107) C0 hW f_Mo_33 rfl d_Mo_find_57 ?_
    refine lv_aload_n hx hb d_Mo_find_60 rfl (lv_at hl 3 rfl) ?_
    refine fd_bank C0 hW hbk d_Mo_find_61 (fun z0 hz0 => ?_)
    refine fd_per C0 hW hz0 d_Mo_find_64 (fun z1 hz1 => ?_)
    refine lv_icmp_ge (tgt := 132) hx hb d_Mo_find_65 (by decide) (fun hc => ?_) (fun hc => ?_)
    · have hc := hc
      have hi1 := fd_inc hi (by omega)
      obtain ⟨i2, hi2⟩ : ∃ b : Int32, b = i + Int32.ofInt 1 := ⟨_, rfl⟩
      rw [← hi2] at hi1
      refine lv_iinc (v := i2) (lv' := [(6, .int i2), (7, .int b), (5, .int u), (0, .ref (os 100)), (1, .int x1), (2, .int x2), (3, .int x3), (4, .int x4)]) hx hb d_Mo_find_132 hl (k := 1) rfl hi2.symm (by decide) rfl (fun ls hl => ?_)
      refine lv_goto (tgt := 44) hx hb d_Mo_find_135 (by decide) ?_
      exact hnx i2 u un f g w wp ls H locs hi1 hu hI hW (lv_sub hl [0, 2, 3, 4, 5, 6, 7] rfl)
    · have hc : ¬ z1.toInt ≤ b.toInt := fun q => hc (Int32.le_iff_toInt_le.mpr q)
      omega
  | succ N ih =>
    intro b u bn un f g w wp ls H locs hbN hb2 hu him hI hW hl
    have hcn := (ab_cn1_b f 12).1
    have h5 := hI.2.2.2.2.1
    refine lv_iload hx hb d_Mo_find_54 (lv_at hl 0 rfl) ?_
    refine lv_aload_n hx hb d_Mo_find_56 rfl (lv_at hl 3 rfl) ?_
    refine fd_get (k := 15) (key := 107) C0 hW f_Mo_33 rfl d_Mo_find_57 ?_
    refine lv_aload_n hx hb d_Mo_find_60 rfl (lv_at hl 3 rfl) ?_
    refine fd_bank C0 hW hbk d_Mo_find_61 (fun z0 hz0 => ?_)
    refine fd_per C0 hW hz0 d_Mo_find_64 (fun z1 hz1 => ?_)
    refine lv_icmp_ge (tgt := 132) hx hb d_Mo_find_65 (by decide) (fun hc => ?_) (fun hc => ?_)
    · have hc := hc
      have hi1 := fd_inc hi (by omega)
      obtain ⟨i2, hi2⟩ : ∃ b : Int32, b = i + Int32.ofInt 1 := ⟨_, rfl⟩
      rw [← hi2] at hi1
      refine lv_iinc (v := i2) (lv' := [(6, .int i2), (7, .int b), (5, .int u), (0, .ref (os 100)), (1, .int x1), (2, .int x2), (3, .int x3), (4, .int x4)]) hx hb d_Mo_find_132 hl (k := 1) rfl hi2.symm (by decide) rfl (fun ls hl => ?_)
      refine lv_goto (tgt := 44) hx hb d_Mo_find_135 (by decide) ?_
      exact hnx i2 u un f g w wp ls H locs hi1 hu hI hW (lv_sub hl [0, 2, 3, 4, 5, 6, 7] rfl)
    · have hc : ¬ z1.toInt ≤ b.toInt := fun q => hc (Int32.le_iff_toInt_le.mpr q)
      have hb12 : bn < 12 := by omega
      have hb1 := fd_inc hb2 (by omega)
      obtain ⟨b2, hbe⟩ : ∃ y : Int32, y = b + Int32.ofInt 1 := ⟨_, rfl⟩
      rw [← hbe] at hb1
      refine lv_aload_n hx hb d_Mo_find_68 rfl (lv_at hl 3 rfl) ?_
      refine fd_get (k := 51) (key := 139) C0 hW f_Mo_130 rfl d_Mo_find_69 ?_
      refine lv_iload hx hb d_Mo_find_72 (lv_at hl 0 rfl) ?_
      obtain ⟨j1, j2⟩ := fd_in hb2 hb12
      refine va_iald hx hb hK.1 hW.1 0 1 rfl rfl j1 d_Mo_find_74 ?_
      rw [j2]
      refine lv_if_ge (tgt := 126) hx hb d_Mo_find_75 (by decide) (fun hc2 => ?_) (fun hc2 => ?_)
      · have hc2 := hc2
        refine lv_iinc (v := b2) (lv' := [(7, .int b2), (6, .int i), (5, .int u), (0, .ref (os 100)), (1, .int x1), (2, .int x2), (3, .int x3), (4, .int x4)]) hx hb d_Mo_find_126 hl (k := 0) rfl hbe.symm (by decide) rfl (fun ls hl => ?_)
        refine lv_goto (tgt := 54) hx hb d_Mo_find_129 (by decide) ?_
        exact ih b2 u (bn + 1) un f g w wp ls H locs (by omega) hb1 hu him hI hW (lv_sub hl [0, 1, 2, 3, 4, 5, 6, 7] rfl)
      · have hc2 : (f bn).toInt < 0 := Int.not_le.mp (fun q => hc2 (Int32.le_iff_toInt_le.mpr q))
        have him12 : im < 12 := by omega
        obtain ⟨i1, i2⟩ := fd_in hi him12
        have hgi := hI.2.1 im him12
        refine lv_aload_n hx hb d_Mo_find_78 rfl (lv_at hl 3 rfl) ?_
        refine lv_aload_n hx hb d_Mo_find_79 rfl (lv_at hl 3 rfl) ?_
        refine fd_get (k := 52) (key := 140) C0 hW f_Mo_133 rfl d_Mo_find_80 ?_
        refine lv_iload hx hb d_Mo_find_83 (lv_at hl 1 rfl) ?_
        refine va_iald hx hb hK.1 hW.1 1 1 rfl rfl i1 d_Mo_find_85 ?_
        rw [i2]
        refine lv_iload hx hb d_Mo_find_86 (lv_at hl 0 rfl) ?_
        refine lv_iload_n hx hb d_Mo_find_88 rfl (lv_at hl 6 rfl) ?_
        refine lv_iload hx hb d_Mo_find_89 (lv_at hl 7 rfl) ?_
        refine fd_call C0 hlkP hA hcs hl.1 hg hρ h3 h4 hW hgi (by omega) d_Mo_find_91 (fun z wp H locs hW => ?_)
        refine lv_if_ne (tgt := 100) hx hb d_Mo_find_94 (by decide) (fun hc3 => ?_) (fun hc3 => ?_)
        · have hc3 := hc3
          obtain ⟨n12, hI2⟩ := fi_step hI him hb12 hb2 hc2
          obtain ⟨u1, u2⟩ := fd_in hu n12
          refine lv_aload_n hx hb d_Mo_find_100 rfl (lv_at hl 3 rfl) ?_
          refine fd_get (k := 51) (key := 139) C0 hW f_Mo_130 rfl d_Mo_find_101 ?_
          refine lv_iload hx hb d_Mo_find_104 (lv_at hl 0 rfl) ?_
          refine lv_aload_n hx hb d_Mo_find_106 rfl (lv_at hl 3 rfl) ?_
          refine fd_get (k := 52) (key := 140) C0 hW f_Mo_133 rfl d_Mo_find_107 ?_
          refine lv_iload hx hb d_Mo_find_110 (lv_at hl 1 rfl) ?_
          refine va_iald hx hb hK.1 hW.1 1 1 rfl rfl i1 d_Mo_find_112 ?_
          rw [i2]
          refine va_iast hx hb hK.1 hW.1 hW.2.1 hW.2.2.1 0 1 rfl rfl j1 d_Mo_find_113 (fun H locs hP hD hS => ?_)
          have hW := fW.mk (fW.h hW) hP hD hS
          rw [j2] at hW
          refine lv_aload_n hx hb d_Mo_find_114 rfl (lv_at hl 3 rfl) ?_
          refine fd_get (k := 52) (key := 140) C0 hW f_Mo_133 rfl d_Mo_find_115 ?_
          refine lv_iload hx hb d_Mo_find_118 (lv_at hl 2 rfl) ?_
          refine lv_iload hx hb d_Mo_find_120 (lv_at hl 0 rfl) ?_
          refine va_iast hx hb hK.1 hW.1 hW.2.1 hW.2.2.1 1 1 rfl rfl u1 d_Mo_find_122 (fun H locs hP hD hS => ?_)
          have hW := fW.mk (fW.h hW) hP hD hS
          rw [u2] at hW
          have hu1 := fd_inc hu (by omega)
          obtain ⟨v2, hv2⟩ : ∃ y : Int32, y = u + Int32.ofInt 1 := ⟨_, rfl⟩
          rw [← hv2] at hu1
          refine lv_iinc (v := v2) (lv' := [(5, .int v2), (7, .int b), (6, .int i), (0, .ref (os 100)), (1, .int x1), (2, .int x2), (3, .int x3), (4, .int x4)]) hx hb d_Mo_find_123 hl (k := 2) rfl hv2.symm (by decide) rfl (fun ls hl => ?_)
          refine lv_iinc (v := b2) (lv' := [(7, .int b2), (5, .int v2), (6, .int i), (0, .ref (os 100)), (1, .int x1), (2, .int x2), (3, .int x3), (4, .int x4)]) hx hb d_Mo_find_126 hl (k := 1) rfl hbe.symm (by decide) rfl (fun ls hl => ?_)
          refine lv_goto (tgt := 54) hx hb d_Mo_find_129 (by decide) ?_
          exact ih b2 v2 (bn + 1) (un + 1) _ _ w wp ls H locs (by omega) hb1 hu1 (by omega) hI2 hW (lv_sub hl [0, 2, 1, 3, 4, 5, 6, 7] rfl)
        · have hc3 := hc3
          refine lv_goto (tgt := 126) hx hb d_Mo_find_97 (by decide) ?_
          refine lv_iinc (v := b2) (lv' := [(7, .int b2), (6, .int i), (5, .int u), (0, .ref (os 100)), (1, .int x1), (2, .int x2), (3, .int x3), (4, .int x4)]) hx hb d_Mo_find_126 hl (k := 0) rfl hbe.symm (by decide) rfl (fun ls hl => ?_)
          refine lv_goto (tgt := 54) hx hb d_Mo_find_129 (by decide) ?_
          exact ih b2 u (bn + 1) un f g w wp ls H locs (by omega) hb1 hu him hI hW (lv_sub hl [0, 1, 2, 3, 4, 5, 6, 7] rfl)
set_option maxHeartbeats 4000000 in
theorem fd_L2 (C0 : fC p s m args meth c D cB cI cJ) (hlkP : ab_LK l D cB cI cJ R R_Mo (417, true, k_Mo_passes_931)) (hA : ∀ q : Nat, s.heap.size ≤ q → A q) (hcs : cells ≤ R.cells ∧ slots ≤ R.slots) (hg : ab_g ρ k_Mo_passes_931.2.1) (hρ : ∀ k, 4 ≤ k → ρ k = ρw k) (hbk : ∀ v, ρw 13 = some v → 0 ≤ v ∧ v ≤ 1) (h3 : 0 ≤ x3.toInt ∧ x3.toInt ≤ 7) (h4 : 0 ≤ x4.toInt ∧ x4.toInt ≤ 199) (hret : ∀ (x : Int32) (ls : Array Slot) (H : Heap) (locs : List Loc) (pc : Nat), decode b_Mo_find pc = .ok (.ireturn, 1) → fP D cB cI cJ A s os ρw x H locs → W p l e R s m args below meth c H locs cells slots Q (F0 m pc ls [.int x])) (h1 : x1.toInt = r) {hn : Nat} (h2 : x2.toInt = hn) (hn2 : hn < 12) : ∀ (N : Nat) (i u : Int32) (im un : Nat) (f g : Nat → Int32) (w : Nat → Int32) (wp : va_W) (ls : Array Slot) (H : Heap) (locs : List Loc), im + N = 12 → i.toInt = im → u.toInt = un → fi_I f g r un → fW D cB cI cJ A s os ρw f g w wp H locs → lv_has ls 9 [(6, .int i), (5, .int u), (0, .ref (os 100)), (1, .int x1), (2, .int x2), (3, .int x3), (4, .int x4)] → W p l e R s m args below meth c H locs cells slots Q (F0 m 44 ls []) := by
  intro N
  obtain ⟨hx, hb, hr, hml, hown, hts, hlk, hK⟩ := id C0
  induction N with
  | zero =>
    intro i u im un f g w wp ls H locs hiN hi hu hI hW hl
    have hcn := (ab_cn1_b f 12).1
    have h5 := hI.2.2.2.2.1
    refine lv_iload hx hb d_Mo_find_44 (lv_at hl 0 rfl) ?_
    refine lv_iload hx hb d_Mo_find_46 (lv_at hl 1 rfl) ?_
    refine lv_icmp_ge (tgt := 138) hx hb d_Mo_find_48 (by decide) (fun hc => ?_) (fun hc => ?_)
    · have hc := hc
      exact fd_end C0 hret hI h1 h2 hn2 hW (lv_sub hl [1, 2, 3, 4, 5, 6] rfl)
    · have hc : ¬ u.toInt ≤ i.toInt := fun q => hc (Int32.le_iff_toInt_le.mpr q)
      omega
  | succ N ih =>
    intro i u im un f g w wp ls H locs hiN hi hu hI hW hl
    have hcn := (ab_cn1_b f 12).1
    have h5 := hI.2.2.2.2.1
    refine lv_iload hx hb d_Mo_find_44 (lv_at hl 0 rfl) ?_
    refine lv_iload hx hb d_Mo_find_46 (lv_at hl 1 rfl) ?_
    refine lv_icmp_ge (tgt := 138) hx hb d_Mo_find_48 (by decide) (fun hc => ?_) (fun hc => ?_)
    · have hc := hc
      exact fd_end C0 hret hI h1 h2 hn2 hW (lv_sub hl [1, 2, 3, 4, 5, 6] rfl)
    · have hc : ¬ u.toInt ≤ i.toInt := fun q => hc (Int32.le_iff_toInt_le.mpr q)
      refine lv_iconst (v := 0) hx hb d_Mo_find_51 (by decide +kernel) ?_
      refine lv_istore (lv' := [(7, .int 0), (6, .int i), (5, .int u), (0, .ref (os 100)), (1, .int x1), (2, .int x2), (3, .int x3), (4, .int x4)]) hx hb d_Mo_find_52 hl (by decide) rfl (fun ls hl => ?_)
      exact fd_L3 C0 hlkP hA hcs hg hρ hbk h3 h4 hi (fun i2 u un f g w wp ls H locs a1 a2 a3 a4 a5 => ih i2 u (im + 1) un f g w wp ls H locs (by omega) a1 a2 a3 a4 a5) 12 0 u 0 un f g w wp ls H locs rfl (by decide) hu (by omega) hI hW (lv_sub hl [0, 1, 2, 3, 4, 5, 6, 7] rfl)
set_option maxHeartbeats 4000000 in
theorem fd_L1 (C0 : fC p s m args meth c D cB cI cJ) (hlkP : ab_LK l D cB cI cJ R R_Mo (417, true, k_Mo_passes_931)) (hA : ∀ q : Nat, s.heap.size ≤ q → A q) (hcs : cells ≤ R.cells ∧ slots ≤ R.slots) (hg : ab_g ρ k_Mo_passes_931.2.1) (hρ : ∀ k, 4 ≤ k → ρ k = ρw k) (hbk : ∀ v, ρw 13 = some v → 0 ≤ v ∧ v ≤ 1) (h3 : 0 ≤ x3.toInt ∧ x3.toInt ≤ 7) (h4 : 0 ≤ x4.toInt ∧ x4.toInt ≤ 199) (hret : ∀ (x : Int32) (ls : Array Slot) (H : Heap) (locs : List Loc) (pc : Nat), decode b_Mo_find pc = .ok (.ireturn, 1) → fP D cB cI cJ A s os ρw x H locs → W p l e R s m args below meth c H locs cells slots Q (F0 m pc ls [.int x])) (h1 : x1.toInt = r) (hr12 : r < 12) {hn : Nat} (h2 : x2.toInt = hn) (hn2 : hn < 12) (hg0 : ∀ j, j < 12 → 0 ≤ (g j).toInt ∧ (g j).toInt ≤ 11) : ∀ (N : Nat) (k : Int32) (kn : Nat) (f : Nat → Int32) (ls : Array Slot) (H : Heap) (locs : List Loc), kn + N = 12 → k.toInt = kn → (∀ j, j < kn → (f j).toInt = -1) → fW D cB cI cJ A s os ρw f g w wp H locs → lv_has ls 9 [(5, .int k), (0, .ref (os 100)), (1, .int x1), (2, .int x2), (3, .int x3), (4, .int x4)] → W p l e R s m args below meth c H locs cells slots Q (F0 m 3 ls []) := by
  intro N
  obtain ⟨hx, hb, hr, hml, hown, hts, hlk, hK⟩ := id C0
  induction N with
  | zero =>
    intro k kn f ls H locs hkN hk hf hW hl
    refine lv_iload hx hb d_Mo_find_3 (lv_at hl 0 rfl) ?_
    refine lv_bipush (v := 12) hx hb d_Mo_find_5 (by decide +kernel) ?_
    refine lv_icmp_ge (tgt := 24) hx hb d_Mo_find_7 (by decide) (fun hc => ?_) (fun hc => ?_)
    · have hc : (12 : Int32).toInt ≤ k.toInt := Int32.le_iff_toInt_le.mp hc
      have hc : (12 : Int) ≤ k.toInt := hc
      obtain ⟨j1, j2⟩ := fd_in h1 hr12
      refine lv_aload_n hx hb d_Mo_find_24 rfl (lv_at hl 1 rfl) ?_
      refine fd_get (k := 51) (key := 139) C0 hW f_Mo_130 rfl d_Mo_find_25 ?_
      refine lv_iload_n hx hb d_Mo_find_28 rfl (lv_at hl 2 rfl) ?_
      refine lv_iload_n hx hb d_Mo_find_29 rfl (lv_at hl 2 rfl) ?_
      refine va_iast hx hb hK.1 hW.1 hW.2.1 hW.2.2.1 0 1 rfl rfl j1 d_Mo_find_30 (fun H locs hP hD hS => ?_)
      have hW := fW.mk (fW.h hW) hP hD hS
      rw [j2] at hW
      refine lv_aload_n hx hb d_Mo_find_31 rfl (lv_at hl 1 rfl) ?_
      refine fd_get (k := 52) (key := 140) C0 hW f_Mo_133 rfl d_Mo_find_32 ?_
      refine lv_iconst (v := 0) hx hb d_Mo_find_35 (by decide +kernel) ?_
      refine lv_iload_n hx hb d_Mo_find_36 rfl (lv_at hl 2 rfl) ?_
      refine va_iast hx hb hK.1 hW.1 hW.2.1 hW.2.2.1 1 1 rfl rfl (fd_in (n := 0) (by decide) (by decide)).1 d_Mo_find_37 (fun H locs hP hD hS => ?_)
      have hW := fW.mk (fW.h hW) hP hD hS
      have e0 : (0 : Int32).toNatClampNeg = 0 := by decide
      rw [e0] at hW
      refine lv_iconst (v := 1) hx hb d_Mo_find_38 (by decide +kernel) ?_
      refine lv_istore (lv' := [(5, .int 1), (0, .ref (os 100)), (1, .int x1), (2, .int x2), (3, .int x3), (4, .int x4)]) hx hb d_Mo_find_39 hl (by decide) rfl (fun ls hl => ?_)
      refine lv_iconst (v := 0) hx hb d_Mo_find_41 (by decide +kernel) ?_
      refine lv_istore (lv' := [(6, .int 0), (5, .int 1), (0, .ref (os 100)), (1, .int x1), (2, .int x2), (3, .int x3), (4, .int x4)]) hx hb d_Mo_find_42 hl (by decide) rfl (fun ls hl => ?_)
      exact fd_L2 C0 hlkP hA hcs hg hρ hbk h3 h4 hret h1 h2 hn2 12 0 1 0 1 _ _ w wp ls H locs rfl (by decide) (by decide) (fi_init h1 hr12 (fun j hj => hf j (by omega)) hg0) hW (lv_sub hl [0, 1, 2, 3, 4, 5, 6] rfl)
    · have hc : ¬ (12 : Int32).toInt ≤ k.toInt := fun q => hc (Int32.le_iff_toInt_le.mpr q)
      have hc : ¬ (12 : Int) ≤ k.toInt := hc
      omega
  | succ N ih =>
    intro k kn f ls H locs hkN hk hf hW hl
    refine lv_iload hx hb d_Mo_find_3 (lv_at hl 0 rfl) ?_
    refine lv_bipush (v := 12) hx hb d_Mo_find_5 (by decide +kernel) ?_
    refine lv_icmp_ge (tgt := 24) hx hb d_Mo_find_7 (by decide) (fun hc => ?_) (fun hc => ?_)
    · have hc : (12 : Int32).toInt ≤ k.toInt := Int32.le_iff_toInt_le.mp hc
      have hc : (12 : Int) ≤ k.toInt := hc
      omega
    · have hc : ¬ (12 : Int32).toInt ≤ k.toInt := fun q => hc (Int32.le_iff_toInt_le.mpr q)
      have hc : ¬ (12 : Int) ≤ k.toInt := hc
      obtain ⟨j1, j2⟩ := fd_in hk (by omega)
      refine lv_aload_n hx hb d_Mo_find_10 rfl (lv_at hl 1 rfl) ?_
      refine fd_get (k := 51) (key := 139) C0 hW f_Mo_130 rfl d_Mo_find_11 ?_
      refine lv_iload hx hb d_Mo_find_14 (lv_at hl 0 rfl) ?_
      refine lv_iconst (v := (-1)) hx hb d_Mo_find_16 (by decide +kernel) ?_
      refine va_iast hx hb hK.1 hW.1 hW.2.1 hW.2.2.1 0 1 rfl rfl j1 d_Mo_find_17 (fun H locs hP hD hS => ?_)
      have hW := fW.mk (fW.h hW) hP hD hS
      rw [j2] at hW
      have hk1 := fd_inc hk (by omega)
      obtain ⟨k2, hk2⟩ : ∃ y : Int32, y = k + Int32.ofInt 1 := ⟨_, rfl⟩
      rw [← hk2] at hk1
      refine lv_iinc (v := k2) (lv' := [(5, .int k2), (0, .ref (os 100)), (1, .int x1), (2, .int x2), (3, .int x3), (4, .int x4)]) hx hb d_Mo_find_18 hl (k := 0) rfl hk2.symm (by decide) rfl (fun ls hl => ?_)
      refine lv_goto (tgt := 3) hx hb d_Mo_find_21 (by decide) ?_
      refine ih k2 (kn + 1) _ ls H locs (by omega) hk1 (fun j hj => ?_) hW hl
      unfold upd
      by_cases hjk : j = kn
      · rw [if_pos hjk]; decide
      · rw [if_neg hjk]; exact hf j (by omega)
end FIND
def fd_Hp : ab_Hp := [ua_139, ua_140, ua_141]
set_option maxHeartbeats 4000000 in
theorem c_Mo_find_932 (l : Launch) (D : va_G) (cB cI cJ : ClassId) : ∀ (os : Nat → Nat) (ρ : ab_R) (av : List Value) (ws : va_W), ab_pre cB cI cJ os ρ k_Mo_find_932 av ws → nz_Ci l D cB cI cJ nz_x0 y_Mo_find b_Mo_find 9 (some .int) (ab_rm 7 181) av ws (fun z w => ab_po cB cI cJ os ρ k_Mo_find_932 [.int z] w) := by
  intro os ρ av ws h
  obtain ⟨hg, ha, hh⟩ := h
  have ha : ab_ws os ρ [.inl 100, .inr (.inl (0, [(0, 1)])), .inr (.inl (0, [(1, 1)])), .inr (.inl (0, [(2, 1)])), .inr (.inl (0, [(3, 1)]))] av := ha
  match av, ha with
  | [v0, v1, v2, v3, v4], ⟨a0, ⟨x1, a1, b1⟩, ⟨x2, a2, b2⟩, ⟨x3, a3, b3⟩, ⟨x4, a4, b4⟩, _⟩ =>
    have a0 : v0 = .ref (os 100) := a0
    subst a0
    subst a1
    subst a2
    subst a3
    subst a4
    have bd : ∀ (k : Nat) (t : Nat × Int × Int) (x : Int32), k_Mo_find_932.2.1.2.1[k]? = some t → t.1 = k → ρ k = some x.toInt → t.2.1 ≤ x.toInt ∧ x.toInt ≤ t.2.2 := by
      intro k t x h1 h2 h3
      obtain ⟨v, w1, w2, w3⟩ := hg.2.2.1 t (List.mem_of_getElem? h1)
      rw [h2, h3] at w1
      cases w1
      exact ⟨w2, w3⟩
    have q1 : 0 ≤ x1.toInt ∧ x1.toInt ≤ 11 := bd 0 (0, 0, 11) x1 rfl rfl (ab_vr_E' b1)
    have q2 : 0 ≤ x2.toInt ∧ x2.toInt ≤ 11 := bd 1 (1, 0, 11) x2 rfl rfl (ab_vr_E' b2)
    have q3 : 0 ≤ x3.toInt ∧ x3.toInt ≤ 7 := bd 2 (2, 0, 7) x3 rfl rfl (ab_vr_E' b3)
    have q4 : 0 ≤ x4.toInt ∧ x4.toInt ≤ 199 := bd 3 (3, 0, 199) x4 rfl rfl (ab_vr_E' b4)
    have hh : ab_h cB cI cJ os ρ (k_Mo_passes_931.2.2.1 ++ fd_Hp) ws := hh
    obtain ⟨wp, w3, hw, hp, h3⟩ := fi_split hh
    subst hw
    match w3, h3 with
    | [u1, u2, u3], ⟨⟨c1, f, e1, r1⟩, ⟨c2, g, e2, r2⟩, ⟨c3, w, e3, r3⟩, _⟩ =>
      obtain ⟨u11, u12⟩ := u1
      obtain ⟨u21, u22⟩ := u2
      obtain ⟨u31, u32⟩ := u3
      have c1 : u11 = os 139 := c1
      have c2 : u21 = os 140 := c2
      have c3 : u31 = os 141 := c3
      have e1 : u12 = .inl (cI, 12, .inl f) := e1
      have e2 : u22 = .inl (cI, 12, .inl g) := e2
      have e3 : u32 = .inl (cI, 12, .inl w) := e3
      subst c1
      subst c2
      subst c3
      subst e1
      subst e2
      subst e3
      have hlen : wp.length = 23 := fi_len hp
      let ρw : ab_R := fun k => if k < 4 then none else ρ k
      have hρ : ∀ k, 4 ≤ k → ρ k = ρw k := by
        intro k hk
        show ρ k = if k < 4 then none else ρ k
        rw [if_neg (by omega)]
      have hbk : ∀ v, ρw 13 = some v → 0 ≤ v ∧ v ≤ 1 := by
        intro v hv
        rw [← hρ 13 (by decide)] at hv
        obtain ⟨v', w1, w2, w3⟩ := hg.2.2.1 (13, 0, 1) (List.mem_of_getElem? (i := 13) rfl)
        have w1 : ρ 13 = some v' := w1
        rw [hv] at w1
        cases w1
        exact ⟨w2, w3⟩
      refine nz_Ci.mk (by decide) (Nat.le_of_ble_eq_true rfl) ?_
      intro p e s m below meth c A ls C0 hnm hP hD hS hA hX hl
      have C0 : fC p s m _ meth c D cB cI cJ := C0
      have hl : lv_has ls 9 [(0, .ref (os 100)), (1, .int x1), (2, .int x2), (3, .int x3), (4, .int x4)] := hl
      obtain ⟨hx, hb, hr, hml, hown, hts, hlk, hK⟩ := id C0
      have hsw : (List.range' 23 3 ++ List.range' 0 23).map (fun i => (wp ++ [(os 139, .inl (cI, 12, .inl f)), (os 140, .inl (cI, 12, .inl g)), (os 141, .inl (cI, 12, .inl w))])[i]?) = ((os 139, .inl (cI, 12, .inl f)) :: (os 140, .inl (cI, 12, .inl g)) :: (os 141, .inl (cI, 12, .inl w)) :: wp : va_W).map some := by
        have k1 := fi_rg [(os 139, (.inl (cI, 12, .inl f) : va_E)), (os 140, .inl (cI, 12, .inl g)), (os 141, .inl (cI, 12, .inl w))] wp
        have k2 := fi_rg0 wp [(os 139, (.inl (cI, 12, .inl f) : va_E)), (os 140, .inl (cI, 12, .inl g)), (os 141, .inl (cI, 12, .inl w))]
        rw [hlen] at k1 k2
        rw [List.map_append, k2]
        exact congrArg (· ++ wp.map some) k1
      have hW : fW D cB cI cJ A s os ρw f g w wp s.heap [] := ⟨hP.sub _ (nz_fm _ _ hsw), hD.sub _ (by decide) hsw, hS, fi_h hρ (by decide +kernel) hp⟩
      refine lv_iconst (v := 0) hx hb d_Mo_find_0 (by decide +kernel) ?_
      refine lv_istore (lv' := [(5, .int 0), (0, .ref (os 100)), (1, .int x1), (2, .int x2), (3, .int x3), (4, .int x4)]) hx hb d_Mo_find_1 hl (by decide) rfl (fun ls hl => ?_)
      refine fd_L1 (r := x1.toInt.toNat) C0 (ab_lkVi rfl rfl rfl (c_Mo_passes_931 l D cB cI cJ) g_Mo_417 (by decide)) hA ⟨Nat.le_refl _, Nat.le_refl _⟩ hg hρ hbk ⟨by omega, by omega⟩ ⟨by omega, by omega⟩ ?_ (by omega) (by omega) (hn := x2.toInt.toNat) (by omega) (by omega) r2 12 0 0 f ls s.heap [] rfl (by decide) (fun j hj => absurd hj (Nat.not_lt_zero _)) hW hl
      intro x ls H locs pc hdg hfp
      obtain ⟨f, g, w, wp, hW, hx0, hf, hg2⟩ := hfp
      have hlen : wp.length = 23 := fi_len hW.2.2.2
      have hsw : (List.range' 3 23 ++ List.range' 0 3).map (fun i => ((os 139, .inl (cI, 12, .inl f)) :: (os 140, .inl (cI, 12, .inl g)) :: (os 141, .inl (cI, 12, .inl w)) :: wp : va_W)[i]?) = (wp ++ [(os 139, .inl (cI, 12, .inl f)), (os 140, .inl (cI, 12, .inl g)), (os 141, .inl (cI, 12, .inl w))] : va_W).map some := by
        have k1 := fi_rg wp [(os 139, (.inl (cI, 12, .inl f) : va_E)), (os 140, .inl (cI, 12, .inl g)), (os 141, .inl (cI, 12, .inl w))]
        rw [hlen] at k1
        rw [List.map_append, List.map_append]
        exact congrArg (· ++ _) k1
      refine nz_reti C0 (hW.1.sub _ (nz_fm _ _ hsw)) (hW.2.1.sub _ (by decide) hsw) hW.2.2.1 ?_ hdg
      obtain ⟨ρ', s1, s2, s3⟩ := nb_ex (lo := -1) (hi := 12) hg hx0.1 hx0.2 (ab_i32t x)
      have hsub : ab_sub2 ρw ρ' := by
        intro k v hk
        by_cases h4 : k < 4
        · have hk : (if k < 4 then none else ρ k) = some v := hk
          rw [if_pos h4] at hk; cases hk
        · rw [← hρ k (by omega)] at hk; exact s1 k v hk
      refine ⟨_, List.mem_cons_self .., ρ', s1, ⟨s2.1, s2.2.1, fun t ht => ?_, fun c hc => (by cases hc), fun c hc => (by cases hc)⟩, ⟨⟨x, rfl, ab_vr_E s3⟩, trivial⟩, ?_⟩
      · exact s2.2.2.1 t (by rcases List.mem_cons.mp ht with rfl | ht; exact List.mem_cons_self ..; cases ht)
      · exact ab_h_app (ab_h_mono hsub hW.2.2.2) ⟨⟨rfl, f, rfl, hf⟩, ⟨rfl, g, rfl, hg2⟩, ⟨rfl, w, rfl, fun j _ => ab_i32 _⟩, trivial⟩
