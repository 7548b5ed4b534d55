/-! every instruction that the methods use, but calls and returns -/
def ab_any2 (Γ : ab_G) (_ _ : ab_L) : ab_G × ab_L := ab_fv Γ ab_m32 ab_x32
def ab_any3 (Γ : ab_G) (_ _ : ab_L) : ab_G × ab_L := ab_fv Γ ab_m64 ab_x64
def ab_any1 (Γ : ab_G) (_ : ab_L) : ab_G × ab_L := ab_fv Γ ab_m32 ab_x32
def ab_byt1 (Γ : ab_G) (_ : ab_L) : ab_G × ab_L := ab_fv Γ (-128) 127
def ab_oc (c : ClassFile.Cond) : Nat := match c with
  | .eq => 0
  | .ne => 1
  | .lt => 2
  | .ge => 3
  | .gt => 4
  | .le => 5
def ab_ld (kd k pc' : Nat) (a : ab_A) : ab_O := match ab_lk k a.2.1 with
  | some w => (match ab_kd kd w with
    | true => ab_ps w pc' a
    | false => none)
  | none => none
def ab_sk (kd nL i pc' : Nat) (a : ab_A) : ab_O := match a.2.2.1 with
  | w :: _ => (match ab_kd kd w with
    | true => ab_st nL i pc' a
    | false => none)
  | [] => none
def ab_kn (lo hi : Int) (k : Int) (pc' : Nat) (a : ab_A) : ab_O := match ab_le lo k && ab_le k hi with
  | true => ab_ps (.inr (.inl (ab_cn k))) pc' a
  | false => none
def ab_ki (t : List (Nat × Int)) (idx pc' : Nat) (a : ab_A) : ab_O := match ab_ik idx t with
  | some v => ab_ps (.inr (.inl (ab_cn v))) pc' a
  | none => none
def ab_kl (t : List (Nat × Int)) (idx pc' : Nat) (a : ab_A) : ab_O := match ab_ik idx t with
  | some v => ab_ps (.inr (.inr (.inl (ab_cn v)))) pc' a
  | none => none
def ab_sw1 (pc : Nat) (d lo hi : Int) (offs : Array Int) (a : ab_A) : ab_O := match ab_ieq offs.toList.length (hi - lo + 1) with
  | true => ab_tsw pc d lo offs.toList a
  | false => none
def ab_sw2 (pc : Nat) (d : Int) (ps : Array (Int × Int)) (a : ab_A) : ab_O := match (ps.toList.zip (ps.toList.drop 1)).all (fun (a, next) => a.1 < next.1) with
  | true => ab_ksw pc d ps.toList a
  | false => none
def ab_lenOK (i : Instr) (len : Nat) : Bool := match i with
  | .tableswitch .. => true
  | .lookupswitch .. => true
  | .bipush _ => Nat.beq len 2
  | .sipush _ => Nat.beq len 3
  | .ldc _ => Nat.beq len 2
  | .ldc_w _ => Nat.beq len 3
  | .ldc2_w _ => Nat.beq len 3
  | .iload _ => Nat.beq len 2
  | .lload _ => Nat.beq len 2
  | .aload _ => Nat.beq len 2
  | .istore _ => Nat.beq len 2
  | .lstore _ => Nat.beq len 2
  | .astore _ => Nat.beq len 2
  | .iinc .. => Nat.beq len 3
  | .ifCond .. => Nat.beq len 3
  | .if_icmp .. => Nat.beq len 3
  | .goto _ => Nat.beq len 3
  | .getfield _ => Nat.beq len 3
  | .putfield _ => Nat.beq len 3
  | .invokevirtual _ => Nat.beq len 3
  | .invokestatic _ => Nat.beq len 3
  | _ => Nat.beq len 1
def ab_x (T : ab_T) (pc : Nat) (i : Instr) (a : ab_A) : ab_O := match i with
  | .iconst k => ab_kn ab_m32 ab_x32 k (pc + 1) a
  | .bipush k => ab_kn (-128) 127 k (pc + 2) a
  | .sipush k => ab_kn (-32768) 32767 k (pc + 3) a
  | .lconst k => ab_ps (.inr (.inr (.inl (ab_cn (k : Nat))))) (pc + 1) a
  | .ldc idx => ab_ki T.2.1 idx (pc + 2) a
  | .ldc_w idx => ab_ki T.2.1 idx (pc + 3) a
  | .ldc2_w idx => ab_kl T.2.2.1 idx (pc + 3) a
  | .iload k => ab_ld 0 k (pc + 2) a
  | .iload_n k => ab_ld 0 (k : Nat) (pc + 1) a
  | .lload k => ab_ld 1 k (pc + 2) a
  | .lload_n k => ab_ld 1 (k : Nat) (pc + 1) a
  | .aload k => ab_ld 2 k (pc + 2) a
  | .aload_n k => ab_ld 2 (k : Nat) (pc + 1) a
  | .istore k => ab_sk 0 T.2.2.2 k (pc + 2) a
  | .istore_n k => ab_sk 0 T.2.2.2 (k : Nat) (pc + 1) a
  | .lstore k => ab_sk 1 T.2.2.2 k (pc + 2) a
  | .lstore_n k => ab_sk 1 T.2.2.2 (k : Nat) (pc + 1) a
  | .astore k => ab_sk 2 T.2.2.2 k (pc + 2) a
  | .astore_n k => ab_sk 2 T.2.2.2 (k : Nat) (pc + 1) a
  | .iinc k d => ab_inc T.2.2.2 k d (pc + 3) a
  | .iadd => ab_b2 ab_iadd false (pc + 1) a
  | .isub => ab_b2 ab_isub false (pc + 1) a
  | .imul => ab_b2 ab_imul false (pc + 1) a
  | .iand => ab_b2 ab_iand false (pc + 1) a
  | .ior => ab_b2 ab_any2 false (pc + 1) a
  | .ixor => ab_b2 ab_any2 false (pc + 1) a
  | .ishl => ab_b2 ab_ishl false (pc + 1) a
  | .ishr => ab_b2 ab_any2 false (pc + 1) a
  | .idiv => ab_b2 ab_idiv true (pc + 1) a
  | .irem => ab_b2 ab_irem true (pc + 1) a
  | .ladd => ab_b3 ab_ladd false (pc + 1) a
  | .lmul => ab_b3 ab_lmul false (pc + 1) a
  | .land => ab_b3 ab_any3 false (pc + 1) a
  | .lor => ab_b3 ab_any3 false (pc + 1) a
  | .ldiv => ab_b3 ab_any3 true (pc + 1) a
  | .lrem => ab_b3 ab_lrem true (pc + 1) a
  | .lushr => ab_b4 ab_lushr (pc + 1) a
  | .lshl => ab_b4 ab_any3 (pc + 1) a
  | .lshr => ab_b4 ab_any3 (pc + 1) a
  | .ineg => ab_u1 ab_any1 (pc + 1) a
  | .i2b => ab_u1 ab_byt1 (pc + 1) a
  | .i2l => ab_u2 (pc + 1) a
  | .l2i => ab_u3 (pc + 1) a
  | .lcmp => ab_lc (pc + 1) a
  | .pop => ab_pp false (pc + 1) a
  | .pop2 => ab_pp true (pc + 1) a
  | .dup => ab_d1 (pc + 1) a
  | .dup2 => ab_d2 (pc + 1) a
  | .ifCond o off => ab_if pc (ab_oc o) off (pc + 3) a
  | .if_icmp o off => ab_ic pc (ab_oc o) off (pc + 3) a
  | .goto off => ab_go pc off a
  | .tableswitch d lo hi offs => ab_sw1 pc d lo hi offs a
  | .lookupswitch d ps => ab_sw2 pc d ps a
  | .getfield idx => ab_gf T.1 idx (pc + 3) a
  | .putfield idx => ab_pf T.1 idx (pc + 3) a
  | .iaload => ab_al false (pc + 1) a
  | .baload => ab_al true (pc + 1) a
  | .laload => ab_ll (pc + 1) a
  | .iastore => ab_as1 (pc + 1) a
  | .bastore => ab_bs (pc + 1) a
  | .lastore => ab_ls1 (pc + 1) a
  | .arraylength => ab_ar (pc + 1) a
  | _ => none
theorem ab_bp {k : Int} (h1 : -128 ≤ k) (h2 : k ≤ 127) : ((Int8.ofInt k).toInt32).toInt = k := by
  rw [Int8.toInt_toInt32, Int8.toInt_ofInt, Int.bmod_def]
  have h8 : ((Int8.size : Nat) : Int) = 256 := rfl
  rw [h8]
  split <;> omega
theorem ab_sp {k : Int} (h1 : -32768 ≤ k) (h2 : k ≤ 32767) : ((Int16.ofInt k).toInt32).toInt = k := by
  rw [Int16.toInt_toInt32, Int16.toInt_ofInt, Int.bmod_def]
  have h8 : ((Int16.size : Nat) : Int) = 65536 := rfl
  rw [h8]
  split <;> omega
theorem ab_cat1 {v : Value} (h : (v.category == 2) = false) : v.category = 1 := by
  rcases lv_cat v with q | q
  · exact q
  · rw [q] at h; cases h
section AXS
variable {D : va_G} {cB cI cJ : ClassId} {A : Nat → Prop} {H0 : Heap} {os : Nat → Nat} {ρ0 : ab_R} {n : Nat} {rk : ab_L} {z0 : Int} {WW : Nat → Array Slot → List Value → Heap → List Loc → Prop} {pc pc' : Nat}
theorem ab_kn_ok {lo hi k : Int} {a : ab_A} {r : List (Nat × ab_A)} (hr : ab_kn lo hi k pc' a = some r) (hG : ∀ q ∈ r, ab_Gd D cB cI cJ A H0 os ρ0 n rk z0 WW q.1 q.2)
    (rule : lo ≤ k → k ≤ hi → ∃ v : Int32, v.toInt = k ∧ ∀ ls rest H locs, WW pc' ls (.int v :: rest) H locs → WW pc ls rest H locs) : ab_Gd D cB cI cJ A H0 os ρ0 n rk z0 WW pc a := by
  unfold ab_kn at hr
  split at hr
  · rename_i hc
    simp only [Bool.and_eq_true, ab_le_iff] at hc
    obtain ⟨v, h1, h2⟩ := rule hc.1 hc.2
    exact ab_ps_ok hr hG (fun ρ ls rest H locs _ _ => ⟨.int v, ⟨v, rfl, by rw [h1]; exact ab_cn_E⟩, h2 ls rest H locs⟩)
  · cases hr
theorem ab_ki_ok {own : String} {t : List (Nat × Int)} {idx : Nat} {a : ab_A} {r : List (Nat × ab_A)} (ht : ∀ q ∈ t, ∃ v : Int32, v.toInt = q.2 ∧ Jvm.Cond.constant own q.1 v ∈ nz_gd) (hr : ab_ki t idx pc' a = some r) (hG : ∀ q ∈ r, ab_Gd D cB cI cJ A H0 os ρ0 n rk z0 WW q.1 q.2)
    (rule : ∀ v : Int32, Jvm.Cond.constant own idx v ∈ nz_gd → ∀ ls rest H locs, WW pc' ls (.int v :: rest) H locs → WW pc ls rest H locs) : ab_Gd D cB cI cJ A H0 os ρ0 n rk z0 WW pc a := by
  unfold ab_ki at hr
  split at hr
  · rename_i k hk
    obtain ⟨v, h1, h2⟩ := ht _ (ab_ik_ok hk)
    have h1 : v.toInt = k := h1
    exact ab_ps_ok hr hG (fun ρ ls rest H locs _ _ => ⟨.int v, ⟨v, rfl, by rw [h1]; exact ab_cn_E⟩, rule v h2 ls rest H locs⟩)
  · cases hr
theorem ab_kl_ok {own : String} {t : List (Nat × Int)} {idx : Nat} {a : ab_A} {r : List (Nat × ab_A)} (ht : ∀ q ∈ t, ∃ v : Int64, v.toInt = q.2 ∧ Jvm.Cond.constantLong own q.1 v ∈ nz_gd) (hr : ab_kl t idx pc' a = some r) (hG : ∀ q ∈ r, ab_Gd D cB cI cJ A H0 os ρ0 n rk z0 WW q.1 q.2)
    (rule : ∀ v : Int64, Jvm.Cond.constantLong own idx v ∈ nz_gd → ∀ ls rest H locs, WW pc' ls (.long v :: rest) H locs → WW pc ls rest H locs) : ab_Gd D cB cI cJ A H0 os ρ0 n rk z0 WW pc a := by
  unfold ab_kl at hr
  split at hr
  · rename_i k hk
    obtain ⟨v, h1, h2⟩ := ht _ (ab_ik_ok hk)
    have h1 : v.toInt = k := h1
    exact ab_ps_ok hr hG (fun ρ ls rest H locs _ _ => ⟨.long v, ⟨v, rfl, by rw [h1]; exact ab_cn_E⟩, rule v h2 ls rest H locs⟩)
  · cases hr
theorem ab_ldi_ok {k : Nat} {a : ab_A} {r : List (Nat × ab_A)} (hr : ab_ld 0 k pc' a = some r) (hG : ∀ q ∈ r, ab_Gd D cB cI cJ A H0 os ρ0 n rk z0 WW q.1 q.2)
    (rule : ∀ ls rest H locs (x : Int32), ls[k]? = some (.val (.int x)) → WW pc' ls (.int x :: rest) H locs → WW pc ls rest H locs) : ab_Gd D cB cI cJ A H0 os ρ0 n rk z0 WW pc a := by
  unfold ab_ld at hr
  split at hr
  · rename_i w hw
    split at hr
    · rename_i hk
      refine ab_ps_ok hr hG (fun ρ ls rest H locs _ hl => ?_)
      obtain ⟨lvs, l1, l2⟩ := hl
      obtain ⟨j, v, h1, h2⟩ := ab_lk_ok l2 hw
      have hv := lv_at l1 j h1
      refine ⟨v, h2, ?_⟩
      match w, hk, h2 with
      | .inl e, hk, _ => cases hk
      | .inr (.inl e), _, ⟨x, h2, _⟩ =>
        subst h2
        exact rule ls rest H locs x hv
      | .inr (.inr (.inl e)), hk, _ => cases hk
      | .inr (.inr (.inr e)), hk, _ => cases hk
    · cases hr
  · cases hr
theorem ab_ldl_ok {k : Nat} {a : ab_A} {r : List (Nat × ab_A)} (hr : ab_ld 1 k pc' a = some r) (hG : ∀ q ∈ r, ab_Gd D cB cI cJ A H0 os ρ0 n rk z0 WW q.1 q.2)
    (rule : ∀ ls rest H locs (x : Int64), ls[k]? = some (.val (.long x)) → WW pc' ls (.long x :: rest) H locs → WW pc ls rest H locs) : ab_Gd D cB cI cJ A H0 os ρ0 n rk z0 WW pc a := by
  unfold ab_ld at hr
  split at hr
  · rename_i w hw
    split at hr
    · rename_i hk
      refine ab_ps_ok hr hG (fun ρ ls rest H locs _ hl => ?_)
      obtain ⟨lvs, l1, l2⟩ := hl
      obtain ⟨j, v, h1, h2⟩ := ab_lk_ok l2 hw
      have hv := lv_at l1 j h1
      refine ⟨v, h2, ?_⟩
      match w, hk, h2 with
      | .inl e, hk, _ => cases hk
      | .inr (.inl e), hk, _ => cases hk
      | .inr (.inr (.inl e)), _, ⟨x, h2, _⟩ =>
        subst h2
        exact rule ls rest H locs x hv
      | .inr (.inr (.inr e)), hk, _ => cases hk
    · cases hr
  · cases hr
theorem ab_lda_ok {k : Nat} {a : ab_A} {r : List (Nat × ab_A)} (hr : ab_ld 2 k pc' a = some r) (hG : ∀ q ∈ r, ab_Gd D cB cI cJ A H0 os ρ0 n rk z0 WW q.1 q.2)
    (rule : ∀ ls rest H locs (x : Nat), ls[k]? = some (.val (.ref x)) → WW pc' ls (.ref x :: rest) H locs → WW pc ls rest H locs) : ab_Gd D cB cI cJ A H0 os ρ0 n rk z0 WW pc a := by
  unfold ab_ld at hr
  split at hr
  · rename_i w hw
    split at hr
    · rename_i hk
      refine ab_ps_ok hr hG (fun ρ ls rest H locs _ hl => ?_)
      obtain ⟨lvs, l1, l2⟩ := hl
      obtain ⟨j, v, h1, h2⟩ := ab_lk_ok l2 hw
      have hv := lv_at l1 j h1
      refine ⟨v, h2, ?_⟩
      match w, hk, h2 with
      | .inl e, _, h2 =>
        have h2 : v = .ref (os e) := h2
        subst h2
        exact rule ls rest H locs _ hv
      | .inr (.inl e), hk, _ => cases hk
      | .inr (.inr (.inl e)), hk, _ => cases hk
      | .inr (.inr (.inr e)), hk, _ => cases hk
    · cases hr
  · cases hr
theorem ab_ski_ok {i : Nat} {a : ab_A} {r : List (Nat × ab_A)} (hr : ab_sk 0 n i pc' a = some r) (hG : ∀ q ∈ r, ab_Gd D cB cI cJ A H0 os ρ0 n rk z0 WW q.1 q.2)
    (rule : ∀ ls rest H locs (x : Int32) lvs, True → lv_has ls n lvs → i < n → (∀ ls', lv_has ls' n ((i, Value.int x) :: lvs.filter (fun q => !(q.1 == i) && !(q.1 + 1 == i && q.2.category == 2))) → WW pc' ls' rest H locs) → WW pc ls (Value.int x :: rest) H locs) : ab_Gd D cB cI cJ A H0 os ρ0 n rk z0 WW pc a := by
  unfold ab_sk at hr
  split at hr
  · rename_i w st hw
    split at hr
    · rename_i hk
      exact ab_st_ok hr hG (fun ls rest H locs x lvs _ h1 h2 kk => rule ls rest H locs x lvs trivial h1 h2 kk) (fun _ _ _ _ _ _ he _ _ _ => by obtain ⟨e, st2, he⟩ := he; rw [he] at hw; cases hw; cases hk) (fun _ _ _ _ _ _ he _ _ _ => by obtain ⟨e, st2, he⟩ := he; rw [he] at hw; cases hw; cases hk)
    · cases hr
  · cases hr
theorem ab_skl_ok {i : Nat} {a : ab_A} {r : List (Nat × ab_A)} (hr : ab_sk 1 n i pc' a = some r) (hG : ∀ q ∈ r, ab_Gd D cB cI cJ A H0 os ρ0 n rk z0 WW q.1 q.2)
    (rule : ∀ ls rest H locs (x : Int64) lvs, True → lv_has ls n lvs → i + 1 < n → (∀ ls', lv_has ls' n ((i, Value.long x) :: lvs.filter (fun q => !(q.1 == i) && (!(q.1 == i + 1) && !(q.1 + 1 == i && q.2.category == 2)))) → WW pc' ls' rest H locs) → WW pc ls (Value.long x :: rest) H locs) : ab_Gd D cB cI cJ A H0 os ρ0 n rk z0 WW pc a := by
  unfold ab_sk at hr
  split at hr
  · rename_i w st hw
    split at hr
    · rename_i hk
      exact ab_st_ok hr hG (fun _ _ _ _ _ _ he _ _ _ => by obtain ⟨e, st2, he⟩ := he; rw [he] at hw; cases hw; cases hk) (fun ls rest H locs x lvs _ h1 h2 kk => rule ls rest H locs x lvs trivial h1 h2 kk) (fun _ _ _ _ _ _ he _ _ _ => by obtain ⟨e, st2, he⟩ := he; rw [he] at hw; cases hw; cases hk)
    · cases hr
  · cases hr
theorem ab_ska_ok {i : Nat} {a : ab_A} {r : List (Nat × ab_A)} (hr : ab_sk 2 n i pc' a = some r) (hG : ∀ q ∈ r, ab_Gd D cB cI cJ A H0 os ρ0 n rk z0 WW q.1 q.2)
    (rule : ∀ ls rest H locs (x : Nat) lvs, True → lv_has ls n lvs → i < n → (∀ ls', lv_has ls' n ((i, Value.ref x) :: lvs.filter (fun q => !(q.1 == i) && !(q.1 + 1 == i && q.2.category == 2))) → WW pc' ls' rest H locs) → WW pc ls (Value.ref x :: rest) H locs) : ab_Gd D cB cI cJ A H0 os ρ0 n rk z0 WW pc a := by
  unfold ab_sk at hr
  split at hr
  · rename_i w st hw
    split at hr
    · rename_i hk
      exact ab_st_ok hr hG (fun _ _ _ _ _ _ he _ _ _ => by obtain ⟨e, st2, he⟩ := he; rw [he] at hw; cases hw; cases hk) (fun _ _ _ _ _ _ he _ _ _ => by obtain ⟨e, st2, he⟩ := he; rw [he] at hw; cases hw; cases hk) (fun ls rest H locs x lvs _ h1 h2 kk => rule ls rest H locs x lvs trivial h1 h2 kk)
    · cases hr
  · cases hr
end AXS
theorem ab_x_ok {p : Program} {l : Launch} {e : Env} {R : Room} {s : State} {m : MethodId} {args : Array Value} {below : List Frame} {meth : Method} {c : Code} {cells slots : Nat} {Q : State → Prop} {pc : Nat} {D : va_G} {cB cI cJ : ClassId} {cc : ByteArray} {n : Nat} {rt : Option FieldType} {own : String} {A : Nat → Prop} {os : Nat → Nat} {ρ0 : ab_R} {rk : ab_L} {z0 : Int} {T : ab_T} {i : Instr} {len : Nat} {a : ab_A} {r : List (Nat × ab_A)}
    (C0 : nz_Cx p s m args meth c cc n rt own D cB cI cJ) (hT : ab_Tok own n T) (hdg0 : decode cc pc = .ok (i, len)) (hlen : ab_lenOK i len = true) (hr : ab_x T pc i a = some r)
    (hG : ∀ q ∈ r, ab_Gd D cB cI cJ A s.heap os ρ0 n rk z0 (fun pc ls stk H locs => W p l e R s m args below meth c H locs cells slots Q (F0 m pc ls stk)) q.1 q.2) :
    ab_Gd D cB cI cJ A s.heap os ρ0 n rk z0 (fun pc ls stk H locs => W p l e R s m args below meth c H locs cells slots Q (F0 m pc ls stk)) pc a := by
  obtain ⟨hx, hb, -, hml, hown, hts, -, hK⟩ := C0
  unfold ab_x at hr
  split at hr
  · rename_i k
    have hdg : decode cc pc = .ok (.iconst k, 1) := by rw [hdg0, Nat.eq_of_beq_eq_true hlen]
    exact ab_kn_ok hr hG (fun h1 h2 => ⟨Int32.ofInt k, by rw [Int32.toInt_ofInt, ab_bm32 h1 h2], fun _ _ _ _ kk => lv_iconst hx hb hdg rfl kk⟩)
  · rename_i k
    have hdg : decode cc pc = .ok (.bipush k, 2) := by rw [hdg0, Nat.eq_of_beq_eq_true hlen]
    exact ab_kn_ok hr hG (fun h1 h2 => ⟨(Int8.ofInt k).toInt32, ab_bp h1 h2, fun _ _ _ _ kk => lv_bipush hx hb hdg rfl kk⟩)
  · rename_i k
    have hdg : decode cc pc = .ok (.sipush k, 3) := by rw [hdg0, Nat.eq_of_beq_eq_true hlen]
    exact ab_kn_ok hr hG (fun h1 h2 => ⟨(Int16.ofInt k).toInt32, ab_sp h1 h2, fun _ _ _ _ kk => lv_sipush hx hb hdg rfl kk⟩)
  · rename_i k
    have hdg : decode cc pc = .ok (.lconst k, 1) := by rw [hdg0, Nat.eq_of_beq_eq_true hlen]
    exact ab_ps_ok hr hG (fun ρ ls rest H locs _ _ => ⟨.long (Int64.ofNat (k : Nat)), ⟨_, rfl, by rw [Int64.toInt_ofNat_of_lt (by have := k.2; omega)]; exact ab_cn_E⟩, fun kk => lv_lconst hx hb hdg rfl kk⟩)
  · rename_i idx
    have hdg : decode cc pc = .ok (.ldc idx, 2) := by rw [hdg0, Nat.eq_of_beq_eq_true hlen]
    exact ab_ki_ok hT.2.1 hr hG (fun v hv => fun _ _ _ _ kk => lv_ldc hx hb hown (hts _ hv) hdg kk)
  · rename_i idx
    have hdg : decode cc pc = .ok (.ldc_w idx, 3) := by rw [hdg0, Nat.eq_of_beq_eq_true hlen]
    exact ab_ki_ok hT.2.1 hr hG (fun v hv => fun _ _ _ _ kk => lv_ldcw hx hb hown (hts _ hv) hdg kk)
  · rename_i idx
    have hdg : decode cc pc = .ok (.ldc2_w idx, 3) := by rw [hdg0, Nat.eq_of_beq_eq_true hlen]
    exact ab_kl_ok hT.2.2.1 hr hG (fun v hv => fun _ _ _ _ kk => lv_ldc2 hx hb hown (hts _ hv) hdg kk)
  · rename_i k
    have hdg : decode cc pc = .ok (.iload k, 2) := by rw [hdg0, Nat.eq_of_beq_eq_true hlen]
    exact ab_ldi_ok hr hG (fun _ _ _ _ _ hl kk => lv_iload hx hb hdg hl kk)
  · rename_i k
    have hdg : decode cc pc = .ok (.iload_n k, 1) := by rw [hdg0, Nat.eq_of_beq_eq_true hlen]
    exact ab_ldi_ok hr hG (fun _ _ _ _ _ hl kk => lv_iload_n hx hb hdg rfl hl kk)
  · rename_i k
    have hdg : decode cc pc = .ok (.lload k, 2) := by rw [hdg0, Nat.eq_of_beq_eq_true hlen]
    exact ab_ldl_ok hr hG (fun _ _ _ _ _ hl kk => lv_lload hx hb hdg hl kk)
  · rename_i k
    have hdg : decode cc pc = .ok (.lload_n k, 1) := by rw [hdg0, Nat.eq_of_beq_eq_true hlen]
    exact ab_ldl_ok hr hG (fun _ _ _ _ _ hl kk => lv_lload_n hx hb hdg rfl hl kk)
  · rename_i k
    have hdg : decode cc pc = .ok (.aload k, 2) := by rw [hdg0, Nat.eq_of_beq_eq_true hlen]
    exact ab_lda_ok hr hG (fun _ _ _ _ _ hl kk => lv_aload hx hb hdg hl kk)
  · rename_i k
    have hdg : decode cc pc = .ok (.aload_n k, 1) := by rw [hdg0, Nat.eq_of_beq_eq_true hlen]
    exact ab_lda_ok hr hG (fun _ _ _ _ _ hl kk => lv_aload_n hx hb hdg rfl hl kk)
  · rename_i k
    have hdg : decode cc pc = .ok (.istore k, 2) := by rw [hdg0, Nat.eq_of_beq_eq_true hlen]
    rw [hT.2.2.2] at hr
    exact ab_ski_ok hr hG (fun _ _ _ _ _ _ _ h1 h2 kk => lv_istore hx hb hdg h1 h2 rfl kk)
  · rename_i k
    have hdg : decode cc pc = .ok (.istore_n k, 1) := by rw [hdg0, Nat.eq_of_beq_eq_true hlen]
    rw [hT.2.2.2] at hr
    exact ab_ski_ok hr hG (fun _ _ _ _ _ _ _ h1 h2 kk => lv_istore_n hx hb hdg rfl h1 h2 rfl kk)
  · rename_i k
    have hdg : decode cc pc = .ok (.lstore k, 2) := by rw [hdg0, Nat.eq_of_beq_eq_true hlen]
    rw [hT.2.2.2] at hr
    exact ab_skl_ok hr hG (fun _ _ _ _ _ _ _ h1 h2 kk => lv_lstore hx hb hdg h1 h2 rfl kk)
  · rename_i k
    have hdg : decode cc pc = .ok (.lstore_n k, 1) := by rw [hdg0, Nat.eq_of_beq_eq_true hlen]
    rw [hT.2.2.2] at hr
    exact ab_skl_ok hr hG (fun _ _ _ _ _ _ _ h1 h2 kk => lv_lstore_n hx hb hdg rfl h1 h2 rfl kk)
  · rename_i k
    have hdg : decode cc pc = .ok (.astore k, 2) := by rw [hdg0, Nat.eq_of_beq_eq_true hlen]
    rw [hT.2.2.2] at hr
    exact ab_ska_ok hr hG (fun _ _ _ _ _ _ _ h1 h2 kk => lv_astore hx hb hdg h1 h2 rfl kk)
  · rename_i k
    have hdg : decode cc pc = .ok (.astore_n k, 1) := by rw [hdg0, Nat.eq_of_beq_eq_true hlen]
    rw [hT.2.2.2] at hr
    exact ab_ska_ok hr hG (fun _ _ _ _ _ _ _ h1 h2 kk => lv_astore_n hx hb hdg rfl h1 h2 rfl kk)
  · rename_i k d
    have hdg : decode cc pc = .ok (.iinc k d, 3) := by rw [hdg0, Nat.eq_of_beq_eq_true hlen]
    rw [hT.2.2.2] at hr
    exact ab_inc_ok hr hG (fun _ _ _ _ _ _ _ h1 h2 h3 kk => lv_iinc hx hb hdg h1 h2 rfl h3 rfl kk)
  · skip
    have hdg : decode cc pc = .ok (.iadd, 1) := by rw [hdg0, Nat.eq_of_beq_eq_true hlen]
    exact ab_b2_ok (g := fun x y => x + y) hr hG ab_iadd_ok (fun _ _ _ _ _ _ hn kk => lv_iadd hx hb hdg kk)
  · skip
    have hdg : decode cc pc = .ok (.isub, 1) := by rw [hdg0, Nat.eq_of_beq_eq_true hlen]
    exact ab_b2_ok (g := fun x y => x - y) hr hG ab_isub_ok (fun _ _ _ _ _ _ hn kk => lv_isub hx hb hdg kk)
  · skip
    have hdg : decode cc pc = .ok (.imul, 1) := by rw [hdg0, Nat.eq_of_beq_eq_true hlen]
    exact ab_b2_ok (g := fun x y => x * y) hr hG ab_imul_ok (fun _ _ _ _ _ _ hn kk => lv_imul hx hb hdg kk)
  · skip
    have hdg : decode cc pc = .ok (.iand, 1) := by rw [hdg0, Nat.eq_of_beq_eq_true hlen]
    exact ab_b2_ok (g := fun x y => x &&& y) hr hG ab_iand_ok (fun _ _ _ _ _ _ hn kk => lv_iand hx hb hdg kk)
  · skip
    have hdg : decode cc pc = .ok (.ior, 1) := by rw [hdg0, Nat.eq_of_beq_eq_true hlen]
    exact ab_b2_ok (g := fun x y => x ||| y) hr hG (fun h _ _ => ab_f32 h _) (fun _ _ _ _ _ _ hn kk => lv_ior hx hb hdg kk)
  · skip
    have hdg : decode cc pc = .ok (.ixor, 1) := by rw [hdg0, Nat.eq_of_beq_eq_true hlen]
    exact ab_b2_ok (g := fun x y => x ^^^ y) hr hG (fun h _ _ => ab_f32 h _) (fun _ _ _ _ _ _ hn kk => lv_ixor hx hb hdg kk)
  · skip
    have hdg : decode cc pc = .ok (.ishl, 1) := by rw [hdg0, Nat.eq_of_beq_eq_true hlen]
    exact ab_b2_ok (g := fun x y => x <<< (y &&& 31)) hr hG ab_ishl_ok (fun _ _ _ _ _ _ hn kk => lv_ishl hx hb hdg kk)
  · skip
    have hdg : decode cc pc = .ok (.ishr, 1) := by rw [hdg0, Nat.eq_of_beq_eq_true hlen]
    exact ab_b2_ok (g := fun x y => x >>> (y &&& 31)) hr hG (fun h _ _ => ab_f32 h _) (fun _ _ _ _ _ _ hn kk => lv_ishr hx hb hdg kk)
  · skip
    have hdg : decode cc pc = .ok (.idiv, 1) := by rw [hdg0, Nat.eq_of_beq_eq_true hlen]
    exact ab_b2_ok (g := fun x y => x / y) hr hG ab_idiv_ok (fun _ _ _ _ _ _ hn kk => lv_idiv hx hb hdg (hn rfl) kk)
  · skip
    have hdg : decode cc pc = .ok (.irem, 1) := by rw [hdg0, Nat.eq_of_beq_eq_true hlen]
    exact ab_b2_ok (g := fun x y => x - x / y * y) hr hG ab_irem_ok (fun _ _ _ _ _ _ hn kk => lv_irem hx hb hdg (hn rfl) kk)
  · skip
    have hdg : decode cc pc = .ok (.ladd, 1) := by rw [hdg0, Nat.eq_of_beq_eq_true hlen]
    exact ab_b3_ok (g := fun x y => x + y) hr hG ab_ladd_ok (fun _ _ _ _ _ _ hn kk => lv_ladd hx hb hdg kk)
  · skip
    have hdg : decode cc pc = .ok (.lmul, 1) := by rw [hdg0, Nat.eq_of_beq_eq_true hlen]
    exact ab_b3_ok (g := fun x y => x * y) hr hG ab_lmul_ok (fun _ _ _ _ _ _ hn kk => lv_lmul hx hb hdg kk)
  · skip
    have hdg : decode cc pc = .ok (.land, 1) := by rw [hdg0, Nat.eq_of_beq_eq_true hlen]
    exact ab_b3_ok (g := fun x y => x &&& y) hr hG (fun h _ _ => ab_f64 h _) (fun _ _ _ _ _ _ hn kk => lv_land hx hb hdg kk)
  · skip
    have hdg : decode cc pc = .ok (.lor, 1) := by rw [hdg0, Nat.eq_of_beq_eq_true hlen]
    exact ab_b3_ok (g := fun x y => x ||| y) hr hG (fun h _ _ => ab_f64 h _) (fun _ _ _ _ _ _ hn kk => lv_lor hx hb hdg kk)
  · skip
    have hdg : decode cc pc = .ok (.ldiv, 1) := by rw [hdg0, Nat.eq_of_beq_eq_true hlen]
    exact ab_b3_ok (g := fun x y => x / y) hr hG (fun h _ _ => ab_f64 h _) (fun _ _ _ _ _ _ hn kk => lv_ldiv hx hb hdg (hn rfl) kk)
  · skip
    have hdg : decode cc pc = .ok (.lrem, 1) := by rw [hdg0, Nat.eq_of_beq_eq_true hlen]
    exact ab_b3_ok (g := fun x y => x - x / y * y) hr hG ab_lrem_ok (fun _ _ _ _ _ _ hn kk => lv_lrem hx hb hdg (hn rfl) kk)
  · skip
    have hdg : decode cc pc = .ok (.lushr, 1) := by rw [hdg0, Nat.eq_of_beq_eq_true hlen]
    exact ab_b4_ok (g := fun x y => (x.toUInt64 >>> (y.toInt64.toUInt64 &&& Int64.toUInt64 63)).toInt64) hr hG ab_lushr_ok (fun _ _ _ _ _ _ kk => lv_lushr hx hb hdg rfl kk)
  · skip
    have hdg : decode cc pc = .ok (.lshl, 1) := by rw [hdg0, Nat.eq_of_beq_eq_true hlen]
    exact ab_b4_ok (g := fun x y => x <<< (y.toInt64 &&& 63)) hr hG (fun h _ _ => ab_f64 h _) (fun _ _ _ _ _ _ kk => lv_lshl hx hb hdg rfl kk)
  · skip
    have hdg : decode cc pc = .ok (.lshr, 1) := by rw [hdg0, Nat.eq_of_beq_eq_true hlen]
    exact ab_b4_ok (g := fun x y => x >>> (y.toInt64 &&& 63)) hr hG (fun h _ _ => ab_f64 h _) (fun _ _ _ _ _ _ kk => lv_lshr hx hb hdg rfl kk)
  · skip
    have hdg : decode cc pc = .ok (.ineg, 1) := by rw [hdg0, Nat.eq_of_beq_eq_true hlen]
    exact ab_u1_ok (g := fun x => -x) hr hG (fun h _ => ab_f32 h _) (fun _ _ _ _ _ kk => lv_ineg hx hb hdg kk)
  · skip
    have hdg : decode cc pc = .ok (.i2b, 1) := by rw [hdg0, Nat.eq_of_beq_eq_true hlen]
    exact ab_u1_ok (g := fun x => x.toInt8.toInt32) hr hG (fun h _ => ab_i2b_ok h) (fun _ _ _ _ _ kk => lv_i2b hx hb hdg rfl kk)
  · skip
    have hdg : decode cc pc = .ok (.i2l, 1) := by rw [hdg0, Nat.eq_of_beq_eq_true hlen]
    exact ab_u2_ok hr hG (fun _ _ _ _ _ kk => lv_i2l hx hb hdg rfl kk)
  · skip
    have hdg : decode cc pc = .ok (.l2i, 1) := by rw [hdg0, Nat.eq_of_beq_eq_true hlen]
    exact ab_u3_ok hr hG (fun _ _ _ _ _ kk => lv_l2i hx hb hdg rfl kk)
  · skip
    have hdg : decode cc pc = .ok (.lcmp, 1) := by rw [hdg0, Nat.eq_of_beq_eq_true hlen]
    exact ab_lc_ok hr hG (fun _ _ _ _ _ _ kk => W.lcmp hx hb hdg kk)
  · skip
    have hdg : decode cc pc = .ok (.pop, 1) := by rw [hdg0, Nat.eq_of_beq_eq_true hlen]
    exact ab_pp_ok hr hG (fun _ _ _ _ _ hc kk => lv_pop hx hb hdg (ab_cat1 hc) kk)
  · skip
    have hdg : decode cc pc = .ok (.pop2, 1) := by rw [hdg0, Nat.eq_of_beq_eq_true hlen]
    exact ab_pp_ok hr hG (fun _ _ _ _ _ hc kk => lv_pop2_2 hx hb hdg (eq_of_beq hc) kk)
  · skip
    have hdg : decode cc pc = .ok (.dup, 1) := by rw [hdg0, Nat.eq_of_beq_eq_true hlen]
    exact ab_d1_ok hr hG (fun _ _ _ _ _ hc kk => lv_dup hx hb hdg (ab_cat1 hc) kk)
  · skip
    have hdg : decode cc pc = .ok (.dup2, 1) := by rw [hdg0, Nat.eq_of_beq_eq_true hlen]
    exact ab_d2_ok hr hG (fun _ _ _ _ _ _ h1 h2 kk => lv_dup2_11 hx hb hdg (ab_cat1 h1) (ab_cat1 h2) kk)
  · rename_i o off
    have hdg : decode cc pc = .ok (.ifCond o off, 3) := by rw [hdg0, Nat.eq_of_beq_eq_true hlen]
    refine ab_if_ok hr hG (fun _ _ _ _ _ _ ht k1 k2 => ?_)
    cases o with
    | eq => exact lv_if_eq hx hb hdg ht (fun h => k1 h) (fun h => k2 h)
    | ne => exact lv_if_ne hx hb hdg ht (fun h => k1 h) (fun h => k2 (fun q => q h))
    | lt => exact lv_if_lt hx hb hdg ht (fun h => k1 h) (fun h => k2 h)
    | ge => exact lv_if_ge hx hb hdg ht (fun h => k1 h) (fun h => k2 h)
    | gt => exact lv_if_gt hx hb hdg ht (fun h => k1 h) (fun h => k2 h)
    | le => exact lv_if_le hx hb hdg ht (fun h => k1 h) (fun h => k2 h)
  · rename_i o off
    have hdg : decode cc pc = .ok (.if_icmp o off, 3) := by rw [hdg0, Nat.eq_of_beq_eq_true hlen]
    refine ab_ic_ok hr hG (fun _ _ _ _ _ _ _ ht k1 k2 => ?_)
    cases o with
    | eq => exact lv_icmp_eq hx hb hdg ht (fun h => k1 h) (fun h => k2 h)
    | ne => exact lv_icmp_ne hx hb hdg ht (fun h => k1 h) (fun h => k2 (fun q => q h))
    | lt => exact lv_icmp_lt hx hb hdg ht (fun h => k1 h) (fun h => k2 h)
    | ge => exact lv_icmp_ge hx hb hdg ht (fun h => k1 h) (fun h => k2 h)
    | gt => exact lv_icmp_gt hx hb hdg ht (fun h => k1 h) (fun h => k2 h)
    | le => exact lv_icmp_le hx hb hdg ht (fun h => k1 h) (fun h => k2 h)
  · rename_i off
    have hdg : decode cc pc = .ok (.goto off, 3) := by rw [hdg0, Nat.eq_of_beq_eq_true hlen]
    exact ab_go_ok hr hG (fun _ _ _ _ _ ht kk => lv_goto hx hb hdg ht kk)
  · rename_i d lo hi offs
    unfold ab_sw1 at hr
    split at hr
    · rename_i hl
      exact ab_tsw_ok (ab_ieq_iff hl) hr hG (fun _ _ _ _ _ _ h ht kk => lv_tableOut hx hb hdg0 h ht kk) (fun _ _ _ _ _ _ _ h1 h2 ho ht kk => lv_tableIn hx hb hdg0 h1 h2 ho ht kk)
    · cases hr
  · rename_i d ps
    unfold ab_sw2 at hr
    split at hr
    · rename_i hl
      exact ab_ksw_ok hr hG (fun _ _ _ _ _ _ ht kk => lv_lookup hx hb hdg0 hl rfl ht kk)
    · cases hr
  · rename_i idx
    have hdg : decode cc pc = .ok (.getfield idx, 3) := by rw [hdg0, Nat.eq_of_beq_eq_true hlen]
    exact ab_gf_ok hT.1 hr hG (fun _ _ _ _ _ _ _ k j _ _ C T N hP he hc hin hk hl hv kk => va_get (C := C) (T := T) (N := N) hx hb hts hin hown hK.1 hP j he hc k hk (hts _ hl) (fun _ h => h) hv hdg kk)
  · rename_i idx
    have hdg : decode cc pc = .ok (.putfield idx, 3) := by rw [hdg0, Nat.eq_of_beq_eq_true hlen]
    exact ab_pf_ok hT.1 hr hG (fun _ _ _ _ _ _ _ k j _ _ C T N ty0 hP hD hS he hc hin hk hl hty hnm hfin hn hft hlen kk => va_put (C := C) (T := T) (N := N) hx hb hts hin ty0 hty hnm hown hK.1 hP hD hS j he hc k hk (hts _ hl) (fun _ h => h) hfin (hty k hk) hn hft hlen hdg kk)
  · skip
    have hdg : decode cc pc = .ok (.iaload, 1) := by rw [hdg0, Nat.eq_of_beq_eq_true hlen]
    exact ab_al_ok hr hG (fun _ _ _ _ _ _ j _ _ _ hP he hi kk => va_iald hx hb hK.1 hP j 1 he rfl hi hdg kk)
  · skip
    have hdg : decode cc pc = .ok (.baload, 1) := by rw [hdg0, Nat.eq_of_beq_eq_true hlen]
    exact ab_al_ok hr hG (fun _ _ _ _ _ _ j _ _ _ hP he hi kk => va_bald hx hb hK.1 hP j 0 he rfl hi hdg kk)
  · skip
    have hdg : decode cc pc = .ok (.laload, 1) := by rw [hdg0, Nat.eq_of_beq_eq_true hlen]
    exact ab_ll_ok hr hG (fun _ _ _ _ _ _ j _ _ _ hP he hi kk => va_lald hx hb hK.1 hP j 2 he rfl hi hdg kk)
  · skip
    have hdg : decode cc pc = .ok (.iastore, 1) := by rw [hdg0, Nat.eq_of_beq_eq_true hlen]
    exact ab_as1_ok hr hG (fun _ _ _ _ _ _ j _ _ _ _ hP hD hS he hi kk => va_iast hx hb hK.1 hP hD hS j 1 he rfl hi hdg kk)
  · skip
    have hdg : decode cc pc = .ok (.bastore, 1) := by rw [hdg0, Nat.eq_of_beq_eq_true hlen]
    exact ab_bs_ok hr hG (fun _ _ _ _ _ _ j _ _ _ _ hP hD hS he hi kk => va_bast hx hb hK.1 hP hD hS j 0 he rfl hi hdg kk)
  · skip
    have hdg : decode cc pc = .ok (.lastore, 1) := by rw [hdg0, Nat.eq_of_beq_eq_true hlen]
    exact ab_ls1_ok hr hG (fun _ _ _ _ _ _ j _ _ _ _ hP hD hS he hi kk => va_last hx hb hK.1 hP hD hS j 2 he rfl hi hdg kk)
  · skip
    have hdg : decode cc pc = .ok (.arraylength, 1) := by rw [hdg0, Nat.eq_of_beq_eq_true hlen]
    exact ab_ar_ok hr hG (fun _ _ _ _ _ _ j t _ _ hP he ht kk => va_alen hx hb hK.1 hP j t he ht rfl hdg kk)
  · cases hr
