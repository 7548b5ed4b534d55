theorem d_Intg_bitCount_0 : decode b_Intg_bitCount 0 = .ok (.iload_n 0, 1) := by decide +kernel
theorem d_Intg_bitCount_1 : decode b_Intg_bitCount 1 = .ok (.iload_n 0, 1) := by decide +kernel
theorem d_Intg_bitCount_2 : decode b_Intg_bitCount 2 = .ok (.iconst 1, 1) := by decide +kernel
theorem d_Intg_bitCount_3 : decode b_Intg_bitCount 3 = .ok (.iushr, 1) := by decide +kernel
theorem d_Intg_bitCount_4 : decode b_Intg_bitCount 4 = .ok (.ldc_w 265, 3) := by decide +kernel
theorem d_Intg_bitCount_7 : decode b_Intg_bitCount 7 = .ok (.iand, 1) := by decide +kernel
theorem d_Intg_bitCount_8 : decode b_Intg_bitCount 8 = .ok (.isub, 1) := by decide +kernel
theorem d_Intg_bitCount_9 : decode b_Intg_bitCount 9 = .ok (.istore_n 0, 1) := by decide +kernel
theorem d_Intg_bitCount_10 : decode b_Intg_bitCount 10 = .ok (.iload_n 0, 1) := by decide +kernel
theorem d_Intg_bitCount_11 : decode b_Intg_bitCount 11 = .ok (.ldc_w 266, 3) := by decide +kernel
theorem d_Intg_bitCount_14 : decode b_Intg_bitCount 14 = .ok (.iand, 1) := by decide +kernel
theorem d_Intg_bitCount_15 : decode b_Intg_bitCount 15 = .ok (.iload_n 0, 1) := by decide +kernel
theorem d_Intg_bitCount_16 : decode b_Intg_bitCount 16 = .ok (.iconst 2, 1) := by decide +kernel
theorem d_Intg_bitCount_17 : decode b_Intg_bitCount 17 = .ok (.iushr, 1) := by decide +kernel
theorem d_Intg_bitCount_18 : decode b_Intg_bitCount 18 = .ok (.ldc_w 266, 3) := by decide +kernel
theorem d_Intg_bitCount_21 : decode b_Intg_bitCount 21 = .ok (.iand, 1) := by decide +kernel
theorem d_Intg_bitCount_22 : decode b_Intg_bitCount 22 = .ok (.iadd, 1) := by decide +kernel
theorem d_Intg_bitCount_23 : decode b_Intg_bitCount 23 = .ok (.istore_n 0, 1) := by decide +kernel
theorem d_Intg_bitCount_24 : decode b_Intg_bitCount 24 = .ok (.iload_n 0, 1) := by decide +kernel
theorem d_Intg_bitCount_25 : decode b_Intg_bitCount 25 = .ok (.iload_n 0, 1) := by decide +kernel
theorem d_Intg_bitCount_26 : decode b_Intg_bitCount 26 = .ok (.iconst 4, 1) := by decide +kernel
theorem d_Intg_bitCount_27 : decode b_Intg_bitCount 27 = .ok (.iushr, 1) := by decide +kernel
theorem d_Intg_bitCount_28 : decode b_Intg_bitCount 28 = .ok (.iadd, 1) := by decide +kernel
theorem d_Intg_bitCount_29 : decode b_Intg_bitCount 29 = .ok (.ldc_w 267, 3) := by decide +kernel
theorem d_Intg_bitCount_32 : decode b_Intg_bitCount 32 = .ok (.iand, 1) := by decide +kernel
theorem d_Intg_bitCount_33 : decode b_Intg_bitCount 33 = .ok (.istore_n 0, 1) := by decide +kernel
theorem d_Intg_bitCount_34 : decode b_Intg_bitCount 34 = .ok (.iload_n 0, 1) := by decide +kernel
theorem d_Intg_bitCount_35 : decode b_Intg_bitCount 35 = .ok (.iload_n 0, 1) := by decide +kernel
theorem d_Intg_bitCount_36 : decode b_Intg_bitCount 36 = .ok (.bipush 8, 2) := by decide +kernel
theorem d_Intg_bitCount_38 : decode b_Intg_bitCount 38 = .ok (.iushr, 1) := by decide +kernel
theorem d_Intg_bitCount_39 : decode b_Intg_bitCount 39 = .ok (.iadd, 1) := by decide +kernel
theorem d_Intg_bitCount_40 : decode b_Intg_bitCount 40 = .ok (.istore_n 0, 1) := by decide +kernel
theorem d_Intg_bitCount_41 : decode b_Intg_bitCount 41 = .ok (.iload_n 0, 1) := by decide +kernel
theorem d_Intg_bitCount_42 : decode b_Intg_bitCount 42 = .ok (.iload_n 0, 1) := by decide +kernel
theorem d_Intg_bitCount_43 : decode b_Intg_bitCount 43 = .ok (.bipush 16, 2) := by decide +kernel
theorem d_Intg_bitCount_45 : decode b_Intg_bitCount 45 = .ok (.iushr, 1) := by decide +kernel
theorem d_Intg_bitCount_46 : decode b_Intg_bitCount 46 = .ok (.iadd, 1) := by decide +kernel
theorem d_Intg_bitCount_47 : decode b_Intg_bitCount 47 = .ok (.istore_n 0, 1) := by decide +kernel
theorem d_Intg_bitCount_48 : decode b_Intg_bitCount 48 = .ok (.iload_n 0, 1) := by decide +kernel
theorem d_Intg_bitCount_49 : decode b_Intg_bitCount 49 = .ok (.bipush 63, 2) := by decide +kernel
theorem d_Intg_bitCount_51 : decode b_Intg_bitCount 51 = .ok (.iand, 1) := by decide +kernel
theorem d_Intg_bitCount_52 : decode b_Intg_bitCount 52 = .ok (.ireturn, 1) := by decide +kernel
/-! the JDK's members -/
def nb_us (x y : Int32) : Int32 := (x.toUInt32 >>> (y.toUInt32 &&& Int32.toUInt32 31)).toInt32
def nb_b1 (x : Int32) : Int32 := x - (nb_us x 1 &&& 1431655765)
def nb_b2 (a : Int32) : Int32 := (a &&& 858993459) + (nb_us a 2 &&& 858993459)
def nb_b3 (b : Int32) : Int32 := (b + nb_us b 4) &&& 252645135
def nb_b4 (c : Int32) : Int32 := c + nb_us c 8
def nb_b5 (c : Int32) : Int32 := c + nb_us c 16
def nb_bc (x : Int32) : Int32 := nb_b5 (nb_b4 (nb_b3 (nb_b2 (nb_b1 x)))) &&& 63
theorem nb_bc_63 (x : Int32) : 0 ≤ (nb_bc x).toInt ∧ (nb_bc x).toInt ≤ 63 := ab_and32 (y := 63) (by decide)
theorem nb_bc_k : ∀ k : Fin 1024, (nb_bc (Int32.ofNat k.val)).toInt ≤ 10 := by decide +kernel
theorem nb_bc_10 {x : Int32} (h1 : 0 ≤ x.toInt) (h2 : x.toInt ≤ 1023) : (nb_bc x).toInt ≤ 10 := by
  have h := nb_bc_k ⟨x.toInt.toNat, by omega⟩
  have e : Int32.ofNat x.toInt.toNat = x := by
    apply Int32.toInt_inj.mp
    rw [Int32.toInt_ofNat_of_lt (by omega)]
    omega
  rw [e] at h
  exact h
set_option maxHeartbeats 4000000 in
set_option maxRecDepth 100000 in
theorem c_Intg_bitCount (l : Launch) (D : va_G) (cB cI cJ : ClassId) (p0 : Int32) {post : Int32 → va_W → Prop} (hpost : post (nb_bc p0) []) : nz_Ci l D cB cI cJ nz_x0 y_Intg_bitCount b_Intg_bitCount 1 (some .int) { frames := 0, cells := 0, slots := 0, locals := 0 } [.int p0] [] post := by
  refine nz_Ci.mk (by decide) (Nat.le_of_ble_eq_true rfl) ?_
  intro p e s m below meth c A ls C0 hnm hP hD hS hA hX hl
  have C0 : nz_Cx p s m _ meth c b_Intg_bitCount 1 (some .int) R_Intg D cB cI cJ := C0
  obtain ⟨hx, hb, hr, hml, hown, hts, hlk, hK⟩ := id C0
  have hl : lv_has ls 1 [(0, .int p0)] := hl
  refine lv_iload_n hx hb d_Intg_bitCount_0 rfl (lv_at hl 0 rfl) ?_
  refine lv_iload_n hx hb d_Intg_bitCount_1 rfl (lv_at hl 0 rfl) ?_
  refine lv_iconst (v := 1) hx hb d_Intg_bitCount_2 (by decide +kernel) ?_
  refine lv_iushr (v := nb_us p0 1) hx hb d_Intg_bitCount_3 rfl ?_
  refine lv_topi (fun x_1 e_2 => ?_)
  refine lv_ldcw (v := 1431655765) hx hb hown (hts _ k_835) d_Intg_bitCount_4 ?_
  refine lv_iand hx hb d_Intg_bitCount_7 ?_
  refine lv_topi (fun x_3 e_4 => ?_)
  refine lv_isub hx hb d_Intg_bitCount_8 ?_
  refine lv_topi (fun x_5 e_6 => ?_)
  refine lv_istore_n (lv' := [(0, .int x_5)]) hx hb d_Intg_bitCount_9 rfl hl (by decide) rfl (fun ls hl => ?_)
  refine lv_iload_n hx hb d_Intg_bitCount_10 rfl (lv_at hl 0 rfl) ?_
  refine lv_ldcw (v := 858993459) hx hb hown (hts _ k_836) d_Intg_bitCount_11 ?_
  refine lv_iand hx hb d_Intg_bitCount_14 ?_
  refine lv_topi (fun x_7 e_8 => ?_)
  refine lv_iload_n hx hb d_Intg_bitCount_15 rfl (lv_at hl 0 rfl) ?_
  refine lv_iconst (v := 2) hx hb d_Intg_bitCount_16 (by decide +kernel) ?_
  refine lv_iushr (v := nb_us x_5 2) hx hb d_Intg_bitCount_17 rfl ?_
  refine lv_topi (fun x_9 e_10 => ?_)
  refine lv_ldcw (v := 858993459) hx hb hown (hts _ k_836) d_Intg_bitCount_18 ?_
  refine lv_iand hx hb d_Intg_bitCount_21 ?_
  refine lv_topi (fun x_11 e_12 => ?_)
  refine lv_iadd hx hb d_Intg_bitCount_22 ?_
  refine lv_topi (fun x_13 e_14 => ?_)
  refine lv_istore_n (lv' := [(0, .int x_13)]) hx hb d_Intg_bitCount_23 rfl hl (by decide) rfl (fun ls hl => ?_)
  refine lv_iload_n hx hb d_Intg_bitCount_24 rfl (lv_at hl 0 rfl) ?_
  refine lv_iload_n hx hb d_Intg_bitCount_25 rfl (lv_at hl 0 rfl) ?_
  refine lv_iconst (v := 4) hx hb d_Intg_bitCount_26 (by decide +kernel) ?_
  refine lv_iushr (v := nb_us x_13 4) hx hb d_Intg_bitCount_27 rfl ?_
  refine lv_topi (fun x_15 e_16 => ?_)
  refine lv_iadd hx hb d_Intg_bitCount_28 ?_
  refine lv_topi (fun x_17 e_18 => ?_)
  refine lv_ldcw (v := 252645135) hx hb hown (hts _ k_837) d_Intg_bitCount_29 ?_
  refine lv_iand hx hb d_Intg_bitCount_32 ?_
  refine lv_topi (fun x_19 e_20 => ?_)
  refine lv_istore_n (lv' := [(0, .int x_19)]) hx hb d_Intg_bitCount_33 rfl hl (by decide) rfl (fun ls hl => ?_)
  refine lv_iload_n hx hb d_Intg_bitCount_34 rfl (lv_at hl 0 rfl) ?_
  refine lv_iload_n hx hb d_Intg_bitCount_35 rfl (lv_at hl 0 rfl) ?_
  refine lv_bipush (v := 8) hx hb d_Intg_bitCount_36 (by decide +kernel) ?_
  refine lv_iushr (v := nb_us x_19 8) hx hb d_Intg_bitCount_38 rfl ?_
  refine lv_topi (fun x_21 e_22 => ?_)
  refine lv_iadd hx hb d_Intg_bitCount_39 ?_
  refine lv_topi (fun x_23 e_24 => ?_)
  refine lv_istore_n (lv' := [(0, .int x_23)]) hx hb d_Intg_bitCount_40 rfl hl (by decide) rfl (fun ls hl => ?_)
  refine lv_iload_n hx hb d_Intg_bitCount_41 rfl (lv_at hl 0 rfl) ?_
  refine lv_iload_n hx hb d_Intg_bitCount_42 rfl (lv_at hl 0 rfl) ?_
  refine lv_bipush (v := 16) hx hb d_Intg_bitCount_43 (by decide +kernel) ?_
  refine lv_iushr (v := nb_us x_23 16) hx hb d_Intg_bitCount_45 rfl ?_
  refine lv_topi (fun x_25 e_26 => ?_)
  refine lv_iadd hx hb d_Intg_bitCount_46 ?_
  refine lv_topi (fun x_27 e_28 => ?_)
  refine lv_istore_n (lv' := [(0, .int x_27)]) hx hb d_Intg_bitCount_47 rfl hl (by decide) rfl (fun ls hl => ?_)
  refine lv_iload_n hx hb d_Intg_bitCount_48 rfl (lv_at hl 0 rfl) ?_
  refine lv_bipush (v := 63) hx hb d_Intg_bitCount_49 (by decide +kernel) ?_
  refine lv_iand hx hb d_Intg_bitCount_51 ?_
  refine lv_topi (fun x_29 e_30 => ?_)
  exact nz_reti C0 (hP.sub (ws' := []) [] rfl) (hD.sub (ws' := []) [] (by decide) rfl) hS (by have e1 : x_29 = nb_bc p0 := (by subst e_2; subst e_4; subst e_6; subst e_8; subst e_10; subst e_12; subst e_14; subst e_16; subst e_18; subst e_20; subst e_22; subst e_24; subst e_26; subst e_28; subst e_30; rfl); rw [e1]; exact hpost) d_Intg_bitCount_52
theorem nb_ex {ρ : ab_R} {Γ : ab_G} {lo hi v : Int} (h : ab_g ρ Γ) (h1 : lo ≤ v) (h2 : v ≤ hi) (ht : -ab_top ≤ v ∧ v ≤ ab_top) : ∃ ρ' : ab_R, ab_sub2 ρ ρ' ∧ ab_g ρ' (ab_fr Γ lo hi) ∧ ρ' Γ.1 = some v := by
  obtain ⟨s1, s2, s3⟩ := ab_fr_ok h h1 h2 ht
  exact ⟨_, s1, s2, ab_vr_E' s3⟩
