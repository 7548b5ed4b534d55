set_option maxHeartbeats 4000000 in
set_option maxRecDepth 100000 in
theorem c_Places_clear (l : Launch) (D : va_G) (cB cI cJ : ClassId) (v1 : Nat) (v11 : Nat) (v12 : Nat) (v13 : Nat) (v14 : Nat) (v15 : Nat) (v16 : Nat) (v17 : Nat) : nz_Cv l D cB cI cJ nz_x0 y_Places_clear b_Places_clear 2 none { frames := 0, cells := 0, slots := 0, locals := 0 } [.ref v1] [(v1, .inr (6, [.int 0, .ref v11, .ref v12, .ref v13, .ref v14, .ref v15, .ref v16, .ref v17])), (v17, .inl (cI, 32, .inl (fun _ => 0)))] (fun w => w = [(v1, .inr (6, [.int 0, .ref v11, .ref v12, .ref v13, .ref v14, .ref v15, .ref v16, .ref v17])), (v17, .inl (cI, 32, .inl (fun _ => 0)))]) := by
  refine nz_Cv.mk (by decide) (Nat.le_of_ble_eq_true rfl) ?_
  intro p e s m below meth c A ls C0 hnm hP hD hS hA hX hl
  have C0 : nz_Cx p s m _ meth c b_Places_clear 2 none R_Places D cB cI cJ := C0
  obtain ⟨hx, hb, hr, hml, hown, hts, hlk, hK⟩ := id C0
  have hl : lv_has ls 2 [(0, .ref v1)] := hl
  refine lv_aload_n hx hb d_Places_clear_0 rfl (lv_at hl 0 rfl) ?_
  refine lv_iconst (v := 0) hx hb d_Places_clear_1 (by decide +kernel) ?_
  refine va_put (D := D) (ci := 6) (v := .int 0) (ty := .int) (C := R_Places) (T := F_Places) (N := 8) hx hb hts i_Places t_Places t_Places_ok n_Places hown hK.1 hP hD hS 0 rfl rfl 0 (by decide) (hts _ k_40) (fun _ h9 => h9) rfl (by decide +kernel) rfl rfl (Nat.le_of_ble_eq_true rfl) d_Places_clear_2 (fun H locs hP hD hS => ?_)
  have hP : va_P D nz_cl [(v1, .inr (6, [.int 0, .ref v11, .ref v12, .ref v13, .ref v14, .ref v15, .ref v16, .ref v17])), (v17, .inl (cI, 32, .inl (fun _ => 0)))] H := hP
  have hD : va_D A [(v1, .inr (6, [.int 0, .ref v11, .ref v12, .ref v13, .ref v14, .ref v15, .ref v16, .ref v17])), (v17, .inl (cI, 32, .inl (fun _ => 0)))] := hD
  refine lv_iconst (v := 0) hx hb d_Places_clear_5 (by decide +kernel) ?_
  refine lv_istore_n (lv' := [(1, .int 0), (0, .ref v1)]) hx hb d_Places_clear_6 rfl hl (by decide) rfl (fun ls hl => ?_)
  refine lv_iload_n hx hb d_Places_clear_7 rfl (lv_at hl 0 rfl) ?_
  refine lv_aload_n hx hb d_Places_clear_8 rfl (lv_at hl 1 rfl) ?_
  refine va_get (D := D) (ci := 6) (v := .ref v17) (C := R_Places) (T := F_Places) (N := 8) hx hb hts i_Places hown hK.1 hP 0 rfl rfl 7 (by decide) (hts _ k_63) (fun _ h9 => h9) rfl d_Places_clear_9 ?_
  refine va_alen (v := 32) hx hb hK.1 hP 1 1 rfl rfl rfl d_Places_clear_12 ?_
  refine lv_icmp_ge (tgt := 29) hx hb d_Places_clear_13 (by decide) (fun c_1 => absurd c_1 (by decide +kernel)) (fun c_1 => ?_)
  refine lv_aload_n hx hb d_Places_clear_16 rfl (lv_at hl 1 rfl) ?_
  refine va_get (D := D) (ci := 6) (v := .ref v17) (C := R_Places) (T := F_Places) (N := 8) hx hb hts i_Places hown hK.1 hP 0 rfl rfl 7 (by decide) (hts _ k_63) (fun _ h9 => h9) rfl d_Places_clear_17 ?_
  refine lv_iload_n hx hb d_Places_clear_20 rfl (lv_at hl 0 rfl) ?_
  refine lv_iconst (v := 0) hx hb d_Places_clear_21 (by decide +kernel) ?_
  refine nz_iastZ hx hb hK.1 hP hD hS 1 1 rfl rfl (nz_vin (by decide +kernel)) d_Places_clear_22 (fun H locs f_2 f_2_e hP hD hS => ?_)
  have f_2_z : f_2 = (fun _ => 0) := f_2_e
  subst f_2_z
  have hP : va_P D nz_cl [(v1, .inr (6, [.int 0, .ref v11, .ref v12, .ref v13, .ref v14, .ref v15, .ref v16, .ref v17])), (v17, .inl (cI, 32, .inl (fun _ => 0)))] H := hP
  have hD : va_D A [(v1, .inr (6, [.int 0, .ref v11, .ref v12, .ref v13, .ref v14, .ref v15, .ref v16, .ref v17])), (v17, .inl (cI, 32, .inl (fun _ => 0)))] := hD
  refine lv_iinc (v := 1) (lv' := [(1, .int 1), (0, .ref v1)]) hx hb d_Places_clear_23 hl (k := 0) rfl (by decide +kernel) (by decide) rfl (fun ls hl => ?_)
  refine lv_goto (tgt := 7) hx hb d_Places_clear_26 (by decide) ?_
  refine lv_iload_n hx hb d_Places_clear_7 rfl (lv_at hl 0 rfl) ?_
  refine lv_aload_n hx hb d_Places_clear_8 rfl (lv_at hl 1 rfl) ?_
  refine va_get (D := D) (ci := 6) (v := .ref v17) (C := R_Places) (T := F_Places) (N := 8) hx hb hts i_Places hown hK.1 hP 0 rfl rfl 7 (by decide) (hts _ k_63) (fun _ h9 => h9) rfl d_Places_clear_9 ?_
  refine va_alen (v := 32) hx hb hK.1 hP 1 1 rfl rfl rfl d_Places_clear_12 ?_
  refine lv_icmp_ge (tgt := 29) hx hb d_Places_clear_13 (by decide) (fun c_3 => absurd c_3 (by decide +kernel)) (fun c_3 => ?_)
  refine lv_aload_n hx hb d_Places_clear_16 rfl (lv_at hl 1 rfl) ?_
  refine va_get (D := D) (ci := 6) (v := .ref v17) (C := R_Places) (T := F_Places) (N := 8) hx hb hts i_Places hown hK.1 hP 0 rfl rfl 7 (by decide) (hts _ k_63) (fun _ h9 => h9) rfl d_Places_clear_17 ?_
  refine lv_iload_n hx hb d_Places_clear_20 rfl (lv_at hl 0 rfl) ?_
  refine lv_iconst (v := 0) hx hb d_Places_clear_21 (by decide +kernel) ?_
  refine nz_iastZ hx hb hK.1 hP hD hS 1 1 rfl rfl (nz_vin (by decide +kernel)) d_Places_clear_22 (fun H locs f_4 f_4_e hP hD hS => ?_)
  have f_4_z : f_4 = (fun _ => 0) := f_4_e
  subst f_4_z
  have hP : va_P D nz_cl [(v1, .inr (6, [.int 0, .ref v11, .ref v12, .ref v13, .ref v14, .ref v15, .ref v16, .ref v17])), (v17, .inl (cI, 32, .inl (fun _ => 0)))] H := hP
  have hD : va_D A [(v1, .inr (6, [.int 0, .ref v11, .ref v12, .ref v13, .ref v14, .ref v15, .ref v16, .ref v17])), (v17, .inl (cI, 32, .inl (fun _ => 0)))] := hD
  refine lv_iinc (v := 2) (lv' := [(1, .int 2), (0, .ref v1)]) hx hb d_Places_clear_23 hl (k := 0) rfl (by decide +kernel) (by decide) rfl (fun ls hl => ?_)
  refine lv_goto (tgt := 7) hx hb d_Places_clear_26 (by decide) ?_
  refine lv_iload_n hx hb d_Places_clear_7 rfl (lv_at hl 0 rfl) ?_
  refine lv_aload_n hx hb d_Places_clear_8 rfl (lv_at hl 1 rfl) ?_
  refine va_get (D := D) (ci := 6) (v := .ref v17) (C := R_Places) (T := F_Places) (N := 8) hx hb hts i_Places hown hK.1 hP 0 rfl rfl 7 (by decide) (hts _ k_63) (fun _ h9 => h9) rfl d_Places_clear_9 ?_
  refine va_alen (v := 32) hx hb hK.1 hP 1 1 rfl rfl rfl d_Places_clear_12 ?_
  refine lv_icmp_ge (tgt := 29) hx hb d_Places_clear_13 (by decide) (fun c_5 => absurd c_5 (by decide +kernel)) (fun c_5 => ?_)
  refine lv_aload_n hx hb d_Places_clear_16 rfl (lv_at hl 1 rfl) ?_
  refine va_get (D := D) (ci := 6) (v := .ref v17) (C := R_Places) (T := F_Places) (N := 8) hx hb hts i_Places hown hK.1 hP 0 rfl rfl 7 (by decide) (hts _ k_63) (fun _ h9 => h9) rfl d_Places_clear_17 ?_
  refine lv_iload_n hx hb d_Places_clear_20 rfl (lv_at hl 0 rfl) ?_
  refine lv_iconst (v := 0) hx hb d_Places_clear_21 (by decide +kernel) ?_
  refine nz_iastZ hx hb hK.1 hP hD hS 1 1 rfl rfl (nz_vin (by decide +kernel)) d_Places_clear_22 (fun H locs f_6 f_6_e hP hD hS => ?_)
  have f_6_z : f_6 = (fun _ => 0) := f_6_e
  subst f_6_z
  have hP : va_P D nz_cl [(v1, .inr (6, [.int 0, .ref v11, .ref v12, .ref v13, .ref v14, .ref v15, .ref v16, .ref v17])), (v17, .inl (cI, 32, .inl (fun _ => 0)))] H := hP
  have hD : va_D A [(v1, .inr (6, [.int 0, .ref v11, .ref v12, .ref v13, .ref v14, .ref v15, .ref v16, .ref v17])), (v17, .inl (cI, 32, .inl (fun _ => 0)))] := hD
  refine lv_iinc (v := 3) (lv' := [(1, .int 3), (0, .ref v1)]) hx hb d_Places_clear_23 hl (k := 0) rfl (by decide +kernel) (by decide) rfl (fun ls hl => ?_)
  refine lv_goto (tgt := 7) hx hb d_Places_clear_26 (by decide) ?_
  refine lv_iload_n hx hb d_Places_clear_7 rfl (lv_at hl 0 rfl) ?_
  refine lv_aload_n hx hb d_Places_clear_8 rfl (lv_at hl 1 rfl) ?_
  refine va_get (D := D) (ci := 6) (v := .ref v17) (C := R_Places) (T := F_Places) (N := 8) hx hb hts i_Places hown hK.1 hP 0 rfl rfl 7 (by decide) (hts _ k_63) (fun _ h9 => h9) rfl d_Places_clear_9 ?_
  refine va_alen (v := 32) hx hb hK.1 hP 1 1 rfl rfl rfl d_Places_clear_12 ?_
  refine lv_icmp_ge (tgt := 29) hx hb d_Places_clear_13 (by decide) (fun c_7 => absurd c_7 (by decide +kernel)) (fun c_7 => ?_)
  refine lv_aload_n hx hb d_Places_clear_16 rfl (lv_at hl 1 rfl) ?_
  refine va_get (D := D) (ci := 6) (v := .ref v17) (C := R_Places) (T := F_Places) (N := 8) hx hb hts i_Places hown hK.1 hP 0 rfl rfl 7 (by decide) (hts _ k_63) (fun _ h9 => h9) rfl d_Places_clear_17 ?_
  refine lv_iload_n hx hb d_Places_clear_20 rfl (lv_at hl 0 rfl) ?_
  refine lv_iconst (v := 0) hx hb d_Places_clear_21 (by decide +kernel) ?_
  refine nz_iastZ hx hb hK.1 hP hD hS 1 1 rfl rfl (nz_vin (by decide +kernel)) d_Places_clear_22 (fun H locs f_8 f_8_e hP hD hS => ?_)
  have f_8_z : f_8 = (fun _ => 0) := f_8_e
  subst f_8_z
  have hP : va_P D nz_cl [(v1, .inr (6, [.int 0, .ref v11, .ref v12, .ref v13, .ref v14, .ref v15, .ref v16, .ref v17])), (v17, .inl (cI, 32, .inl (fun _ => 0)))] H := hP
  have hD : va_D A [(v1, .inr (6, [.int 0, .ref v11, .ref v12, .ref v13, .ref v14, .ref v15, .ref v16, .ref v17])), (v17, .inl (cI, 32, .inl (fun _ => 0)))] := hD
  refine lv_iinc (v := 4) (lv' := [(1, .int 4), (0, .ref v1)]) hx hb d_Places_clear_23 hl (k := 0) rfl (by decide +kernel) (by decide) rfl (fun ls hl => ?_)
  refine lv_goto (tgt := 7) hx hb d_Places_clear_26 (by decide) ?_
  refine lv_iload_n hx hb d_Places_clear_7 rfl (lv_at hl 0 rfl) ?_
  refine lv_aload_n hx hb d_Places_clear_8 rfl (lv_at hl 1 rfl) ?_
  refine va_get (D := D) (ci := 6) (v := .ref v17) (C := R_Places) (T := F_Places) (N := 8) hx hb hts i_Places hown hK.1 hP 0 rfl rfl 7 (by decide) (hts _ k_63) (fun _ h9 => h9) rfl d_Places_clear_9 ?_
  refine va_alen (v := 32) hx hb hK.1 hP 1 1 rfl rfl rfl d_Places_clear_12 ?_
  refine lv_icmp_ge (tgt := 29) hx hb d_Places_clear_13 (by decide) (fun c_9 => absurd c_9 (by decide +kernel)) (fun c_9 => ?_)
  refine lv_aload_n hx hb d_Places_clear_16 rfl (lv_at hl 1 rfl) ?_
  refine va_get (D := D) (ci := 6) (v := .ref v17) (C := R_Places) (T := F_Places) (N := 8) hx hb hts i_Places hown hK.1 hP 0 rfl rfl 7 (by decide) (hts _ k_63) (fun _ h9 => h9) rfl d_Places_clear_17 ?_
  refine lv_iload_n hx hb d_Places_clear_20 rfl (lv_at hl 0 rfl) ?_
  refine lv_iconst (v := 0) hx hb d_Places_clear_21 (by decide +kernel) ?_
  refine nz_iastZ hx hb hK.1 hP hD hS 1 1 rfl rfl (nz_vin (by decide +kernel)) d_Places_clear_22 (fun H locs f_10 f_10_e hP hD hS => ?_)
  have f_10_z : f_10 = (fun _ => 0) := f_10_e
  subst f_10_z
  have hP : va_P D nz_cl [(v1, .inr (6, [.int 0, .ref v11, .ref v12, .ref v13, .ref v14, .ref v15, .ref v16, .ref v17])), (v17, .inl (cI, 32, .inl (fun _ => 0)))] H := hP
  have hD : va_D A [(v1, .inr (6, [.int 0, .ref v11, .ref v12, .ref v13, .ref v14, .ref v15, .ref v16, .ref v17])), (v17, .inl (cI, 32, .inl (fun _ => 0)))] := hD
  refine lv_iinc (v := 5) (lv' := [(1, .int 5), (0, .ref v1)]) hx hb d_Places_clear_23 hl (k := 0) rfl (by decide +kernel) (by decide) rfl (fun ls hl => ?_)
  refine lv_goto (tgt := 7) hx hb d_Places_clear_26 (by decide) ?_
  refine lv_iload_n hx hb d_Places_clear_7 rfl (lv_at hl 0 rfl) ?_
  refine lv_aload_n hx hb d_Places_clear_8 rfl (lv_at hl 1 rfl) ?_
  refine va_get (D := D) (ci := 6) (v := .ref v17) (C := R_Places) (T := F_Places) (N := 8) hx hb hts i_Places hown hK.1 hP 0 rfl rfl 7 (by decide) (hts _ k_63) (fun _ h9 => h9) rfl d_Places_clear_9 ?_
  refine va_alen (v := 32) hx hb hK.1 hP 1 1 rfl rfl rfl d_Places_clear_12 ?_
  refine lv_icmp_ge (tgt := 29) hx hb d_Places_clear_13 (by decide) (fun c_11 => absurd c_11 (by decide +kernel)) (fun c_11 => ?_)
  refine lv_aload_n hx hb d_Places_clear_16 rfl (lv_at hl 1 rfl) ?_
  refine va_get (D := D) (ci := 6) (v := .ref v17) (C := R_Places) (T := F_Places) (N := 8) hx hb hts i_Places hown hK.1 hP 0 rfl rfl 7 (by decide) (hts _ k_63) (fun _ h9 => h9) rfl d_Places_clear_17 ?_
  refine lv_iload_n hx hb d_Places_clear_20 rfl (lv_at hl 0 rfl) ?_
  refine lv_iconst (v := 0) hx hb d_Places_clear_21 (by decide +kernel) ?_
  refine nz_iastZ hx hb hK.1 hP hD hS 1 1 rfl rfl (nz_vin (by decide +kernel)) d_Places_clear_22 (fun H locs f_12 f_12_e hP hD hS => ?_)
  have f_12_z : f_12 = (fun _ => 0) := f_12_e
  subst f_12_z
  have hP : va_P D nz_cl [(v1, .inr (6, [.int 0, .ref v11, .ref v12, .ref v13, .ref v14, .ref v15, .ref v16, .ref v17])), (v17, .inl (cI, 32, .inl (fun _ => 0)))] H := hP
  have hD : va_D A [(v1, .inr (6, [.int 0, .ref v11, .ref v12, .ref v13, .ref v14, .ref v15, .ref v16, .ref v17])), (v17, .inl (cI, 32, .inl (fun _ => 0)))] := hD
  refine lv_iinc (v := 6) (lv' := [(1, .int 6), (0, .ref v1)]) hx hb d_Places_clear_23 hl (k := 0) rfl (by decide +kernel) (by decide) rfl (fun ls hl => ?_)
  refine lv_goto (tgt := 7) hx hb d_Places_clear_26 (by decide) ?_
  refine lv_iload_n hx hb d_Places_clear_7 rfl (lv_at hl 0 rfl) ?_
  refine lv_aload_n hx hb d_Places_clear_8 rfl (lv_at hl 1 rfl) ?_
  refine va_get (D := D) (ci := 6) (v := .ref v17) (C := R_Places) (T := F_Places) (N := 8) hx hb hts i_Places hown hK.1 hP 0 rfl rfl 7 (by decide) (hts _ k_63) (fun _ h9 => h9) rfl d_Places_clear_9 ?_
  refine va_alen (v := 32) hx hb hK.1 hP 1 1 rfl rfl rfl d_Places_clear_12 ?_
  refine lv_icmp_ge (tgt := 29) hx hb d_Places_clear_13 (by decide) (fun c_13 => absurd c_13 (by decide +kernel)) (fun c_13 => ?_)
  refine lv_aload_n hx hb d_Places_clear_16 rfl (lv_at hl 1 rfl) ?_
  refine va_get (D := D) (ci := 6) (v := .ref v17) (C := R_Places) (T := F_Places) (N := 8) hx hb hts i_Places hown hK.1 hP 0 rfl rfl 7 (by decide) (hts _ k_63) (fun _ h9 => h9) rfl d_Places_clear_17 ?_
  refine lv_iload_n hx hb d_Places_clear_20 rfl (lv_at hl 0 rfl) ?_
  refine lv_iconst (v := 0) hx hb d_Places_clear_21 (by decide +kernel) ?_
  refine nz_iastZ hx hb hK.1 hP hD hS 1 1 rfl rfl (nz_vin (by decide +kernel)) d_Places_clear_22 (fun H locs f_14 f_14_e hP hD hS => ?_)
  have f_14_z : f_14 = (fun _ => 0) := f_14_e
  subst f_14_z
  have hP : va_P D nz_cl [(v1, .inr (6, [.int 0, .ref v11, .ref v12, .ref v13, .ref v14, .ref v15, .ref v16, .ref v17])), (v17, .inl (cI, 32, .inl (fun _ => 0)))] H := hP
  have hD : va_D A [(v1, .inr (6, [.int 0, .ref v11, .ref v12, .ref v13, .ref v14, .ref v15, .ref v16, .ref v17])), (v17, .inl (cI, 32, .inl (fun _ => 0)))] := hD
  refine lv_iinc (v := 7) (lv' := [(1, .int 7), (0, .ref v1)]) hx hb d_Places_clear_23 hl (k := 0) rfl (by decide +kernel) (by decide) rfl (fun ls hl => ?_)
  refine lv_goto (tgt := 7) hx hb d_Places_clear_26 (by decide) ?_
  refine lv_iload_n hx hb d_Places_clear_7 rfl (lv_at hl 0 rfl) ?_
  refine lv_aload_n hx hb d_Places_clear_8 rfl (lv_at hl 1 rfl) ?_
  refine va_get (D := D) (ci := 6) (v := .ref v17) (C := R_Places) (T := F_Places) (N := 8) hx hb hts i_Places hown hK.1 hP 0 rfl rfl 7 (by decide) (hts _ k_63) (fun _ h9 => h9) rfl d_Places_clear_9 ?_
  refine va_alen (v := 32) hx hb hK.1 hP 1 1 rfl rfl rfl d_Places_clear_12 ?_
  refine lv_icmp_ge (tgt := 29) hx hb d_Places_clear_13 (by decide) (fun c_15 => absurd c_15 (by decide +kernel)) (fun c_15 => ?_)
  refine lv_aload_n hx hb d_Places_clear_16 rfl (lv_at hl 1 rfl) ?_
  refine va_get (D := D) (ci := 6) (v := .ref v17) (C := R_Places) (T := F_Places) (N := 8) hx hb hts i_Places hown hK.1 hP 0 rfl rfl 7 (by decide) (hts _ k_63) (fun _ h9 => h9) rfl d_Places_clear_17 ?_
  refine lv_iload_n hx hb d_Places_clear_20 rfl (lv_at hl 0 rfl) ?_
  refine lv_iconst (v := 0) hx hb d_Places_clear_21 (by decide +kernel) ?_
  refine nz_iastZ hx hb hK.1 hP hD hS 1 1 rfl rfl (nz_vin (by decide +kernel)) d_Places_clear_22 (fun H locs f_16 f_16_e hP hD hS => ?_)
  have f_16_z : f_16 = (fun _ => 0) := f_16_e
  subst f_16_z
  have hP : va_P D nz_cl [(v1, .inr (6, [.int 0, .ref v11, .ref v12, .ref v13, .ref v14, .ref v15, .ref v16, .ref v17])), (v17, .inl (cI, 32, .inl (fun _ => 0)))] H := hP
  have hD : va_D A [(v1, .inr (6, [.int 0, .ref v11, .ref v12, .ref v13, .ref v14, .ref v15, .ref v16, .ref v17])), (v17, .inl (cI, 32, .inl (fun _ => 0)))] := hD
  refine lv_iinc (v := 8) (lv' := [(1, .int 8), (0, .ref v1)]) hx hb d_Places_clear_23 hl (k := 0) rfl (by decide +kernel) (by decide) rfl (fun ls hl => ?_)
  refine lv_goto (tgt := 7) hx hb d_Places_clear_26 (by decide) ?_
  refine lv_iload_n hx hb d_Places_clear_7 rfl (lv_at hl 0 rfl) ?_
  refine lv_aload_n hx hb d_Places_clear_8 rfl (lv_at hl 1 rfl) ?_
  refine va_get (D := D) (ci := 6) (v := .ref v17) (C := R_Places) (T := F_Places) (N := 8) hx hb hts i_Places hown hK.1 hP 0 rfl rfl 7 (by decide) (hts _ k_63) (fun _ h9 => h9) rfl d_Places_clear_9 ?_
  refine va_alen (v := 32) hx hb hK.1 hP 1 1 rfl rfl rfl d_Places_clear_12 ?_
  refine lv_icmp_ge (tgt := 29) hx hb d_Places_clear_13 (by decide) (fun c_17 => absurd c_17 (by decide +kernel)) (fun c_17 => ?_)
  refine lv_aload_n hx hb d_Places_clear_16 rfl (lv_at hl 1 rfl) ?_
  refine va_get (D := D) (ci := 6) (v := .ref v17) (C := R_Places) (T := F_Places) (N := 8) hx hb hts i_Places hown hK.1 hP 0 rfl rfl 7 (by decide) (hts _ k_63) (fun _ h9 => h9) rfl d_Places_clear_17 ?_
  refine lv_iload_n hx hb d_Places_clear_20 rfl (lv_at hl 0 rfl) ?_
  refine lv_iconst (v := 0) hx hb d_Places_clear_21 (by decide +kernel) ?_
  refine nz_iastZ hx hb hK.1 hP hD hS 1 1 rfl rfl (nz_vin (by decide +kernel)) d_Places_clear_22 (fun H locs f_18 f_18_e hP hD hS => ?_)
  have f_18_z : f_18 = (fun _ => 0) := f_18_e
  subst f_18_z
  have hP : va_P D nz_cl [(v1, .inr (6, [.int 0, .ref v11, .ref v12, .ref v13, .ref v14, .ref v15, .ref v16, .ref v17])), (v17, .inl (cI, 32, .inl (fun _ => 0)))] H := hP
  have hD : va_D A [(v1, .inr (6, [.int 0, .ref v11, .ref v12, .ref v13, .ref v14, .ref v15, .ref v16, .ref v17])), (v17, .inl (cI, 32, .inl (fun _ => 0)))] := hD
  refine lv_iinc (v := 9) (lv' := [(1, .int 9), (0, .ref v1)]) hx hb d_Places_clear_23 hl (k := 0) rfl (by decide +kernel) (by decide) rfl (fun ls hl => ?_)
  refine lv_goto (tgt := 7) hx hb d_Places_clear_26 (by decide) ?_
  refine lv_iload_n hx hb d_Places_clear_7 rfl (lv_at hl 0 rfl) ?_
  refine lv_aload_n hx hb d_Places_clear_8 rfl (lv_at hl 1 rfl) ?_
  refine va_get (D := D) (ci := 6) (v := .ref v17) (C := R_Places) (T := F_Places) (N := 8) hx hb hts i_Places hown hK.1 hP 0 rfl rfl 7 (by decide) (hts _ k_63) (fun _ h9 => h9) rfl d_Places_clear_9 ?_
  refine va_alen (v := 32) hx hb hK.1 hP 1 1 rfl rfl rfl d_Places_clear_12 ?_
  refine lv_icmp_ge (tgt := 29) hx hb d_Places_clear_13 (by decide) (fun c_19 => absurd c_19 (by decide +kernel)) (fun c_19 => ?_)
  refine lv_aload_n hx hb d_Places_clear_16 rfl (lv_at hl 1 rfl) ?_
  refine va_get (D := D) (ci := 6) (v := .ref v17) (C := R_Places) (T := F_Places) (N := 8) hx hb hts i_Places hown hK.1 hP 0 rfl rfl 7 (by decide) (hts _ k_63) (fun _ h9 => h9) rfl d_Places_clear_17 ?_
  refine lv_iload_n hx hb d_Places_clear_20 rfl (lv_at hl 0 rfl) ?_
  refine lv_iconst (v := 0) hx hb d_Places_clear_21 (by decide +kernel) ?_
  refine nz_iastZ hx hb hK.1 hP hD hS 1 1 rfl rfl (nz_vin (by decide +kernel)) d_Places_clear_22 (fun H locs f_20 f_20_e hP hD hS => ?_)
  have f_20_z : f_20 = (fun _ => 0) := f_20_e
  subst f_20_z
  have hP : va_P D nz_cl [(v1, .inr (6, [.int 0, .ref v11, .ref v12, .ref v13, .ref v14, .ref v15, .ref v16, .ref v17])), (v17, .inl (cI, 32, .inl (fun _ => 0)))] H := hP
  have hD : va_D A [(v1, .inr (6, [.int 0, .ref v11, .ref v12, .ref v13, .ref v14, .ref v15, .ref v16, .ref v17])), (v17, .inl (cI, 32, .inl (fun _ => 0)))] := hD
  refine lv_iinc (v := 10) (lv' := [(1, .int 10), (0, .ref v1)]) hx hb d_Places_clear_23 hl (k := 0) rfl (by decide +kernel) (by decide) rfl (fun ls hl => ?_)
  refine lv_goto (tgt := 7) hx hb d_Places_clear_26 (by decide) ?_
  refine lv_iload_n hx hb d_Places_clear_7 rfl (lv_at hl 0 rfl) ?_
  refine lv_aload_n hx hb d_Places_clear_8 rfl (lv_at hl 1 rfl) ?_
  refine va_get (D := D) (ci := 6) (v := .ref v17) (C := R_Places) (T := F_Places) (N := 8) hx hb hts i_Places hown hK.1 hP 0 rfl rfl 7 (by decide) (hts _ k_63) (fun _ h9 => h9) rfl d_Places_clear_9 ?_
  refine va_alen (v := 32) hx hb hK.1 hP 1 1 rfl rfl rfl d_Places_clear_12 ?_
  refine lv_icmp_ge (tgt := 29) hx hb d_Places_clear_13 (by decide) (fun c_21 => absurd c_21 (by decide +kernel)) (fun c_21 => ?_)
  refine lv_aload_n hx hb d_Places_clear_16 rfl (lv_at hl 1 rfl) ?_
  refine va_get (D := D) (ci := 6) (v := .ref v17) (C := R_Places) (T := F_Places) (N := 8) hx hb hts i_Places hown hK.1 hP 0 rfl rfl 7 (by decide) (hts _ k_63) (fun _ h9 => h9) rfl d_Places_clear_17 ?_
  refine lv_iload_n hx hb d_Places_clear_20 rfl (lv_at hl 0 rfl) ?_
  refine lv_iconst (v := 0) hx hb d_Places_clear_21 (by decide +kernel) ?_
  refine nz_iastZ hx hb hK.1 hP hD hS 1 1 rfl rfl (nz_vin (by decide +kernel)) d_Places_clear_22 (fun H locs f_22 f_22_e hP hD hS => ?_)
  have f_22_z : f_22 = (fun _ => 0) := f_22_e
  subst f_22_z
  have hP : va_P D nz_cl [(v1, .inr (6, [.int 0, .ref v11, .ref v12, .ref v13, .ref v14, .ref v15, .ref v16, .ref v17])), (v17, .inl (cI, 32, .inl (fun _ => 0)))] H := hP
  have hD : va_D A [(v1, .inr (6, [.int 0, .ref v11, .ref v12, .ref v13, .ref v14, .ref v15, .ref v16, .ref v17])), (v17, .inl (cI, 32, .inl (fun _ => 0)))] := hD
  refine lv_iinc (v := 11) (lv' := [(1, .int 11), (0, .ref v1)]) hx hb d_Places_clear_23 hl (k := 0) rfl (by decide +kernel) (by decide) rfl (fun ls hl => ?_)
  refine lv_goto (tgt := 7) hx hb d_Places_clear_26 (by decide) ?_
  refine lv_iload_n hx hb d_Places_clear_7 rfl (lv_at hl 0 rfl) ?_
  refine lv_aload_n hx hb d_Places_clear_8 rfl (lv_at hl 1 rfl) ?_
  refine va_get (D := D) (ci := 6) (v := .ref v17) (C := R_Places) (T := F_Places) (N := 8) hx hb hts i_Places hown hK.1 hP 0 rfl rfl 7 (by decide) (hts _ k_63) (fun _ h9 => h9) rfl d_Places_clear_9 ?_
  refine va_alen (v := 32) hx hb hK.1 hP 1 1 rfl rfl rfl d_Places_clear_12 ?_
  refine lv_icmp_ge (tgt := 29) hx hb d_Places_clear_13 (by decide) (fun c_23 => absurd c_23 (by decide +kernel)) (fun c_23 => ?_)
  refine lv_aload_n hx hb d_Places_clear_16 rfl (lv_at hl 1 rfl) ?_
  refine va_get (D := D) (ci := 6) (v := .ref v17) (C := R_Places) (T := F_Places) (N := 8) hx hb hts i_Places hown hK.1 hP 0 rfl rfl 7 (by decide) (hts _ k_63) (fun _ h9 => h9) rfl d_Places_clear_17 ?_
  refine lv_iload_n hx hb d_Places_clear_20 rfl (lv_at hl 0 rfl) ?_
  refine lv_iconst (v := 0) hx hb d_Places_clear_21 (by decide +kernel) ?_
  refine nz_iastZ hx hb hK.1 hP hD hS 1 1 rfl rfl (nz_vin (by decide +kernel)) d_Places_clear_22 (fun H locs f_24 f_24_e hP hD hS => ?_)
  have f_24_z : f_24 = (fun _ => 0) := f_24_e
  subst f_24_z
  have hP : va_P D nz_cl [(v1, .inr (6, [.int 0, .ref v11, .ref v12, .ref v13, .ref v14, .ref v15, .ref v16, .ref v17])), (v17, .inl (cI, 32, .inl (fun _ => 0)))] H := hP
  have hD : va_D A [(v1, .inr (6, [.int 0, .ref v11, .ref v12, .ref v13, .ref v14, .ref v15, .ref v16, .ref v17])), (v17, .inl (cI, 32, .inl (fun _ => 0)))] := hD
  refine lv_iinc (v := 12) (lv' := [(1, .int 12), (0, .ref v1)]) hx hb d_Places_clear_23 hl (k := 0) rfl (by decide +kernel) (by decide) rfl (fun ls hl => ?_)
  refine lv_goto (tgt := 7) hx hb d_Places_clear_26 (by decide) ?_
  refine lv_iload_n hx hb d_Places_clear_7 rfl (lv_at hl 0 rfl) ?_
  refine lv_aload_n hx hb d_Places_clear_8 rfl (lv_at hl 1 rfl) ?_
  refine va_get (D := D) (ci := 6) (v := .ref v17) (C := R_Places) (T := F_Places) (N := 8) hx hb hts i_Places hown hK.1 hP 0 rfl rfl 7 (by decide) (hts _ k_63) (fun _ h9 => h9) rfl d_Places_clear_9 ?_
  refine va_alen (v := 32) hx hb hK.1 hP 1 1 rfl rfl rfl d_Places_clear_12 ?_
  refine lv_icmp_ge (tgt := 29) hx hb d_Places_clear_13 (by decide) (fun c_25 => absurd c_25 (by decide +kernel)) (fun c_25 => ?_)
  refine lv_aload_n hx hb d_Places_clear_16 rfl (lv_at hl 1 rfl) ?_
  refine va_get (D := D) (ci := 6) (v := .ref v17) (C := R_Places) (T := F_Places) (N := 8) hx hb hts i_Places hown hK.1 hP 0 rfl rfl 7 (by decide) (hts _ k_63) (fun _ h9 => h9) rfl d_Places_clear_17 ?_
  refine lv_iload_n hx hb d_Places_clear_20 rfl (lv_at hl 0 rfl) ?_
  refine lv_iconst (v := 0) hx hb d_Places_clear_21 (by decide +kernel) ?_
  refine nz_iastZ hx hb hK.1 hP hD hS 1 1 rfl rfl (nz_vin (by decide +kernel)) d_Places_clear_22 (fun H locs f_26 f_26_e hP hD hS => ?_)
  have f_26_z : f_26 = (fun _ => 0) := f_26_e
  subst f_26_z
  have hP : va_P D nz_cl [(v1, .inr (6, [.int 0, .ref v11, .ref v12, .ref v13, .ref v14, .ref v15, .ref v16, .ref v17])), (v17, .inl (cI, 32, .inl (fun _ => 0)))] H := hP
  have hD : va_D A [(v1, .inr (6, [.int 0, .ref v11, .ref v12, .ref v13, .ref v14, .ref v15, .ref v16, .ref v17])), (v17, .inl (cI, 32, .inl (fun _ => 0)))] := hD
  refine lv_iinc (v := 13) (lv' := [(1, .int 13), (0, .ref v1)]) hx hb d_Places_clear_23 hl (k := 0) rfl (by decide +kernel) (by decide) rfl (fun ls hl => ?_)
  refine lv_goto (tgt := 7) hx hb d_Places_clear_26 (by decide) ?_
  refine lv_iload_n hx hb d_Places_clear_7 rfl (lv_at hl 0 rfl) ?_
  refine lv_aload_n hx hb d_Places_clear_8 rfl (lv_at hl 1 rfl) ?_
  refine va_get (D := D) (ci := 6) (v := .ref v17) (C := R_Places) (T := F_Places) (N := 8) hx hb hts i_Places hown hK.1 hP 0 rfl rfl 7 (by decide) (hts _ k_63) (fun _ h9 => h9) rfl d_Places_clear_9 ?_
  refine va_alen (v := 32) hx hb hK.1 hP 1 1 rfl rfl rfl d_Places_clear_12 ?_
  refine lv_icmp_ge (tgt := 29) hx hb d_Places_clear_13 (by decide) (fun c_27 => absurd c_27 (by decide +kernel)) (fun c_27 => ?_)
  refine lv_aload_n hx hb d_Places_clear_16 rfl (lv_at hl 1 rfl) ?_
  refine va_get (D := D) (ci := 6) (v := .ref v17) (C := R_Places) (T := F_Places) (N := 8) hx hb hts i_Places hown hK.1 hP 0 rfl rfl 7 (by decide) (hts _ k_63) (fun _ h9 => h9) rfl d_Places_clear_17 ?_
  refine lv_iload_n hx hb d_Places_clear_20 rfl (lv_at hl 0 rfl) ?_
  refine lv_iconst (v := 0) hx hb d_Places_clear_21 (by decide +kernel) ?_
  refine nz_iastZ hx hb hK.1 hP hD hS 1 1 rfl rfl (nz_vin (by decide +kernel)) d_Places_clear_22 (fun H locs f_28 f_28_e hP hD hS => ?_)
  have f_28_z : f_28 = (fun _ => 0) := f_28_e
  subst f_28_z
  have hP : va_P D nz_cl [(v1, .inr (6, [.int 0, .ref v11, .ref v12, .ref v13, .ref v14, .ref v15, .ref v16, .ref v17])), (v17, .inl (cI, 32, .inl (fun _ => 0)))] H := hP
  have hD : va_D A [(v1, .inr (6, [.int 0, .ref v11, .ref v12, .ref v13, .ref v14, .ref v15, .ref v16, .ref v17])), (v17, .inl (cI, 32, .inl (fun _ => 0)))] := hD
  refine lv_iinc (v := 14) (lv' := [(1, .int 14), (0, .ref v1)]) hx hb d_Places_clear_23 hl (k := 0) rfl (by decide +kernel) (by decide) rfl (fun ls hl => ?_)
  refine lv_goto (tgt := 7) hx hb d_Places_clear_26 (by decide) ?_
  refine lv_iload_n hx hb d_Places_clear_7 rfl (lv_at hl 0 rfl) ?_
  refine lv_aload_n hx hb d_Places_clear_8 rfl (lv_at hl 1 rfl) ?_
  refine va_get (D := D) (ci := 6) (v := .ref v17) (C := R_Places) (T := F_Places) (N := 8) hx hb hts i_Places hown hK.1 hP 0 rfl rfl 7 (by decide) (hts _ k_63) (fun _ h9 => h9) rfl d_Places_clear_9 ?_
  refine va_alen (v := 32) hx hb hK.1 hP 1 1 rfl rfl rfl d_Places_clear_12 ?_
  refine lv_icmp_ge (tgt := 29) hx hb d_Places_clear_13 (by decide) (fun c_29 => absurd c_29 (by decide +kernel)) (fun c_29 => ?_)
  refine lv_aload_n hx hb d_Places_clear_16 rfl (lv_at hl 1 rfl) ?_
  refine va_get (D := D) (ci := 6) (v := .ref v17) (C := R_Places) (T := F_Places) (N := 8) hx hb hts i_Places hown hK.1 hP 0 rfl rfl 7 (by decide) (hts _ k_63) (fun _ h9 => h9) rfl d_Places_clear_17 ?_
  refine lv_iload_n hx hb d_Places_clear_20 rfl (lv_at hl 0 rfl) ?_
  refine lv_iconst (v := 0) hx hb d_Places_clear_21 (by decide +kernel) ?_
  refine nz_iastZ hx hb hK.1 hP hD hS 1 1 rfl rfl (nz_vin (by decide +kernel)) d_Places_clear_22 (fun H locs f_30 f_30_e hP hD hS => ?_)
  have f_30_z : f_30 = (fun _ => 0) := f_30_e
  subst f_30_z
  have hP : va_P D nz_cl [(v1, .inr (6, [.int 0, .ref v11, .ref v12, .ref v13, .ref v14, .ref v15, .ref v16, .ref v17])), (v17, .inl (cI, 32, .inl (fun _ => 0)))] H := hP
  have hD : va_D A [(v1, .inr (6, [.int 0, .ref v11, .ref v12, .ref v13, .ref v14, .ref v15, .ref v16, .ref v17])), (v17, .inl (cI, 32, .inl (fun _ => 0)))] := hD
  refine lv_iinc (v := 15) (lv' := [(1, .int 15), (0, .ref v1)]) hx hb d_Places_clear_23 hl (k := 0) rfl (by decide +kernel) (by decide) rfl (fun ls hl => ?_)
  refine lv_goto (tgt := 7) hx hb d_Places_clear_26 (by decide) ?_
  refine lv_iload_n hx hb d_Places_clear_7 rfl (lv_at hl 0 rfl) ?_
  refine lv_aload_n hx hb d_Places_clear_8 rfl (lv_at hl 1 rfl) ?_
  refine va_get (D := D) (ci := 6) (v := .ref v17) (C := R_Places) (T := F_Places) (N := 8) hx hb hts i_Places hown hK.1 hP 0 rfl rfl 7 (by decide) (hts _ k_63) (fun _ h9 => h9) rfl d_Places_clear_9 ?_
  refine va_alen (v := 32) hx hb hK.1 hP 1 1 rfl rfl rfl d_Places_clear_12 ?_
  refine lv_icmp_ge (tgt := 29) hx hb d_Places_clear_13 (by decide) (fun c_31 => absurd c_31 (by decide +kernel)) (fun c_31 => ?_)
  refine lv_aload_n hx hb d_Places_clear_16 rfl (lv_at hl 1 rfl) ?_
  refine va_get (D := D) (ci := 6) (v := .ref v17) (C := R_Places) (T := F_Places) (N := 8) hx hb hts i_Places hown hK.1 hP 0 rfl rfl 7 (by decide) (hts _ k_63) (fun _ h9 => h9) rfl d_Places_clear_17 ?_
  refine lv_iload_n hx hb d_Places_clear_20 rfl (lv_at hl 0 rfl) ?_
  refine lv_iconst (v := 0) hx hb d_Places_clear_21 (by decide +kernel) ?_
  refine nz_iastZ hx hb hK.1 hP hD hS 1 1 rfl rfl (nz_vin (by decide +kernel)) d_Places_clear_22 (fun H locs f_32 f_32_e hP hD hS => ?_)
  have f_32_z : f_32 = (fun _ => 0) := f_32_e
  subst f_32_z
  have hP : va_P D nz_cl [(v1, .inr (6, [.int 0, .ref v11, .ref v12, .ref v13, .ref v14, .ref v15, .ref v16, .ref v17])), (v17, .inl (cI, 32, .inl (fun _ => 0)))] H := hP
  have hD : va_D A [(v1, .inr (6, [.int 0, .ref v11, .ref v12, .ref v13, .ref v14, .ref v15, .ref v16, .ref v17])), (v17, .inl (cI, 32, .inl (fun _ => 0)))] := hD
  refine lv_iinc (v := 16) (lv' := [(1, .int 16), (0, .ref v1)]) hx hb d_Places_clear_23 hl (k := 0) rfl (by decide +kernel) (by decide) rfl (fun ls hl => ?_)
  refine lv_goto (tgt := 7) hx hb d_Places_clear_26 (by decide) ?_
  refine lv_iload_n hx hb d_Places_clear_7 rfl (lv_at hl 0 rfl) ?_
  refine lv_aload_n hx hb d_Places_clear_8 rfl (lv_at hl 1 rfl) ?_
  refine va_get (D := D) (ci := 6) (v := .ref v17) (C := R_Places) (T := F_Places) (N := 8) hx hb hts i_Places hown hK.1 hP 0 rfl rfl 7 (by decide) (hts _ k_63) (fun _ h9 => h9) rfl d_Places_clear_9 ?_
  refine va_alen (v := 32) hx hb hK.1 hP 1 1 rfl rfl rfl d_Places_clear_12 ?_
  refine lv_icmp_ge (tgt := 29) hx hb d_Places_clear_13 (by decide) (fun c_33 => absurd c_33 (by decide +kernel)) (fun c_33 => ?_)
  refine lv_aload_n hx hb d_Places_clear_16 rfl (lv_at hl 1 rfl) ?_
  refine va_get (D := D) (ci := 6) (v := .ref v17) (C := R_Places) (T := F_Places) (N := 8) hx hb hts i_Places hown hK.1 hP 0 rfl rfl 7 (by decide) (hts _ k_63) (fun _ h9 => h9) rfl d_Places_clear_17 ?_
  refine lv_iload_n hx hb d_Places_clear_20 rfl (lv_at hl 0 rfl) ?_
  refine lv_iconst (v := 0) hx hb d_Places_clear_21 (by decide +kernel) ?_
  refine nz_iastZ hx hb hK.1 hP hD hS 1 1 rfl rfl (nz_vin (by decide +kernel)) d_Places_clear_22 (fun H locs f_34 f_34_e hP hD hS => ?_)
  have f_34_z : f_34 = (fun _ => 0) := f_34_e
  subst f_34_z
  have hP : va_P D nz_cl [(v1, .inr (6, [.int 0, .ref v11, .ref v12, .ref v13, .ref v14, .ref v15, .ref v16, .ref v17])), (v17, .inl (cI, 32, .inl (fun _ => 0)))] H := hP
  have hD : va_D A [(v1, .inr (6, [.int 0, .ref v11, .ref v12, .ref v13, .ref v14, .ref v15, .ref v16, .ref v17])), (v17, .inl (cI, 32, .inl (fun _ => 0)))] := hD
  refine lv_iinc (v := 17) (lv' := [(1, .int 17), (0, .ref v1)]) hx hb d_Places_clear_23 hl (k := 0) rfl (by decide +kernel) (by decide) rfl (fun ls hl => ?_)
  refine lv_goto (tgt := 7) hx hb d_Places_clear_26 (by decide) ?_
  refine lv_iload_n hx hb d_Places_clear_7 rfl (lv_at hl 0 rfl) ?_
  refine lv_aload_n hx hb d_Places_clear_8 rfl (lv_at hl 1 rfl) ?_
  refine va_get (D := D) (ci := 6) (v := .ref v17) (C := R_Places) (T := F_Places) (N := 8) hx hb hts i_Places hown hK.1 hP 0 rfl rfl 7 (by decide) (hts _ k_63) (fun _ h9 => h9) rfl d_Places_clear_9 ?_
  refine va_alen (v := 32) hx hb hK.1 hP 1 1 rfl rfl rfl d_Places_clear_12 ?_
  refine lv_icmp_ge (tgt := 29) hx hb d_Places_clear_13 (by decide) (fun c_35 => absurd c_35 (by decide +kernel)) (fun c_35 => ?_)
  refine lv_aload_n hx hb d_Places_clear_16 rfl (lv_at hl 1 rfl) ?_
  refine va_get (D := D) (ci := 6) (v := .ref v17) (C := R_Places) (T := F_Places) (N := 8) hx hb hts i_Places hown hK.1 hP 0 rfl rfl 7 (by decide) (hts _ k_63) (fun _ h9 => h9) rfl d_Places_clear_17 ?_
  refine lv_iload_n hx hb d_Places_clear_20 rfl (lv_at hl 0 rfl) ?_
  refine lv_iconst (v := 0) hx hb d_Places_clear_21 (by decide +kernel) ?_
  refine nz_iastZ hx hb hK.1 hP hD hS 1 1 rfl rfl (nz_vin (by decide +kernel)) d_Places_clear_22 (fun H locs f_36 f_36_e hP hD hS => ?_)
  have f_36_z : f_36 = (fun _ => 0) := f_36_e
  subst f_36_z
  have hP : va_P D nz_cl [(v1, .inr (6, [.int 0, .ref v11, .ref v12, .ref v13, .ref v14, .ref v15, .ref v16, .ref v17])), (v17, .inl (cI, 32, .inl (fun _ => 0)))] H := hP
  have hD : va_D A [(v1, .inr (6, [.int 0, .ref v11, .ref v12, .ref v13, .ref v14, .ref v15, .ref v16, .ref v17])), (v17, .inl (cI, 32, .inl (fun _ => 0)))] := hD
  refine lv_iinc (v := 18) (lv' := [(1, .int 18), (0, .ref v1)]) hx hb d_Places_clear_23 hl (k := 0) rfl (by decide +kernel) (by decide) rfl (fun ls hl => ?_)
  refine lv_goto (tgt := 7) hx hb d_Places_clear_26 (by decide) ?_
  refine lv_iload_n hx hb d_Places_clear_7 rfl (lv_at hl 0 rfl) ?_
  refine lv_aload_n hx hb d_Places_clear_8 rfl (lv_at hl 1 rfl) ?_
  refine va_get (D := D) (ci := 6) (v := .ref v17) (C := R_Places) (T := F_Places) (N := 8) hx hb hts i_Places hown hK.1 hP 0 rfl rfl 7 (by decide) (hts _ k_63) (fun _ h9 => h9) rfl d_Places_clear_9 ?_
  refine va_alen (v := 32) hx hb hK.1 hP 1 1 rfl rfl rfl d_Places_clear_12 ?_
  refine lv_icmp_ge (tgt := 29) hx hb d_Places_clear_13 (by decide) (fun c_37 => absurd c_37 (by decide +kernel)) (fun c_37 => ?_)
  refine lv_aload_n hx hb d_Places_clear_16 rfl (lv_at hl 1 rfl) ?_
  refine va_get (D := D) (ci := 6) (v := .ref v17) (C := R_Places) (T := F_Places) (N := 8) hx hb hts i_Places hown hK.1 hP 0 rfl rfl 7 (by decide) (hts _ k_63) (fun _ h9 => h9) rfl d_Places_clear_17 ?_
  refine lv_iload_n hx hb d_Places_clear_20 rfl (lv_at hl 0 rfl) ?_
  refine lv_iconst (v := 0) hx hb d_Places_clear_21 (by decide +kernel) ?_
  refine nz_iastZ hx hb hK.1 hP hD hS 1 1 rfl rfl (nz_vin (by decide +kernel)) d_Places_clear_22 (fun H locs f_38 f_38_e hP hD hS => ?_)
  have f_38_z : f_38 = (fun _ => 0) := f_38_e
  subst f_38_z
  have hP : va_P D nz_cl [(v1, .inr (6, [.int 0, .ref v11, .ref v12, .ref v13, .ref v14, .ref v15, .ref v16, .ref v17])), (v17, .inl (cI, 32, .inl (fun _ => 0)))] H := hP
  have hD : va_D A [(v1, .inr (6, [.int 0, .ref v11, .ref v12, .ref v13, .ref v14, .ref v15, .ref v16, .ref v17])), (v17, .inl (cI, 32, .inl (fun _ => 0)))] := hD
  refine lv_iinc (v := 19) (lv' := [(1, .int 19), (0, .ref v1)]) hx hb d_Places_clear_23 hl (k := 0) rfl (by decide +kernel) (by decide) rfl (fun ls hl => ?_)
  refine lv_goto (tgt := 7) hx hb d_Places_clear_26 (by decide) ?_
  refine lv_iload_n hx hb d_Places_clear_7 rfl (lv_at hl 0 rfl) ?_
  refine lv_aload_n hx hb d_Places_clear_8 rfl (lv_at hl 1 rfl) ?_
  refine va_get (D := D) (ci := 6) (v := .ref v17) (C := R_Places) (T := F_Places) (N := 8) hx hb hts i_Places hown hK.1 hP 0 rfl rfl 7 (by decide) (hts _ k_63) (fun _ h9 => h9) rfl d_Places_clear_9 ?_
  refine va_alen (v := 32) hx hb hK.1 hP 1 1 rfl rfl rfl d_Places_clear_12 ?_
  refine lv_icmp_ge (tgt := 29) hx hb d_Places_clear_13 (by decide) (fun c_39 => absurd c_39 (by decide +kernel)) (fun c_39 => ?_)
  refine lv_aload_n hx hb d_Places_clear_16 rfl (lv_at hl 1 rfl) ?_
  refine va_get (D := D) (ci := 6) (v := .ref v17) (C := R_Places) (T := F_Places) (N := 8) hx hb hts i_Places hown hK.1 hP 0 rfl rfl 7 (by decide) (hts _ k_63) (fun _ h9 => h9) rfl d_Places_clear_17 ?_
  refine lv_iload_n hx hb d_Places_clear_20 rfl (lv_at hl 0 rfl) ?_
  refine lv_iconst (v := 0) hx hb d_Places_clear_21 (by decide +kernel) ?_
  refine nz_iastZ hx hb hK.1 hP hD hS 1 1 rfl rfl (nz_vin (by decide +kernel)) d_Places_clear_22 (fun H locs f_40 f_40_e hP hD hS => ?_)
  have f_40_z : f_40 = (fun _ => 0) := f_40_e
  subst f_40_z
  have hP : va_P D nz_cl [(v1, .inr (6, [.int 0, .ref v11, .ref v12, .ref v13, .ref v14, .ref v15, .ref v16, .ref v17])), (v17, .inl (cI, 32, .inl (fun _ => 0)))] H := hP
  have hD : va_D A [(v1, .inr (6, [.int 0, .ref v11, .ref v12, .ref v13, .ref v14, .ref v15, .ref v16, .ref v17])), (v17, .inl (cI, 32, .inl (fun _ => 0)))] := hD
  refine lv_iinc (v := 20) (lv' := [(1, .int 20), (0, .ref v1)]) hx hb d_Places_clear_23 hl (k := 0) rfl (by decide +kernel) (by decide) rfl (fun ls hl => ?_)
  refine lv_goto (tgt := 7) hx hb d_Places_clear_26 (by decide) ?_
  refine lv_iload_n hx hb d_Places_clear_7 rfl (lv_at hl 0 rfl) ?_
  refine lv_aload_n hx hb d_Places_clear_8 rfl (lv_at hl 1 rfl) ?_
  refine va_get (D := D) (ci := 6) (v := .ref v17) (C := R_Places) (T := F_Places) (N := 8) hx hb hts i_Places hown hK.1 hP 0 rfl rfl 7 (by decide) (hts _ k_63) (fun _ h9 => h9) rfl d_Places_clear_9 ?_
  refine va_alen (v := 32) hx hb hK.1 hP 1 1 rfl rfl rfl d_Places_clear_12 ?_
  refine lv_icmp_ge (tgt := 29) hx hb d_Places_clear_13 (by decide) (fun c_41 => absurd c_41 (by decide +kernel)) (fun c_41 => ?_)
  refine lv_aload_n hx hb d_Places_clear_16 rfl (lv_at hl 1 rfl) ?_
  refine va_get (D := D) (ci := 6) (v := .ref v17) (C := R_Places) (T := F_Places) (N := 8) hx hb hts i_Places hown hK.1 hP 0 rfl rfl 7 (by decide) (hts _ k_63) (fun _ h9 => h9) rfl d_Places_clear_17 ?_
  refine lv_iload_n hx hb d_Places_clear_20 rfl (lv_at hl 0 rfl) ?_
  refine lv_iconst (v := 0) hx hb d_Places_clear_21 (by decide +kernel) ?_
  refine nz_iastZ hx hb hK.1 hP hD hS 1 1 rfl rfl (nz_vin (by decide +kernel)) d_Places_clear_22 (fun H locs f_42 f_42_e hP hD hS => ?_)
  have f_42_z : f_42 = (fun _ => 0) := f_42_e
  subst f_42_z
  have hP : va_P D nz_cl [(v1, .inr (6, [.int 0, .ref v11, .ref v12, .ref v13, .ref v14, .ref v15, .ref v16, .ref v17])), (v17, .inl (cI, 32, .inl (fun _ => 0)))] H := hP
  have hD : va_D A [(v1, .inr (6, [.int 0, .ref v11, .ref v12, .ref v13, .ref v14, .ref v15, .ref v16, .ref v17])), (v17, .inl (cI, 32, .inl (fun _ => 0)))] := hD
  refine lv_iinc (v := 21) (lv' := [(1, .int 21), (0, .ref v1)]) hx hb d_Places_clear_23 hl (k := 0) rfl (by decide +kernel) (by decide) rfl (fun ls hl => ?_)
  refine lv_goto (tgt := 7) hx hb d_Places_clear_26 (by decide) ?_
  refine lv_iload_n hx hb d_Places_clear_7 rfl (lv_at hl 0 rfl) ?_
  refine lv_aload_n hx hb d_Places_clear_8 rfl (lv_at hl 1 rfl) ?_
  refine va_get (D := D) (ci := 6) (v := .ref v17) (C := R_Places) (T := F_Places) (N := 8) hx hb hts i_Places hown hK.1 hP 0 rfl rfl 7 (by decide) (hts _ k_63) (fun _ h9 => h9) rfl d_Places_clear_9 ?_
  refine va_alen (v := 32) hx hb hK.1 hP 1 1 rfl rfl rfl d_Places_clear_12 ?_
  refine lv_icmp_ge (tgt := 29) hx hb d_Places_clear_13 (by decide) (fun c_43 => absurd c_43 (by decide +kernel)) (fun c_43 => ?_)
  refine lv_aload_n hx hb d_Places_clear_16 rfl (lv_at hl 1 rfl) ?_
  refine va_get (D := D) (ci := 6) (v := .ref v17) (C := R_Places) (T := F_Places) (N := 8) hx hb hts i_Places hown hK.1 hP 0 rfl rfl 7 (by decide) (hts _ k_63) (fun _ h9 => h9) rfl d_Places_clear_17 ?_
  refine lv_iload_n hx hb d_Places_clear_20 rfl (lv_at hl 0 rfl) ?_
  refine lv_iconst (v := 0) hx hb d_Places_clear_21 (by decide +kernel) ?_
  refine nz_iastZ hx hb hK.1 hP hD hS 1 1 rfl rfl (nz_vin (by decide +kernel)) d_Places_clear_22 (fun H locs f_44 f_44_e hP hD hS => ?_)
  have f_44_z : f_44 = (fun _ => 0) := f_44_e
  subst f_44_z
  have hP : va_P D nz_cl [(v1, .inr (6, [.int 0, .ref v11, .ref v12, .ref v13, .ref v14, .ref v15, .ref v16, .ref v17])), (v17, .inl (cI, 32, .inl (fun _ => 0)))] H := hP
  have hD : va_D A [(v1, .inr (6, [.int 0, .ref v11, .ref v12, .ref v13, .ref v14, .ref v15, .ref v16, .ref v17])), (v17, .inl (cI, 32, .inl (fun _ => 0)))] := hD
  refine lv_iinc (v := 22) (lv' := [(1, .int 22), (0, .ref v1)]) hx hb d_Places_clear_23 hl (k := 0) rfl (by decide +kernel) (by decide) rfl (fun ls hl => ?_)
  refine lv_goto (tgt := 7) hx hb d_Places_clear_26 (by decide) ?_
  refine lv_iload_n hx hb d_Places_clear_7 rfl (lv_at hl 0 rfl) ?_
  refine lv_aload_n hx hb d_Places_clear_8 rfl (lv_at hl 1 rfl) ?_
  refine va_get (D := D) (ci := 6) (v := .ref v17) (C := R_Places) (T := F_Places) (N := 8) hx hb hts i_Places hown hK.1 hP 0 rfl rfl 7 (by decide) (hts _ k_63) (fun _ h9 => h9) rfl d_Places_clear_9 ?_
  refine va_alen (v := 32) hx hb hK.1 hP 1 1 rfl rfl rfl d_Places_clear_12 ?_
  refine lv_icmp_ge (tgt := 29) hx hb d_Places_clear_13 (by decide) (fun c_45 => absurd c_45 (by decide +kernel)) (fun c_45 => ?_)
  refine lv_aload_n hx hb d_Places_clear_16 rfl (lv_at hl 1 rfl) ?_
  refine va_get (D := D) (ci := 6) (v := .ref v17) (C := R_Places) (T := F_Places) (N := 8) hx hb hts i_Places hown hK.1 hP 0 rfl rfl 7 (by decide) (hts _ k_63) (fun _ h9 => h9) rfl d_Places_clear_17 ?_
  refine lv_iload_n hx hb d_Places_clear_20 rfl (lv_at hl 0 rfl) ?_
  refine lv_iconst (v := 0) hx hb d_Places_clear_21 (by decide +kernel) ?_
  refine nz_iastZ hx hb hK.1 hP hD hS 1 1 rfl rfl (nz_vin (by decide +kernel)) d_Places_clear_22 (fun H locs f_46 f_46_e hP hD hS => ?_)
  have f_46_z : f_46 = (fun _ => 0) := f_46_e
  subst f_46_z
  have hP : va_P D nz_cl [(v1, .inr (6, [.int 0, .ref v11, .ref v12, .ref v13, .ref v14, .ref v15, .ref v16, .ref v17])), (v17, .inl (cI, 32, .inl (fun _ => 0)))] H := hP
  have hD : va_D A [(v1, .inr (6, [.int 0, .ref v11, .ref v12, .ref v13, .ref v14, .ref v15, .ref v16, .ref v17])), (v17, .inl (cI, 32, .inl (fun _ => 0)))] := hD
  refine lv_iinc (v := 23) (lv' := [(1, .int 23), (0, .ref v1)]) hx hb d_Places_clear_23 hl (k := 0) rfl (by decide +kernel) (by decide) rfl (fun ls hl => ?_)
  refine lv_goto (tgt := 7) hx hb d_Places_clear_26 (by decide) ?_
  refine lv_iload_n hx hb d_Places_clear_7 rfl (lv_at hl 0 rfl) ?_
  refine lv_aload_n hx hb d_Places_clear_8 rfl (lv_at hl 1 rfl) ?_
  refine va_get (D := D) (ci := 6) (v := .ref v17) (C := R_Places) (T := F_Places) (N := 8) hx hb hts i_Places hown hK.1 hP 0 rfl rfl 7 (by decide) (hts _ k_63) (fun _ h9 => h9) rfl d_Places_clear_9 ?_
  refine va_alen (v := 32) hx hb hK.1 hP 1 1 rfl rfl rfl d_Places_clear_12 ?_
  refine lv_icmp_ge (tgt := 29) hx hb d_Places_clear_13 (by decide) (fun c_47 => absurd c_47 (by decide +kernel)) (fun c_47 => ?_)
  refine lv_aload_n hx hb d_Places_clear_16 rfl (lv_at hl 1 rfl) ?_
  refine va_get (D := D) (ci := 6) (v := .ref v17) (C := R_Places) (T := F_Places) (N := 8) hx hb hts i_Places hown hK.1 hP 0 rfl rfl 7 (by decide) (hts _ k_63) (fun _ h9 => h9) rfl d_Places_clear_17 ?_
  refine lv_iload_n hx hb d_Places_clear_20 rfl (lv_at hl 0 rfl) ?_
  refine lv_iconst (v := 0) hx hb d_Places_clear_21 (by decide +kernel) ?_
  refine nz_iastZ hx hb hK.1 hP hD hS 1 1 rfl rfl (nz_vin (by decide +kernel)) d_Places_clear_22 (fun H locs f_48 f_48_e hP hD hS => ?_)
  have f_48_z : f_48 = (fun _ => 0) := f_48_e
  subst f_48_z
  have hP : va_P D nz_cl [(v1, .inr (6, [.int 0, .ref v11, .ref v12, .ref v13, .ref v14, .ref v15, .ref v16, .ref v17])), (v17, .inl (cI, 32, .inl (fun _ => 0)))] H := hP
  have hD : va_D A [(v1, .inr (6, [.int 0, .ref v11, .ref v12, .ref v13, .ref v14, .ref v15, .ref v16, .ref v17])), (v17, .inl (cI, 32, .inl (fun _ => 0)))] := hD
  refine lv_iinc (v := 24) (lv' := [(1, .int 24), (0, .ref v1)]) hx hb d_Places_clear_23 hl (k := 0) rfl (by decide +kernel) (by decide) rfl (fun ls hl => ?_)
  refine lv_goto (tgt := 7) hx hb d_Places_clear_26 (by decide) ?_
  refine lv_iload_n hx hb d_Places_clear_7 rfl (lv_at hl 0 rfl) ?_
  refine lv_aload_n hx hb d_Places_clear_8 rfl (lv_at hl 1 rfl) ?_
  refine va_get (D := D) (ci := 6) (v := .ref v17) (C := R_Places) (T := F_Places) (N := 8) hx hb hts i_Places hown hK.1 hP 0 rfl rfl 7 (by decide) (hts _ k_63) (fun _ h9 => h9) rfl d_Places_clear_9 ?_
  refine va_alen (v := 32) hx hb hK.1 hP 1 1 rfl rfl rfl d_Places_clear_12 ?_
  refine lv_icmp_ge (tgt := 29) hx hb d_Places_clear_13 (by decide) (fun c_49 => absurd c_49 (by decide +kernel)) (fun c_49 => ?_)
  refine lv_aload_n hx hb d_Places_clear_16 rfl (lv_at hl 1 rfl) ?_
  refine va_get (D := D) (ci := 6) (v := .ref v17) (C := R_Places) (T := F_Places) (N := 8) hx hb hts i_Places hown hK.1 hP 0 rfl rfl 7 (by decide) (hts _ k_63) (fun _ h9 => h9) rfl d_Places_clear_17 ?_
  refine lv_iload_n hx hb d_Places_clear_20 rfl (lv_at hl 0 rfl) ?_
  refine lv_iconst (v := 0) hx hb d_Places_clear_21 (by decide +kernel) ?_
  refine nz_iastZ hx hb hK.1 hP hD hS 1 1 rfl rfl (nz_vin (by decide +kernel)) d_Places_clear_22 (fun H locs f_50 f_50_e hP hD hS => ?_)
  have f_50_z : f_50 = (fun _ => 0) := f_50_e
  subst f_50_z
  have hP : va_P D nz_cl [(v1, .inr (6, [.int 0, .ref v11, .ref v12, .ref v13, .ref v14, .ref v15, .ref v16, .ref v17])), (v17, .inl (cI, 32, .inl (fun _ => 0)))] H := hP
  have hD : va_D A [(v1, .inr (6, [.int 0, .ref v11, .ref v12, .ref v13, .ref v14, .ref v15, .ref v16, .ref v17])), (v17, .inl (cI, 32, .inl (fun _ => 0)))] := hD
  refine lv_iinc (v := 25) (lv' := [(1, .int 25), (0, .ref v1)]) hx hb d_Places_clear_23 hl (k := 0) rfl (by decide +kernel) (by decide) rfl (fun ls hl => ?_)
  refine lv_goto (tgt := 7) hx hb d_Places_clear_26 (by decide) ?_
  refine lv_iload_n hx hb d_Places_clear_7 rfl (lv_at hl 0 rfl) ?_
  refine lv_aload_n hx hb d_Places_clear_8 rfl (lv_at hl 1 rfl) ?_
  refine va_get (D := D) (ci := 6) (v := .ref v17) (C := R_Places) (T := F_Places) (N := 8) hx hb hts i_Places hown hK.1 hP 0 rfl rfl 7 (by decide) (hts _ k_63) (fun _ h9 => h9) rfl d_Places_clear_9 ?_
  refine va_alen (v := 32) hx hb hK.1 hP 1 1 rfl rfl rfl d_Places_clear_12 ?_
  refine lv_icmp_ge (tgt := 29) hx hb d_Places_clear_13 (by decide) (fun c_51 => absurd c_51 (by decide +kernel)) (fun c_51 => ?_)
  refine lv_aload_n hx hb d_Places_clear_16 rfl (lv_at hl 1 rfl) ?_
  refine va_get (D := D) (ci := 6) (v := .ref v17) (C := R_Places) (T := F_Places) (N := 8) hx hb hts i_Places hown hK.1 hP 0 rfl rfl 7 (by decide) (hts _ k_63) (fun _ h9 => h9) rfl d_Places_clear_17 ?_
  refine lv_iload_n hx hb d_Places_clear_20 rfl (lv_at hl 0 rfl) ?_
  refine lv_iconst (v := 0) hx hb d_Places_clear_21 (by decide +kernel) ?_
  refine nz_iastZ hx hb hK.1 hP hD hS 1 1 rfl rfl (nz_vin (by decide +kernel)) d_Places_clear_22 (fun H locs f_52 f_52_e hP hD hS => ?_)
  have f_52_z : f_52 = (fun _ => 0) := f_52_e
  subst f_52_z
  have hP : va_P D nz_cl [(v1, .inr (6, [.int 0, .ref v11, .ref v12, .ref v13, .ref v14, .ref v15, .ref v16, .ref v17])), (v17, .inl (cI, 32, .inl (fun _ => 0)))] H := hP
  have hD : va_D A [(v1, .inr (6, [.int 0, .ref v11, .ref v12, .ref v13, .ref v14, .ref v15, .ref v16, .ref v17])), (v17, .inl (cI, 32, .inl (fun _ => 0)))] := hD
  refine lv_iinc (v := 26) (lv' := [(1, .int 26), (0, .ref v1)]) hx hb d_Places_clear_23 hl (k := 0) rfl (by decide +kernel) (by decide) rfl (fun ls hl => ?_)
  refine lv_goto (tgt := 7) hx hb d_Places_clear_26 (by decide) ?_
  refine lv_iload_n hx hb d_Places_clear_7 rfl (lv_at hl 0 rfl) ?_
  refine lv_aload_n hx hb d_Places_clear_8 rfl (lv_at hl 1 rfl) ?_
  refine va_get (D := D) (ci := 6) (v := .ref v17) (C := R_Places) (T := F_Places) (N := 8) hx hb hts i_Places hown hK.1 hP 0 rfl rfl 7 (by decide) (hts _ k_63) (fun _ h9 => h9) rfl d_Places_clear_9 ?_
  refine va_alen (v := 32) hx hb hK.1 hP 1 1 rfl rfl rfl d_Places_clear_12 ?_
  refine lv_icmp_ge (tgt := 29) hx hb d_Places_clear_13 (by decide) (fun c_53 => absurd c_53 (by decide +kernel)) (fun c_53 => ?_)
  refine lv_aload_n hx hb d_Places_clear_16 rfl (lv_at hl 1 rfl) ?_
  refine va_get (D := D) (ci := 6) (v := .ref v17) (C := R_Places) (T := F_Places) (N := 8) hx hb hts i_Places hown hK.1 hP 0 rfl rfl 7 (by decide) (hts _ k_63) (fun _ h9 => h9) rfl d_Places_clear_17 ?_
  refine lv_iload_n hx hb d_Places_clear_20 rfl (lv_at hl 0 rfl) ?_
  refine lv_iconst (v := 0) hx hb d_Places_clear_21 (by decide +kernel) ?_
  refine nz_iastZ hx hb hK.1 hP hD hS 1 1 rfl rfl (nz_vin (by decide +kernel)) d_Places_clear_22 (fun H locs f_54 f_54_e hP hD hS => ?_)
  have f_54_z : f_54 = (fun _ => 0) := f_54_e
  subst f_54_z
  have hP : va_P D nz_cl [(v1, .inr (6, [.int 0, .ref v11, .ref v12, .ref v13, .ref v14, .ref v15, .ref v16, .ref v17])), (v17, .inl (cI, 32, .inl (fun _ => 0)))] H := hP
  have hD : va_D A [(v1, .inr (6, [.int 0, .ref v11, .ref v12, .ref v13, .ref v14, .ref v15, .ref v16, .ref v17])), (v17, .inl (cI, 32, .inl (fun _ => 0)))] := hD
  refine lv_iinc (v := 27) (lv' := [(1, .int 27), (0, .ref v1)]) hx hb d_Places_clear_23 hl (k := 0) rfl (by decide +kernel) (by decide) rfl (fun ls hl => ?_)
  refine lv_goto (tgt := 7) hx hb d_Places_clear_26 (by decide) ?_
  refine lv_iload_n hx hb d_Places_clear_7 rfl (lv_at hl 0 rfl) ?_
  refine lv_aload_n hx hb d_Places_clear_8 rfl (lv_at hl 1 rfl) ?_
  refine va_get (D := D) (ci := 6) (v := .ref v17) (C := R_Places) (T := F_Places) (N := 8) hx hb hts i_Places hown hK.1 hP 0 rfl rfl 7 (by decide) (hts _ k_63) (fun _ h9 => h9) rfl d_Places_clear_9 ?_
  refine va_alen (v := 32) hx hb hK.1 hP 1 1 rfl rfl rfl d_Places_clear_12 ?_
  refine lv_icmp_ge (tgt := 29) hx hb d_Places_clear_13 (by decide) (fun c_55 => absurd c_55 (by decide +kernel)) (fun c_55 => ?_)
  refine lv_aload_n hx hb d_Places_clear_16 rfl (lv_at hl 1 rfl) ?_
  refine va_get (D := D) (ci := 6) (v := .ref v17) (C := R_Places) (T := F_Places) (N := 8) hx hb hts i_Places hown hK.1 hP 0 rfl rfl 7 (by decide) (hts _ k_63) (fun _ h9 => h9) rfl d_Places_clear_17 ?_
  refine lv_iload_n hx hb d_Places_clear_20 rfl (lv_at hl 0 rfl) ?_
  refine lv_iconst (v := 0) hx hb d_Places_clear_21 (by decide +kernel) ?_
  refine nz_iastZ hx hb hK.1 hP hD hS 1 1 rfl rfl (nz_vin (by decide +kernel)) d_Places_clear_22 (fun H locs f_56 f_56_e hP hD hS => ?_)
  have f_56_z : f_56 = (fun _ => 0) := f_56_e
  subst f_56_z
  have hP : va_P D nz_cl [(v1, .inr (6, [.int 0, .ref v11, .ref v12, .ref v13, .ref v14, .ref v15, .ref v16, .ref v17])), (v17, .inl (cI, 32, .inl (fun _ => 0)))] H := hP
  have hD : va_D A [(v1, .inr (6, [.int 0, .ref v11, .ref v12, .ref v13, .ref v14, .ref v15, .ref v16, .ref v17])), (v17, .inl (cI, 32, .inl (fun _ => 0)))] := hD
  refine lv_iinc (v := 28) (lv' := [(1, .int 28), (0, .ref v1)]) hx hb d_Places_clear_23 hl (k := 0) rfl (by decide +kernel) (by decide) rfl (fun ls hl => ?_)
  refine lv_goto (tgt := 7) hx hb d_Places_clear_26 (by decide) ?_
  refine lv_iload_n hx hb d_Places_clear_7 rfl (lv_at hl 0 rfl) ?_
  refine lv_aload_n hx hb d_Places_clear_8 rfl (lv_at hl 1 rfl) ?_
  refine va_get (D := D) (ci := 6) (v := .ref v17) (C := R_Places) (T := F_Places) (N := 8) hx hb hts i_Places hown hK.1 hP 0 rfl rfl 7 (by decide) (hts _ k_63) (fun _ h9 => h9) rfl d_Places_clear_9 ?_
  refine va_alen (v := 32) hx hb hK.1 hP 1 1 rfl rfl rfl d_Places_clear_12 ?_
  refine lv_icmp_ge (tgt := 29) hx hb d_Places_clear_13 (by decide) (fun c_57 => absurd c_57 (by decide +kernel)) (fun c_57 => ?_)
  refine lv_aload_n hx hb d_Places_clear_16 rfl (lv_at hl 1 rfl) ?_
  refine va_get (D := D) (ci := 6) (v := .ref v17) (C := R_Places) (T := F_Places) (N := 8) hx hb hts i_Places hown hK.1 hP 0 rfl rfl 7 (by decide) (hts _ k_63) (fun _ h9 => h9) rfl d_Places_clear_17 ?_
  refine lv_iload_n hx hb d_Places_clear_20 rfl (lv_at hl 0 rfl) ?_
  refine lv_iconst (v := 0) hx hb d_Places_clear_21 (by decide +kernel) ?_
  refine nz_iastZ hx hb hK.1 hP hD hS 1 1 rfl rfl (nz_vin (by decide +kernel)) d_Places_clear_22 (fun H locs f_58 f_58_e hP hD hS => ?_)
  have f_58_z : f_58 = (fun _ => 0) := f_58_e
  subst f_58_z
  have hP : va_P D nz_cl [(v1, .inr (6, [.int 0, .ref v11, .ref v12, .ref v13, .ref v14, .ref v15, .ref v16, .ref v17])), (v17, .inl (cI, 32, .inl (fun _ => 0)))] H := hP
  have hD : va_D A [(v1, .inr (6, [.int 0, .ref v11, .ref v12, .ref v13, .ref v14, .ref v15, .ref v16, .ref v17])), (v17, .inl (cI, 32, .inl (fun _ => 0)))] := hD
  refine lv_iinc (v := 29) (lv' := [(1, .int 29), (0, .ref v1)]) hx hb d_Places_clear_23 hl (k := 0) rfl (by decide +kernel) (by decide) rfl (fun ls hl => ?_)
  refine lv_goto (tgt := 7) hx hb d_Places_clear_26 (by decide) ?_
  refine lv_iload_n hx hb d_Places_clear_7 rfl (lv_at hl 0 rfl) ?_
  refine lv_aload_n hx hb d_Places_clear_8 rfl (lv_at hl 1 rfl) ?_
  refine va_get (D := D) (ci := 6) (v := .ref v17) (C := R_Places) (T := F_Places) (N := 8) hx hb hts i_Places hown hK.1 hP 0 rfl rfl 7 (by decide) (hts _ k_63) (fun _ h9 => h9) rfl d_Places_clear_9 ?_
  refine va_alen (v := 32) hx hb hK.1 hP 1 1 rfl rfl rfl d_Places_clear_12 ?_
  refine lv_icmp_ge (tgt := 29) hx hb d_Places_clear_13 (by decide) (fun c_59 => absurd c_59 (by decide +kernel)) (fun c_59 => ?_)
  refine lv_aload_n hx hb d_Places_clear_16 rfl (lv_at hl 1 rfl) ?_
  refine va_get (D := D) (ci := 6) (v := .ref v17) (C := R_Places) (T := F_Places) (N := 8) hx hb hts i_Places hown hK.1 hP 0 rfl rfl 7 (by decide) (hts _ k_63) (fun _ h9 => h9) rfl d_Places_clear_17 ?_
  refine lv_iload_n hx hb d_Places_clear_20 rfl (lv_at hl 0 rfl) ?_
  refine lv_iconst (v := 0) hx hb d_Places_clear_21 (by decide +kernel) ?_
  refine nz_iastZ hx hb hK.1 hP hD hS 1 1 rfl rfl (nz_vin (by decide +kernel)) d_Places_clear_22 (fun H locs f_60 f_60_e hP hD hS => ?_)
  have f_60_z : f_60 = (fun _ => 0) := f_60_e
  subst f_60_z
  have hP : va_P D nz_cl [(v1, .inr (6, [.int 0, .ref v11, .ref v12, .ref v13, .ref v14, .ref v15, .ref v16, .ref v17])), (v17, .inl (cI, 32, .inl (fun _ => 0)))] H := hP
  have hD : va_D A [(v1, .inr (6, [.int 0, .ref v11, .ref v12, .ref v13, .ref v14, .ref v15, .ref v16, .ref v17])), (v17, .inl (cI, 32, .inl (fun _ => 0)))] := hD
  refine lv_iinc (v := 30) (lv' := [(1, .int 30), (0, .ref v1)]) hx hb d_Places_clear_23 hl (k := 0) rfl (by decide +kernel) (by decide) rfl (fun ls hl => ?_)
  refine lv_goto (tgt := 7) hx hb d_Places_clear_26 (by decide) ?_
  refine lv_iload_n hx hb d_Places_clear_7 rfl (lv_at hl 0 rfl) ?_
  refine lv_aload_n hx hb d_Places_clear_8 rfl (lv_at hl 1 rfl) ?_
  refine va_get (D := D) (ci := 6) (v := .ref v17) (C := R_Places) (T := F_Places) (N := 8) hx hb hts i_Places hown hK.1 hP 0 rfl rfl 7 (by decide) (hts _ k_63) (fun _ h9 => h9) rfl d_Places_clear_9 ?_
  refine va_alen (v := 32) hx hb hK.1 hP 1 1 rfl rfl rfl d_Places_clear_12 ?_
  refine lv_icmp_ge (tgt := 29) hx hb d_Places_clear_13 (by decide) (fun c_61 => absurd c_61 (by decide +kernel)) (fun c_61 => ?_)
  refine lv_aload_n hx hb d_Places_clear_16 rfl (lv_at hl 1 rfl) ?_
  refine va_get (D := D) (ci := 6) (v := .ref v17) (C := R_Places) (T := F_Places) (N := 8) hx hb hts i_Places hown hK.1 hP 0 rfl rfl 7 (by decide) (hts _ k_63) (fun _ h9 => h9) rfl d_Places_clear_17 ?_
  refine lv_iload_n hx hb d_Places_clear_20 rfl (lv_at hl 0 rfl) ?_
  refine lv_iconst (v := 0) hx hb d_Places_clear_21 (by decide +kernel) ?_
  refine nz_iastZ hx hb hK.1 hP hD hS 1 1 rfl rfl (nz_vin (by decide +kernel)) d_Places_clear_22 (fun H locs f_62 f_62_e hP hD hS => ?_)
  have f_62_z : f_62 = (fun _ => 0) := f_62_e
  subst f_62_z
  have hP : va_P D nz_cl [(v1, .inr (6, [.int 0, .ref v11, .ref v12, .ref v13, .ref v14, .ref v15, .ref v16, .ref v17])), (v17, .inl (cI, 32, .inl (fun _ => 0)))] H := hP
  have hD : va_D A [(v1, .inr (6, [.int 0, .ref v11, .ref v12, .ref v13, .ref v14, .ref v15, .ref v16, .ref v17])), (v17, .inl (cI, 32, .inl (fun _ => 0)))] := hD
  refine lv_iinc (v := 31) (lv' := [(1, .int 31), (0, .ref v1)]) hx hb d_Places_clear_23 hl (k := 0) rfl (by decide +kernel) (by decide) rfl (fun ls hl => ?_)
  refine lv_goto (tgt := 7) hx hb d_Places_clear_26 (by decide) ?_
  refine lv_iload_n hx hb d_Places_clear_7 rfl (lv_at hl 0 rfl) ?_
  refine lv_aload_n hx hb d_Places_clear_8 rfl (lv_at hl 1 rfl) ?_
  refine va_get (D := D) (ci := 6) (v := .ref v17) (C := R_Places) (T := F_Places) (N := 8) hx hb hts i_Places hown hK.1 hP 0 rfl rfl 7 (by decide) (hts _ k_63) (fun _ h9 => h9) rfl d_Places_clear_9 ?_
  refine va_alen (v := 32) hx hb hK.1 hP 1 1 rfl rfl rfl d_Places_clear_12 ?_
  refine lv_icmp_ge (tgt := 29) hx hb d_Places_clear_13 (by decide) (fun c_63 => absurd c_63 (by decide +kernel)) (fun c_63 => ?_)
  refine lv_aload_n hx hb d_Places_clear_16 rfl (lv_at hl 1 rfl) ?_
  refine va_get (D := D) (ci := 6) (v := .ref v17) (C := R_Places) (T := F_Places) (N := 8) hx hb hts i_Places hown hK.1 hP 0 rfl rfl 7 (by decide) (hts _ k_63) (fun _ h9 => h9) rfl d_Places_clear_17 ?_
  refine lv_iload_n hx hb d_Places_clear_20 rfl (lv_at hl 0 rfl) ?_
  refine lv_iconst (v := 0) hx hb d_Places_clear_21 (by decide +kernel) ?_
  refine nz_iastZ hx hb hK.1 hP hD hS 1 1 rfl rfl (nz_vin (by decide +kernel)) d_Places_clear_22 (fun H locs f_64 f_64_e hP hD hS => ?_)
  have f_64_z : f_64 = (fun _ => 0) := f_64_e
  subst f_64_z
  have hP : va_P D nz_cl [(v1, .inr (6, [.int 0, .ref v11, .ref v12, .ref v13, .ref v14, .ref v15, .ref v16, .ref v17])), (v17, .inl (cI, 32, .inl (fun _ => 0)))] H := hP
  have hD : va_D A [(v1, .inr (6, [.int 0, .ref v11, .ref v12, .ref v13, .ref v14, .ref v15, .ref v16, .ref v17])), (v17, .inl (cI, 32, .inl (fun _ => 0)))] := hD
  refine lv_iinc (v := 32) (lv' := [(1, .int 32), (0, .ref v1)]) hx hb d_Places_clear_23 hl (k := 0) rfl (by decide +kernel) (by decide) rfl (fun ls hl => ?_)
  refine lv_goto (tgt := 7) hx hb d_Places_clear_26 (by decide) ?_
  refine lv_iload_n hx hb d_Places_clear_7 rfl (lv_at hl 0 rfl) ?_
  refine lv_aload_n hx hb d_Places_clear_8 rfl (lv_at hl 1 rfl) ?_
  refine va_get (D := D) (ci := 6) (v := .ref v17) (C := R_Places) (T := F_Places) (N := 8) hx hb hts i_Places hown hK.1 hP 0 rfl rfl 7 (by decide) (hts _ k_63) (fun _ h9 => h9) rfl d_Places_clear_9 ?_
  refine va_alen (v := 32) hx hb hK.1 hP 1 1 rfl rfl rfl d_Places_clear_12 ?_
  refine lv_icmp_ge (tgt := 29) hx hb d_Places_clear_13 (by decide) (fun c_65 => ?_) (fun c_65 => absurd (by decide +kernel) c_65)
  exact nz_retv C0 (hP.sub (ws' := [(v1, .inr (6, [.int 0, .ref v11, .ref v12, .ref v13, .ref v14, .ref v15, .ref v16, .ref v17])), (v17, .inl (cI, 32, .inl (fun _ => 0)))]) [0, 1] rfl) (hD.sub (ws' := [(v1, .inr (6, [.int 0, .ref v11, .ref v12, .ref v13, .ref v14, .ref v15, .ref v16, .ref v17])), (v17, .inl (cI, 32, .inl (fun _ => 0)))]) [0, 1] (by decide) rfl) hS rfl d_Places_clear_29
set_option maxHeartbeats 4000000 in
set_option maxRecDepth 100000 in
theorem c_Meanings_clear (l : Launch) (D : va_G) (cB cI cJ : ClassId) (v2 : Nat) (v21 : Nat) (v22 : Nat) (v23 : Nat) (v24 : Nat) : nz_Cv l D cB cI cJ nz_x0 y_Meanings_clear b_Meanings_clear 1 none { frames := 0, cells := 0, slots := 0, locals := 0 } [.ref v2] [(v2, .inr (4, [.int 0, .ref v21, .int 0, .ref v22, .ref v23, .ref v24]))] (fun w => w = [(v2, .inr (4, [.int 0, .ref v21, .int 0, .ref v22, .ref v23, .ref v24]))]) := by
  refine nz_Cv.mk (by decide) (Nat.le_of_ble_eq_true rfl) ?_
  intro p e s m below meth c A ls C0 hnm hP hD hS hA hX hl
  have C0 : nz_Cx p s m _ meth c b_Meanings_clear 1 none R_Meanings D cB cI cJ := C0
  obtain ⟨hx, hb, hr, hml, hown, hts, hlk, hK⟩ := id C0
  have hl : lv_has ls 1 [(0, .ref v2)] := hl
  refine lv_aload_n hx hb d_Meanings_clear_0 rfl (lv_at hl 0 rfl) ?_
  refine lv_iconst (v := 0) hx hb d_Meanings_clear_1 (by decide +kernel) ?_
  refine va_put (D := D) (ci := 4) (v := .int 0) (ty := .int) (C := R_Meanings) (T := F_Meanings) (N := 6) hx hb hts i_Meanings t_Meanings t_Meanings_ok n_Meanings hown hK.1 hP hD hS 0 rfl rfl 0 (by decide) (hts _ k_90) (fun _ h9 => h9) rfl (by decide +kernel) rfl rfl (Nat.le_of_ble_eq_true rfl) d_Meanings_clear_2 (fun H locs hP hD hS => ?_)
  have hP : va_P D nz_cl [(v2, .inr (4, [.int 0, .ref v21, .int 0, .ref v22, .ref v23, .ref v24]))] H := hP
  have hD : va_D A [(v2, .inr (4, [.int 0, .ref v21, .int 0, .ref v22, .ref v23, .ref v24]))] := hD
  refine lv_aload_n hx hb d_Meanings_clear_5 rfl (lv_at hl 0 rfl) ?_
  refine lv_iconst (v := 0) hx hb d_Meanings_clear_6 (by decide +kernel) ?_
  refine va_put (D := D) (ci := 4) (v := .int 0) (ty := .int) (C := R_Meanings) (T := F_Meanings) (N := 6) hx hb hts i_Meanings t_Meanings t_Meanings_ok n_Meanings hown hK.1 hP hD hS 0 rfl rfl 2 (by decide) (hts _ k_97) (fun _ h9 => h9) rfl (by decide +kernel) rfl rfl (Nat.le_of_ble_eq_true rfl) d_Meanings_clear_7 (fun H locs hP hD hS => ?_)
  have hP : va_P D nz_cl [(v2, .inr (4, [.int 0, .ref v21, .int 0, .ref v22, .ref v23, .ref v24]))] H := hP
  have hD : va_D A [(v2, .inr (4, [.int 0, .ref v21, .int 0, .ref v22, .ref v23, .ref v24]))] := hD
  exact nz_retv C0 (hP.sub (ws' := [(v2, .inr (4, [.int 0, .ref v21, .int 0, .ref v22, .ref v23, .ref v24]))]) [0] rfl) (hD.sub (ws' := [(v2, .inr (4, [.int 0, .ref v21, .int 0, .ref v22, .ref v23, .ref v24]))]) [0] (by decide) rfl) hS rfl d_Meanings_clear_10
set_option maxHeartbeats 4000000 in
set_option maxRecDepth 100000 in
theorem c_Words_clear (l : Launch) (D : va_G) (cB cI cJ : ClassId) (v3 : Nat) (v31 : Nat) (v32 : Nat) : nz_Cv l D cB cI cJ nz_x0 y_Words_clear b_Words_clear 1 none { frames := 0, cells := 0, slots := 0, locals := 0 } [.ref v3] [(v3, .inr (10, [.int 0, .ref v31, .ref v32]))] (fun w => w = [(v3, .inr (10, [.int 0, .ref v31, .ref v32]))]) := by
  refine nz_Cv.mk (by decide) (Nat.le_of_ble_eq_true rfl) ?_
  intro p e s m below meth c A ls C0 hnm hP hD hS hA hX hl
  have C0 : nz_Cx p s m _ meth c b_Words_clear 1 none R_Words D cB cI cJ := C0
  obtain ⟨hx, hb, hr, hml, hown, hts, hlk, hK⟩ := id C0
  have hl : lv_has ls 1 [(0, .ref v3)] := hl
  refine lv_aload_n hx hb d_Words_clear_0 rfl (lv_at hl 0 rfl) ?_
  refine lv_iconst (v := 0) hx hb d_Words_clear_1 (by decide +kernel) ?_
  refine va_put (D := D) (ci := 10) (v := .int 0) (ty := .int) (C := R_Words) (T := F_Words) (N := 3) hx hb hts i_Words t_Words t_Words_ok n_Words hown hK.1 hP hD hS 0 rfl rfl 0 (by decide) (hts _ k_129) (fun _ h9 => h9) rfl (by decide +kernel) rfl rfl (Nat.le_of_ble_eq_true rfl) d_Words_clear_2 (fun H locs hP hD hS => ?_)
  have hP : va_P D nz_cl [(v3, .inr (10, [.int 0, .ref v31, .ref v32]))] H := hP
  have hD : va_D A [(v3, .inr (10, [.int 0, .ref v31, .ref v32]))] := hD
  exact nz_retv C0 (hP.sub (ws' := [(v3, .inr (10, [.int 0, .ref v31, .ref v32]))]) [0] rfl) (hD.sub (ws' := [(v3, .inr (10, [.int 0, .ref v31, .ref v32]))]) [0] (by decide) rfl) hS rfl d_Words_clear_5
set_option maxHeartbeats 4000000 in
set_option maxRecDepth 100000 in
theorem c_Persons_clear (l : Launch) (D : va_G) (cB cI cJ : ClassId) (v4 : Nat) (v41 : Nat) (v42 : Nat) (v43 : Nat) (v44 : Nat) (v45 : Nat) (v46 : Nat) (v47 : Nat) (v48 : Nat) (v49 : Nat) : nz_Cv l D cB cI cJ nz_x0 y_Persons_clear b_Persons_clear 2 none { frames := 0, cells := 0, slots := 0, locals := 0 } [.ref v4] [(v4, .inr (5, [.int 0, .int 0, .ref v41, .ref v42, .ref v43, .ref v44, .ref v45, .ref v46, .ref v47, .ref v48, .ref v49])), (v47, .inl (cI, 12, .inl (fun _ => 0)))] (fun w => w = [(v4, .inr (5, [.int 0, .int 0, .ref v41, .ref v42, .ref v43, .ref v44, .ref v45, .ref v46, .ref v47, .ref v48, .ref v49])), (v47, .inl (cI, 12, .inl (fun _ => 0)))]) := by
  refine nz_Cv.mk (by decide) (Nat.le_of_ble_eq_true rfl) ?_
  intro p e s m below meth c A ls C0 hnm hP hD hS hA hX hl
  have C0 : nz_Cx p s m _ meth c b_Persons_clear 2 none R_Persons D cB cI cJ := C0
  obtain ⟨hx, hb, hr, hml, hown, hts, hlk, hK⟩ := id C0
  have hl : lv_has ls 2 [(0, .ref v4)] := hl
  refine lv_aload_n hx hb d_Persons_clear_0 rfl (lv_at hl 0 rfl) ?_
  refine lv_iconst (v := 0) hx hb d_Persons_clear_1 (by decide +kernel) ?_
  refine va_put (D := D) (ci := 5) (v := .int 0) (ty := .int) (C := R_Persons) (T := F_Persons) (N := 11) hx hb hts i_Persons t_Persons t_Persons_ok n_Persons hown hK.1 hP hD hS 0 rfl rfl 0 (by decide) (hts _ k_152) (fun _ h9 => h9) rfl (by decide +kernel) rfl rfl (Nat.le_of_ble_eq_true rfl) d_Persons_clear_2 (fun H locs hP hD hS => ?_)
  have hP : va_P D nz_cl [(v4, .inr (5, [.int 0, .int 0, .ref v41, .ref v42, .ref v43, .ref v44, .ref v45, .ref v46, .ref v47, .ref v48, .ref v49])), (v47, .inl (cI, 12, .inl (fun _ => 0)))] H := hP
  have hD : va_D A [(v4, .inr (5, [.int 0, .int 0, .ref v41, .ref v42, .ref v43, .ref v44, .ref v45, .ref v46, .ref v47, .ref v48, .ref v49])), (v47, .inl (cI, 12, .inl (fun _ => 0)))] := hD
  refine lv_aload_n hx hb d_Persons_clear_5 rfl (lv_at hl 0 rfl) ?_
  refine lv_iconst (v := 0) hx hb d_Persons_clear_6 (by decide +kernel) ?_
  refine va_put (D := D) (ci := 5) (v := .int 0) (ty := .int) (C := R_Persons) (T := F_Persons) (N := 11) hx hb hts i_Persons t_Persons t_Persons_ok n_Persons hown hK.1 hP hD hS 0 rfl rfl 1 (by decide) (hts _ k_159) (fun _ h9 => h9) rfl (by decide +kernel) rfl rfl (Nat.le_of_ble_eq_true rfl) d_Persons_clear_7 (fun H locs hP hD hS => ?_)
  have hP : va_P D nz_cl [(v4, .inr (5, [.int 0, .int 0, .ref v41, .ref v42, .ref v43, .ref v44, .ref v45, .ref v46, .ref v47, .ref v48, .ref v49])), (v47, .inl (cI, 12, .inl (fun _ => 0)))] H := hP
  have hD : va_D A [(v4, .inr (5, [.int 0, .int 0, .ref v41, .ref v42, .ref v43, .ref v44, .ref v45, .ref v46, .ref v47, .ref v48, .ref v49])), (v47, .inl (cI, 12, .inl (fun _ => 0)))] := hD
  refine lv_iconst (v := 0) hx hb d_Persons_clear_10 (by decide +kernel) ?_
  refine lv_istore_n (lv' := [(1, .int 0), (0, .ref v4)]) hx hb d_Persons_clear_11 rfl hl (by decide) rfl (fun ls hl => ?_)
  refine lv_iload_n hx hb d_Persons_clear_12 rfl (lv_at hl 0 rfl) ?_
  refine lv_bipush (v := 12) hx hb d_Persons_clear_13 (by decide +kernel) ?_
  refine lv_icmp_ge (tgt := 31) hx hb d_Persons_clear_15 (by decide) (fun c_1 => absurd c_1 (by decide +kernel)) (fun c_1 => ?_)
  refine lv_aload_n hx hb d_Persons_clear_18 rfl (lv_at hl 1 rfl) ?_
  refine va_get (D := D) (ci := 5) (v := .ref v47) (C := R_Persons) (T := F_Persons) (N := 11) hx hb hts i_Persons hown hK.1 hP 0 rfl rfl 8 (by decide) (hts _ k_183) (fun _ h9 => h9) rfl d_Persons_clear_19 ?_
  refine lv_iload_n hx hb d_Persons_clear_22 rfl (lv_at hl 0 rfl) ?_
  refine lv_iconst (v := 0) hx hb d_Persons_clear_23 (by decide +kernel) ?_
  refine nz_iastZ hx hb hK.1 hP hD hS 1 1 rfl rfl (nz_vin (by decide +kernel)) d_Persons_clear_24 (fun H locs f_2 f_2_e hP hD hS => ?_)
  have f_2_z : f_2 = (fun _ => 0) := f_2_e
  subst f_2_z
  have hP : va_P D nz_cl [(v4, .inr (5, [.int 0, .int 0, .ref v41, .ref v42, .ref v43, .ref v44, .ref v45, .ref v46, .ref v47, .ref v48, .ref v49])), (v47, .inl (cI, 12, .inl (fun _ => 0)))] H := hP
  have hD : va_D A [(v4, .inr (5, [.int 0, .int 0, .ref v41, .ref v42, .ref v43, .ref v44, .ref v45, .ref v46, .ref v47, .ref v48, .ref v49])), (v47, .inl (cI, 12, .inl (fun _ => 0)))] := hD
  refine lv_iinc (v := 1) (lv' := [(1, .int 1), (0, .ref v4)]) hx hb d_Persons_clear_25 hl (k := 0) rfl (by decide +kernel) (by decide) rfl (fun ls hl => ?_)
  refine lv_goto (tgt := 12) hx hb d_Persons_clear_28 (by decide) ?_
  refine lv_iload_n hx hb d_Persons_clear_12 rfl (lv_at hl 0 rfl) ?_
  refine lv_bipush (v := 12) hx hb d_Persons_clear_13 (by decide +kernel) ?_
  refine lv_icmp_ge (tgt := 31) hx hb d_Persons_clear_15 (by decide) (fun c_3 => absurd c_3 (by decide +kernel)) (fun c_3 => ?_)
  refine lv_aload_n hx hb d_Persons_clear_18 rfl (lv_at hl 1 rfl) ?_
  refine va_get (D := D) (ci := 5) (v := .ref v47) (C := R_Persons) (T := F_Persons) (N := 11) hx hb hts i_Persons hown hK.1 hP 0 rfl rfl 8 (by decide) (hts _ k_183) (fun _ h9 => h9) rfl d_Persons_clear_19 ?_
  refine lv_iload_n hx hb d_Persons_clear_22 rfl (lv_at hl 0 rfl) ?_
  refine lv_iconst (v := 0) hx hb d_Persons_clear_23 (by decide +kernel) ?_
  refine nz_iastZ hx hb hK.1 hP hD hS 1 1 rfl rfl (nz_vin (by decide +kernel)) d_Persons_clear_24 (fun H locs f_4 f_4_e hP hD hS => ?_)
  have f_4_z : f_4 = (fun _ => 0) := f_4_e
  subst f_4_z
  have hP : va_P D nz_cl [(v4, .inr (5, [.int 0, .int 0, .ref v41, .ref v42, .ref v43, .ref v44, .ref v45, .ref v46, .ref v47, .ref v48, .ref v49])), (v47, .inl (cI, 12, .inl (fun _ => 0)))] H := hP
  have hD : va_D A [(v4, .inr (5, [.int 0, .int 0, .ref v41, .ref v42, .ref v43, .ref v44, .ref v45, .ref v46, .ref v47, .ref v48, .ref v49])), (v47, .inl (cI, 12, .inl (fun _ => 0)))] := hD
  refine lv_iinc (v := 2) (lv' := [(1, .int 2), (0, .ref v4)]) hx hb d_Persons_clear_25 hl (k := 0) rfl (by decide +kernel) (by decide) rfl (fun ls hl => ?_)
  refine lv_goto (tgt := 12) hx hb d_Persons_clear_28 (by decide) ?_
  refine lv_iload_n hx hb d_Persons_clear_12 rfl (lv_at hl 0 rfl) ?_
  refine lv_bipush (v := 12) hx hb d_Persons_clear_13 (by decide +kernel) ?_
  refine lv_icmp_ge (tgt := 31) hx hb d_Persons_clear_15 (by decide) (fun c_5 => absurd c_5 (by decide +kernel)) (fun c_5 => ?_)
  refine lv_aload_n hx hb d_Persons_clear_18 rfl (lv_at hl 1 rfl) ?_
  refine va_get (D := D) (ci := 5) (v := .ref v47) (C := R_Persons) (T := F_Persons) (N := 11) hx hb hts i_Persons hown hK.1 hP 0 rfl rfl 8 (by decide) (hts _ k_183) (fun _ h9 => h9) rfl d_Persons_clear_19 ?_
  refine lv_iload_n hx hb d_Persons_clear_22 rfl (lv_at hl 0 rfl) ?_
  refine lv_iconst (v := 0) hx hb d_Persons_clear_23 (by decide +kernel) ?_
  refine nz_iastZ hx hb hK.1 hP hD hS 1 1 rfl rfl (nz_vin (by decide +kernel)) d_Persons_clear_24 (fun H locs f_6 f_6_e hP hD hS => ?_)
  have f_6_z : f_6 = (fun _ => 0) := f_6_e
  subst f_6_z
  have hP : va_P D nz_cl [(v4, .inr (5, [.int 0, .int 0, .ref v41, .ref v42, .ref v43, .ref v44, .ref v45, .ref v46, .ref v47, .ref v48, .ref v49])), (v47, .inl (cI, 12, .inl (fun _ => 0)))] H := hP
  have hD : va_D A [(v4, .inr (5, [.int 0, .int 0, .ref v41, .ref v42, .ref v43, .ref v44, .ref v45, .ref v46, .ref v47, .ref v48, .ref v49])), (v47, .inl (cI, 12, .inl (fun _ => 0)))] := hD
  refine lv_iinc (v := 3) (lv' := [(1, .int 3), (0, .ref v4)]) hx hb d_Persons_clear_25 hl (k := 0) rfl (by decide +kernel) (by decide) rfl (fun ls hl => ?_)
  refine lv_goto (tgt := 12) hx hb d_Persons_clear_28 (by decide) ?_
  refine lv_iload_n hx hb d_Persons_clear_12 rfl (lv_at hl 0 rfl) ?_
  refine lv_bipush (v := 12) hx hb d_Persons_clear_13 (by decide +kernel) ?_
  refine lv_icmp_ge (tgt := 31) hx hb d_Persons_clear_15 (by decide) (fun c_7 => absurd c_7 (by decide +kernel)) (fun c_7 => ?_)
  refine lv_aload_n hx hb d_Persons_clear_18 rfl (lv_at hl 1 rfl) ?_
  refine va_get (D := D) (ci := 5) (v := .ref v47) (C := R_Persons) (T := F_Persons) (N := 11) hx hb hts i_Persons hown hK.1 hP 0 rfl rfl 8 (by decide) (hts _ k_183) (fun _ h9 => h9) rfl d_Persons_clear_19 ?_
  refine lv_iload_n hx hb d_Persons_clear_22 rfl (lv_at hl 0 rfl) ?_
  refine lv_iconst (v := 0) hx hb d_Persons_clear_23 (by decide +kernel) ?_
  refine nz_iastZ hx hb hK.1 hP hD hS 1 1 rfl rfl (nz_vin (by decide +kernel)) d_Persons_clear_24 (fun H locs f_8 f_8_e hP hD hS => ?_)
  have f_8_z : f_8 = (fun _ => 0) := f_8_e
  subst f_8_z
  have hP : va_P D nz_cl [(v4, .inr (5, [.int 0, .int 0, .ref v41, .ref v42, .ref v43, .ref v44, .ref v45, .ref v46, .ref v47, .ref v48, .ref v49])), (v47, .inl (cI, 12, .inl (fun _ => 0)))] H := hP
  have hD : va_D A [(v4, .inr (5, [.int 0, .int 0, .ref v41, .ref v42, .ref v43, .ref v44, .ref v45, .ref v46, .ref v47, .ref v48, .ref v49])), (v47, .inl (cI, 12, .inl (fun _ => 0)))] := hD
  refine lv_iinc (v := 4) (lv' := [(1, .int 4), (0, .ref v4)]) hx hb d_Persons_clear_25 hl (k := 0) rfl (by decide +kernel) (by decide) rfl (fun ls hl => ?_)
  refine lv_goto (tgt := 12) hx hb d_Persons_clear_28 (by decide) ?_
  refine lv_iload_n hx hb d_Persons_clear_12 rfl (lv_at hl 0 rfl) ?_
  refine lv_bipush (v := 12) hx hb d_Persons_clear_13 (by decide +kernel) ?_
  refine lv_icmp_ge (tgt := 31) hx hb d_Persons_clear_15 (by decide) (fun c_9 => absurd c_9 (by decide +kernel)) (fun c_9 => ?_)
  refine lv_aload_n hx hb d_Persons_clear_18 rfl (lv_at hl 1 rfl) ?_
  refine va_get (D := D) (ci := 5) (v := .ref v47) (C := R_Persons) (T := F_Persons) (N := 11) hx hb hts i_Persons hown hK.1 hP 0 rfl rfl 8 (by decide) (hts _ k_183) (fun _ h9 => h9) rfl d_Persons_clear_19 ?_
  refine lv_iload_n hx hb d_Persons_clear_22 rfl (lv_at hl 0 rfl) ?_
  refine lv_iconst (v := 0) hx hb d_Persons_clear_23 (by decide +kernel) ?_
  refine nz_iastZ hx hb hK.1 hP hD hS 1 1 rfl rfl (nz_vin (by decide +kernel)) d_Persons_clear_24 (fun H locs f_10 f_10_e hP hD hS => ?_)
  have f_10_z : f_10 = (fun _ => 0) := f_10_e
  subst f_10_z
  have hP : va_P D nz_cl [(v4, .inr (5, [.int 0, .int 0, .ref v41, .ref v42, .ref v43, .ref v44, .ref v45, .ref v46, .ref v47, .ref v48, .ref v49])), (v47, .inl (cI, 12, .inl (fun _ => 0)))] H := hP
  have hD : va_D A [(v4, .inr (5, [.int 0, .int 0, .ref v41, .ref v42, .ref v43, .ref v44, .ref v45, .ref v46, .ref v47, .ref v48, .ref v49])), (v47, .inl (cI, 12, .inl (fun _ => 0)))] := hD
  refine lv_iinc (v := 5) (lv' := [(1, .int 5), (0, .ref v4)]) hx hb d_Persons_clear_25 hl (k := 0) rfl (by decide +kernel) (by decide) rfl (fun ls hl => ?_)
  refine lv_goto (tgt := 12) hx hb d_Persons_clear_28 (by decide) ?_
  refine lv_iload_n hx hb d_Persons_clear_12 rfl (lv_at hl 0 rfl) ?_
  refine lv_bipush (v := 12) hx hb d_Persons_clear_13 (by decide +kernel) ?_
  refine lv_icmp_ge (tgt := 31) hx hb d_Persons_clear_15 (by decide) (fun c_11 => absurd c_11 (by decide +kernel)) (fun c_11 => ?_)
  refine lv_aload_n hx hb d_Persons_clear_18 rfl (lv_at hl 1 rfl) ?_
  refine va_get (D := D) (ci := 5) (v := .ref v47) (C := R_Persons) (T := F_Persons) (N := 11) hx hb hts i_Persons hown hK.1 hP 0 rfl rfl 8 (by decide) (hts _ k_183) (fun _ h9 => h9) rfl d_Persons_clear_19 ?_
  refine lv_iload_n hx hb d_Persons_clear_22 rfl (lv_at hl 0 rfl) ?_
  refine lv_iconst (v := 0) hx hb d_Persons_clear_23 (by decide +kernel) ?_
  refine nz_iastZ hx hb hK.1 hP hD hS 1 1 rfl rfl (nz_vin (by decide +kernel)) d_Persons_clear_24 (fun H locs f_12 f_12_e hP hD hS => ?_)
  have f_12_z : f_12 = (fun _ => 0) := f_12_e
  subst f_12_z
  have hP : va_P D nz_cl [(v4, .inr (5, [.int 0, .int 0, .ref v41, .ref v42, .ref v43, .ref v44, .ref v45, .ref v46, .ref v47, .ref v48, .ref v49])), (v47, .inl (cI, 12, .inl (fun _ => 0)))] H := hP
  have hD : va_D A [(v4, .inr (5, [.int 0, .int 0, .ref v41, .ref v42, .ref v43, .ref v44, .ref v45, .ref v46, .ref v47, .ref v48, .ref v49])), (v47, .inl (cI, 12, .inl (fun _ => 0)))] := hD
  refine lv_iinc (v := 6) (lv' := [(1, .int 6), (0, .ref v4)]) hx hb d_Persons_clear_25 hl (k := 0) rfl (by decide +kernel) (by decide) rfl (fun ls hl => ?_)
  refine lv_goto (tgt := 12) hx hb d_Persons_clear_28 (by decide) ?_
  refine lv_iload_n hx hb d_Persons_clear_12 rfl (lv_at hl 0 rfl) ?_
  refine lv_bipush (v := 12) hx hb d_Persons_clear_13 (by decide +kernel) ?_
  refine lv_icmp_ge (tgt := 31) hx hb d_Persons_clear_15 (by decide) (fun c_13 => absurd c_13 (by decide +kernel)) (fun c_13 => ?_)
  refine lv_aload_n hx hb d_Persons_clear_18 rfl (lv_at hl 1 rfl) ?_
  refine va_get (D := D) (ci := 5) (v := .ref v47) (C := R_Persons) (T := F_Persons) (N := 11) hx hb hts i_Persons hown hK.1 hP 0 rfl rfl 8 (by decide) (hts _ k_183) (fun _ h9 => h9) rfl d_Persons_clear_19 ?_
  refine lv_iload_n hx hb d_Persons_clear_22 rfl (lv_at hl 0 rfl) ?_
  refine lv_iconst (v := 0) hx hb d_Persons_clear_23 (by decide +kernel) ?_
  refine nz_iastZ hx hb hK.1 hP hD hS 1 1 rfl rfl (nz_vin (by decide +kernel)) d_Persons_clear_24 (fun H locs f_14 f_14_e hP hD hS => ?_)
  have f_14_z : f_14 = (fun _ => 0) := f_14_e
  subst f_14_z
  have hP : va_P D nz_cl [(v4, .inr (5, [.int 0, .int 0, .ref v41, .ref v42, .ref v43, .ref v44, .ref v45, .ref v46, .ref v47, .ref v48, .ref v49])), (v47, .inl (cI, 12, .inl (fun _ => 0)))] H := hP
  have hD : va_D A [(v4, .inr (5, [.int 0, .int 0, .ref v41, .ref v42, .ref v43, .ref v44, .ref v45, .ref v46, .ref v47, .ref v48, .ref v49])), (v47, .inl (cI, 12, .inl (fun _ => 0)))] := hD
  refine lv_iinc (v := 7) (lv' := [(1, .int 7), (0, .ref v4)]) hx hb d_Persons_clear_25 hl (k := 0) rfl (by decide +kernel) (by decide) rfl (fun ls hl => ?_)
  refine lv_goto (tgt := 12) hx hb d_Persons_clear_28 (by decide) ?_
  refine lv_iload_n hx hb d_Persons_clear_12 rfl (lv_at hl 0 rfl) ?_
  refine lv_bipush (v := 12) hx hb d_Persons_clear_13 (by decide +kernel) ?_
  refine lv_icmp_ge (tgt := 31) hx hb d_Persons_clear_15 (by decide) (fun c_15 => absurd c_15 (by decide +kernel)) (fun c_15 => ?_)
  refine lv_aload_n hx hb d_Persons_clear_18 rfl (lv_at hl 1 rfl) ?_
  refine va_get (D := D) (ci := 5) (v := .ref v47) (C := R_Persons) (T := F_Persons) (N := 11) hx hb hts i_Persons hown hK.1 hP 0 rfl rfl 8 (by decide) (hts _ k_183) (fun _ h9 => h9) rfl d_Persons_clear_19 ?_
  refine lv_iload_n hx hb d_Persons_clear_22 rfl (lv_at hl 0 rfl) ?_
  refine lv_iconst (v := 0) hx hb d_Persons_clear_23 (by decide +kernel) ?_
  refine nz_iastZ hx hb hK.1 hP hD hS 1 1 rfl rfl (nz_vin (by decide +kernel)) d_Persons_clear_24 (fun H locs f_16 f_16_e hP hD hS => ?_)
  have f_16_z : f_16 = (fun _ => 0) := f_16_e
  subst f_16_z
  have hP : va_P D nz_cl [(v4, .inr (5, [.int 0, .int 0, .ref v41, .ref v42, .ref v43, .ref v44, .ref v45, .ref v46, .ref v47, .ref v48, .ref v49])), (v47, .inl (cI, 12, .inl (fun _ => 0)))] H := hP
  have hD : va_D A [(v4, .inr (5, [.int 0, .int 0, .ref v41, .ref v42, .ref v43, .ref v44, .ref v45, .ref v46, .ref v47, .ref v48, .ref v49])), (v47, .inl (cI, 12, .inl (fun _ => 0)))] := hD
  refine lv_iinc (v := 8) (lv' := [(1, .int 8), (0, .ref v4)]) hx hb d_Persons_clear_25 hl (k := 0) rfl (by decide +kernel) (by decide) rfl (fun ls hl => ?_)
  refine lv_goto (tgt := 12) hx hb d_Persons_clear_28 (by decide) ?_
  refine lv_iload_n hx hb d_Persons_clear_12 rfl (lv_at hl 0 rfl) ?_
  refine lv_bipush (v := 12) hx hb d_Persons_clear_13 (by decide +kernel) ?_
  refine lv_icmp_ge (tgt := 31) hx hb d_Persons_clear_15 (by decide) (fun c_17 => absurd c_17 (by decide +kernel)) (fun c_17 => ?_)
  refine lv_aload_n hx hb d_Persons_clear_18 rfl (lv_at hl 1 rfl) ?_
  refine va_get (D := D) (ci := 5) (v := .ref v47) (C := R_Persons) (T := F_Persons) (N := 11) hx hb hts i_Persons hown hK.1 hP 0 rfl rfl 8 (by decide) (hts _ k_183) (fun _ h9 => h9) rfl d_Persons_clear_19 ?_
  refine lv_iload_n hx hb d_Persons_clear_22 rfl (lv_at hl 0 rfl) ?_
  refine lv_iconst (v := 0) hx hb d_Persons_clear_23 (by decide +kernel) ?_
  refine nz_iastZ hx hb hK.1 hP hD hS 1 1 rfl rfl (nz_vin (by decide +kernel)) d_Persons_clear_24 (fun H locs f_18 f_18_e hP hD hS => ?_)
  have f_18_z : f_18 = (fun _ => 0) := f_18_e
  subst f_18_z
  have hP : va_P D nz_cl [(v4, .inr (5, [.int 0, .int 0, .ref v41, .ref v42, .ref v43, .ref v44, .ref v45, .ref v46, .ref v47, .ref v48, .ref v49])), (v47, .inl (cI, 12, .inl (fun _ => 0)))] H := hP
  have hD : va_D A [(v4, .inr (5, [.int 0, .int 0, .ref v41, .ref v42, .ref v43, .ref v44, .ref v45, .ref v46, .ref v47, .ref v48, .ref v49])), (v47, .inl (cI, 12, .inl (fun _ => 0)))] := hD
  refine lv_iinc (v := 9) (lv' := [(1, .int 9), (0, .ref v4)]) hx hb d_Persons_clear_25 hl (k := 0) rfl (by decide +kernel) (by decide) rfl (fun ls hl => ?_)
  refine lv_goto (tgt := 12) hx hb d_Persons_clear_28 (by decide) ?_
  refine lv_iload_n hx hb d_Persons_clear_12 rfl (lv_at hl 0 rfl) ?_
  refine lv_bipush (v := 12) hx hb d_Persons_clear_13 (by decide +kernel) ?_
  refine lv_icmp_ge (tgt := 31) hx hb d_Persons_clear_15 (by decide) (fun c_19 => absurd c_19 (by decide +kernel)) (fun c_19 => ?_)
  refine lv_aload_n hx hb d_Persons_clear_18 rfl (lv_at hl 1 rfl) ?_
  refine va_get (D := D) (ci := 5) (v := .ref v47) (C := R_Persons) (T := F_Persons) (N := 11) hx hb hts i_Persons hown hK.1 hP 0 rfl rfl 8 (by decide) (hts _ k_183) (fun _ h9 => h9) rfl d_Persons_clear_19 ?_
  refine lv_iload_n hx hb d_Persons_clear_22 rfl (lv_at hl 0 rfl) ?_
  refine lv_iconst (v := 0) hx hb d_Persons_clear_23 (by decide +kernel) ?_
  refine nz_iastZ hx hb hK.1 hP hD hS 1 1 rfl rfl (nz_vin (by decide +kernel)) d_Persons_clear_24 (fun H locs f_20 f_20_e hP hD hS => ?_)
  have f_20_z : f_20 = (fun _ => 0) := f_20_e
  subst f_20_z
  have hP : va_P D nz_cl [(v4, .inr (5, [.int 0, .int 0, .ref v41, .ref v42, .ref v43, .ref v44, .ref v45, .ref v46, .ref v47, .ref v48, .ref v49])), (v47, .inl (cI, 12, .inl (fun _ => 0)))] H := hP
  have hD : va_D A [(v4, .inr (5, [.int 0, .int 0, .ref v41, .ref v42, .ref v43, .ref v44, .ref v45, .ref v46, .ref v47, .ref v48, .ref v49])), (v47, .inl (cI, 12, .inl (fun _ => 0)))] := hD
  refine lv_iinc (v := 10) (lv' := [(1, .int 10), (0, .ref v4)]) hx hb d_Persons_clear_25 hl (k := 0) rfl (by decide +kernel) (by decide) rfl (fun ls hl => ?_)
  refine lv_goto (tgt := 12) hx hb d_Persons_clear_28 (by decide) ?_
  refine lv_iload_n hx hb d_Persons_clear_12 rfl (lv_at hl 0 rfl) ?_
  refine lv_bipush (v := 12) hx hb d_Persons_clear_13 (by decide +kernel) ?_
  refine lv_icmp_ge (tgt := 31) hx hb d_Persons_clear_15 (by decide) (fun c_21 => absurd c_21 (by decide +kernel)) (fun c_21 => ?_)
  refine lv_aload_n hx hb d_Persons_clear_18 rfl (lv_at hl 1 rfl) ?_
  refine va_get (D := D) (ci := 5) (v := .ref v47) (C := R_Persons) (T := F_Persons) (N := 11) hx hb hts i_Persons hown hK.1 hP 0 rfl rfl 8 (by decide) (hts _ k_183) (fun _ h9 => h9) rfl d_Persons_clear_19 ?_
  refine lv_iload_n hx hb d_Persons_clear_22 rfl (lv_at hl 0 rfl) ?_
  refine lv_iconst (v := 0) hx hb d_Persons_clear_23 (by decide +kernel) ?_
  refine nz_iastZ hx hb hK.1 hP hD hS 1 1 rfl rfl (nz_vin (by decide +kernel)) d_Persons_clear_24 (fun H locs f_22 f_22_e hP hD hS => ?_)
  have f_22_z : f_22 = (fun _ => 0) := f_22_e
  subst f_22_z
  have hP : va_P D nz_cl [(v4, .inr (5, [.int 0, .int 0, .ref v41, .ref v42, .ref v43, .ref v44, .ref v45, .ref v46, .ref v47, .ref v48, .ref v49])), (v47, .inl (cI, 12, .inl (fun _ => 0)))] H := hP
  have hD : va_D A [(v4, .inr (5, [.int 0, .int 0, .ref v41, .ref v42, .ref v43, .ref v44, .ref v45, .ref v46, .ref v47, .ref v48, .ref v49])), (v47, .inl (cI, 12, .inl (fun _ => 0)))] := hD
  refine lv_iinc (v := 11) (lv' := [(1, .int 11), (0, .ref v4)]) hx hb d_Persons_clear_25 hl (k := 0) rfl (by decide +kernel) (by decide) rfl (fun ls hl => ?_)
  refine lv_goto (tgt := 12) hx hb d_Persons_clear_28 (by decide) ?_
  refine lv_iload_n hx hb d_Persons_clear_12 rfl (lv_at hl 0 rfl) ?_
  refine lv_bipush (v := 12) hx hb d_Persons_clear_13 (by decide +kernel) ?_
  refine lv_icmp_ge (tgt := 31) hx hb d_Persons_clear_15 (by decide) (fun c_23 => absurd c_23 (by decide +kernel)) (fun c_23 => ?_)
  refine lv_aload_n hx hb d_Persons_clear_18 rfl (lv_at hl 1 rfl) ?_
  refine va_get (D := D) (ci := 5) (v := .ref v47) (C := R_Persons) (T := F_Persons) (N := 11) hx hb hts i_Persons hown hK.1 hP 0 rfl rfl 8 (by decide) (hts _ k_183) (fun _ h9 => h9) rfl d_Persons_clear_19 ?_
  refine lv_iload_n hx hb d_Persons_clear_22 rfl (lv_at hl 0 rfl) ?_
  refine lv_iconst (v := 0) hx hb d_Persons_clear_23 (by decide +kernel) ?_
  refine nz_iastZ hx hb hK.1 hP hD hS 1 1 rfl rfl (nz_vin (by decide +kernel)) d_Persons_clear_24 (fun H locs f_24 f_24_e hP hD hS => ?_)
  have f_24_z : f_24 = (fun _ => 0) := f_24_e
  subst f_24_z
  have hP : va_P D nz_cl [(v4, .inr (5, [.int 0, .int 0, .ref v41, .ref v42, .ref v43, .ref v44, .ref v45, .ref v46, .ref v47, .ref v48, .ref v49])), (v47, .inl (cI, 12, .inl (fun _ => 0)))] H := hP
  have hD : va_D A [(v4, .inr (5, [.int 0, .int 0, .ref v41, .ref v42, .ref v43, .ref v44, .ref v45, .ref v46, .ref v47, .ref v48, .ref v49])), (v47, .inl (cI, 12, .inl (fun _ => 0)))] := hD
  refine lv_iinc (v := 12) (lv' := [(1, .int 12), (0, .ref v4)]) hx hb d_Persons_clear_25 hl (k := 0) rfl (by decide +kernel) (by decide) rfl (fun ls hl => ?_)
  refine lv_goto (tgt := 12) hx hb d_Persons_clear_28 (by decide) ?_
  refine lv_iload_n hx hb d_Persons_clear_12 rfl (lv_at hl 0 rfl) ?_
  refine lv_bipush (v := 12) hx hb d_Persons_clear_13 (by decide +kernel) ?_
  refine lv_icmp_ge (tgt := 31) hx hb d_Persons_clear_15 (by decide) (fun c_25 => ?_) (fun c_25 => absurd (by decide +kernel) c_25)
  exact nz_retv C0 (hP.sub (ws' := [(v4, .inr (5, [.int 0, .int 0, .ref v41, .ref v42, .ref v43, .ref v44, .ref v45, .ref v46, .ref v47, .ref v48, .ref v49])), (v47, .inl (cI, 12, .inl (fun _ => 0)))]) [0, 1] rfl) (hD.sub (ws' := [(v4, .inr (5, [.int 0, .int 0, .ref v41, .ref v42, .ref v43, .ref v44, .ref v45, .ref v46, .ref v47, .ref v48, .ref v49])), (v47, .inl (cI, 12, .inl (fun _ => 0)))]) [0, 1] (by decide) rfl) hS rfl d_Persons_clear_31
set_option maxHeartbeats 4000000 in
set_option maxRecDepth 100000 in
theorem c_Land_clear (l : Launch) (D : va_G) (cB cI cJ : ClassId) (o3 : Nat) (v1 : Nat) (v2 : Nat) (v3 : Nat) (v4 : Nat) (v5 : Nat) (v11 : Nat) (v12 : Nat) (v13 : Nat) (v14 : Nat) (v15 : Nat) (v16 : Nat) (v17 : Nat) (v21 : Nat) (v22 : Nat) (v23 : Nat) (v24 : Nat) (v31 : Nat) (v32 : Nat) (v41 : Nat) (v42 : Nat) (v43 : Nat) (v44 : Nat) (v45 : Nat) (v46 : Nat) (v47 : Nat) (v48 : Nat) (v49 : Nat) : nz_Cv l D cB cI cJ nz_x0 y_Land_clear b_Land_clear 1 none { frames := 1, cells := 0, slots := 0, locals := 21 } [.ref o3] [(o3, .inr (3, [.ref v1, .ref v2, .ref v3, .ref v4, .ref v5])), (v1, .inr (6, [.int 0, .ref v11, .ref v12, .ref v13, .ref v14, .ref v15, .ref v16, .ref v17])), (v2, .inr (4, [.int 0, .ref v21, .int 0, .ref v22, .ref v23, .ref v24])), (v3, .inr (10, [.int 0, .ref v31, .ref v32])), (v4, .inr (5, [.int 0, .int 0, .ref v41, .ref v42, .ref v43, .ref v44, .ref v45, .ref v46, .ref v47, .ref v48, .ref v49])), (v17, .inl (cI, 32, .inl (fun _ => 0))), (v47, .inl (cI, 12, .inl (fun _ => 0)))] (fun w => w = [(o3, .inr (3, [.ref v1, .ref v2, .ref v3, .ref v4, .ref v5])), (v1, .inr (6, [.int 0, .ref v11, .ref v12, .ref v13, .ref v14, .ref v15, .ref v16, .ref v17])), (v2, .inr (4, [.int 0, .ref v21, .int 0, .ref v22, .ref v23, .ref v24])), (v3, .inr (10, [.int 0, .ref v31, .ref v32])), (v4, .inr (5, [.int 0, .int 0, .ref v41, .ref v42, .ref v43, .ref v44, .ref v45, .ref v46, .ref v47, .ref v48, .ref v49])), (v17, .inl (cI, 32, .inl (fun _ => 0))), (v47, .inl (cI, 12, .inl (fun _ => 0)))]) := by
  refine nz_Cv.mk (by decide) (Nat.le_of_ble_eq_true rfl) ?_
  intro p e s m below meth c A ls C0 hnm hP hD hS hA hX hl
  have C0 : nz_Cx p s m _ meth c b_Land_clear 1 none R_Land D cB cI cJ := C0
  obtain ⟨hx, hb, hr, hml, hown, hts, hlk, hK⟩ := id C0
  have hl : lv_has ls 1 [(0, .ref o3)] := hl
  refine lv_aload_n hx hb d_Land_clear_0 rfl (lv_at hl 0 rfl) ?_
  refine va_get (D := D) (ci := 3) (v := .ref v1) (C := R_Land) (T := F_Land) (N := 5) hx hb hts i_Land hown hK.1 hP 0 rfl rfl 0 (by decide) (hts _ k_212) (fun _ h9 => h9) rfl d_Land_clear_1 ?_
  refine nz_calVv (As := []) (rest := []) C0 (c_Places_clear l D cB cI cJ v1 v11 v12 v13 v14 v15 v16 v17) g_Land_43 rfl nz_xb0 (by decide) hl.1 hP hD hS hA [1, 5] [0, 2, 3, 4, 6] rfl (wr := [(o3, .inr (3, [.ref v1, .ref v2, .ref v3, .ref v4, .ref v5])), (v2, .inr (4, [.int 0, .ref v21, .int 0, .ref v22, .ref v23, .ref v24])), (v3, .inr (10, [.int 0, .ref v31, .ref v32])), (v4, .inr (5, [.int 0, .int 0, .ref v41, .ref v42, .ref v43, .ref v44, .ref v45, .ref v46, .ref v47, .ref v48, .ref v49])), (v47, .inl (cI, 12, .inl (fun _ => 0)))]) rfl (by decide) (by decide) (by decide) rfl rfl (fun _ _ _ => trivial) rfl (Nat.le_of_ble_eq_true rfl) d_Land_clear_4 (by decide) (fun u H locs h_1 hP hD hS => ?_)
  have h_1_w := h_1; subst h_1_w
  have hP : va_P D nz_cl [(o3, .inr (3, [.ref v1, .ref v2, .ref v3, .ref v4, .ref v5])), (v2, .inr (4, [.int 0, .ref v21, .int 0, .ref v22, .ref v23, .ref v24])), (v3, .inr (10, [.int 0, .ref v31, .ref v32])), (v4, .inr (5, [.int 0, .int 0, .ref v41, .ref v42, .ref v43, .ref v44, .ref v45, .ref v46, .ref v47, .ref v48, .ref v49])), (v47, .inl (cI, 12, .inl (fun _ => 0))), (v1, .inr (6, [.int 0, .ref v11, .ref v12, .ref v13, .ref v14, .ref v15, .ref v16, .ref v17])), (v17, .inl (cI, 32, .inl (fun _ => 0)))] H := hP
  have hD : va_D A [(o3, .inr (3, [.ref v1, .ref v2, .ref v3, .ref v4, .ref v5])), (v2, .inr (4, [.int 0, .ref v21, .int 0, .ref v22, .ref v23, .ref v24])), (v3, .inr (10, [.int 0, .ref v31, .ref v32])), (v4, .inr (5, [.int 0, .int 0, .ref v41, .ref v42, .ref v43, .ref v44, .ref v45, .ref v46, .ref v47, .ref v48, .ref v49])), (v47, .inl (cI, 12, .inl (fun _ => 0))), (v1, .inr (6, [.int 0, .ref v11, .ref v12, .ref v13, .ref v14, .ref v15, .ref v16, .ref v17])), (v17, .inl (cI, 32, .inl (fun _ => 0)))] := hD
  refine lv_aload_n hx hb d_Land_clear_7 rfl (lv_at hl 0 rfl) ?_
  refine va_get (D := D) (ci := 3) (v := .ref v2) (C := R_Land) (T := F_Land) (N := 5) hx hb hts i_Land hown hK.1 hP 0 rfl rfl 1 (by decide) (hts _ k_218) (fun _ h9 => h9) rfl d_Land_clear_8 ?_
  refine nz_calVv (As := []) (rest := []) C0 (c_Meanings_clear l D cB cI cJ v2 v21 v22 v23 v24) g_Land_46 rfl nz_xb0 (by decide) hl.1 hP hD hS hA [1] [0, 2, 3, 4, 5, 6] rfl (wr := [(o3, .inr (3, [.ref v1, .ref v2, .ref v3, .ref v4, .ref v5])), (v3, .inr (10, [.int 0, .ref v31, .ref v32])), (v4, .inr (5, [.int 0, .int 0, .ref v41, .ref v42, .ref v43, .ref v44, .ref v45, .ref v46, .ref v47, .ref v48, .ref v49])), (v47, .inl (cI, 12, .inl (fun _ => 0))), (v1, .inr (6, [.int 0, .ref v11, .ref v12, .ref v13, .ref v14, .ref v15, .ref v16, .ref v17])), (v17, .inl (cI, 32, .inl (fun _ => 0)))]) rfl (by decide) (by decide) (by decide) rfl rfl (fun _ _ _ => trivial) rfl (Nat.le_of_ble_eq_true rfl) d_Land_clear_11 (by decide) (fun u H locs h_2 hP hD hS => ?_)
  have h_2_w := h_2; subst h_2_w
  have hP : va_P D nz_cl [(o3, .inr (3, [.ref v1, .ref v2, .ref v3, .ref v4, .ref v5])), (v3, .inr (10, [.int 0, .ref v31, .ref v32])), (v4, .inr (5, [.int 0, .int 0, .ref v41, .ref v42, .ref v43, .ref v44, .ref v45, .ref v46, .ref v47, .ref v48, .ref v49])), (v47, .inl (cI, 12, .inl (fun _ => 0))), (v1, .inr (6, [.int 0, .ref v11, .ref v12, .ref v13, .ref v14, .ref v15, .ref v16, .ref v17])), (v17, .inl (cI, 32, .inl (fun _ => 0))), (v2, .inr (4, [.int 0, .ref v21, .int 0, .ref v22, .ref v23, .ref v24]))] H := hP
  have hD : va_D A [(o3, .inr (3, [.ref v1, .ref v2, .ref v3, .ref v4, .ref v5])), (v3, .inr (10, [.int 0, .ref v31, .ref v32])), (v4, .inr (5, [.int 0, .int 0, .ref v41, .ref v42, .ref v43, .ref v44, .ref v45, .ref v46, .ref v47, .ref v48, .ref v49])), (v47, .inl (cI, 12, .inl (fun _ => 0))), (v1, .inr (6, [.int 0, .ref v11, .ref v12, .ref v13, .ref v14, .ref v15, .ref v16, .ref v17])), (v17, .inl (cI, 32, .inl (fun _ => 0))), (v2, .inr (4, [.int 0, .ref v21, .int 0, .ref v22, .ref v23, .ref v24]))] := hD
  refine lv_aload_n hx hb d_Land_clear_14 rfl (lv_at hl 0 rfl) ?_
  refine va_get (D := D) (ci := 3) (v := .ref v3) (C := R_Land) (T := F_Land) (N := 5) hx hb hts i_Land hown hK.1 hP 0 rfl rfl 2 (by decide) (hts _ k_223) (fun _ h9 => h9) rfl d_Land_clear_15 ?_
  refine nz_calVv (As := []) (rest := []) C0 (c_Words_clear l D cB cI cJ v3 v31 v32) g_Land_47 rfl nz_xb0 (by decide) hl.1 hP hD hS hA [1] [0, 2, 3, 4, 5, 6] rfl (wr := [(o3, .inr (3, [.ref v1, .ref v2, .ref v3, .ref v4, .ref v5])), (v4, .inr (5, [.int 0, .int 0, .ref v41, .ref v42, .ref v43, .ref v44, .ref v45, .ref v46, .ref v47, .ref v48, .ref v49])), (v47, .inl (cI, 12, .inl (fun _ => 0))), (v1, .inr (6, [.int 0, .ref v11, .ref v12, .ref v13, .ref v14, .ref v15, .ref v16, .ref v17])), (v17, .inl (cI, 32, .inl (fun _ => 0))), (v2, .inr (4, [.int 0, .ref v21, .int 0, .ref v22, .ref v23, .ref v24]))]) rfl (by decide) (by decide) (by decide) rfl rfl (fun _ _ _ => trivial) rfl (Nat.le_of_ble_eq_true rfl) d_Land_clear_18 (by decide) (fun u H locs h_3 hP hD hS => ?_)
  have h_3_w := h_3; subst h_3_w
  have hP : va_P D nz_cl [(o3, .inr (3, [.ref v1, .ref v2, .ref v3, .ref v4, .ref v5])), (v4, .inr (5, [.int 0, .int 0, .ref v41, .ref v42, .ref v43, .ref v44, .ref v45, .ref v46, .ref v47, .ref v48, .ref v49])), (v47, .inl (cI, 12, .inl (fun _ => 0))), (v1, .inr (6, [.int 0, .ref v11, .ref v12, .ref v13, .ref v14, .ref v15, .ref v16, .ref v17])), (v17, .inl (cI, 32, .inl (fun _ => 0))), (v2, .inr (4, [.int 0, .ref v21, .int 0, .ref v22, .ref v23, .ref v24])), (v3, .inr (10, [.int 0, .ref v31, .ref v32]))] H := hP
  have hD : va_D A [(o3, .inr (3, [.ref v1, .ref v2, .ref v3, .ref v4, .ref v5])), (v4, .inr (5, [.int 0, .int 0, .ref v41, .ref v42, .ref v43, .ref v44, .ref v45, .ref v46, .ref v47, .ref v48, .ref v49])), (v47, .inl (cI, 12, .inl (fun _ => 0))), (v1, .inr (6, [.int 0, .ref v11, .ref v12, .ref v13, .ref v14, .ref v15, .ref v16, .ref v17])), (v17, .inl (cI, 32, .inl (fun _ => 0))), (v2, .inr (4, [.int 0, .ref v21, .int 0, .ref v22, .ref v23, .ref v24])), (v3, .inr (10, [.int 0, .ref v31, .ref v32]))] := hD
  refine lv_aload_n hx hb d_Land_clear_21 rfl (lv_at hl 0 rfl) ?_
  refine va_get (D := D) (ci := 3) (v := .ref v4) (C := R_Land) (T := F_Land) (N := 5) hx hb hts i_Land hown hK.1 hP 0 rfl rfl 3 (by decide) (hts _ k_226) (fun _ h9 => h9) rfl d_Land_clear_22 ?_
  refine nz_calVv (As := []) (rest := []) C0 (c_Persons_clear l D cB cI cJ v4 v41 v42 v43 v44 v45 v46 v47 v48 v49) g_Land_48 rfl nz_xb0 (by decide) hl.1 hP hD hS hA [1, 2] [0, 3, 4, 5, 6] rfl (wr := [(o3, .inr (3, [.ref v1, .ref v2, .ref v3, .ref v4, .ref v5])), (v1, .inr (6, [.int 0, .ref v11, .ref v12, .ref v13, .ref v14, .ref v15, .ref v16, .ref v17])), (v17, .inl (cI, 32, .inl (fun _ => 0))), (v2, .inr (4, [.int 0, .ref v21, .int 0, .ref v22, .ref v23, .ref v24])), (v3, .inr (10, [.int 0, .ref v31, .ref v32]))]) rfl (by decide) (by decide) (by decide) rfl rfl (fun _ _ _ => trivial) rfl (Nat.le_of_ble_eq_true rfl) d_Land_clear_25 (by decide) (fun u H locs h_4 hP hD hS => ?_)
  have h_4_w := h_4; subst h_4_w
  have hP : va_P D nz_cl [(o3, .inr (3, [.ref v1, .ref v2, .ref v3, .ref v4, .ref v5])), (v1, .inr (6, [.int 0, .ref v11, .ref v12, .ref v13, .ref v14, .ref v15, .ref v16, .ref v17])), (v17, .inl (cI, 32, .inl (fun _ => 0))), (v2, .inr (4, [.int 0, .ref v21, .int 0, .ref v22, .ref v23, .ref v24])), (v3, .inr (10, [.int 0, .ref v31, .ref v32])), (v4, .inr (5, [.int 0, .int 0, .ref v41, .ref v42, .ref v43, .ref v44, .ref v45, .ref v46, .ref v47, .ref v48, .ref v49])), (v47, .inl (cI, 12, .inl (fun _ => 0)))] H := hP
  have hD : va_D A [(o3, .inr (3, [.ref v1, .ref v2, .ref v3, .ref v4, .ref v5])), (v1, .inr (6, [.int 0, .ref v11, .ref v12, .ref v13, .ref v14, .ref v15, .ref v16, .ref v17])), (v17, .inl (cI, 32, .inl (fun _ => 0))), (v2, .inr (4, [.int 0, .ref v21, .int 0, .ref v22, .ref v23, .ref v24])), (v3, .inr (10, [.int 0, .ref v31, .ref v32])), (v4, .inr (5, [.int 0, .int 0, .ref v41, .ref v42, .ref v43, .ref v44, .ref v45, .ref v46, .ref v47, .ref v48, .ref v49])), (v47, .inl (cI, 12, .inl (fun _ => 0)))] := hD
  exact nz_retv C0 (hP.sub (ws' := [(o3, .inr (3, [.ref v1, .ref v2, .ref v3, .ref v4, .ref v5])), (v1, .inr (6, [.int 0, .ref v11, .ref v12, .ref v13, .ref v14, .ref v15, .ref v16, .ref v17])), (v2, .inr (4, [.int 0, .ref v21, .int 0, .ref v22, .ref v23, .ref v24])), (v3, .inr (10, [.int 0, .ref v31, .ref v32])), (v4, .inr (5, [.int 0, .int 0, .ref v41, .ref v42, .ref v43, .ref v44, .ref v45, .ref v46, .ref v47, .ref v48, .ref v49])), (v17, .inl (cI, 32, .inl (fun _ => 0))), (v47, .inl (cI, 12, .inl (fun _ => 0)))]) [0, 1, 3, 4, 5, 2, 6] rfl) (hD.sub (ws' := [(o3, .inr (3, [.ref v1, .ref v2, .ref v3, .ref v4, .ref v5])), (v1, .inr (6, [.int 0, .ref v11, .ref v12, .ref v13, .ref v14, .ref v15, .ref v16, .ref v17])), (v2, .inr (4, [.int 0, .ref v21, .int 0, .ref v22, .ref v23, .ref v24])), (v3, .inr (10, [.int 0, .ref v31, .ref v32])), (v4, .inr (5, [.int 0, .int 0, .ref v41, .ref v42, .ref v43, .ref v44, .ref v45, .ref v46, .ref v47, .ref v48, .ref v49])), (v17, .inl (cI, 32, .inl (fun _ => 0))), (v47, .inl (cI, 12, .inl (fun _ => 0)))]) [0, 1, 3, 4, 5, 2, 6] (by decide) rfl) hS rfl d_Land_clear_28
set_option maxHeartbeats 4000000 in
set_option maxRecDepth 100000 in
theorem c_Scanner_skipBlanks (l : Launch) (D : va_G) (cB cI cJ : ClassId) (s0 : Nat) (o1 : Nat) (s1 : Nat) : nz_Ci l D cB cI cJ nz_x0 y_Scanner_skipBlanks b_Scanner_skipBlanks 3 (some .int) { frames := 0, cells := 0, slots := 0, locals := 0 } [.ref s0, .int 0] [(s0, .inr (8, [.int 0, .int 0, .long 0, .int 0, .int 0, .ref o1, .ref s1, .int 0, .int 0]))] (fun r w => r = 0 ∧ w = [(s0, .inr (8, [.int 0, .int 0, .long 0, .int 0, .int 0, .ref o1, .ref s1, .int 0, .int 0]))]) := by
  refine nz_Ci.mk (by decide) (Nat.le_of_ble_eq_true rfl) ?_
  intro p e s m below meth c A ls C0 hnm hP hD hS hA hX hl
  have C0 : nz_Cx p s m _ meth c b_Scanner_skipBlanks 3 (some .int) R_Scanner D cB cI cJ := C0
  obtain ⟨hx, hb, hr, hml, hown, hts, hlk, hK⟩ := id C0
  have hl : lv_has ls 3 [(0, .ref s0), (1, .int 0)] := hl
  refine lv_iload_n hx hb d_Scanner_skipBlanks_0 rfl (lv_at hl 1 rfl) ?_
  refine lv_istore_n (lv' := [(2, .int 0), (0, .ref s0), (1, .int 0)]) hx hb d_Scanner_skipBlanks_1 rfl hl (by decide) rfl (fun ls hl => ?_)
  refine lv_iload_n hx hb d_Scanner_skipBlanks_2 rfl (lv_at hl 0 rfl) ?_
  refine lv_aload_n hx hb d_Scanner_skipBlanks_3 rfl (lv_at hl 1 rfl) ?_
  refine va_get (D := D) (ci := 8) (v := .int 0) (C := R_Scanner) (T := F_Scanner) (N := 9) hx hb hts i_Scanner hown hK.1 hP 0 rfl rfl 7 (by decide) (hts _ k_344) (fun _ h9 => h9) rfl d_Scanner_skipBlanks_4 ?_
  refine lv_icmp_ge (tgt := 38) hx hb d_Scanner_skipBlanks_7 (by decide) (fun c_1 => ?_) (fun c_1 => absurd (by decide +kernel) c_1)
  refine lv_iload_n hx hb d_Scanner_skipBlanks_38 rfl (lv_at hl 0 rfl) ?_
  exact nz_reti C0 (hP.sub (ws' := [(s0, .inr (8, [.int 0, .int 0, .long 0, .int 0, .int 0, .ref o1, .ref s1, .int 0, .int 0]))]) [0] rfl) (hD.sub (ws' := [(s0, .inr (8, [.int 0, .int 0, .long 0, .int 0, .int 0, .ref o1, .ref s1, .int 0, .int 0]))]) [0] (by decide) rfl) hS ⟨rfl, rfl⟩ d_Scanner_skipBlanks_39
set_option maxHeartbeats 4000000 in
set_option maxRecDepth 100000 in
theorem c_Scanner_advance (l : Launch) (D : va_G) (cB cI cJ : ClassId) (s0 : Nat) (o1 : Nat) (s1 : Nat) : nz_Cv l D cB cI cJ nz_x0 y_Scanner_advance b_Scanner_advance 1 none { frames := 1, cells := 0, slots := 0, locals := 22 } [.ref s0] [(s0, .inr (8, [.int 0, .int 0, .long 0, .int 0, .int 0, .ref o1, .ref s1, .int 0, .int 0]))] (fun w => w = [(s0, .inr (8, [.int 5, .int 0, .long 0, .int 0, .int 0, .ref o1, .ref s1, .int 0, .int 0]))]) := by
  refine nz_Cv.mk (by decide) (Nat.le_of_ble_eq_true rfl) ?_
  intro p e s m below meth c A ls C0 hnm hP hD hS hA hX hl
  have C0 : nz_Cx p s m _ meth c b_Scanner_advance 1 none R_Scanner D cB cI cJ := C0
  obtain ⟨hx, hb, hr, hml, hown, hts, hlk, hK⟩ := id C0
  have hl : lv_has ls 1 [(0, .ref s0)] := hl
  refine lv_aload_n hx hb d_Scanner_advance_0 rfl (lv_at hl 0 rfl) ?_
  refine lv_aload_n hx hb d_Scanner_advance_1 rfl (lv_at hl 0 rfl) ?_
  refine lv_aload_n hx hb d_Scanner_advance_2 rfl (lv_at hl 0 rfl) ?_
  refine va_get (D := D) (ci := 8) (v := .int 0) (C := R_Scanner) (T := F_Scanner) (N := 9) hx hb hts i_Scanner hown hK.1 hP 0 rfl rfl 8 (by decide) (hts _ k_345) (fun _ h9 => h9) rfl d_Scanner_advance_3 ?_
  refine nz_calVi (As := [.int 0]) (rest := [.ref s0]) C0 (c_Scanner_skipBlanks l D cB cI cJ s0 o1 s1) g_Scanner_53 rfl nz_xb0 (by decide) hl.1 hP hD hS hA [0] [] rfl (wr := []) rfl (by decide) (by decide) (by decide) rfl rfl (fun _ _ _ => trivial) rfl (Nat.le_of_ble_eq_true rfl) d_Scanner_advance_6 (by decide) (fun r_1 u H locs h_2 hP hD hS => ?_)
  obtain ⟨h_2_r, rfl⟩ := h_2
  have hP : va_P D nz_cl [(s0, .inr (8, [.int 0, .int 0, .long 0, .int 0, .int 0, .ref o1, .ref s1, .int 0, .int 0]))] H := hP
  have hD : va_D A [(s0, .inr (8, [.int 0, .int 0, .long 0, .int 0, .int 0, .ref o1, .ref s1, .int 0, .int 0]))] := hD
  subst h_2_r
  refine va_put (D := D) (ci := 8) (v := .int 0) (ty := .int) (C := R_Scanner) (T := F_Scanner) (N := 9) hx hb hts i_Scanner t_Scanner t_Scanner_ok n_Scanner hown hK.1 hP hD hS 0 rfl rfl 8 (by decide) (hts _ k_345) (fun _ h9 => h9) rfl (by decide +kernel) rfl rfl (Nat.le_of_ble_eq_true rfl) d_Scanner_advance_9 (fun H locs hP hD hS => ?_)
  have hP : va_P D nz_cl [(s0, .inr (8, [.int 0, .int 0, .long 0, .int 0, .int 0, .ref o1, .ref s1, .int 0, .int 0]))] H := hP
  have hD : va_D A [(s0, .inr (8, [.int 0, .int 0, .long 0, .int 0, .int 0, .ref o1, .ref s1, .int 0, .int 0]))] := hD
  refine lv_aload_n hx hb d_Scanner_advance_12 rfl (lv_at hl 0 rfl) ?_
  refine lv_aload_n hx hb d_Scanner_advance_13 rfl (lv_at hl 0 rfl) ?_
  refine va_get (D := D) (ci := 8) (v := .int 0) (C := R_Scanner) (T := F_Scanner) (N := 9) hx hb hts i_Scanner hown hK.1 hP 0 rfl rfl 8 (by decide) (hts _ k_345) (fun _ h9 => h9) rfl d_Scanner_advance_14 ?_
  refine va_put (D := D) (ci := 8) (v := .int 0) (ty := .int) (C := R_Scanner) (T := F_Scanner) (N := 9) hx hb hts i_Scanner t_Scanner t_Scanner_ok n_Scanner hown hK.1 hP hD hS 0 rfl rfl 1 (by decide) (hts _ k_334) (fun _ h9 => h9) rfl (by decide +kernel) rfl rfl (Nat.le_of_ble_eq_true rfl) d_Scanner_advance_17 (fun H locs hP hD hS => ?_)
  have hP : va_P D nz_cl [(s0, .inr (8, [.int 0, .int 0, .long 0, .int 0, .int 0, .ref o1, .ref s1, .int 0, .int 0]))] H := hP
  have hD : va_D A [(s0, .inr (8, [.int 0, .int 0, .long 0, .int 0, .int 0, .ref o1, .ref s1, .int 0, .int 0]))] := hD
  refine lv_aload_n hx hb d_Scanner_advance_20 rfl (lv_at hl 0 rfl) ?_
  refine va_get (D := D) (ci := 8) (v := .int 0) (C := R_Scanner) (T := F_Scanner) (N := 9) hx hb hts i_Scanner hown hK.1 hP 0 rfl rfl 8 (by decide) (hts _ k_345) (fun _ h9 => h9) rfl d_Scanner_advance_21 ?_
  refine lv_aload_n hx hb d_Scanner_advance_24 rfl (lv_at hl 0 rfl) ?_
  refine va_get (D := D) (ci := 8) (v := .int 0) (C := R_Scanner) (T := F_Scanner) (N := 9) hx hb hts i_Scanner hown hK.1 hP 0 rfl rfl 7 (by decide) (hts _ k_344) (fun _ h9 => h9) rfl d_Scanner_advance_25 ?_
  refine lv_icmp_lt (tgt := 39) hx hb d_Scanner_advance_28 (by decide) (fun c_3 => absurd c_3 (by decide +kernel)) (fun c_3 => ?_)
  refine lv_aload_n hx hb d_Scanner_advance_31 rfl (lv_at hl 0 rfl) ?_
  refine lv_iconst (v := 5) hx hb d_Scanner_advance_32 (by decide +kernel) ?_
  refine va_put (D := D) (ci := 8) (v := .int 5) (ty := .int) (C := R_Scanner) (T := F_Scanner) (N := 9) hx hb hts i_Scanner t_Scanner t_Scanner_ok n_Scanner hown hK.1 hP hD hS 0 rfl rfl 0 (by decide) (hts _ k_333) (fun _ h9 => h9) rfl (by decide +kernel) rfl rfl (Nat.le_of_ble_eq_true rfl) d_Scanner_advance_33 (fun H locs hP hD hS => ?_)
  have hP : va_P D nz_cl [(s0, .inr (8, [.int 5, .int 0, .long 0, .int 0, .int 0, .ref o1, .ref s1, .int 0, .int 0]))] H := hP
  have hD : va_D A [(s0, .inr (8, [.int 5, .int 0, .long 0, .int 0, .int 0, .ref o1, .ref s1, .int 0, .int 0]))] := hD
  refine lv_goto (tgt := 120) hx hb d_Scanner_advance_36 (by decide) ?_
  exact nz_retv C0 (hP.sub (ws' := [(s0, .inr (8, [.int 5, .int 0, .long 0, .int 0, .int 0, .ref o1, .ref s1, .int 0, .int 0]))]) [0] rfl) (hD.sub (ws' := [(s0, .inr (8, [.int 5, .int 0, .long 0, .int 0, .int 0, .ref o1, .ref s1, .int 0, .int 0]))]) [0] (by decide) rfl) hS rfl d_Scanner_advance_120
set_option maxHeartbeats 4000000 in
set_option maxRecDepth 100000 in
theorem c_Scanner_begin (l : Launch) (D : va_G) (cB cI cJ : ClassId) (s0 : Nat) (o1 : Nat) (s1 : Nat) (ft : Nat → Int32) : nz_Cv l D cB cI cJ nz_x0 y_Scanner_begin b_Scanner_begin 2 none { frames := 2, cells := 0, slots := 0, locals := 42 } [.ref s0, .int 0] [(s0, .inr (8, [.int 0, .int 0, .long 0, .int 0, .int 0, .ref o1, .ref s1, .int 0, .int 0])), (o1, .inl (cB, 1600, .inl ft))] (fun w => w = [(s0, .inr (8, [.int 5, .int 0, .long 0, .int 0, .int 0, .ref o1, .ref s1, .int 0, .int 0])), (o1, .inl (cB, 1600, .inl ft))]) := by
  refine nz_Cv.mk (by decide) (Nat.le_of_ble_eq_true rfl) ?_
  intro p e s m below meth c A ls C0 hnm hP hD hS hA hX hl
  have C0 : nz_Cx p s m _ meth c b_Scanner_begin 2 none R_Scanner D cB cI cJ := C0
  obtain ⟨hx, hb, hr, hml, hown, hts, hlk, hK⟩ := id C0
  have hl : lv_has ls 2 [(0, .ref s0), (1, .int 0)] := hl
  refine lv_aload_n hx hb d_Scanner_begin_0 rfl (lv_at hl 0 rfl) ?_
  refine lv_iconst (v := 0) hx hb d_Scanner_begin_1 (by decide +kernel) ?_
  refine lv_iload_n hx hb d_Scanner_begin_2 rfl (lv_at hl 1 rfl) ?_
  refine lv_aload_n hx hb d_Scanner_begin_3 rfl (lv_at hl 0 rfl) ?_
  refine va_get (D := D) (ci := 8) (v := .ref o1) (C := R_Scanner) (T := F_Scanner) (N := 9) hx hb hts i_Scanner hown hK.1 hP 0 rfl rfl 5 (by decide) (hts _ k_342) (fun _ h9 => h9) rfl d_Scanner_begin_4 ?_
  refine va_alen (v := 1600) hx hb hK.1 hP 1 0 rfl rfl rfl d_Scanner_begin_7 ?_
  refine va_mmin hx hb (hml.trans hl.1.symm) hown (hts _ k_538) (hts _ k_539) (hts _ k_18) (hts _ k_540) (by decide) (Nat.le_of_ble_eq_true rfl) (by decide) (by decide) d_Scanner_begin_8 ?_
  refine nz_ctopi (v := 0) (by decide +kernel) ?_
  refine va_mmax hx hb (hml.trans hl.1.symm) hown (hts _ k_541) (hts _ k_542) (hts _ k_18) (hts _ k_543) (by decide) (Nat.le_of_ble_eq_true rfl) (by decide) (by decide) d_Scanner_begin_11 ?_
  refine nz_ctopi (v := 0) (by decide +kernel) ?_
  refine va_put (D := D) (ci := 8) (v := .int 0) (ty := .int) (C := R_Scanner) (T := F_Scanner) (N := 9) hx hb hts i_Scanner t_Scanner t_Scanner_ok n_Scanner hown hK.1 hP hD hS 0 rfl rfl 7 (by decide) (hts _ k_344) (fun _ h9 => h9) rfl (by decide +kernel) rfl rfl (Nat.le_of_ble_eq_true rfl) d_Scanner_begin_14 (fun H locs hP hD hS => ?_)
  have hP : va_P D nz_cl [(s0, .inr (8, [.int 0, .int 0, .long 0, .int 0, .int 0, .ref o1, .ref s1, .int 0, .int 0])), (o1, .inl (cB, 1600, .inl ft))] H := hP
  have hD : va_D A [(s0, .inr (8, [.int 0, .int 0, .long 0, .int 0, .int 0, .ref o1, .ref s1, .int 0, .int 0])), (o1, .inl (cB, 1600, .inl ft))] := hD
  refine lv_aload_n hx hb d_Scanner_begin_17 rfl (lv_at hl 0 rfl) ?_
  refine lv_iconst (v := 0) hx hb d_Scanner_begin_18 (by decide +kernel) ?_
  refine va_put (D := D) (ci := 8) (v := .int 0) (ty := .int) (C := R_Scanner) (T := F_Scanner) (N := 9) hx hb hts i_Scanner t_Scanner t_Scanner_ok n_Scanner hown hK.1 hP hD hS 0 rfl rfl 8 (by decide) (hts _ k_345) (fun _ h9 => h9) rfl (by decide +kernel) rfl rfl (Nat.le_of_ble_eq_true rfl) d_Scanner_begin_19 (fun H locs hP hD hS => ?_)
  have hP : va_P D nz_cl [(s0, .inr (8, [.int 0, .int 0, .long 0, .int 0, .int 0, .ref o1, .ref s1, .int 0, .int 0])), (o1, .inl (cB, 1600, .inl ft))] H := hP
  have hD : va_D A [(s0, .inr (8, [.int 0, .int 0, .long 0, .int 0, .int 0, .ref o1, .ref s1, .int 0, .int 0])), (o1, .inl (cB, 1600, .inl ft))] := hD
  refine lv_aload_n hx hb d_Scanner_begin_22 rfl (lv_at hl 0 rfl) ?_
  refine nz_calVv (As := []) (rest := []) C0 (c_Scanner_advance l D cB cI cJ s0 o1 s1) g_Scanner_50 rfl nz_xb0 (by decide) hl.1 hP hD hS hA [0] [1] rfl (wr := [(o1, .inl (cB, 1600, .inl ft))]) rfl (by decide) (by decide) (by decide) rfl rfl (fun _ _ _ => trivial) rfl (Nat.le_of_ble_eq_true rfl) d_Scanner_begin_23 (by decide) (fun u H locs h_1 hP hD hS => ?_)
  have h_1_w := h_1; subst h_1_w
  have hP : va_P D nz_cl [(o1, .inl (cB, 1600, .inl ft)), (s0, .inr (8, [.int 5, .int 0, .long 0, .int 0, .int 0, .ref o1, .ref s1, .int 0, .int 0]))] H := hP
  have hD : va_D A [(o1, .inl (cB, 1600, .inl ft)), (s0, .inr (8, [.int 5, .int 0, .long 0, .int 0, .int 0, .ref o1, .ref s1, .int 0, .int 0]))] := hD
  exact nz_retv C0 (hP.sub (ws' := [(s0, .inr (8, [.int 5, .int 0, .long 0, .int 0, .int 0, .ref o1, .ref s1, .int 0, .int 0])), (o1, .inl (cB, 1600, .inl ft))]) [1, 0] rfl) (hD.sub (ws' := [(s0, .inr (8, [.int 5, .int 0, .long 0, .int 0, .int 0, .ref o1, .ref s1, .int 0, .int 0])), (o1, .inl (cB, 1600, .inl ft))]) [1, 0] (by decide) rfl) hS rfl d_Scanner_begin_26
set_option maxHeartbeats 4000000 in
set_option maxRecDepth 100000 in
theorem c_Reader_begin (l : Launch) (D : va_G) (cB cI cJ : ClassId) (o4 : Nat) (o3 : Nat) (s0 : Nat) (o1 : Nat) (s1 : Nat) (ft : Nat → Int32) (v1 : Nat) (v2 : Nat) (v3 : Nat) (v4 : Nat) (v5 : Nat) (v11 : Nat) (v12 : Nat) (v13 : Nat) (v14 : Nat) (v15 : Nat) (v16 : Nat) (v17 : Nat) (v21 : Nat) (v22 : Nat) (v23 : Nat) (v24 : Nat) (v31 : Nat) (v32 : Nat) (v41 : Nat) (v42 : Nat) (v43 : Nat) (v44 : Nat) (v45 : Nat) (v46 : Nat) (v47 : Nat) (v48 : Nat) (v49 : Nat) : nz_Cv l D cB cI cJ nz_x0 y_Reader_begin b_Reader_begin 3 none { frames := 3, cells := 0, slots := 0, locals := 63 } [.ref o4, .ref o3, .int 0] [(o4, .inr (7, [.int 0, .int (-1), .ref s0, .long 0, .int 0])), (s0, .inr (8, [.int 0, .int 0, .long 0, .int 0, .int 0, .ref o1, .ref s1, .int 0, .int 0])), (o1, .inl (cB, 1600, .inl ft)), (o3, .inr (3, [.ref v1, .ref v2, .ref v3, .ref v4, .ref v5])), (v1, .inr (6, [.int 0, .ref v11, .ref v12, .ref v13, .ref v14, .ref v15, .ref v16, .ref v17])), (v2, .inr (4, [.int 0, .ref v21, .int 0, .ref v22, .ref v23, .ref v24])), (v3, .inr (10, [.int 0, .ref v31, .ref v32])), (v4, .inr (5, [.int 0, .int 0, .ref v41, .ref v42, .ref v43, .ref v44, .ref v45, .ref v46, .ref v47, .ref v48, .ref v49])), (v17, .inl (cI, 32, .inl (fun _ => 0))), (v47, .inl (cI, 12, .inl (fun _ => 0)))] (fun w => w = [(o4, .inr (7, [.int 0, .int (-1), .ref s0, .long 0, .int 0])), (s0, .inr (8, [.int 5, .int 0, .long 0, .int 0, .int 0, .ref o1, .ref s1, .int 0, .int 0])), (o1, .inl (cB, 1600, .inl ft)), (o3, .inr (3, [.ref v1, .ref v2, .ref v3, .ref v4, .ref v5])), (v1, .inr (6, [.int 0, .ref v11, .ref v12, .ref v13, .ref v14, .ref v15, .ref v16, .ref v17])), (v2, .inr (4, [.int 0, .ref v21, .int 0, .ref v22, .ref v23, .ref v24])), (v3, .inr (10, [.int 0, .ref v31, .ref v32])), (v4, .inr (5, [.int 0, .int 0, .ref v41, .ref v42, .ref v43, .ref v44, .ref v45, .ref v46, .ref v47, .ref v48, .ref v49])), (v17, .inl (cI, 32, .inl (fun _ => 0))), (v47, .inl (cI, 12, .inl (fun _ => 0)))]) := by
  refine nz_Cv.mk (by decide) (Nat.le_of_ble_eq_true rfl) ?_
  intro p e s m below meth c A ls C0 hnm hP hD hS hA hX hl
  have C0 : nz_Cx p s m _ meth c b_Reader_begin 3 none R_Reader D cB cI cJ := C0
  obtain ⟨hx, hb, hr, hml, hown, hts, hlk, hK⟩ := id C0
  have hl : lv_has ls 3 [(0, .ref o4), (1, .ref o3), (2, .int 0)] := hl
  refine lv_aload_n hx hb d_Reader_begin_0 rfl (lv_at hl 0 rfl) ?_
  refine lv_iconst (v := 0) hx hb d_Reader_begin_1 (by decide +kernel) ?_
  refine va_put (D := D) (ci := 7) (v := .int 0) (ty := .int) (C := R_Reader) (T := F_Reader) (N := 5) hx hb hts i_Reader t_Reader t_Reader_ok n_Reader hown hK.1 hP hD hS 0 rfl rfl 0 (by decide) (hts _ k_369) (fun _ h9 => h9) rfl (by decide +kernel) rfl rfl (Nat.le_of_ble_eq_true rfl) d_Reader_begin_2 (fun H locs hP hD hS => ?_)
  have hP : va_P D nz_cl [(o4, .inr (7, [.int 0, .int (-1), .ref s0, .long 0, .int 0])), (s0, .inr (8, [.int 0, .int 0, .long 0, .int 0, .int 0, .ref o1, .ref s1, .int 0, .int 0])), (o1, .inl (cB, 1600, .inl ft)), (o3, .inr (3, [.ref v1, .ref v2, .ref v3, .ref v4, .ref v5])), (v1, .inr (6, [.int 0, .ref v11, .ref v12, .ref v13, .ref v14, .ref v15, .ref v16, .ref v17])), (v2, .inr (4, [.int 0, .ref v21, .int 0, .ref v22, .ref v23, .ref v24])), (v3, .inr (10, [.int 0, .ref v31, .ref v32])), (v4, .inr (5, [.int 0, .int 0, .ref v41, .ref v42, .ref v43, .ref v44, .ref v45, .ref v46, .ref v47, .ref v48, .ref v49])), (v17, .inl (cI, 32, .inl (fun _ => 0))), (v47, .inl (cI, 12, .inl (fun _ => 0)))] H := hP
  have hD : va_D A [(o4, .inr (7, [.int 0, .int (-1), .ref s0, .long 0, .int 0])), (s0, .inr (8, [.int 0, .int 0, .long 0, .int 0, .int 0, .ref o1, .ref s1, .int 0, .int 0])), (o1, .inl (cB, 1600, .inl ft)), (o3, .inr (3, [.ref v1, .ref v2, .ref v3, .ref v4, .ref v5])), (v1, .inr (6, [.int 0, .ref v11, .ref v12, .ref v13, .ref v14, .ref v15, .ref v16, .ref v17])), (v2, .inr (4, [.int 0, .ref v21, .int 0, .ref v22, .ref v23, .ref v24])), (v3, .inr (10, [.int 0, .ref v31, .ref v32])), (v4, .inr (5, [.int 0, .int 0, .ref v41, .ref v42, .ref v43, .ref v44, .ref v45, .ref v46, .ref v47, .ref v48, .ref v49])), (v17, .inl (cI, 32, .inl (fun _ => 0))), (v47, .inl (cI, 12, .inl (fun _ => 0)))] := hD
  refine lv_aload_n hx hb d_Reader_begin_5 rfl (lv_at hl 0 rfl) ?_
  refine lv_iconst (v := (-1)) hx hb d_Reader_begin_6 (by decide +kernel) ?_
  refine va_put (D := D) (ci := 7) (v := .int (-1)) (ty := .int) (C := R_Reader) (T := F_Reader) (N := 5) hx hb hts i_Reader t_Reader t_Reader_ok n_Reader hown hK.1 hP hD hS 0 rfl rfl 1 (by decide) (hts _ k_371) (fun _ h9 => h9) rfl (by decide +kernel) rfl rfl (Nat.le_of_ble_eq_true rfl) d_Reader_begin_7 (fun H locs hP hD hS => ?_)
  have hP : va_P D nz_cl [(o4, .inr (7, [.int 0, .int (-1), .ref s0, .long 0, .int 0])), (s0, .inr (8, [.int 0, .int 0, .long 0, .int 0, .int 0, .ref o1, .ref s1, .int 0, .int 0])), (o1, .inl (cB, 1600, .inl ft)), (o3, .inr (3, [.ref v1, .ref v2, .ref v3, .ref v4, .ref v5])), (v1, .inr (6, [.int 0, .ref v11, .ref v12, .ref v13, .ref v14, .ref v15, .ref v16, .ref v17])), (v2, .inr (4, [.int 0, .ref v21, .int 0, .ref v22, .ref v23, .ref v24])), (v3, .inr (10, [.int 0, .ref v31, .ref v32])), (v4, .inr (5, [.int 0, .int 0, .ref v41, .ref v42, .ref v43, .ref v44, .ref v45, .ref v46, .ref v47, .ref v48, .ref v49])), (v17, .inl (cI, 32, .inl (fun _ => 0))), (v47, .inl (cI, 12, .inl (fun _ => 0)))] H := hP
  have hD : va_D A [(o4, .inr (7, [.int 0, .int (-1), .ref s0, .long 0, .int 0])), (s0, .inr (8, [.int 0, .int 0, .long 0, .int 0, .int 0, .ref o1, .ref s1, .int 0, .int 0])), (o1, .inl (cB, 1600, .inl ft)), (o3, .inr (3, [.ref v1, .ref v2, .ref v3, .ref v4, .ref v5])), (v1, .inr (6, [.int 0, .ref v11, .ref v12, .ref v13, .ref v14, .ref v15, .ref v16, .ref v17])), (v2, .inr (4, [.int 0, .ref v21, .int 0, .ref v22, .ref v23, .ref v24])), (v3, .inr (10, [.int 0, .ref v31, .ref v32])), (v4, .inr (5, [.int 0, .int 0, .ref v41, .ref v42, .ref v43, .ref v44, .ref v45, .ref v46, .ref v47, .ref v48, .ref v49])), (v17, .inl (cI, 32, .inl (fun _ => 0))), (v47, .inl (cI, 12, .inl (fun _ => 0)))] := hD
  refine lv_aload_n hx hb d_Reader_begin_10 rfl (lv_at hl 1 rfl) ?_
  refine nz_calVv (As := []) (rest := []) C0 (c_Land_clear l D cB cI cJ o3 v1 v2 v3 v4 v5 v11 v12 v13 v14 v15 v16 v17 v21 v22 v23 v24 v31 v32 v41 v42 v43 v44 v45 v46 v47 v48 v49) g_Reader_22 rfl nz_xb0 (by decide) hl.1 hP hD hS hA [3, 4, 5, 6, 7, 8, 9] [0, 1, 2] rfl (wr := [(o4, .inr (7, [.int 0, .int (-1), .ref s0, .long 0, .int 0])), (s0, .inr (8, [.int 0, .int 0, .long 0, .int 0, .int 0, .ref o1, .ref s1, .int 0, .int 0])), (o1, .inl (cB, 1600, .inl ft))]) rfl (by decide) (by decide) (by decide) rfl rfl (fun _ _ _ => trivial) rfl (Nat.le_of_ble_eq_true rfl) d_Reader_begin_11 (by decide) (fun u H locs h_1 hP hD hS => ?_)
  have h_1_w := h_1; subst h_1_w
  have hP : va_P D nz_cl [(o4, .inr (7, [.int 0, .int (-1), .ref s0, .long 0, .int 0])), (s0, .inr (8, [.int 0, .int 0, .long 0, .int 0, .int 0, .ref o1, .ref s1, .int 0, .int 0])), (o1, .inl (cB, 1600, .inl ft)), (o3, .inr (3, [.ref v1, .ref v2, .ref v3, .ref v4, .ref v5])), (v1, .inr (6, [.int 0, .ref v11, .ref v12, .ref v13, .ref v14, .ref v15, .ref v16, .ref v17])), (v2, .inr (4, [.int 0, .ref v21, .int 0, .ref v22, .ref v23, .ref v24])), (v3, .inr (10, [.int 0, .ref v31, .ref v32])), (v4, .inr (5, [.int 0, .int 0, .ref v41, .ref v42, .ref v43, .ref v44, .ref v45, .ref v46, .ref v47, .ref v48, .ref v49])), (v17, .inl (cI, 32, .inl (fun _ => 0))), (v47, .inl (cI, 12, .inl (fun _ => 0)))] H := hP
  have hD : va_D A [(o4, .inr (7, [.int 0, .int (-1), .ref s0, .long 0, .int 0])), (s0, .inr (8, [.int 0, .int 0, .long 0, .int 0, .int 0, .ref o1, .ref s1, .int 0, .int 0])), (o1, .inl (cB, 1600, .inl ft)), (o3, .inr (3, [.ref v1, .ref v2, .ref v3, .ref v4, .ref v5])), (v1, .inr (6, [.int 0, .ref v11, .ref v12, .ref v13, .ref v14, .ref v15, .ref v16, .ref v17])), (v2, .inr (4, [.int 0, .ref v21, .int 0, .ref v22, .ref v23, .ref v24])), (v3, .inr (10, [.int 0, .ref v31, .ref v32])), (v4, .inr (5, [.int 0, .int 0, .ref v41, .ref v42, .ref v43, .ref v44, .ref v45, .ref v46, .ref v47, .ref v48, .ref v49])), (v17, .inl (cI, 32, .inl (fun _ => 0))), (v47, .inl (cI, 12, .inl (fun _ => 0)))] := hD
  refine lv_aload_n hx hb d_Reader_begin_14 rfl (lv_at hl 0 rfl) ?_
  refine va_get (D := D) (ci := 7) (v := .ref s0) (C := R_Reader) (T := F_Reader) (N := 5) hx hb hts i_Reader hown hK.1 hP 0 rfl rfl 2 (by decide) (hts _ k_373) (fun _ h9 => h9) rfl d_Reader_begin_15 ?_
  refine lv_iload_n hx hb d_Reader_begin_18 rfl (lv_at hl 2 rfl) ?_
  refine nz_calVv (As := [.int 0]) (rest := []) C0 (c_Scanner_begin l D cB cI cJ s0 o1 s1 ft) g_Reader_27 rfl nz_xb0 (by decide) hl.1 hP hD hS hA [1, 2] [0, 3, 4, 5, 6, 7, 8, 9] rfl (wr := [(o4, .inr (7, [.int 0, .int (-1), .ref s0, .long 0, .int 0])), (o3, .inr (3, [.ref v1, .ref v2, .ref v3, .ref v4, .ref v5])), (v1, .inr (6, [.int 0, .ref v11, .ref v12, .ref v13, .ref v14, .ref v15, .ref v16, .ref v17])), (v2, .inr (4, [.int 0, .ref v21, .int 0, .ref v22, .ref v23, .ref v24])), (v3, .inr (10, [.int 0, .ref v31, .ref v32])), (v4, .inr (5, [.int 0, .int 0, .ref v41, .ref v42, .ref v43, .ref v44, .ref v45, .ref v46, .ref v47, .ref v48, .ref v49])), (v17, .inl (cI, 32, .inl (fun _ => 0))), (v47, .inl (cI, 12, .inl (fun _ => 0)))]) rfl (by decide) (by decide) (by decide) rfl rfl (fun _ _ _ => trivial) rfl (Nat.le_of_ble_eq_true rfl) d_Reader_begin_19 (by decide) (fun u H locs h_2 hP hD hS => ?_)
  have h_2_w := h_2; subst h_2_w
  have hP : va_P D nz_cl [(o4, .inr (7, [.int 0, .int (-1), .ref s0, .long 0, .int 0])), (o3, .inr (3, [.ref v1, .ref v2, .ref v3, .ref v4, .ref v5])), (v1, .inr (6, [.int 0, .ref v11, .ref v12, .ref v13, .ref v14, .ref v15, .ref v16, .ref v17])), (v2, .inr (4, [.int 0, .ref v21, .int 0, .ref v22, .ref v23, .ref v24])), (v3, .inr (10, [.int 0, .ref v31, .ref v32])), (v4, .inr (5, [.int 0, .int 0, .ref v41, .ref v42, .ref v43, .ref v44, .ref v45, .ref v46, .ref v47, .ref v48, .ref v49])), (v17, .inl (cI, 32, .inl (fun _ => 0))), (v47, .inl (cI, 12, .inl (fun _ => 0))), (s0, .inr (8, [.int 5, .int 0, .long 0, .int 0, .int 0, .ref o1, .ref s1, .int 0, .int 0])), (o1, .inl (cB, 1600, .inl ft))] H := hP
  have hD : va_D A [(o4, .inr (7, [.int 0, .int (-1), .ref s0, .long 0, .int 0])), (o3, .inr (3, [.ref v1, .ref v2, .ref v3, .ref v4, .ref v5])), (v1, .inr (6, [.int 0, .ref v11, .ref v12, .ref v13, .ref v14, .ref v15, .ref v16, .ref v17])), (v2, .inr (4, [.int 0, .ref v21, .int 0, .ref v22, .ref v23, .ref v24])), (v3, .inr (10, [.int 0, .ref v31, .ref v32])), (v4, .inr (5, [.int 0, .int 0, .ref v41, .ref v42, .ref v43, .ref v44, .ref v45, .ref v46, .ref v47, .ref v48, .ref v49])), (v17, .inl (cI, 32, .inl (fun _ => 0))), (v47, .inl (cI, 12, .inl (fun _ => 0))), (s0, .inr (8, [.int 5, .int 0, .long 0, .int 0, .int 0, .ref o1, .ref s1, .int 0, .int 0])), (o1, .inl (cB, 1600, .inl ft))] := hD
  exact nz_retv C0 (hP.sub (ws' := [(o4, .inr (7, [.int 0, .int (-1), .ref s0, .long 0, .int 0])), (s0, .inr (8, [.int 5, .int 0, .long 0, .int 0, .int 0, .ref o1, .ref s1, .int 0, .int 0])), (o1, .inl (cB, 1600, .inl ft)), (o3, .inr (3, [.ref v1, .ref v2, .ref v3, .ref v4, .ref v5])), (v1, .inr (6, [.int 0, .ref v11, .ref v12, .ref v13, .ref v14, .ref v15, .ref v16, .ref v17])), (v2, .inr (4, [.int 0, .ref v21, .int 0, .ref v22, .ref v23, .ref v24])), (v3, .inr (10, [.int 0, .ref v31, .ref v32])), (v4, .inr (5, [.int 0, .int 0, .ref v41, .ref v42, .ref v43, .ref v44, .ref v45, .ref v46, .ref v47, .ref v48, .ref v49])), (v17, .inl (cI, 32, .inl (fun _ => 0))), (v47, .inl (cI, 12, .inl (fun _ => 0)))]) [0, 8, 9, 1, 2, 3, 4, 5, 6, 7] rfl) (hD.sub (ws' := [(o4, .inr (7, [.int 0, .int (-1), .ref s0, .long 0, .int 0])), (s0, .inr (8, [.int 5, .int 0, .long 0, .int 0, .int 0, .ref o1, .ref s1, .int 0, .int 0])), (o1, .inl (cB, 1600, .inl ft)), (o3, .inr (3, [.ref v1, .ref v2, .ref v3, .ref v4, .ref v5])), (v1, .inr (6, [.int 0, .ref v11, .ref v12, .ref v13, .ref v14, .ref v15, .ref v16, .ref v17])), (v2, .inr (4, [.int 0, .ref v21, .int 0, .ref v22, .ref v23, .ref v24])), (v3, .inr (10, [.int 0, .ref v31, .ref v32])), (v4, .inr (5, [.int 0, .int 0, .ref v41, .ref v42, .ref v43, .ref v44, .ref v45, .ref v46, .ref v47, .ref v48, .ref v49])), (v17, .inl (cI, 32, .inl (fun _ => 0))), (v47, .inl (cI, 12, .inl (fun _ => 0)))]) [0, 8, 9, 1, 2, 3, 4, 5, 6, 7] (by decide) rfl) hS rfl d_Reader_begin_22
set_option maxHeartbeats 4000000 in
set_option maxRecDepth 100000 in
theorem c_Reader_readLine (l : Launch) (D : va_G) (cB cI cJ : ClassId) (o4 : Nat) (o3 : Nat) (s0 : Nat) (o1 : Nat) (s1 : Nat) : nz_Ci l D cB cI cJ nz_x0 y_Reader_readLine b_Reader_readLine 2 (some .boolean) { frames := 0, cells := 0, slots := 0, locals := 0 } [.ref o4, .ref o3] [(o4, .inr (7, [.int 0, .int (-1), .ref s0, .long 0, .int 0])), (s0, .inr (8, [.int 5, .int 0, .long 0, .int 0, .int 0, .ref o1, .ref s1, .int 0, .int 0]))] (fun r w => r = 0 ∧ w = [(o4, .inr (7, [.int 0, .int (-1), .ref s0, .long 0, .int 0])), (s0, .inr (8, [.int 5, .int 0, .long 0, .int 0, .int 0, .ref o1, .ref s1, .int 0, .int 0]))]) := by
  refine nz_Ci.mk (by decide) (Nat.le_of_ble_eq_true rfl) ?_
  intro p e s m below meth c A ls C0 hnm hP hD hS hA hX hl
  have C0 : nz_Cx p s m _ meth c b_Reader_readLine 2 (some .boolean) R_Reader D cB cI cJ := C0
  obtain ⟨hx, hb, hr, hml, hown, hts, hlk, hK⟩ := id C0
  have hl : lv_has ls 2 [(0, .ref o4), (1, .ref o3)] := hl
  refine lv_aload_n hx hb d_Reader_readLine_0 rfl (lv_at hl 0 rfl) ?_
  refine va_get (D := D) (ci := 7) (v := .ref s0) (C := R_Reader) (T := F_Reader) (N := 5) hx hb hts i_Reader hown hK.1 hP 0 rfl rfl 2 (by decide) (hts _ k_373) (fun _ h9 => h9) rfl d_Reader_readLine_1 ?_
  refine va_get (D := D) (ci := 8) (v := .int 5) (C := R_Scanner) (T := F_Scanner) (N := 9) hx hb hts i_Scanner hown hK.1 hP 1 rfl rfl 0 (by decide) (hts _ k_332) (fun _ h9 => h9) rfl d_Reader_readLine_4 ?_
  refine lv_iconst (v := 5) hx hb d_Reader_readLine_7 (by decide +kernel) ?_
  refine lv_icmp_ne (tgt := 13) hx hb d_Reader_readLine_8 (by decide) (fun c_1 => absurd c_1 (by decide +kernel)) (fun c_1 => ?_)
  refine lv_iconst (v := 0) hx hb d_Reader_readLine_11 (by decide +kernel) ?_
  exact nz_retz C0 (by decide +kernel) (hP.sub (ws' := [(o4, .inr (7, [.int 0, .int (-1), .ref s0, .long 0, .int 0])), (s0, .inr (8, [.int 5, .int 0, .long 0, .int 0, .int 0, .ref o1, .ref s1, .int 0, .int 0]))]) [0, 1] rfl) (hD.sub (ws' := [(o4, .inr (7, [.int 0, .int (-1), .ref s0, .long 0, .int 0])), (s0, .inr (8, [.int 5, .int 0, .long 0, .int 0, .int 0, .ref o1, .ref s1, .int 0, .int 0]))]) [0, 1] (by decide) rfl) hS ⟨rfl, rfl⟩ d_Reader_readLine_12
set_option maxHeartbeats 4000000 in
set_option maxRecDepth 100000 in
theorem c_Persons_findForebears (l : Launch) (D : va_G) (cB cI cJ : ClassId) (v4 : Nat) (v41 : Nat) (v42 : Nat) (v43 : Nat) (v44 : Nat) (v45 : Nat) (v46 : Nat) (v47 : Nat) (v48 : Nat) (v49 : Nat) : nz_Cv l D cB cI cJ nz_x0 y_Persons_findForebears b_Persons_findForebears 4 none { frames := 0, cells := 0, slots := 0, locals := 0 } [.ref v4] [(v4, .inr (5, [.int 0, .int 0, .ref v41, .ref v42, .ref v43, .ref v44, .ref v45, .ref v46, .ref v47, .ref v48, .ref v49]))] (fun w => w = [(v4, .inr (5, [.int 0, .int 0, .ref v41, .ref v42, .ref v43, .ref v44, .ref v45, .ref v46, .ref v47, .ref v48, .ref v49]))]) := by
  refine nz_Cv.mk (by decide) (Nat.le_of_ble_eq_true rfl) ?_
  intro p e s m below meth c A ls C0 hnm hP hD hS hA hX hl
  have C0 : nz_Cx p s m _ meth c b_Persons_findForebears 4 none R_Persons D cB cI cJ := C0
  obtain ⟨hx, hb, hr, hml, hown, hts, hlk, hK⟩ := id C0
  have hl : lv_has ls 4 [(0, .ref v4)] := hl
  refine lv_iconst (v := 0) hx hb d_Persons_findForebears_0 (by decide +kernel) ?_
  refine lv_istore_n (lv' := [(1, .int 0), (0, .ref v4)]) hx hb d_Persons_findForebears_1 rfl hl (by decide) rfl (fun ls hl => ?_)
  refine lv_iload_n hx hb d_Persons_findForebears_2 rfl (lv_at hl 0 rfl) ?_
  refine lv_aload_n hx hb d_Persons_findForebears_3 rfl (lv_at hl 1 rfl) ?_
  refine va_get (D := D) (ci := 5) (v := .int 0) (C := R_Persons) (T := F_Persons) (N := 11) hx hb hts i_Persons hown hK.1 hP 0 rfl rfl 0 (by decide) (hts _ k_152) (fun _ h9 => h9) rfl d_Persons_findForebears_4 ?_
  refine lv_icmp_ge (tgt := 65) hx hb d_Persons_findForebears_7 (by decide) (fun c_1 => ?_) (fun c_1 => absurd (by decide +kernel) c_1)
  exact nz_retv C0 (hP.sub (ws' := [(v4, .inr (5, [.int 0, .int 0, .ref v41, .ref v42, .ref v43, .ref v44, .ref v45, .ref v46, .ref v47, .ref v48, .ref v49]))]) [0] rfl) (hD.sub (ws' := [(v4, .inr (5, [.int 0, .int 0, .ref v41, .ref v42, .ref v43, .ref v44, .ref v45, .ref v46, .ref v47, .ref v48, .ref v49]))]) [0] (by decide) rfl) hS rfl d_Persons_findForebears_65
set_option maxHeartbeats 4000000 in
set_option maxRecDepth 100000 in
theorem c_Persons_findSteps (l : Launch) (D : va_G) (cB cI cJ : ClassId) (v4 : Nat) (v41 : Nat) (v42 : Nat) (v43 : Nat) (v44 : Nat) (v45 : Nat) (v46 : Nat) (v47 : Nat) (v48 : Nat) (v49 : Nat) : nz_Cv l D cB cI cJ nz_x0 y_Persons_findSteps b_Persons_findSteps 5 none { frames := 0, cells := 0, slots := 0, locals := 0 } [.ref v4] [(v4, .inr (5, [.int 0, .int 0, .ref v41, .ref v42, .ref v43, .ref v44, .ref v45, .ref v46, .ref v47, .ref v48, .ref v49]))] (fun w => w = [(v4, .inr (5, [.int 0, .int 0, .ref v41, .ref v42, .ref v43, .ref v44, .ref v45, .ref v46, .ref v47, .ref v48, .ref v49]))]) := by
  refine nz_Cv.mk (by decide) (Nat.le_of_ble_eq_true rfl) ?_
  intro p e s m below meth c A ls C0 hnm hP hD hS hA hX hl
  have C0 : nz_Cx p s m _ meth c b_Persons_findSteps 5 none R_Persons D cB cI cJ := C0
  obtain ⟨hx, hb, hr, hml, hown, hts, hlk, hK⟩ := id C0
  have hl : lv_has ls 5 [(0, .ref v4)] := hl
  refine lv_iconst (v := 0) hx hb d_Persons_findSteps_0 (by decide +kernel) ?_
  refine lv_istore_n (lv' := [(1, .int 0), (0, .ref v4)]) hx hb d_Persons_findSteps_1 rfl hl (by decide) rfl (fun ls hl => ?_)
  refine lv_iload_n hx hb d_Persons_findSteps_2 rfl (lv_at hl 0 rfl) ?_
  refine lv_aload_n hx hb d_Persons_findSteps_3 rfl (lv_at hl 1 rfl) ?_
  refine va_get (D := D) (ci := 5) (v := .int 0) (C := R_Persons) (T := F_Persons) (N := 11) hx hb hts i_Persons hown hK.1 hP 0 rfl rfl 0 (by decide) (hts _ k_152) (fun _ h9 => h9) rfl d_Persons_findSteps_4 ?_
  refine lv_icmp_ge (tgt := 94) hx hb d_Persons_findSteps_7 (by decide) (fun c_1 => ?_) (fun c_1 => absurd (by decide +kernel) c_1)
  refine lv_iconst (v := 0) hx hb d_Persons_findSteps_94 (by decide +kernel) ?_
  refine lv_istore_n (lv' := [(1, .int 0), (0, .ref v4)]) hx hb d_Persons_findSteps_95 rfl hl (by decide) rfl (fun ls hl => ?_)
  refine lv_iload_n hx hb d_Persons_findSteps_96 rfl (lv_at hl 0 rfl) ?_
  refine lv_aload_n hx hb d_Persons_findSteps_97 rfl (lv_at hl 1 rfl) ?_
  refine va_get (D := D) (ci := 5) (v := .int 0) (C := R_Persons) (T := F_Persons) (N := 11) hx hb hts i_Persons hown hK.1 hP 0 rfl rfl 0 (by decide) (hts _ k_152) (fun _ h9 => h9) rfl d_Persons_findSteps_98 ?_
  refine lv_icmp_ge (tgt := 181) hx hb d_Persons_findSteps_101 (by decide) (fun c_2 => ?_) (fun c_2 => absurd (by decide +kernel) c_2)
  exact nz_retv C0 (hP.sub (ws' := [(v4, .inr (5, [.int 0, .int 0, .ref v41, .ref v42, .ref v43, .ref v44, .ref v45, .ref v46, .ref v47, .ref v48, .ref v49]))]) [0] rfl) (hD.sub (ws' := [(v4, .inr (5, [.int 0, .int 0, .ref v41, .ref v42, .ref v43, .ref v44, .ref v45, .ref v46, .ref v47, .ref v48, .ref v49]))]) [0] (by decide) rfl) hS rfl d_Persons_findSteps_181
set_option maxHeartbeats 4000000 in
set_option maxRecDepth 100000 in
theorem c_Land_settle (l : Launch) (D : va_G) (cB cI cJ : ClassId) (o3 : Nat) (v1 : Nat) (v2 : Nat) (v3 : Nat) (v4 : Nat) (v5 : Nat) (v41 : Nat) (v42 : Nat) (v43 : Nat) (v44 : Nat) (v45 : Nat) (v46 : Nat) (v47 : Nat) (v48 : Nat) (v49 : Nat) (v31 : Nat) (v32 : Nat) : nz_Cv l D cB cI cJ nz_x0 y_Land_settle b_Land_settle 2 none { frames := 1, cells := 0, slots := 0, locals := 24 } [.ref o3] [(o3, .inr (3, [.ref v1, .ref v2, .ref v3, .ref v4, .ref v5])), (v4, .inr (5, [.int 0, .int 0, .ref v41, .ref v42, .ref v43, .ref v44, .ref v45, .ref v46, .ref v47, .ref v48, .ref v49])), (v3, .inr (10, [.int 0, .ref v31, .ref v32]))] (fun w => w = [(o3, .inr (3, [.ref v1, .ref v2, .ref v3, .ref v4, .ref v5])), (v4, .inr (5, [.int 0, .int 0, .ref v41, .ref v42, .ref v43, .ref v44, .ref v45, .ref v46, .ref v47, .ref v48, .ref v49])), (v3, .inr (10, [.int 0, .ref v31, .ref v32]))]) := by
  refine nz_Cv.mk (by decide) (Nat.le_of_ble_eq_true rfl) ?_
  intro p e s m below meth c A ls C0 hnm hP hD hS hA hX hl
  have C0 : nz_Cx p s m _ meth c b_Land_settle 2 none R_Land D cB cI cJ := C0
  obtain ⟨hx, hb, hr, hml, hown, hts, hlk, hK⟩ := id C0
  have hl : lv_has ls 2 [(0, .ref o3)] := hl
  refine lv_aload_n hx hb d_Land_settle_0 rfl (lv_at hl 0 rfl) ?_
  refine va_get (D := D) (ci := 3) (v := .ref v4) (C := R_Land) (T := F_Land) (N := 5) hx hb hts i_Land hown hK.1 hP 0 rfl rfl 3 (by decide) (hts _ k_226) (fun _ h9 => h9) rfl d_Land_settle_1 ?_
  refine nz_calVv (As := []) (rest := []) C0 (c_Persons_findForebears l D cB cI cJ v4 v41 v42 v43 v44 v45 v46 v47 v48 v49) g_Land_49 rfl nz_xb0 (by decide) hl.1 hP hD hS hA [1] [0, 2] rfl (wr := [(o3, .inr (3, [.ref v1, .ref v2, .ref v3, .ref v4, .ref v5])), (v3, .inr (10, [.int 0, .ref v31, .ref v32]))]) rfl (by decide) (by decide) (by decide) rfl rfl (fun _ _ _ => trivial) rfl (Nat.le_of_ble_eq_true rfl) d_Land_settle_4 (by decide) (fun u H locs h_1 hP hD hS => ?_)
  have h_1_w := h_1; subst h_1_w
  have hP : va_P D nz_cl [(o3, .inr (3, [.ref v1, .ref v2, .ref v3, .ref v4, .ref v5])), (v3, .inr (10, [.int 0, .ref v31, .ref v32])), (v4, .inr (5, [.int 0, .int 0, .ref v41, .ref v42, .ref v43, .ref v44, .ref v45, .ref v46, .ref v47, .ref v48, .ref v49]))] H := hP
  have hD : va_D A [(o3, .inr (3, [.ref v1, .ref v2, .ref v3, .ref v4, .ref v5])), (v3, .inr (10, [.int 0, .ref v31, .ref v32])), (v4, .inr (5, [.int 0, .int 0, .ref v41, .ref v42, .ref v43, .ref v44, .ref v45, .ref v46, .ref v47, .ref v48, .ref v49]))] := hD
  refine lv_aload_n hx hb d_Land_settle_7 rfl (lv_at hl 0 rfl) ?_
  refine va_get (D := D) (ci := 3) (v := .ref v4) (C := R_Land) (T := F_Land) (N := 5) hx hb hts i_Land hown hK.1 hP 0 rfl rfl 3 (by decide) (hts _ k_226) (fun _ h9 => h9) rfl d_Land_settle_8 ?_
  refine nz_calVv (As := []) (rest := []) C0 (c_Persons_findSteps l D cB cI cJ v4 v41 v42 v43 v44 v45 v46 v47 v48 v49) g_Land_52 rfl nz_xb0 (by decide) hl.1 hP hD hS hA [2] [0, 1] rfl (wr := [(o3, .inr (3, [.ref v1, .ref v2, .ref v3, .ref v4, .ref v5])), (v3, .inr (10, [.int 0, .ref v31, .ref v32]))]) rfl (by decide) (by decide) (by decide) rfl rfl (fun _ _ _ => trivial) rfl (Nat.le_of_ble_eq_true rfl) d_Land_settle_11 (by decide) (fun u H locs h_2 hP hD hS => ?_)
  have h_2_w := h_2; subst h_2_w
  have hP : va_P D nz_cl [(o3, .inr (3, [.ref v1, .ref v2, .ref v3, .ref v4, .ref v5])), (v3, .inr (10, [.int 0, .ref v31, .ref v32])), (v4, .inr (5, [.int 0, .int 0, .ref v41, .ref v42, .ref v43, .ref v44, .ref v45, .ref v46, .ref v47, .ref v48, .ref v49]))] H := hP
  have hD : va_D A [(o3, .inr (3, [.ref v1, .ref v2, .ref v3, .ref v4, .ref v5])), (v3, .inr (10, [.int 0, .ref v31, .ref v32])), (v4, .inr (5, [.int 0, .int 0, .ref v41, .ref v42, .ref v43, .ref v44, .ref v45, .ref v46, .ref v47, .ref v48, .ref v49]))] := hD
  refine lv_iconst (v := 0) hx hb d_Land_settle_14 (by decide +kernel) ?_
  refine lv_istore_n (lv' := [(1, .int 0), (0, .ref o3)]) hx hb d_Land_settle_15 rfl hl (by decide) rfl (fun ls hl => ?_)
  refine lv_iload_n hx hb d_Land_settle_16 rfl (lv_at hl 0 rfl) ?_
  refine lv_aload_n hx hb d_Land_settle_17 rfl (lv_at hl 1 rfl) ?_
  refine va_get (D := D) (ci := 3) (v := .ref v4) (C := R_Land) (T := F_Land) (N := 5) hx hb hts i_Land hown hK.1 hP 0 rfl rfl 3 (by decide) (hts _ k_226) (fun _ h9 => h9) rfl d_Land_settle_18 ?_
  refine va_get (D := D) (ci := 5) (v := .int 0) (C := R_Persons) (T := F_Persons) (N := 11) hx hb hts i_Persons hown hK.1 hP 2 rfl rfl 0 (by decide) (hts _ k_155) (fun _ h9 => h9) rfl d_Land_settle_21 ?_
  refine lv_icmp_ge (tgt := 54) hx hb d_Land_settle_24 (by decide) (fun c_3 => ?_) (fun c_3 => absurd (by decide +kernel) c_3)
  refine lv_iconst (v := 0) hx hb d_Land_settle_54 (by decide +kernel) ?_
  refine lv_istore_n (lv' := [(1, .int 0), (0, .ref o3)]) hx hb d_Land_settle_55 rfl hl (by decide) rfl (fun ls hl => ?_)
  refine lv_iload_n hx hb d_Land_settle_56 rfl (lv_at hl 0 rfl) ?_
  refine lv_aload_n hx hb d_Land_settle_57 rfl (lv_at hl 1 rfl) ?_
  refine va_get (D := D) (ci := 3) (v := .ref v3) (C := R_Land) (T := F_Land) (N := 5) hx hb hts i_Land hown hK.1 hP 0 rfl rfl 2 (by decide) (hts _ k_223) (fun _ h9 => h9) rfl d_Land_settle_58 ?_
  refine va_get (D := D) (ci := 10) (v := .int 0) (C := R_Words) (T := F_Words) (N := 3) hx hb hts i_Words hown hK.1 hP 1 rfl rfl 0 (by decide) (hts _ k_130) (fun _ h9 => h9) rfl d_Land_settle_61 ?_
  refine lv_icmp_ge (tgt := 94) hx hb d_Land_settle_64 (by decide) (fun c_4 => ?_) (fun c_4 => absurd (by decide +kernel) c_4)
  exact nz_retv C0 (hP.sub (ws' := [(o3, .inr (3, [.ref v1, .ref v2, .ref v3, .ref v4, .ref v5])), (v4, .inr (5, [.int 0, .int 0, .ref v41, .ref v42, .ref v43, .ref v44, .ref v45, .ref v46, .ref v47, .ref v48, .ref v49])), (v3, .inr (10, [.int 0, .ref v31, .ref v32]))]) [0, 2, 1] rfl) (hD.sub (ws' := [(o3, .inr (3, [.ref v1, .ref v2, .ref v3, .ref v4, .ref v5])), (v4, .inr (5, [.int 0, .int 0, .ref v41, .ref v42, .ref v43, .ref v44, .ref v45, .ref v46, .ref v47, .ref v48, .ref v49])), (v3, .inr (10, [.int 0, .ref v31, .ref v32]))]) [0, 2, 1] (by decide) rfl) hS rfl d_Land_settle_94
set_option maxHeartbeats 4000000 in
set_option maxRecDepth 100000 in
theorem c_Deaths_forget (l : Launch) (D : va_G) (cB cI cJ : ClassId) (o5 : Nat) (d1 : Nat) (d2 : Nat) (d3 : Nat) (d4 : Nat) : nz_Cv l D cB cI cJ nz_x0 y_Deaths_forget b_Deaths_forget 1 none { frames := 0, cells := 0, slots := 0, locals := 0 } [.ref o5] [(o5, .inr (1, [.int 0, .int 0, .ref d1, .ref d2, .ref d3, .ref d4]))] (fun w => w = [(o5, .inr (1, [.int 0, .int 0, .ref d1, .ref d2, .ref d3, .ref d4]))]) := by
  refine nz_Cv.mk (by decide) (Nat.le_of_ble_eq_true rfl) ?_
  intro p e s m below meth c A ls C0 hnm hP hD hS hA hX hl
  have C0 : nz_Cx p s m _ meth c b_Deaths_forget 1 none R_Deaths D cB cI cJ := C0
  obtain ⟨hx, hb, hr, hml, hown, hts, hlk, hK⟩ := id C0
  have hl : lv_has ls 1 [(0, .ref o5)] := hl
  refine lv_aload_n hx hb d_Deaths_forget_0 rfl (lv_at hl 0 rfl) ?_
  refine lv_iconst (v := 0) hx hb d_Deaths_forget_1 (by decide +kernel) ?_
  refine va_put (D := D) (ci := 1) (v := .int 0) (ty := .int) (C := R_Deaths) (T := F_Deaths) (N := 6) hx hb hts i_Deaths t_Deaths t_Deaths_ok n_Deaths hown hK.1 hP hD hS 0 rfl rfl 0 (by decide) (hts _ k_393) (fun _ h9 => h9) rfl (by decide +kernel) rfl rfl (Nat.le_of_ble_eq_true rfl) d_Deaths_forget_2 (fun H locs hP hD hS => ?_)
  have hP : va_P D nz_cl [(o5, .inr (1, [.int 0, .int 0, .ref d1, .ref d2, .ref d3, .ref d4]))] H := hP
  have hD : va_D A [(o5, .inr (1, [.int 0, .int 0, .ref d1, .ref d2, .ref d3, .ref d4]))] := hD
  exact nz_retv C0 (hP.sub (ws' := [(o5, .inr (1, [.int 0, .int 0, .ref d1, .ref d2, .ref d3, .ref d4]))]) [0] rfl) (hD.sub (ws' := [(o5, .inr (1, [.int 0, .int 0, .ref d1, .ref d2, .ref d3, .ref d4]))]) [0] (by decide) rfl) hS rfl d_Deaths_forget_5
set_option maxHeartbeats 4000000 in
set_option maxRecDepth 100000 in
theorem c_NF_land (l : Launch) (D : va_G) (cB cI cJ : ClassId) (o0 : Nat) (o1 : Nat) (o2 : Nat) (o3 : Nat) (o4 : Nat) (o5 : Nat) (o6 : Nat) (o7 : Nat) (o8 : Nat) (o9 : Nat) (o10 : Nat) (s0 : Nat) (s1 : Nat) (ft : Nat → Int32) (v1 : Nat) (v2 : Nat) (v3 : Nat) (v4 : Nat) (v5 : Nat) (v11 : Nat) (v12 : Nat) (v13 : Nat) (v14 : Nat) (v15 : Nat) (v16 : Nat) (v17 : Nat) (v21 : Nat) (v22 : Nat) (v23 : Nat) (v24 : Nat) (v31 : Nat) (v32 : Nat) (v41 : Nat) (v42 : Nat) (v43 : Nat) (v44 : Nat) (v45 : Nat) (v46 : Nat) (v47 : Nat) (v48 : Nat) (v49 : Nat) (d1 : Nat) (d2 : Nat) (d3 : Nat) (d4 : Nat) : nz_Ci l D cB cI cJ nz_x0 y_NF_land b_NF_land 3 (some .int) { frames := 4, cells := 0, slots := 0, locals := 85 } [.ref o0] [(o0, .inr (11, [.ref o1, .int 0, .ref o2, .ref o3, .ref o4, .ref o5, .ref o6, .ref o7, .ref o8, .ref o9, .ref o10])), (o4, .inr (7, [.int 0, .int (-1), .ref s0, .long 0, .int 0])), (s0, .inr (8, [.int 0, .int 0, .long 0, .int 0, .int 0, .ref o1, .ref s1, .int 0, .int 0])), (o1, .inl (cB, 1600, .inl ft)), (o3, .inr (3, [.ref v1, .ref v2, .ref v3, .ref v4, .ref v5])), (v1, .inr (6, [.int 0, .ref v11, .ref v12, .ref v13, .ref v14, .ref v15, .ref v16, .ref v17])), (v2, .inr (4, [.int 0, .ref v21, .int 0, .ref v22, .ref v23, .ref v24])), (v3, .inr (10, [.int 0, .ref v31, .ref v32])), (v4, .inr (5, [.int 0, .int 0, .ref v41, .ref v42, .ref v43, .ref v44, .ref v45, .ref v46, .ref v47, .ref v48, .ref v49])), (v17, .inl (cI, 32, .inl (fun _ => 0))), (v47, .inl (cI, 12, .inl (fun _ => 0))), (o5, .inr (1, [.int 0, .int 0, .ref d1, .ref d2, .ref d3, .ref d4]))] (fun r w => r = 0 ∧ w = [(o0, .inr (11, [.ref o1, .int 0, .ref o3, .ref o2, .ref o4, .ref o5, .ref o6, .ref o7, .ref o8, .ref o9, .ref o10])), (o4, .inr (7, [.int 0, .int (-1), .ref s0, .long 0, .int 0])), (s0, .inr (8, [.int 5, .int 0, .long 0, .int 0, .int 0, .ref o1, .ref s1, .int 0, .int 0])), (o1, .inl (cB, 1600, .inl ft)), (o3, .inr (3, [.ref v1, .ref v2, .ref v3, .ref v4, .ref v5])), (v1, .inr (6, [.int 0, .ref v11, .ref v12, .ref v13, .ref v14, .ref v15, .ref v16, .ref v17])), (v2, .inr (4, [.int 0, .ref v21, .int 0, .ref v22, .ref v23, .ref v24])), (v3, .inr (10, [.int 0, .ref v31, .ref v32])), (v4, .inr (5, [.int 0, .int 0, .ref v41, .ref v42, .ref v43, .ref v44, .ref v45, .ref v46, .ref v47, .ref v48, .ref v49])), (v17, .inl (cI, 32, .inl (fun _ => 0))), (v47, .inl (cI, 12, .inl (fun _ => 0))), (o5, .inr (1, [.int 0, .int 0, .ref d1, .ref d2, .ref d3, .ref d4]))]) := by
  refine nz_Ci.mk (by decide) (Nat.le_of_ble_eq_true rfl) ?_
  intro p e s m below meth c A ls C0 hnm hP hD hS hA hX hl
  have C0 : nz_Cx p s m _ meth c b_NF_land 3 (some .int) R_NF D cB cI cJ := C0
  obtain ⟨hx, hb, hr, hml, hown, hts, hlk, hK⟩ := id C0
  have hl : lv_has ls 3 [(0, .ref o0)] := hl
  refine lv_aload_n hx hb d_NF_land_0 rfl (lv_at hl 0 rfl) ?_
  refine va_get (D := D) (ci := 11) (v := .ref o4) (C := R_NF) (T := F_NF) (N := 11) hx hb hts i_NF hown hK.1 hP 0 rfl rfl 4 (by decide) (hts _ k_464) (fun _ h9 => h9) rfl d_NF_land_1 ?_
  refine lv_aload_n hx hb d_NF_land_4 rfl (lv_at hl 0 rfl) ?_
  refine va_get (D := D) (ci := 11) (v := .ref o3) (C := R_NF) (T := F_NF) (N := 11) hx hb hts i_NF hown hK.1 hP 0 rfl rfl 3 (by decide) (hts _ k_463) (fun _ h9 => h9) rfl d_NF_land_5 ?_
  refine lv_aload_n hx hb d_NF_land_8 rfl (lv_at hl 0 rfl) ?_
  refine va_get (D := D) (ci := 11) (v := .int 0) (C := R_NF) (T := F_NF) (N := 11) hx hb hts i_NF hown hK.1 hP 0 rfl rfl 1 (by decide) (hts _ k_461) (fun _ h9 => h9) rfl d_NF_land_9 ?_
  refine nz_calVv (As := [.ref o3, .int 0]) (rest := []) C0 (c_Reader_begin l D cB cI cJ o4 o3 s0 o1 s1 ft v1 v2 v3 v4 v5 v11 v12 v13 v14 v15 v16 v17 v21 v22 v23 v24 v31 v32 v41 v42 v43 v44 v45 v46 v47 v48 v49) g_NF_84 rfl nz_xb0 (by decide) hl.1 hP hD hS hA [1, 2, 3, 4, 5, 6, 7, 8, 9, 10] [0, 11] rfl (wr := [(o0, .inr (11, [.ref o1, .int 0, .ref o2, .ref o3, .ref o4, .ref o5, .ref o6, .ref o7, .ref o8, .ref o9, .ref o10])), (o5, .inr (1, [.int 0, .int 0, .ref d1, .ref d2, .ref d3, .ref d4]))]) rfl (by decide) (by decide) (by decide) rfl rfl (fun _ _ _ => trivial) rfl (Nat.le_of_ble_eq_true rfl) d_NF_land_12 (by decide) (fun u H locs h_1 hP hD hS => ?_)
  have h_1_w := h_1; subst h_1_w
  have hP : va_P D nz_cl [(o0, .inr (11, [.ref o1, .int 0, .ref o2, .ref o3, .ref o4, .ref o5, .ref o6, .ref o7, .ref o8, .ref o9, .ref o10])), (o5, .inr (1, [.int 0, .int 0, .ref d1, .ref d2, .ref d3, .ref d4])), (o4, .inr (7, [.int 0, .int (-1), .ref s0, .long 0, .int 0])), (s0, .inr (8, [.int 5, .int 0, .long 0, .int 0, .int 0, .ref o1, .ref s1, .int 0, .int 0])), (o1, .inl (cB, 1600, .inl ft)), (o3, .inr (3, [.ref v1, .ref v2, .ref v3, .ref v4, .ref v5])), (v1, .inr (6, [.int 0, .ref v11, .ref v12, .ref v13, .ref v14, .ref v15, .ref v16, .ref v17])), (v2, .inr (4, [.int 0, .ref v21, .int 0, .ref v22, .ref v23, .ref v24])), (v3, .inr (10, [.int 0, .ref v31, .ref v32])), (v4, .inr (5, [.int 0, .int 0, .ref v41, .ref v42, .ref v43, .ref v44, .ref v45, .ref v46, .ref v47, .ref v48, .ref v49])), (v17, .inl (cI, 32, .inl (fun _ => 0))), (v47, .inl (cI, 12, .inl (fun _ => 0)))] H := hP
  have hD : va_D A [(o0, .inr (11, [.ref o1, .int 0, .ref o2, .ref o3, .ref o4, .ref o5, .ref o6, .ref o7, .ref o8, .ref o9, .ref o10])), (o5, .inr (1, [.int 0, .int 0, .ref d1, .ref d2, .ref d3, .ref d4])), (o4, .inr (7, [.int 0, .int (-1), .ref s0, .long 0, .int 0])), (s0, .inr (8, [.int 5, .int 0, .long 0, .int 0, .int 0, .ref o1, .ref s1, .int 0, .int 0])), (o1, .inl (cB, 1600, .inl ft)), (o3, .inr (3, [.ref v1, .ref v2, .ref v3, .ref v4, .ref v5])), (v1, .inr (6, [.int 0, .ref v11, .ref v12, .ref v13, .ref v14, .ref v15, .ref v16, .ref v17])), (v2, .inr (4, [.int 0, .ref v21, .int 0, .ref v22, .ref v23, .ref v24])), (v3, .inr (10, [.int 0, .ref v31, .ref v32])), (v4, .inr (5, [.int 0, .int 0, .ref v41, .ref v42, .ref v43, .ref v44, .ref v45, .ref v46, .ref v47, .ref v48, .ref v49])), (v17, .inl (cI, 32, .inl (fun _ => 0))), (v47, .inl (cI, 12, .inl (fun _ => 0)))] := hD
  refine lv_iconst (v := 0) hx hb d_NF_land_15 (by decide +kernel) ?_
  refine lv_istore_n (lv' := [(1, .int 0), (0, .ref o0)]) hx hb d_NF_land_16 rfl hl (by decide) rfl (fun ls hl => ?_)
  refine lv_iload_n hx hb d_NF_land_17 rfl (lv_at hl 0 rfl) ?_
  refine lv_sipush (v := 1600) hx hb d_NF_land_18 (by decide +kernel) ?_
  refine lv_icmp_ge (tgt := 44) hx hb d_NF_land_21 (by decide) (fun c_2 => absurd c_2 (by decide +kernel)) (fun c_2 => ?_)
  refine lv_aload_n hx hb d_NF_land_24 rfl (lv_at hl 1 rfl) ?_
  refine va_get (D := D) (ci := 11) (v := .ref o4) (C := R_NF) (T := F_NF) (N := 11) hx hb hts i_NF hown hK.1 hP 0 rfl rfl 4 (by decide) (hts _ k_464) (fun _ h9 => h9) rfl d_NF_land_25 ?_
  refine lv_aload_n hx hb d_NF_land_28 rfl (lv_at hl 1 rfl) ?_
  refine va_get (D := D) (ci := 11) (v := .ref o3) (C := R_NF) (T := F_NF) (N := 11) hx hb hts i_NF hown hK.1 hP 0 rfl rfl 3 (by decide) (hts _ k_463) (fun _ h9 => h9) rfl d_NF_land_29 ?_
  refine nz_calVi (As := [.ref o3]) (rest := []) C0 (c_Reader_readLine l D cB cI cJ o4 o3 s0 o1 s1) g_NF_88 rfl nz_xb0 (by decide) hl.1 hP hD hS hA [2, 3] [0, 1, 4, 5, 6, 7, 8, 9, 10, 11] rfl (wr := [(o0, .inr (11, [.ref o1, .int 0, .ref o2, .ref o3, .ref o4, .ref o5, .ref o6, .ref o7, .ref o8, .ref o9, .ref o10])), (o5, .inr (1, [.int 0, .int 0, .ref d1, .ref d2, .ref d3, .ref d4])), (o1, .inl (cB, 1600, .inl ft)), (o3, .inr (3, [.ref v1, .ref v2, .ref v3, .ref v4, .ref v5])), (v1, .inr (6, [.int 0, .ref v11, .ref v12, .ref v13, .ref v14, .ref v15, .ref v16, .ref v17])), (v2, .inr (4, [.int 0, .ref v21, .int 0, .ref v22, .ref v23, .ref v24])), (v3, .inr (10, [.int 0, .ref v31, .ref v32])), (v4, .inr (5, [.int 0, .int 0, .ref v41, .ref v42, .ref v43, .ref v44, .ref v45, .ref v46, .ref v47, .ref v48, .ref v49])), (v17, .inl (cI, 32, .inl (fun _ => 0))), (v47, .inl (cI, 12, .inl (fun _ => 0)))]) rfl (by decide) (by decide) (by decide) rfl rfl (fun _ _ _ => trivial) rfl (Nat.le_of_ble_eq_true rfl) d_NF_land_32 (by decide) (fun r_3 u H locs h_4 hP hD hS => ?_)
  obtain ⟨h_4_r, rfl⟩ := h_4
  have hP : va_P D nz_cl [(o0, .inr (11, [.ref o1, .int 0, .ref o2, .ref o3, .ref o4, .ref o5, .ref o6, .ref o7, .ref o8, .ref o9, .ref o10])), (o5, .inr (1, [.int 0, .int 0, .ref d1, .ref d2, .ref d3, .ref d4])), (o1, .inl (cB, 1600, .inl ft)), (o3, .inr (3, [.ref v1, .ref v2, .ref v3, .ref v4, .ref v5])), (v1, .inr (6, [.int 0, .ref v11, .ref v12, .ref v13, .ref v14, .ref v15, .ref v16, .ref v17])), (v2, .inr (4, [.int 0, .ref v21, .int 0, .ref v22, .ref v23, .ref v24])), (v3, .inr (10, [.int 0, .ref v31, .ref v32])), (v4, .inr (5, [.int 0, .int 0, .ref v41, .ref v42, .ref v43, .ref v44, .ref v45, .ref v46, .ref v47, .ref v48, .ref v49])), (v17, .inl (cI, 32, .inl (fun _ => 0))), (v47, .inl (cI, 12, .inl (fun _ => 0))), (o4, .inr (7, [.int 0, .int (-1), .ref s0, .long 0, .int 0])), (s0, .inr (8, [.int 5, .int 0, .long 0, .int 0, .int 0, .ref o1, .ref s1, .int 0, .int 0]))] H := hP
  have hD : va_D A [(o0, .inr (11, [.ref o1, .int 0, .ref o2, .ref o3, .ref o4, .ref o5, .ref o6, .ref o7, .ref o8, .ref o9, .ref o10])), (o5, .inr (1, [.int 0, .int 0, .ref d1, .ref d2, .ref d3, .ref d4])), (o1, .inl (cB, 1600, .inl ft)), (o3, .inr (3, [.ref v1, .ref v2, .ref v3, .ref v4, .ref v5])), (v1, .inr (6, [.int 0, .ref v11, .ref v12, .ref v13, .ref v14, .ref v15, .ref v16, .ref v17])), (v2, .inr (4, [.int 0, .ref v21, .int 0, .ref v22, .ref v23, .ref v24])), (v3, .inr (10, [.int 0, .ref v31, .ref v32])), (v4, .inr (5, [.int 0, .int 0, .ref v41, .ref v42, .ref v43, .ref v44, .ref v45, .ref v46, .ref v47, .ref v48, .ref v49])), (v17, .inl (cI, 32, .inl (fun _ => 0))), (v47, .inl (cI, 12, .inl (fun _ => 0))), (o4, .inr (7, [.int 0, .int (-1), .ref s0, .long 0, .int 0])), (s0, .inr (8, [.int 5, .int 0, .long 0, .int 0, .int 0, .ref o1, .ref s1, .int 0, .int 0]))] := hD
  subst h_4_r
  refine lv_if_eq (tgt := 44) hx hb d_NF_land_35 (by decide) (fun c_5 => ?_) (fun c_5 => absurd (by decide +kernel) c_5)
  refine lv_aload_n hx hb d_NF_land_44 rfl (lv_at hl 1 rfl) ?_
  refine va_get (D := D) (ci := 11) (v := .ref o4) (C := R_NF) (T := F_NF) (N := 11) hx hb hts i_NF hown hK.1 hP 0 rfl rfl 4 (by decide) (hts _ k_464) (fun _ h9 => h9) rfl d_NF_land_45 ?_
  refine va_get (D := D) (ci := 7) (v := .int 0) (C := R_Reader) (T := F_Reader) (N := 5) hx hb hts i_Reader hown hK.1 hP 10 rfl rfl 0 (by decide) (hts _ k_370) (fun _ h9 => h9) rfl d_NF_land_48 ?_
  refine lv_if_eq (tgt := 56) hx hb d_NF_land_51 (by decide) (fun c_6 => ?_) (fun c_6 => absurd (by decide +kernel) c_6)
  refine lv_aload_n hx hb d_NF_land_56 rfl (lv_at hl 1 rfl) ?_
  refine va_get (D := D) (ci := 11) (v := .ref o3) (C := R_NF) (T := F_NF) (N := 11) hx hb hts i_NF hown hK.1 hP 0 rfl rfl 3 (by decide) (hts _ k_463) (fun _ h9 => h9) rfl d_NF_land_57 ?_
  refine nz_calVv (As := []) (rest := []) C0 (c_Land_settle l D cB cI cJ o3 v1 v2 v3 v4 v5 v41 v42 v43 v44 v45 v46 v47 v48 v49 v31 v32) g_NF_95 rfl nz_xb0 (by decide) hl.1 hP hD hS hA [3, 7, 6] [0, 1, 2, 4, 5, 8, 9, 10, 11] rfl (wr := [(o0, .inr (11, [.ref o1, .int 0, .ref o2, .ref o3, .ref o4, .ref o5, .ref o6, .ref o7, .ref o8, .ref o9, .ref o10])), (o5, .inr (1, [.int 0, .int 0, .ref d1, .ref d2, .ref d3, .ref d4])), (o1, .inl (cB, 1600, .inl ft)), (v1, .inr (6, [.int 0, .ref v11, .ref v12, .ref v13, .ref v14, .ref v15, .ref v16, .ref v17])), (v2, .inr (4, [.int 0, .ref v21, .int 0, .ref v22, .ref v23, .ref v24])), (v17, .inl (cI, 32, .inl (fun _ => 0))), (v47, .inl (cI, 12, .inl (fun _ => 0))), (o4, .inr (7, [.int 0, .int (-1), .ref s0, .long 0, .int 0])), (s0, .inr (8, [.int 5, .int 0, .long 0, .int 0, .int 0, .ref o1, .ref s1, .int 0, .int 0]))]) rfl (by decide) (by decide) (by decide) rfl rfl (fun _ _ _ => trivial) rfl (Nat.le_of_ble_eq_true rfl) d_NF_land_60 (by decide) (fun u H locs h_7 hP hD hS => ?_)
  have h_7_w := h_7; subst h_7_w
  have hP : va_P D nz_cl [(o0, .inr (11, [.ref o1, .int 0, .ref o2, .ref o3, .ref o4, .ref o5, .ref o6, .ref o7, .ref o8, .ref o9, .ref o10])), (o5, .inr (1, [.int 0, .int 0, .ref d1, .ref d2, .ref d3, .ref d4])), (o1, .inl (cB, 1600, .inl ft)), (v1, .inr (6, [.int 0, .ref v11, .ref v12, .ref v13, .ref v14, .ref v15, .ref v16, .ref v17])), (v2, .inr (4, [.int 0, .ref v21, .int 0, .ref v22, .ref v23, .ref v24])), (v17, .inl (cI, 32, .inl (fun _ => 0))), (v47, .inl (cI, 12, .inl (fun _ => 0))), (o4, .inr (7, [.int 0, .int (-1), .ref s0, .long 0, .int 0])), (s0, .inr (8, [.int 5, .int 0, .long 0, .int 0, .int 0, .ref o1, .ref s1, .int 0, .int 0])), (o3, .inr (3, [.ref v1, .ref v2, .ref v3, .ref v4, .ref v5])), (v4, .inr (5, [.int 0, .int 0, .ref v41, .ref v42, .ref v43, .ref v44, .ref v45, .ref v46, .ref v47, .ref v48, .ref v49])), (v3, .inr (10, [.int 0, .ref v31, .ref v32]))] H := hP
  have hD : va_D A [(o0, .inr (11, [.ref o1, .int 0, .ref o2, .ref o3, .ref o4, .ref o5, .ref o6, .ref o7, .ref o8, .ref o9, .ref o10])), (o5, .inr (1, [.int 0, .int 0, .ref d1, .ref d2, .ref d3, .ref d4])), (o1, .inl (cB, 1600, .inl ft)), (v1, .inr (6, [.int 0, .ref v11, .ref v12, .ref v13, .ref v14, .ref v15, .ref v16, .ref v17])), (v2, .inr (4, [.int 0, .ref v21, .int 0, .ref v22, .ref v23, .ref v24])), (v17, .inl (cI, 32, .inl (fun _ => 0))), (v47, .inl (cI, 12, .inl (fun _ => 0))), (o4, .inr (7, [.int 0, .int (-1), .ref s0, .long 0, .int 0])), (s0, .inr (8, [.int 5, .int 0, .long 0, .int 0, .int 0, .ref o1, .ref s1, .int 0, .int 0])), (o3, .inr (3, [.ref v1, .ref v2, .ref v3, .ref v4, .ref v5])), (v4, .inr (5, [.int 0, .int 0, .ref v41, .ref v42, .ref v43, .ref v44, .ref v45, .ref v46, .ref v47, .ref v48, .ref v49])), (v3, .inr (10, [.int 0, .ref v31, .ref v32]))] := hD
  refine lv_aload_n hx hb d_NF_land_63 rfl (lv_at hl 1 rfl) ?_
  refine va_get (D := D) (ci := 11) (v := .ref o2) (C := R_NF) (T := F_NF) (N := 11) hx hb hts i_NF hown hK.1 hP 0 rfl rfl 2 (by decide) (hts _ k_462) (fun _ h9 => h9) rfl d_NF_land_64 ?_
  refine lv_astore_n (lv' := [(2, .ref o2), (1, .int 0), (0, .ref o0)]) hx hb d_NF_land_67 rfl hl (by decide) rfl (fun ls hl => ?_)
  refine lv_aload_n hx hb d_NF_land_68 rfl (lv_at hl 2 rfl) ?_
  refine lv_aload_n hx hb d_NF_land_69 rfl (lv_at hl 2 rfl) ?_
  refine va_get (D := D) (ci := 11) (v := .ref o3) (C := R_NF) (T := F_NF) (N := 11) hx hb hts i_NF hown hK.1 hP 0 rfl rfl 3 (by decide) (hts _ k_463) (fun _ h9 => h9) rfl d_NF_land_70 ?_
  refine va_put (D := D) (ci := 11) (v := .ref o3) (ty := .object "NameFall$Land") (C := R_NF) (T := F_NF) (N := 11) hx hb hts i_NF t_NF t_NF_ok n_NF hown hK.1 hP hD hS 0 rfl rfl 2 (by decide) (hts _ k_462) (fun _ h9 => h9) rfl (by decide +kernel) rfl rfl (Nat.le_of_ble_eq_true rfl) d_NF_land_73 (fun H locs hP hD hS => ?_)
  have hP : va_P D nz_cl [(o0, .inr (11, [.ref o1, .int 0, .ref o3, .ref o3, .ref o4, .ref o5, .ref o6, .ref o7, .ref o8, .ref o9, .ref o10])), (o5, .inr (1, [.int 0, .int 0, .ref d1, .ref d2, .ref d3, .ref d4])), (o1, .inl (cB, 1600, .inl ft)), (v1, .inr (6, [.int 0, .ref v11, .ref v12, .ref v13, .ref v14, .ref v15, .ref v16, .ref v17])), (v2, .inr (4, [.int 0, .ref v21, .int 0, .ref v22, .ref v23, .ref v24])), (v17, .inl (cI, 32, .inl (fun _ => 0))), (v47, .inl (cI, 12, .inl (fun _ => 0))), (o4, .inr (7, [.int 0, .int (-1), .ref s0, .long 0, .int 0])), (s0, .inr (8, [.int 5, .int 0, .long 0, .int 0, .int 0, .ref o1, .ref s1, .int 0, .int 0])), (o3, .inr (3, [.ref v1, .ref v2, .ref v3, .ref v4, .ref v5])), (v4, .inr (5, [.int 0, .int 0, .ref v41, .ref v42, .ref v43, .ref v44, .ref v45, .ref v46, .ref v47, .ref v48, .ref v49])), (v3, .inr (10, [.int 0, .ref v31, .ref v32]))] H := hP
  have hD : va_D A [(o0, .inr (11, [.ref o1, .int 0, .ref o3, .ref o3, .ref o4, .ref o5, .ref o6, .ref o7, .ref o8, .ref o9, .ref o10])), (o5, .inr (1, [.int 0, .int 0, .ref d1, .ref d2, .ref d3, .ref d4])), (o1, .inl (cB, 1600, .inl ft)), (v1, .inr (6, [.int 0, .ref v11, .ref v12, .ref v13, .ref v14, .ref v15, .ref v16, .ref v17])), (v2, .inr (4, [.int 0, .ref v21, .int 0, .ref v22, .ref v23, .ref v24])), (v17, .inl (cI, 32, .inl (fun _ => 0))), (v47, .inl (cI, 12, .inl (fun _ => 0))), (o4, .inr (7, [.int 0, .int (-1), .ref s0, .long 0, .int 0])), (s0, .inr (8, [.int 5, .int 0, .long 0, .int 0, .int 0, .ref o1, .ref s1, .int 0, .int 0])), (o3, .inr (3, [.ref v1, .ref v2, .ref v3, .ref v4, .ref v5])), (v4, .inr (5, [.int 0, .int 0, .ref v41, .ref v42, .ref v43, .ref v44, .ref v45, .ref v46, .ref v47, .ref v48, .ref v49])), (v3, .inr (10, [.int 0, .ref v31, .ref v32]))] := hD
  refine lv_aload_n hx hb d_NF_land_76 rfl (lv_at hl 2 rfl) ?_
  refine lv_aload_n hx hb d_NF_land_77 rfl (lv_at hl 0 rfl) ?_
  refine va_put (D := D) (ci := 11) (v := .ref o2) (ty := .object "NameFall$Land") (C := R_NF) (T := F_NF) (N := 11) hx hb hts i_NF t_NF t_NF_ok n_NF hown hK.1 hP hD hS 0 rfl rfl 3 (by decide) (hts _ k_463) (fun _ h9 => h9) rfl (by decide +kernel) rfl rfl (Nat.le_of_ble_eq_true rfl) d_NF_land_78 (fun H locs hP hD hS => ?_)
  have hP : va_P D nz_cl [(o0, .inr (11, [.ref o1, .int 0, .ref o3, .ref o2, .ref o4, .ref o5, .ref o6, .ref o7, .ref o8, .ref o9, .ref o10])), (o5, .inr (1, [.int 0, .int 0, .ref d1, .ref d2, .ref d3, .ref d4])), (o1, .inl (cB, 1600, .inl ft)), (v1, .inr (6, [.int 0, .ref v11, .ref v12, .ref v13, .ref v14, .ref v15, .ref v16, .ref v17])), (v2, .inr (4, [.int 0, .ref v21, .int 0, .ref v22, .ref v23, .ref v24])), (v17, .inl (cI, 32, .inl (fun _ => 0))), (v47, .inl (cI, 12, .inl (fun _ => 0))), (o4, .inr (7, [.int 0, .int (-1), .ref s0, .long 0, .int 0])), (s0, .inr (8, [.int 5, .int 0, .long 0, .int 0, .int 0, .ref o1, .ref s1, .int 0, .int 0])), (o3, .inr (3, [.ref v1, .ref v2, .ref v3, .ref v4, .ref v5])), (v4, .inr (5, [.int 0, .int 0, .ref v41, .ref v42, .ref v43, .ref v44, .ref v45, .ref v46, .ref v47, .ref v48, .ref v49])), (v3, .inr (10, [.int 0, .ref v31, .ref v32]))] H := hP
  have hD : va_D A [(o0, .inr (11, [.ref o1, .int 0, .ref o3, .ref o2, .ref o4, .ref o5, .ref o6, .ref o7, .ref o8, .ref o9, .ref o10])), (o5, .inr (1, [.int 0, .int 0, .ref d1, .ref d2, .ref d3, .ref d4])), (o1, .inl (cB, 1600, .inl ft)), (v1, .inr (6, [.int 0, .ref v11, .ref v12, .ref v13, .ref v14, .ref v15, .ref v16, .ref v17])), (v2, .inr (4, [.int 0, .ref v21, .int 0, .ref v22, .ref v23, .ref v24])), (v17, .inl (cI, 32, .inl (fun _ => 0))), (v47, .inl (cI, 12, .inl (fun _ => 0))), (o4, .inr (7, [.int 0, .int (-1), .ref s0, .long 0, .int 0])), (s0, .inr (8, [.int 5, .int 0, .long 0, .int 0, .int 0, .ref o1, .ref s1, .int 0, .int 0])), (o3, .inr (3, [.ref v1, .ref v2, .ref v3, .ref v4, .ref v5])), (v4, .inr (5, [.int 0, .int 0, .ref v41, .ref v42, .ref v43, .ref v44, .ref v45, .ref v46, .ref v47, .ref v48, .ref v49])), (v3, .inr (10, [.int 0, .ref v31, .ref v32]))] := hD
  refine lv_aload_n hx hb d_NF_land_81 rfl (lv_at hl 2 rfl) ?_
  refine lv_iconst (v := 0) hx hb d_NF_land_82 (by decide +kernel) ?_
  refine va_put (D := D) (ci := 11) (v := .int 0) (ty := .int) (C := R_NF) (T := F_NF) (N := 11) hx hb hts i_NF t_NF t_NF_ok n_NF hown hK.1 hP hD hS 0 rfl rfl 1 (by decide) (hts _ k_461) (fun _ h9 => h9) rfl (by decide +kernel) rfl rfl (Nat.le_of_ble_eq_true rfl) d_NF_land_83 (fun H locs hP hD hS => ?_)
  have hP : va_P D nz_cl [(o0, .inr (11, [.ref o1, .int 0, .ref o3, .ref o2, .ref o4, .ref o5, .ref o6, .ref o7, .ref o8, .ref o9, .ref o10])), (o5, .inr (1, [.int 0, .int 0, .ref d1, .ref d2, .ref d3, .ref d4])), (o1, .inl (cB, 1600, .inl ft)), (v1, .inr (6, [.int 0, .ref v11, .ref v12, .ref v13, .ref v14, .ref v15, .ref v16, .ref v17])), (v2, .inr (4, [.int 0, .ref v21, .int 0, .ref v22, .ref v23, .ref v24])), (v17, .inl (cI, 32, .inl (fun _ => 0))), (v47, .inl (cI, 12, .inl (fun _ => 0))), (o4, .inr (7, [.int 0, .int (-1), .ref s0, .long 0, .int 0])), (s0, .inr (8, [.int 5, .int 0, .long 0, .int 0, .int 0, .ref o1, .ref s1, .int 0, .int 0])), (o3, .inr (3, [.ref v1, .ref v2, .ref v3, .ref v4, .ref v5])), (v4, .inr (5, [.int 0, .int 0, .ref v41, .ref v42, .ref v43, .ref v44, .ref v45, .ref v46, .ref v47, .ref v48, .ref v49])), (v3, .inr (10, [.int 0, .ref v31, .ref v32]))] H := hP
  have hD : va_D A [(o0, .inr (11, [.ref o1, .int 0, .ref o3, .ref o2, .ref o4, .ref o5, .ref o6, .ref o7, .ref o8, .ref o9, .ref o10])), (o5, .inr (1, [.int 0, .int 0, .ref d1, .ref d2, .ref d3, .ref d4])), (o1, .inl (cB, 1600, .inl ft)), (v1, .inr (6, [.int 0, .ref v11, .ref v12, .ref v13, .ref v14, .ref v15, .ref v16, .ref v17])), (v2, .inr (4, [.int 0, .ref v21, .int 0, .ref v22, .ref v23, .ref v24])), (v17, .inl (cI, 32, .inl (fun _ => 0))), (v47, .inl (cI, 12, .inl (fun _ => 0))), (o4, .inr (7, [.int 0, .int (-1), .ref s0, .long 0, .int 0])), (s0, .inr (8, [.int 5, .int 0, .long 0, .int 0, .int 0, .ref o1, .ref s1, .int 0, .int 0])), (o3, .inr (3, [.ref v1, .ref v2, .ref v3, .ref v4, .ref v5])), (v4, .inr (5, [.int 0, .int 0, .ref v41, .ref v42, .ref v43, .ref v44, .ref v45, .ref v46, .ref v47, .ref v48, .ref v49])), (v3, .inr (10, [.int 0, .ref v31, .ref v32]))] := hD
  refine lv_aload_n hx hb d_NF_land_86 rfl (lv_at hl 2 rfl) ?_
  refine va_get (D := D) (ci := 11) (v := .ref o5) (C := R_NF) (T := F_NF) (N := 11) hx hb hts i_NF hown hK.1 hP 0 rfl rfl 5 (by decide) (hts _ k_465) (fun _ h9 => h9) rfl d_NF_land_87 ?_
  refine nz_calVv (As := []) (rest := []) C0 (c_Deaths_forget l D cB cI cJ o5 d1 d2 d3 d4) g_NF_98 rfl nz_xb0 (by decide) hl.1 hP hD hS hA [1] [0, 2, 3, 4, 5, 6, 7, 8, 9, 10, 11] rfl (wr := [(o0, .inr (11, [.ref o1, .int 0, .ref o3, .ref o2, .ref o4, .ref o5, .ref o6, .ref o7, .ref o8, .ref o9, .ref o10])), (o1, .inl (cB, 1600, .inl ft)), (v1, .inr (6, [.int 0, .ref v11, .ref v12, .ref v13, .ref v14, .ref v15, .ref v16, .ref v17])), (v2, .inr (4, [.int 0, .ref v21, .int 0, .ref v22, .ref v23, .ref v24])), (v17, .inl (cI, 32, .inl (fun _ => 0))), (v47, .inl (cI, 12, .inl (fun _ => 0))), (o4, .inr (7, [.int 0, .int (-1), .ref s0, .long 0, .int 0])), (s0, .inr (8, [.int 5, .int 0, .long 0, .int 0, .int 0, .ref o1, .ref s1, .int 0, .int 0])), (o3, .inr (3, [.ref v1, .ref v2, .ref v3, .ref v4, .ref v5])), (v4, .inr (5, [.int 0, .int 0, .ref v41, .ref v42, .ref v43, .ref v44, .ref v45, .ref v46, .ref v47, .ref v48, .ref v49])), (v3, .inr (10, [.int 0, .ref v31, .ref v32]))]) rfl (by decide) (by decide) (by decide) rfl rfl (fun _ _ _ => trivial) rfl (Nat.le_of_ble_eq_true rfl) d_NF_land_90 (by decide) (fun u H locs h_8 hP hD hS => ?_)
  have h_8_w := h_8; subst h_8_w
  have hP : va_P D nz_cl [(o0, .inr (11, [.ref o1, .int 0, .ref o3, .ref o2, .ref o4, .ref o5, .ref o6, .ref o7, .ref o8, .ref o9, .ref o10])), (o1, .inl (cB, 1600, .inl ft)), (v1, .inr (6, [.int 0, .ref v11, .ref v12, .ref v13, .ref v14, .ref v15, .ref v16, .ref v17])), (v2, .inr (4, [.int 0, .ref v21, .int 0, .ref v22, .ref v23, .ref v24])), (v17, .inl (cI, 32, .inl (fun _ => 0))), (v47, .inl (cI, 12, .inl (fun _ => 0))), (o4, .inr (7, [.int 0, .int (-1), .ref s0, .long 0, .int 0])), (s0, .inr (8, [.int 5, .int 0, .long 0, .int 0, .int 0, .ref o1, .ref s1, .int 0, .int 0])), (o3, .inr (3, [.ref v1, .ref v2, .ref v3, .ref v4, .ref v5])), (v4, .inr (5, [.int 0, .int 0, .ref v41, .ref v42, .ref v43, .ref v44, .ref v45, .ref v46, .ref v47, .ref v48, .ref v49])), (v3, .inr (10, [.int 0, .ref v31, .ref v32])), (o5, .inr (1, [.int 0, .int 0, .ref d1, .ref d2, .ref d3, .ref d4]))] H := hP
  have hD : va_D A [(o0, .inr (11, [.ref o1, .int 0, .ref o3, .ref o2, .ref o4, .ref o5, .ref o6, .ref o7, .ref o8, .ref o9, .ref o10])), (o1, .inl (cB, 1600, .inl ft)), (v1, .inr (6, [.int 0, .ref v11, .ref v12, .ref v13, .ref v14, .ref v15, .ref v16, .ref v17])), (v2, .inr (4, [.int 0, .ref v21, .int 0, .ref v22, .ref v23, .ref v24])), (v17, .inl (cI, 32, .inl (fun _ => 0))), (v47, .inl (cI, 12, .inl (fun _ => 0))), (o4, .inr (7, [.int 0, .int (-1), .ref s0, .long 0, .int 0])), (s0, .inr (8, [.int 5, .int 0, .long 0, .int 0, .int 0, .ref o1, .ref s1, .int 0, .int 0])), (o3, .inr (3, [.ref v1, .ref v2, .ref v3, .ref v4, .ref v5])), (v4, .inr (5, [.int 0, .int 0, .ref v41, .ref v42, .ref v43, .ref v44, .ref v45, .ref v46, .ref v47, .ref v48, .ref v49])), (v3, .inr (10, [.int 0, .ref v31, .ref v32])), (o5, .inr (1, [.int 0, .int 0, .ref d1, .ref d2, .ref d3, .ref d4]))] := hD
  refine lv_iload_n hx hb d_NF_land_93 rfl (lv_at hl 1 rfl) ?_
  exact nz_reti C0 (hP.sub (ws' := [(o0, .inr (11, [.ref o1, .int 0, .ref o3, .ref o2, .ref o4, .ref o5, .ref o6, .ref o7, .ref o8, .ref o9, .ref o10])), (o4, .inr (7, [.int 0, .int (-1), .ref s0, .long 0, .int 0])), (s0, .inr (8, [.int 5, .int 0, .long 0, .int 0, .int 0, .ref o1, .ref s1, .int 0, .int 0])), (o1, .inl (cB, 1600, .inl ft)), (o3, .inr (3, [.ref v1, .ref v2, .ref v3, .ref v4, .ref v5])), (v1, .inr (6, [.int 0, .ref v11, .ref v12, .ref v13, .ref v14, .ref v15, .ref v16, .ref v17])), (v2, .inr (4, [.int 0, .ref v21, .int 0, .ref v22, .ref v23, .ref v24])), (v3, .inr (10, [.int 0, .ref v31, .ref v32])), (v4, .inr (5, [.int 0, .int 0, .ref v41, .ref v42, .ref v43, .ref v44, .ref v45, .ref v46, .ref v47, .ref v48, .ref v49])), (v17, .inl (cI, 32, .inl (fun _ => 0))), (v47, .inl (cI, 12, .inl (fun _ => 0))), (o5, .inr (1, [.int 0, .int 0, .ref d1, .ref d2, .ref d3, .ref d4]))]) [0, 6, 7, 1, 8, 2, 3, 10, 9, 4, 5, 11] rfl) (hD.sub (ws' := [(o0, .inr (11, [.ref o1, .int 0, .ref o3, .ref o2, .ref o4, .ref o5, .ref o6, .ref o7, .ref o8, .ref o9, .ref o10])), (o4, .inr (7, [.int 0, .int (-1), .ref s0, .long 0, .int 0])), (s0, .inr (8, [.int 5, .int 0, .long 0, .int 0, .int 0, .ref o1, .ref s1, .int 0, .int 0])), (o1, .inl (cB, 1600, .inl ft)), (o3, .inr (3, [.ref v1, .ref v2, .ref v3, .ref v4, .ref v5])), (v1, .inr (6, [.int 0, .ref v11, .ref v12, .ref v13, .ref v14, .ref v15, .ref v16, .ref v17])), (v2, .inr (4, [.int 0, .ref v21, .int 0, .ref v22, .ref v23, .ref v24])), (v3, .inr (10, [.int 0, .ref v31, .ref v32])), (v4, .inr (5, [.int 0, .int 0, .ref v41, .ref v42, .ref v43, .ref v44, .ref v45, .ref v46, .ref v47, .ref v48, .ref v49])), (v17, .inl (cI, 32, .inl (fun _ => 0))), (v47, .inl (cI, 12, .inl (fun _ => 0))), (o5, .inr (1, [.int 0, .int 0, .ref d1, .ref d2, .ref d3, .ref d4]))]) [0, 6, 7, 1, 8, 2, 3, 10, 9, 4, 5, 11] (by decide) rfl) hS ⟨rfl, rfl⟩ d_NF_land_94
set_option maxHeartbeats 4000000 in
set_option maxRecDepth 100000 in
theorem c_Mo_isGood (l : Launch) (D : va_G) (cB cI cJ : ClassId) (m0_ : Nat) (m0 : Nat) (m1 : Nat) (m11 : Nat) (m12 : Nat) (m13 : Nat) (m14 : Nat) (m15 : Nat) (m16 : Nat) (m17 : Nat) (m18 : Nat) (m19 : Nat) (m20 : Nat) (m21 : Nat) (m22 : Nat) (m23 : Nat) (m24 : Nat) (m25 : Nat) (m26 : Nat) (m27 : Nat) (m28 : Nat) (m29 : Nat) (m30 : Nat) (m31 : Nat) (m32 : Nat) (m33 : Nat) (m34 : Nat) (m35 : Nat) (m36 : Nat) (m37 : Nat) (m38 : Nat) (m41 : Nat) (m42 : Nat) (m43 : Nat) (m44 : Nat) (m47 : Nat) (m48 : Nat) (m49 : Nat) (m50 : Nat) (m51 : Nat) (m52 : Nat) (m53 : Nat) (m54 : Nat) : nz_Ci l D cB cI cJ nz_x0 y_Mo_isGood b_Mo_isGood 1 (some .boolean) { frames := 0, cells := 0, slots := 0, locals := 0 } [.ref m0_] [(m0_, .inr (12, [.ref m0, .ref m1, .int 0, .int 0, .int 0, .int (-1), .int 0, .int 0, .int 0, .int 0, .long 0, .ref m11, .ref m12, .ref m13, .ref m14, .ref m15, .ref m16, .ref m17, .ref m18, .ref m19, .ref m20, .ref m21, .ref m22, .ref m23, .ref m24, .ref m25, .ref m26, .ref m27, .ref m28, .ref m29, .ref m30, .ref m31, .ref m32, .ref m33, .ref m34, .ref m35, .ref m36, .ref m37, .ref m38, .int 0, .int 1, .ref m41, .ref m42, .ref m43, .ref m44, .int 0, .int 0, .ref m47, .ref m48, .ref m49, .ref m50, .ref m51, .ref m52, .ref m53, .ref m54]))] (fun r w => r = 1 ∧ w = [(m0_, .inr (12, [.ref m0, .ref m1, .int 0, .int 0, .int 0, .int (-1), .int 0, .int 0, .int 0, .int 0, .long 0, .ref m11, .ref m12, .ref m13, .ref m14, .ref m15, .ref m16, .ref m17, .ref m18, .ref m19, .ref m20, .ref m21, .ref m22, .ref m23, .ref m24, .ref m25, .ref m26, .ref m27, .ref m28, .ref m29, .ref m30, .ref m31, .ref m32, .ref m33, .ref m34, .ref m35, .ref m36, .ref m37, .ref m38, .int 0, .int 1, .ref m41, .ref m42, .ref m43, .ref m44, .int 0, .int 0, .ref m47, .ref m48, .ref m49, .ref m50, .ref m51, .ref m52, .ref m53, .ref m54]))]) := by
  refine nz_Ci.mk (by decide) (Nat.le_of_ble_eq_true rfl) ?_
  intro p e s m below meth c A ls C0 hnm hP hD hS hA hX hl
  have C0 : nz_Cx p s m _ meth c b_Mo_isGood 1 (some .boolean) R_Mo D cB cI cJ := C0
  obtain ⟨hx, hb, hr, hml, hown, hts, hlk, hK⟩ := id C0
  have hl : lv_has ls 1 [(0, .ref m0_)] := hl
  refine lv_aload_n hx hb d_Mo_isGood_0 rfl (lv_at hl 0 rfl) ?_
  refine va_get (D := D) (ci := 12) (v := .int 0) (C := R_Mo) (T := F_Mo) (N := 55) hx hb hts i_Mo hown hK.1 hP 0 rfl rfl 4 (by decide) (hts _ k_1022) (fun _ h9 => h9) rfl d_Mo_isGood_1 ?_
  refine lv_if_ne (tgt := 11) hx hb d_Mo_isGood_4 (by decide) (fun c_1 => absurd c_1 (by decide +kernel)) (fun c_1 => ?_)
  refine lv_iconst (v := 1) hx hb d_Mo_isGood_7 (by decide +kernel) ?_
  refine lv_goto (tgt := 12) hx hb d_Mo_isGood_8 (by decide) ?_
  exact nz_retz C0 (by decide +kernel) (hP.sub (ws' := [(m0_, .inr (12, [.ref m0, .ref m1, .int 0, .int 0, .int 0, .int (-1), .int 0, .int 0, .int 0, .int 0, .long 0, .ref m11, .ref m12, .ref m13, .ref m14, .ref m15, .ref m16, .ref m17, .ref m18, .ref m19, .ref m20, .ref m21, .ref m22, .ref m23, .ref m24, .ref m25, .ref m26, .ref m27, .ref m28, .ref m29, .ref m30, .ref m31, .ref m32, .ref m33, .ref m34, .ref m35, .ref m36, .ref m37, .ref m38, .int 0, .int 1, .ref m41, .ref m42, .ref m43, .ref m44, .int 0, .int 0, .ref m47, .ref m48, .ref m49, .ref m50, .ref m51, .ref m52, .ref m53, .ref m54]))]) [0] rfl) (hD.sub (ws' := [(m0_, .inr (12, [.ref m0, .ref m1, .int 0, .int 0, .int 0, .int (-1), .int 0, .int 0, .int 0, .int 0, .long 0, .ref m11, .ref m12, .ref m13, .ref m14, .ref m15, .ref m16, .ref m17, .ref m18, .ref m19, .ref m20, .ref m21, .ref m22, .ref m23, .ref m24, .ref m25, .ref m26, .ref m27, .ref m28, .ref m29, .ref m30, .ref m31, .ref m32, .ref m33, .ref m34, .ref m35, .ref m36, .ref m37, .ref m38, .int 0, .int 1, .ref m41, .ref m42, .ref m43, .ref m44, .int 0, .int 0, .ref m47, .ref m48, .ref m49, .ref m50, .ref m51, .ref m52, .ref m53, .ref m54]))]) [0] (by decide) rfl) hS ⟨rfl, rfl⟩ d_Mo_isGood_12
set_option maxHeartbeats 4000000 in
set_option maxRecDepth 100000 in
theorem c_Mo_sign (l : Launch) (D : va_G) (cB cI cJ : ClassId) (m0_ : Nat) (m0 : Nat) (m1 : Nat) (m11 : Nat) (m12 : Nat) (m13 : Nat) (m14 : Nat) (m15 : Nat) (m16 : Nat) (m17 : Nat) (m18 : Nat) (m19 : Nat) (m20 : Nat) (m21 : Nat) (m22 : Nat) (m23 : Nat) (m24 : Nat) (m25 : Nat) (m26 : Nat) (m27 : Nat) (m28 : Nat) (m29 : Nat) (m30 : Nat) (m31 : Nat) (m32 : Nat) (m33 : Nat) (m34 : Nat) (m35 : Nat) (m36 : Nat) (m37 : Nat) (m38 : Nat) (m41 : Nat) (m42 : Nat) (m43 : Nat) (m44 : Nat) (m47 : Nat) (m48 : Nat) (m49 : Nat) (m50 : Nat) (m51 : Nat) (m52 : Nat) (m53 : Nat) (m54 : Nat) : nz_Ci l D cB cI cJ nz_x0 y_Mo_sign b_Mo_sign 2 (some .int) { frames := 0, cells := 0, slots := 0, locals := 0 } [.ref m0_, .int 0] [(m0_, .inr (12, [.ref m0, .ref m1, .int 0, .int 0, .int 0, .int (-1), .int 0, .int 0, .int 0, .int 0, .long 0, .ref m11, .ref m12, .ref m13, .ref m14, .ref m15, .ref m16, .ref m17, .ref m18, .ref m19, .ref m20, .ref m21, .ref m22, .ref m23, .ref m24, .ref m25, .ref m26, .ref m27, .ref m28, .ref m29, .ref m30, .ref m31, .ref m32, .ref m33, .ref m34, .ref m35, .ref m36, .ref m37, .ref m38, .int 0, .int 1, .ref m41, .ref m42, .ref m43, .ref m44, .int 0, .int 0, .ref m47, .ref m48, .ref m49, .ref m50, .ref m51, .ref m52, .ref m53, .ref m54]))] (fun r w => r = 0 ∧ w = [(m0_, .inr (12, [.ref m0, .ref m1, .int 0, .int 0, .int 0, .int (-1), .int 0, .int 0, .int 0, .int 0, .long 0, .ref m11, .ref m12, .ref m13, .ref m14, .ref m15, .ref m16, .ref m17, .ref m18, .ref m19, .ref m20, .ref m21, .ref m22, .ref m23, .ref m24, .ref m25, .ref m26, .ref m27, .ref m28, .ref m29, .ref m30, .ref m31, .ref m32, .ref m33, .ref m34, .ref m35, .ref m36, .ref m37, .ref m38, .int 0, .int 1, .ref m41, .ref m42, .ref m43, .ref m44, .int 0, .int 0, .ref m47, .ref m48, .ref m49, .ref m50, .ref m51, .ref m52, .ref m53, .ref m54]))]) := by
  refine nz_Ci.mk (by decide) (Nat.le_of_ble_eq_true rfl) ?_
  intro p e s m below meth c A ls C0 hnm hP hD hS hA hX hl
  have C0 : nz_Cx p s m _ meth c b_Mo_sign 2 (some .int) R_Mo D cB cI cJ := C0
  obtain ⟨hx, hb, hr, hml, hown, hts, hlk, hK⟩ := id C0
  have hl : lv_has ls 2 [(0, .ref m0_), (1, .int 0)] := hl
  refine lv_iload_n hx hb d_Mo_sign_0 rfl (lv_at hl 1 rfl) ?_
  refine lv_aload_n hx hb d_Mo_sign_1 rfl (lv_at hl 0 rfl) ?_
  refine va_get (D := D) (ci := 12) (v := .int 0) (C := R_Mo) (T := F_Mo) (N := 55) hx hb hts i_Mo hown hK.1 hP 0 rfl rfl 3 (by decide) (hts _ k_1021) (fun _ h9 => h9) rfl d_Mo_sign_2 ?_
  refine lv_icmp_ge (tgt := 21) hx hb d_Mo_sign_5 (by decide) (fun c_1 => ?_) (fun c_1 => absurd (by decide +kernel) c_1)
  refine lv_iconst (v := 0) hx hb d_Mo_sign_21 (by decide +kernel) ?_
  exact nz_reti C0 (hP.sub (ws' := [(m0_, .inr (12, [.ref m0, .ref m1, .int 0, .int 0, .int 0, .int (-1), .int 0, .int 0, .int 0, .int 0, .long 0, .ref m11, .ref m12, .ref m13, .ref m14, .ref m15, .ref m16, .ref m17, .ref m18, .ref m19, .ref m20, .ref m21, .ref m22, .ref m23, .ref m24, .ref m25, .ref m26, .ref m27, .ref m28, .ref m29, .ref m30, .ref m31, .ref m32, .ref m33, .ref m34, .ref m35, .ref m36, .ref m37, .ref m38, .int 0, .int 1, .ref m41, .ref m42, .ref m43, .ref m44, .int 0, .int 0, .ref m47, .ref m48, .ref m49, .ref m50, .ref m51, .ref m52, .ref m53, .ref m54]))]) [0] rfl) (hD.sub (ws' := [(m0_, .inr (12, [.ref m0, .ref m1, .int 0, .int 0, .int 0, .int (-1), .int 0, .int 0, .int 0, .int 0, .long 0, .ref m11, .ref m12, .ref m13, .ref m14, .ref m15, .ref m16, .ref m17, .ref m18, .ref m19, .ref m20, .ref m21, .ref m22, .ref m23, .ref m24, .ref m25, .ref m26, .ref m27, .ref m28, .ref m29, .ref m30, .ref m31, .ref m32, .ref m33, .ref m34, .ref m35, .ref m36, .ref m37, .ref m38, .int 0, .int 1, .ref m41, .ref m42, .ref m43, .ref m44, .int 0, .int 0, .ref m47, .ref m48, .ref m49, .ref m50, .ref m51, .ref m52, .ref m53, .ref m54]))]) [0] (by decide) rfl) hS ⟨rfl, rfl⟩ d_Mo_sign_22
set_option maxHeartbeats 4000000 in
set_option maxRecDepth 100000 in
theorem c_Mo_goOn (l : Launch) (D : va_G) (cB cI cJ : ClassId) (m0_ : Nat) (m0 : Nat) (m1 : Nat) (m11 : Nat) (m12 : Nat) (m13 : Nat) (m14 : Nat) (m15 : Nat) (m16 : Nat) (m17 : Nat) (m18 : Nat) (m19 : Nat) (m20 : Nat) (m21 : Nat) (m22 : Nat) (m23 : Nat) (m24 : Nat) (m25 : Nat) (m26 : Nat) (m27 : Nat) (m28 : Nat) (m29 : Nat) (m30 : Nat) (m31 : Nat) (m32 : Nat) (m33 : Nat) (m34 : Nat) (m35 : Nat) (m36 : Nat) (m37 : Nat) (m38 : Nat) (m41 : Nat) (m42 : Nat) (m43 : Nat) (m44 : Nat) (m47 : Nat) (m48 : Nat) (m49 : Nat) (m50 : Nat) (m51 : Nat) (m52 : Nat) (m53 : Nat) (m54 : Nat) : nz_Cv l D cB cI cJ nz_x0 y_Mo_goOn b_Mo_goOn 3 none { frames := 1, cells := 0, slots := 0, locals := 21 } [.ref m0_] [(m0_, .inr (12, [.ref m0, .ref m1, .int 0, .int 0, .int 0, .int (-1), .int 0, .int 0, .int 0, .int 0, .long 0, .ref m11, .ref m12, .ref m13, .ref m14, .ref m15, .ref m16, .ref m17, .ref m18, .ref m19, .ref m20, .ref m21, .ref m22, .ref m23, .ref m24, .ref m25, .ref m26, .ref m27, .ref m28, .ref m29, .ref m30, .ref m31, .ref m32, .ref m33, .ref m34, .ref m35, .ref m36, .ref m37, .ref m38, .int 0, .int 1, .ref m41, .ref m42, .ref m43, .ref m44, .int 0, .int 0, .ref m47, .ref m48, .ref m49, .ref m50, .ref m51, .ref m52, .ref m53, .ref m54]))] (fun w => w = [(m0_, .inr (12, [.ref m0, .ref m1, .int 0, .int 0, .int 0, .int (-1), .int 0, .int 0, .int 0, .int 0, .long 0, .ref m11, .ref m12, .ref m13, .ref m14, .ref m15, .ref m16, .ref m17, .ref m18, .ref m19, .ref m20, .ref m21, .ref m22, .ref m23, .ref m24, .ref m25, .ref m26, .ref m27, .ref m28, .ref m29, .ref m30, .ref m31, .ref m32, .ref m33, .ref m34, .ref m35, .ref m36, .ref m37, .ref m38, .int 0, .int 1, .ref m41, .ref m42, .ref m43, .ref m44, .int 0, .int 0, .ref m47, .ref m48, .ref m49, .ref m50, .ref m51, .ref m52, .ref m53, .ref m54]))]) := by
  refine nz_Cv.mk (by decide) (Nat.le_of_ble_eq_true rfl) ?_
  intro p e s m below meth c A ls C0 hnm hP hD hS hA hX hl
  have C0 : nz_Cx p s m _ meth c b_Mo_goOn 3 none R_Mo D cB cI cJ := C0
  obtain ⟨hx, hb, hr, hml, hown, hts, hlk, hK⟩ := id C0
  have hl : lv_has ls 3 [(0, .ref m0_)] := hl
  refine lv_aload_n hx hb d_Mo_goOn_0 rfl (lv_at hl 0 rfl) ?_
  refine lv_aload_n hx hb d_Mo_goOn_1 rfl (lv_at hl 0 rfl) ?_
  refine va_get (D := D) (ci := 12) (v := .int 0) (C := R_Mo) (T := F_Mo) (N := 55) hx hb hts i_Mo hown hK.1 hP 0 rfl rfl 7 (by decide) (hts _ k_1025) (fun _ h9 => h9) rfl d_Mo_goOn_2 ?_
  refine va_put (D := D) (ci := 12) (v := .int 0) (ty := .int) (C := R_Mo) (T := F_Mo) (N := 55) hx hb hts i_Mo t_Mo t_Mo_ok n_Mo hown hK.1 hP hD hS 0 rfl rfl 6 (by decide) (hts _ k_1024) (fun _ h9 => h9) rfl (by decide +kernel) rfl rfl (Nat.le_of_ble_eq_true rfl) d_Mo_goOn_5 (fun H locs hP hD hS => ?_)
  have hP : va_P D nz_cl [(m0_, .inr (12, [.ref m0, .ref m1, .int 0, .int 0, .int 0, .int (-1), .int 0, .int 0, .int 0, .int 0, .long 0, .ref m11, .ref m12, .ref m13, .ref m14, .ref m15, .ref m16, .ref m17, .ref m18, .ref m19, .ref m20, .ref m21, .ref m22, .ref m23, .ref m24, .ref m25, .ref m26, .ref m27, .ref m28, .ref m29, .ref m30, .ref m31, .ref m32, .ref m33, .ref m34, .ref m35, .ref m36, .ref m37, .ref m38, .int 0, .int 1, .ref m41, .ref m42, .ref m43, .ref m44, .int 0, .int 0, .ref m47, .ref m48, .ref m49, .ref m50, .ref m51, .ref m52, .ref m53, .ref m54]))] H := hP
  have hD : va_D A [(m0_, .inr (12, [.ref m0, .ref m1, .int 0, .int 0, .int 0, .int (-1), .int 0, .int 0, .int 0, .int 0, .long 0, .ref m11, .ref m12, .ref m13, .ref m14, .ref m15, .ref m16, .ref m17, .ref m18, .ref m19, .ref m20, .ref m21, .ref m22, .ref m23, .ref m24, .ref m25, .ref m26, .ref m27, .ref m28, .ref m29, .ref m30, .ref m31, .ref m32, .ref m33, .ref m34, .ref m35, .ref m36, .ref m37, .ref m38, .int 0, .int 1, .ref m41, .ref m42, .ref m43, .ref m44, .int 0, .int 0, .ref m47, .ref m48, .ref m49, .ref m50, .ref m51, .ref m52, .ref m53, .ref m54]))] := hD
  refine lv_aload_n hx hb d_Mo_goOn_8 rfl (lv_at hl 0 rfl) ?_
  refine va_get (D := D) (ci := 12) (v := .int 0) (C := R_Mo) (T := F_Mo) (N := 55) hx hb hts i_Mo hown hK.1 hP 0 rfl rfl 6 (by decide) (hts _ k_1024) (fun _ h9 => h9) rfl d_Mo_goOn_9 ?_
  refine lv_aload_n hx hb d_Mo_goOn_12 rfl (lv_at hl 0 rfl) ?_
  refine va_get (D := D) (ci := 12) (v := .int 0) (C := R_Mo) (T := F_Mo) (N := 55) hx hb hts i_Mo hown hK.1 hP 0 rfl rfl 3 (by decide) (hts _ k_1021) (fun _ h9 => h9) rfl d_Mo_goOn_13 ?_
  refine lv_icmp_ge (tgt := 58) hx hb d_Mo_goOn_16 (by decide) (fun c_1 => ?_) (fun c_1 => absurd (by decide +kernel) c_1)
  refine lv_aload_n hx hb d_Mo_goOn_58 rfl (lv_at hl 0 rfl) ?_
  refine lv_aload_n hx hb d_Mo_goOn_59 rfl (lv_at hl 0 rfl) ?_
  refine va_get (D := D) (ci := 12) (v := .int 0) (C := R_Mo) (T := F_Mo) (N := 55) hx hb hts i_Mo hown hK.1 hP 0 rfl rfl 6 (by decide) (hts _ k_1024) (fun _ h9 => h9) rfl d_Mo_goOn_60 ?_
  refine nz_calVi (As := [.int 0]) (rest := []) C0 (c_Mo_sign l D cB cI cJ m0_ m0 m1 m11 m12 m13 m14 m15 m16 m17 m18 m19 m20 m21 m22 m23 m24 m25 m26 m27 m28 m29 m30 m31 m32 m33 m34 m35 m36 m37 m38 m41 m42 m43 m44 m47 m48 m49 m50 m51 m52 m53 m54) g_Mo_198 rfl nz_xb0 (by decide) hl.1 hP hD hS hA [0] [] rfl (wr := []) rfl (by decide) (by decide) (by decide) rfl rfl (fun _ _ _ => trivial) rfl (Nat.le_of_ble_eq_true rfl) d_Mo_goOn_63 (by decide) (fun r_2 u H locs h_3 hP hD hS => ?_)
  obtain ⟨h_3_r, rfl⟩ := h_3
  have hP : va_P D nz_cl [(m0_, .inr (12, [.ref m0, .ref m1, .int 0, .int 0, .int 0, .int (-1), .int 0, .int 0, .int 0, .int 0, .long 0, .ref m11, .ref m12, .ref m13, .ref m14, .ref m15, .ref m16, .ref m17, .ref m18, .ref m19, .ref m20, .ref m21, .ref m22, .ref m23, .ref m24, .ref m25, .ref m26, .ref m27, .ref m28, .ref m29, .ref m30, .ref m31, .ref m32, .ref m33, .ref m34, .ref m35, .ref m36, .ref m37, .ref m38, .int 0, .int 1, .ref m41, .ref m42, .ref m43, .ref m44, .int 0, .int 0, .ref m47, .ref m48, .ref m49, .ref m50, .ref m51, .ref m52, .ref m53, .ref m54]))] H := hP
  have hD : va_D A [(m0_, .inr (12, [.ref m0, .ref m1, .int 0, .int 0, .int 0, .int (-1), .int 0, .int 0, .int 0, .int 0, .long 0, .ref m11, .ref m12, .ref m13, .ref m14, .ref m15, .ref m16, .ref m17, .ref m18, .ref m19, .ref m20, .ref m21, .ref m22, .ref m23, .ref m24, .ref m25, .ref m26, .ref m27, .ref m28, .ref m29, .ref m30, .ref m31, .ref m32, .ref m33, .ref m34, .ref m35, .ref m36, .ref m37, .ref m38, .int 0, .int 1, .ref m41, .ref m42, .ref m43, .ref m44, .int 0, .int 0, .ref m47, .ref m48, .ref m49, .ref m50, .ref m51, .ref m52, .ref m53, .ref m54]))] := hD
  subst h_3_r
  refine lv_istore_n (lv' := [(1, .int 0), (0, .ref m0_)]) hx hb d_Mo_goOn_66 rfl hl (by decide) rfl (fun ls hl => ?_)
  refine lv_aload_n hx hb d_Mo_goOn_67 rfl (lv_at hl 1 rfl) ?_
  refine lv_aload_n hx hb d_Mo_goOn_68 rfl (lv_at hl 1 rfl) ?_
  refine va_get (D := D) (ci := 12) (v := .int 0) (C := R_Mo) (T := F_Mo) (N := 55) hx hb hts i_Mo hown hK.1 hP 0 rfl rfl 6 (by decide) (hts _ k_1024) (fun _ h9 => h9) rfl d_Mo_goOn_69 ?_
  refine lv_iconst (v := 1) hx hb d_Mo_goOn_72 (by decide +kernel) ?_
  refine lv_iadd hx hb d_Mo_goOn_73 ?_
  refine nz_ctopi (v := 1) (by decide +kernel) ?_
  refine va_put (D := D) (ci := 12) (v := .int 1) (ty := .int) (C := R_Mo) (T := F_Mo) (N := 55) hx hb hts i_Mo t_Mo t_Mo_ok n_Mo hown hK.1 hP hD hS 0 rfl rfl 7 (by decide) (hts _ k_1025) (fun _ h9 => h9) rfl (by decide +kernel) rfl rfl (Nat.le_of_ble_eq_true rfl) d_Mo_goOn_74 (fun H locs hP hD hS => ?_)
  have hP : va_P D nz_cl [(m0_, .inr (12, [.ref m0, .ref m1, .int 0, .int 0, .int 0, .int (-1), .int 0, .int 1, .int 0, .int 0, .long 0, .ref m11, .ref m12, .ref m13, .ref m14, .ref m15, .ref m16, .ref m17, .ref m18, .ref m19, .ref m20, .ref m21, .ref m22, .ref m23, .ref m24, .ref m25, .ref m26, .ref m27, .ref m28, .ref m29, .ref m30, .ref m31, .ref m32, .ref m33, .ref m34, .ref m35, .ref m36, .ref m37, .ref m38, .int 0, .int 1, .ref m41, .ref m42, .ref m43, .ref m44, .int 0, .int 0, .ref m47, .ref m48, .ref m49, .ref m50, .ref m51, .ref m52, .ref m53, .ref m54]))] H := hP
  have hD : va_D A [(m0_, .inr (12, [.ref m0, .ref m1, .int 0, .int 0, .int 0, .int (-1), .int 0, .int 1, .int 0, .int 0, .long 0, .ref m11, .ref m12, .ref m13, .ref m14, .ref m15, .ref m16, .ref m17, .ref m18, .ref m19, .ref m20, .ref m21, .ref m22, .ref m23, .ref m24, .ref m25, .ref m26, .ref m27, .ref m28, .ref m29, .ref m30, .ref m31, .ref m32, .ref m33, .ref m34, .ref m35, .ref m36, .ref m37, .ref m38, .int 0, .int 1, .ref m41, .ref m42, .ref m43, .ref m44, .int 0, .int 0, .ref m47, .ref m48, .ref m49, .ref m50, .ref m51, .ref m52, .ref m53, .ref m54]))] := hD
  refine lv_aload_n hx hb d_Mo_goOn_77 rfl (lv_at hl 1 rfl) ?_
  refine va_get (D := D) (ci := 12) (v := .int 0) (C := R_Mo) (T := F_Mo) (N := 55) hx hb hts i_Mo hown hK.1 hP 0 rfl rfl 6 (by decide) (hts _ k_1024) (fun _ h9 => h9) rfl d_Mo_goOn_78 ?_
  refine lv_aload_n hx hb d_Mo_goOn_81 rfl (lv_at hl 1 rfl) ?_
  refine va_get (D := D) (ci := 12) (v := .int 0) (C := R_Mo) (T := F_Mo) (N := 55) hx hb hts i_Mo hown hK.1 hP 0 rfl rfl 3 (by decide) (hts _ k_1021) (fun _ h9 => h9) rfl d_Mo_goOn_82 ?_
  refine lv_icmp_lt (tgt := 112) hx hb d_Mo_goOn_85 (by decide) (fun c_4 => absurd c_4 (by decide +kernel)) (fun c_4 => ?_)
  refine lv_aload_n hx hb d_Mo_goOn_88 rfl (lv_at hl 1 rfl) ?_
  refine lv_iconst (v := 0) hx hb d_Mo_goOn_89 (by decide +kernel) ?_
  refine va_put (D := D) (ci := 12) (v := .int 0) (ty := .int) (C := R_Mo) (T := F_Mo) (N := 55) hx hb hts i_Mo t_Mo t_Mo_ok n_Mo hown hK.1 hP hD hS 0 rfl rfl 8 (by decide) (hts _ k_1026) (fun _ h9 => h9) rfl (by decide +kernel) rfl rfl (Nat.le_of_ble_eq_true rfl) d_Mo_goOn_90 (fun H locs hP hD hS => ?_)
  have hP : va_P D nz_cl [(m0_, .inr (12, [.ref m0, .ref m1, .int 0, .int 0, .int 0, .int (-1), .int 0, .int 1, .int 0, .int 0, .long 0, .ref m11, .ref m12, .ref m13, .ref m14, .ref m15, .ref m16, .ref m17, .ref m18, .ref m19, .ref m20, .ref m21, .ref m22, .ref m23, .ref m24, .ref m25, .ref m26, .ref m27, .ref m28, .ref m29, .ref m30, .ref m31, .ref m32, .ref m33, .ref m34, .ref m35, .ref m36, .ref m37, .ref m38, .int 0, .int 1, .ref m41, .ref m42, .ref m43, .ref m44, .int 0, .int 0, .ref m47, .ref m48, .ref m49, .ref m50, .ref m51, .ref m52, .ref m53, .ref m54]))] H := hP
  have hD : va_D A [(m0_, .inr (12, [.ref m0, .ref m1, .int 0, .int 0, .int 0, .int (-1), .int 0, .int 1, .int 0, .int 0, .long 0, .ref m11, .ref m12, .ref m13, .ref m14, .ref m15, .ref m16, .ref m17, .ref m18, .ref m19, .ref m20, .ref m21, .ref m22, .ref m23, .ref m24, .ref m25, .ref m26, .ref m27, .ref m28, .ref m29, .ref m30, .ref m31, .ref m32, .ref m33, .ref m34, .ref m35, .ref m36, .ref m37, .ref m38, .int 0, .int 1, .ref m41, .ref m42, .ref m43, .ref m44, .int 0, .int 0, .ref m47, .ref m48, .ref m49, .ref m50, .ref m51, .ref m52, .ref m53, .ref m54]))] := hD
  refine lv_aload_n hx hb d_Mo_goOn_93 rfl (lv_at hl 1 rfl) ?_
  refine lv_aload_n hx hb d_Mo_goOn_94 rfl (lv_at hl 1 rfl) ?_
  refine va_get (D := D) (ci := 12) (v := .int 0) (C := R_Mo) (T := F_Mo) (N := 55) hx hb hts i_Mo hown hK.1 hP 0 rfl rfl 3 (by decide) (hts _ k_1021) (fun _ h9 => h9) rfl d_Mo_goOn_95 ?_
  refine va_put (D := D) (ci := 12) (v := .int 0) (ty := .int) (C := R_Mo) (T := F_Mo) (N := 55) hx hb hts i_Mo t_Mo t_Mo_ok n_Mo hown hK.1 hP hD hS 0 rfl rfl 6 (by decide) (hts _ k_1024) (fun _ h9 => h9) rfl (by decide +kernel) rfl rfl (Nat.le_of_ble_eq_true rfl) d_Mo_goOn_98 (fun H locs hP hD hS => ?_)
  have hP : va_P D nz_cl [(m0_, .inr (12, [.ref m0, .ref m1, .int 0, .int 0, .int 0, .int (-1), .int 0, .int 1, .int 0, .int 0, .long 0, .ref m11, .ref m12, .ref m13, .ref m14, .ref m15, .ref m16, .ref m17, .ref m18, .ref m19, .ref m20, .ref m21, .ref m22, .ref m23, .ref m24, .ref m25, .ref m26, .ref m27, .ref m28, .ref m29, .ref m30, .ref m31, .ref m32, .ref m33, .ref m34, .ref m35, .ref m36, .ref m37, .ref m38, .int 0, .int 1, .ref m41, .ref m42, .ref m43, .ref m44, .int 0, .int 0, .ref m47, .ref m48, .ref m49, .ref m50, .ref m51, .ref m52, .ref m53, .ref m54]))] H := hP
  have hD : va_D A [(m0_, .inr (12, [.ref m0, .ref m1, .int 0, .int 0, .int 0, .int (-1), .int 0, .int 1, .int 0, .int 0, .long 0, .ref m11, .ref m12, .ref m13, .ref m14, .ref m15, .ref m16, .ref m17, .ref m18, .ref m19, .ref m20, .ref m21, .ref m22, .ref m23, .ref m24, .ref m25, .ref m26, .ref m27, .ref m28, .ref m29, .ref m30, .ref m31, .ref m32, .ref m33, .ref m34, .ref m35, .ref m36, .ref m37, .ref m38, .int 0, .int 1, .ref m41, .ref m42, .ref m43, .ref m44, .int 0, .int 0, .ref m47, .ref m48, .ref m49, .ref m50, .ref m51, .ref m52, .ref m53, .ref m54]))] := hD
  refine lv_aload_n hx hb d_Mo_goOn_101 rfl (lv_at hl 1 rfl) ?_
  refine lv_aload_n hx hb d_Mo_goOn_102 rfl (lv_at hl 1 rfl) ?_
  refine va_get (D := D) (ci := 12) (v := .int 0) (C := R_Mo) (T := F_Mo) (N := 55) hx hb hts i_Mo hown hK.1 hP 0 rfl rfl 3 (by decide) (hts _ k_1021) (fun _ h9 => h9) rfl d_Mo_goOn_103 ?_
  refine va_put (D := D) (ci := 12) (v := .int 0) (ty := .int) (C := R_Mo) (T := F_Mo) (N := 55) hx hb hts i_Mo t_Mo t_Mo_ok n_Mo hown hK.1 hP hD hS 0 rfl rfl 7 (by decide) (hts _ k_1025) (fun _ h9 => h9) rfl (by decide +kernel) rfl rfl (Nat.le_of_ble_eq_true rfl) d_Mo_goOn_106 (fun H locs hP hD hS => ?_)
  have hP : va_P D nz_cl [(m0_, .inr (12, [.ref m0, .ref m1, .int 0, .int 0, .int 0, .int (-1), .int 0, .int 0, .int 0, .int 0, .long 0, .ref m11, .ref m12, .ref m13, .ref m14, .ref m15, .ref m16, .ref m17, .ref m18, .ref m19, .ref m20, .ref m21, .ref m22, .ref m23, .ref m24, .ref m25, .ref m26, .ref m27, .ref m28, .ref m29, .ref m30, .ref m31, .ref m32, .ref m33, .ref m34, .ref m35, .ref m36, .ref m37, .ref m38, .int 0, .int 1, .ref m41, .ref m42, .ref m43, .ref m44, .int 0, .int 0, .ref m47, .ref m48, .ref m49, .ref m50, .ref m51, .ref m52, .ref m53, .ref m54]))] H := hP
  have hD : va_D A [(m0_, .inr (12, [.ref m0, .ref m1, .int 0, .int 0, .int 0, .int (-1), .int 0, .int 0, .int 0, .int 0, .long 0, .ref m11, .ref m12, .ref m13, .ref m14, .ref m15, .ref m16, .ref m17, .ref m18, .ref m19, .ref m20, .ref m21, .ref m22, .ref m23, .ref m24, .ref m25, .ref m26, .ref m27, .ref m28, .ref m29, .ref m30, .ref m31, .ref m32, .ref m33, .ref m34, .ref m35, .ref m36, .ref m37, .ref m38, .int 0, .int 1, .ref m41, .ref m42, .ref m43, .ref m44, .int 0, .int 0, .ref m47, .ref m48, .ref m49, .ref m50, .ref m51, .ref m52, .ref m53, .ref m54]))] := hD
  refine lv_goto (tgt := 376) hx hb d_Mo_goOn_109 (by decide) ?_
  exact nz_retv C0 (hP.sub (ws' := [(m0_, .inr (12, [.ref m0, .ref m1, .int 0, .int 0, .int 0, .int (-1), .int 0, .int 0, .int 0, .int 0, .long 0, .ref m11, .ref m12, .ref m13, .ref m14, .ref m15, .ref m16, .ref m17, .ref m18, .ref m19, .ref m20, .ref m21, .ref m22, .ref m23, .ref m24, .ref m25, .ref m26, .ref m27, .ref m28, .ref m29, .ref m30, .ref m31, .ref m32, .ref m33, .ref m34, .ref m35, .ref m36, .ref m37, .ref m38, .int 0, .int 1, .ref m41, .ref m42, .ref m43, .ref m44, .int 0, .int 0, .ref m47, .ref m48, .ref m49, .ref m50, .ref m51, .ref m52, .ref m53, .ref m54]))]) [0] rfl) (hD.sub (ws' := [(m0_, .inr (12, [.ref m0, .ref m1, .int 0, .int 0, .int 0, .int (-1), .int 0, .int 0, .int 0, .int 0, .long 0, .ref m11, .ref m12, .ref m13, .ref m14, .ref m15, .ref m16, .ref m17, .ref m18, .ref m19, .ref m20, .ref m21, .ref m22, .ref m23, .ref m24, .ref m25, .ref m26, .ref m27, .ref m28, .ref m29, .ref m30, .ref m31, .ref m32, .ref m33, .ref m34, .ref m35, .ref m36, .ref m37, .ref m38, .int 0, .int 1, .ref m41, .ref m42, .ref m43, .ref m44, .int 0, .int 0, .ref m47, .ref m48, .ref m49, .ref m50, .ref m51, .ref m52, .ref m53, .ref m54]))]) [0] (by decide) rfl) hS rfl d_Mo_goOn_376
set_option maxHeartbeats 4000000 in
set_option maxRecDepth 100000 in
theorem c_Mo_layNear (l : Launch) (D : va_G) (cB cI cJ : ClassId) (m0_ : Nat) (m0 : Nat) (m1 : Nat) (m11 : Nat) (m12 : Nat) (m13 : Nat) (m14 : Nat) (m15 : Nat) (m16 : Nat) (m17 : Nat) (m18 : Nat) (m19 : Nat) (m20 : Nat) (m21 : Nat) (m22 : Nat) (m23 : Nat) (m24 : Nat) (m25 : Nat) (m26 : Nat) (m27 : Nat) (m28 : Nat) (m29 : Nat) (m30 : Nat) (m31 : Nat) (m32 : Nat) (m33 : Nat) (m34 : Nat) (m35 : Nat) (m36 : Nat) (m37 : Nat) (m38 : Nat) (m41 : Nat) (m42 : Nat) (m43 : Nat) (m44 : Nat) (m47 : Nat) (m48 : Nat) (m49 : Nat) (m50 : Nat) (m51 : Nat) (m52 : Nat) (m53 : Nat) (m54 : Nat) : nz_Cv l D cB cI cJ nz_x0 y_Mo_layNear b_Mo_layNear 5 none { frames := 0, cells := 0, slots := 0, locals := 0 } [.ref m0_] [(m0_, .inr (12, [.ref m0, .ref m1, .int 0, .int 0, .int 0, .int (-1), .int 0, .int 0, .int 0, .int 0, .long 0, .ref m11, .ref m12, .ref m13, .ref m14, .ref m15, .ref m16, .ref m17, .ref m18, .ref m19, .ref m20, .ref m21, .ref m22, .ref m23, .ref m24, .ref m25, .ref m26, .ref m27, .ref m28, .ref m29, .ref m30, .ref m31, .ref m32, .ref m33, .ref m34, .ref m35, .ref m36, .ref m37, .ref m38, .int 1, .int 1, .ref m41, .ref m42, .ref m43, .ref m44, .int 0, .int 0, .ref m47, .ref m48, .ref m49, .ref m50, .ref m51, .ref m52, .ref m53, .ref m54])), (m15, .inl (cI, 2, .inl (fun _ => 0)))] (fun w => w = [(m0_, .inr (12, [.ref m0, .ref m1, .int 0, .int 0, .int 0, .int (-1), .int 0, .int 0, .int 0, .int 0, .long 0, .ref m11, .ref m12, .ref m13, .ref m14, .ref m15, .ref m16, .ref m17, .ref m18, .ref m19, .ref m20, .ref m21, .ref m22, .ref m23, .ref m24, .ref m25, .ref m26, .ref m27, .ref m28, .ref m29, .ref m30, .ref m31, .ref m32, .ref m33, .ref m34, .ref m35, .ref m36, .ref m37, .ref m38, .int 1, .int 1, .ref m41, .ref m42, .ref m43, .ref m44, .int 0, .int 0, .ref m47, .ref m48, .ref m49, .ref m50, .ref m51, .ref m52, .ref m53, .ref m54])), (m15, .inl (cI, 2, .inl (fun _ => 0)))]) := by
  refine nz_Cv.mk (by decide) (Nat.le_of_ble_eq_true rfl) ?_
  intro p e s m below meth c A ls C0 hnm hP hD hS hA hX hl
  have C0 : nz_Cx p s m _ meth c b_Mo_layNear 5 none R_Mo D cB cI cJ := C0
  obtain ⟨hx, hb, hr, hml, hown, hts, hlk, hK⟩ := id C0
  have hl : lv_has ls 5 [(0, .ref m0_)] := hl
  refine lv_aload_n hx hb d_Mo_layNear_0 rfl (lv_at hl 0 rfl) ?_
  refine va_get (D := D) (ci := 12) (v := .ref m15) (C := R_Mo) (T := F_Mo) (N := 55) hx hb hts i_Mo hown hK.1 hP 0 rfl rfl 15 (by decide) (hts _ k_1033) (fun _ h9 => h9) rfl d_Mo_layNear_1 ?_
  refine lv_aload_n hx hb d_Mo_layNear_4 rfl (lv_at hl 0 rfl) ?_
  refine va_get (D := D) (ci := 12) (v := .int 1) (C := R_Mo) (T := F_Mo) (N := 55) hx hb hts i_Mo hown hK.1 hP 0 rfl rfl 39 (by decide) (hts _ k_1057) (fun _ h9 => h9) rfl d_Mo_layNear_5 ?_
  refine va_iald hx hb hK.1 hP 1 1 rfl rfl (nz_vin (by decide +kernel)) d_Mo_layNear_8 ?_
  refine nz_ctopi (v := 0) rfl ?_
  refine lv_istore_n (lv' := [(1, .int 0), (0, .ref m0_)]) hx hb d_Mo_layNear_9 rfl hl (by decide) rfl (fun ls hl => ?_)
  refine lv_iconst (v := 0) hx hb d_Mo_layNear_10 (by decide +kernel) ?_
  refine lv_istore_n (lv' := [(2, .int 0), (1, .int 0), (0, .ref m0_)]) hx hb d_Mo_layNear_11 rfl hl (by decide) rfl (fun ls hl => ?_)
  refine lv_iload_n hx hb d_Mo_layNear_12 rfl (lv_at hl 0 rfl) ?_
  refine lv_iload_n hx hb d_Mo_layNear_13 rfl (lv_at hl 1 rfl) ?_
  refine lv_icmp_ge (tgt := 80) hx hb d_Mo_layNear_14 (by decide) (fun c_1 => ?_) (fun c_1 => absurd (by decide +kernel) c_1)
  refine lv_iconst (v := 0) hx hb d_Mo_layNear_80 (by decide +kernel) ?_
  refine lv_istore_n (lv' := [(2, .int 0), (1, .int 0), (0, .ref m0_)]) hx hb d_Mo_layNear_81 rfl hl (by decide) rfl (fun ls hl => ?_)
  refine lv_iload_n hx hb d_Mo_layNear_82 rfl (lv_at hl 0 rfl) ?_
  refine lv_iload_n hx hb d_Mo_layNear_83 rfl (lv_at hl 1 rfl) ?_
  refine lv_icmp_ge (tgt := 172) hx hb d_Mo_layNear_84 (by decide) (fun c_2 => ?_) (fun c_2 => absurd (by decide +kernel) c_2)
  exact nz_retv C0 (hP.sub (ws' := [(m0_, .inr (12, [.ref m0, .ref m1, .int 0, .int 0, .int 0, .int (-1), .int 0, .int 0, .int 0, .int 0, .long 0, .ref m11, .ref m12, .ref m13, .ref m14, .ref m15, .ref m16, .ref m17, .ref m18, .ref m19, .ref m20, .ref m21, .ref m22, .ref m23, .ref m24, .ref m25, .ref m26, .ref m27, .ref m28, .ref m29, .ref m30, .ref m31, .ref m32, .ref m33, .ref m34, .ref m35, .ref m36, .ref m37, .ref m38, .int 1, .int 1, .ref m41, .ref m42, .ref m43, .ref m44, .int 0, .int 0, .ref m47, .ref m48, .ref m49, .ref m50, .ref m51, .ref m52, .ref m53, .ref m54])), (m15, .inl (cI, 2, .inl (fun _ => 0)))]) [0, 1] rfl) (hD.sub (ws' := [(m0_, .inr (12, [.ref m0, .ref m1, .int 0, .int 0, .int 0, .int (-1), .int 0, .int 0, .int 0, .int 0, .long 0, .ref m11, .ref m12, .ref m13, .ref m14, .ref m15, .ref m16, .ref m17, .ref m18, .ref m19, .ref m20, .ref m21, .ref m22, .ref m23, .ref m24, .ref m25, .ref m26, .ref m27, .ref m28, .ref m29, .ref m30, .ref m31, .ref m32, .ref m33, .ref m34, .ref m35, .ref m36, .ref m37, .ref m38, .int 1, .int 1, .ref m41, .ref m42, .ref m43, .ref m44, .int 0, .int 0, .ref m47, .ref m48, .ref m49, .ref m50, .ref m51, .ref m52, .ref m53, .ref m54])), (m15, .inl (cI, 2, .inl (fun _ => 0)))]) [0, 1] (by decide) rfl) hS rfl d_Mo_layNear_172
set_option maxHeartbeats 4000000 in
set_option maxRecDepth 100000 in
theorem c_Mo_land (l : Launch) (D : va_G) (cB cI cJ : ClassId) (m0_ : Nat) (m0 : Nat) (m1 : Nat) (m11 : Nat) (m12 : Nat) (m13 : Nat) (m14 : Nat) (m15 : Nat) (m16 : Nat) (m17 : Nat) (m18 : Nat) (m19 : Nat) (m20 : Nat) (m21 : Nat) (m22 : Nat) (m23 : Nat) (m24 : Nat) (m25 : Nat) (m26 : Nat) (m27 : Nat) (m28 : Nat) (m29 : Nat) (m30 : Nat) (m31 : Nat) (m32 : Nat) (m33 : Nat) (m34 : Nat) (m35 : Nat) (m36 : Nat) (m37 : Nat) (m38 : Nat) (m41 : Nat) (m42 : Nat) (m43 : Nat) (m44 : Nat) (m47 : Nat) (m48 : Nat) (m49 : Nat) (m50 : Nat) (m51 : Nat) (m52 : Nat) (m53 : Nat) (m54 : Nat) : nz_Ci l D cB cI cJ nz_x0 y_Mo_land b_Mo_land 2 (some .int) { frames := 2, cells := 0, slots := 0, locals := 43 } [.ref m0_] [(m0_, .inr (12, [.ref m0, .ref m1, .int 0, .int 0, .int 0, .int (-1), .int 0, .int 0, .int 0, .int 0, .long 0, .ref m11, .ref m12, .ref m13, .ref m14, .ref m15, .ref m16, .ref m17, .ref m18, .ref m19, .ref m20, .ref m21, .ref m22, .ref m23, .ref m24, .ref m25, .ref m26, .ref m27, .ref m28, .ref m29, .ref m30, .ref m31, .ref m32, .ref m33, .ref m34, .ref m35, .ref m36, .ref m37, .ref m38, .int 0, .int 0, .ref m41, .ref m42, .ref m43, .ref m44, .int 0, .int 0, .ref m47, .ref m48, .ref m49, .ref m50, .ref m51, .ref m52, .ref m53, .ref m54])), (m11, .inl (cI, 2, .inl (fun _ => 0))), (m12, .inl (cI, 2, .inl (fun _ => 0))), (m13, .inl (cI, 2, .inl (fun _ => 0))), (m14, .inl (cI, 2, .inl (fun _ => 0))), (m15, .inl (cI, 2, .inl (fun _ => 0))), (m16, .inl (cI, 2, .inl (fun _ => 0))), (m17, .inl (cI, 2, .inl (fun _ => 0)))] (fun r w => r = 0 ∧ w = [(m0_, .inr (12, [.ref m0, .ref m1, .int 0, .int 0, .int 0, .int (-1), .int 0, .int 0, .int 0, .int 0, .long 0, .ref m11, .ref m12, .ref m13, .ref m14, .ref m15, .ref m16, .ref m17, .ref m18, .ref m19, .ref m20, .ref m21, .ref m22, .ref m23, .ref m24, .ref m25, .ref m26, .ref m27, .ref m28, .ref m29, .ref m30, .ref m31, .ref m32, .ref m33, .ref m34, .ref m35, .ref m36, .ref m37, .ref m38, .int 1, .int 1, .ref m41, .ref m42, .ref m43, .ref m44, .int 0, .int 0, .ref m47, .ref m48, .ref m49, .ref m50, .ref m51, .ref m52, .ref m53, .ref m54])), (m11, .inl (cI, 2, .inl (fun _ => 0))), (m12, .inl (cI, 2, .inl (fun _ => 0))), (m13, .inl (cI, 2, .inl (fun _ => 0))), (m14, .inl (cI, 2, .inl (fun _ => 0))), (m15, .inl (cI, 2, .inl (fun _ => 0))), (m16, .inl (cI, 2, .inl (fun _ => 0))), (m17, .inl (cI, 2, .inl (fun _ => 0)))]) := by
  refine nz_Ci.mk (by decide) (Nat.le_of_ble_eq_true rfl) ?_
  intro p e s m below meth c A ls C0 hnm hP hD hS hA hX hl
  have C0 : nz_Cx p s m _ meth c b_Mo_land 2 (some .int) R_Mo D cB cI cJ := C0
  obtain ⟨hx, hb, hr, hml, hown, hts, hlk, hK⟩ := id C0
  have hl : lv_has ls 2 [(0, .ref m0_)] := hl
  refine lv_aload_n hx hb d_Mo_land_0 rfl (lv_at hl 0 rfl) ?_
  refine lv_iconst (v := 0) hx hb d_Mo_land_1 (by decide +kernel) ?_
  refine va_put (D := D) (ci := 12) (v := .int 0) (ty := .int) (C := R_Mo) (T := F_Mo) (N := 55) hx hb hts i_Mo t_Mo t_Mo_ok n_Mo hown hK.1 hP hD hS 0 rfl rfl 4 (by decide) (hts _ k_1022) (fun _ h9 => h9) rfl (by decide +kernel) rfl rfl (Nat.le_of_ble_eq_true rfl) d_Mo_land_2 (fun H locs hP hD hS => ?_)
  have hP : va_P D nz_cl [(m0_, .inr (12, [.ref m0, .ref m1, .int 0, .int 0, .int 0, .int (-1), .int 0, .int 0, .int 0, .int 0, .long 0, .ref m11, .ref m12, .ref m13, .ref m14, .ref m15, .ref m16, .ref m17, .ref m18, .ref m19, .ref m20, .ref m21, .ref m22, .ref m23, .ref m24, .ref m25, .ref m26, .ref m27, .ref m28, .ref m29, .ref m30, .ref m31, .ref m32, .ref m33, .ref m34, .ref m35, .ref m36, .ref m37, .ref m38, .int 0, .int 0, .ref m41, .ref m42, .ref m43, .ref m44, .int 0, .int 0, .ref m47, .ref m48, .ref m49, .ref m50, .ref m51, .ref m52, .ref m53, .ref m54])), (m11, .inl (cI, 2, .inl (fun _ => 0))), (m12, .inl (cI, 2, .inl (fun _ => 0))), (m13, .inl (cI, 2, .inl (fun _ => 0))), (m14, .inl (cI, 2, .inl (fun _ => 0))), (m15, .inl (cI, 2, .inl (fun _ => 0))), (m16, .inl (cI, 2, .inl (fun _ => 0))), (m17, .inl (cI, 2, .inl (fun _ => 0)))] H := hP
  have hD : va_D A [(m0_, .inr (12, [.ref m0, .ref m1, .int 0, .int 0, .int 0, .int (-1), .int 0, .int 0, .int 0, .int 0, .long 0, .ref m11, .ref m12, .ref m13, .ref m14, .ref m15, .ref m16, .ref m17, .ref m18, .ref m19, .ref m20, .ref m21, .ref m22, .ref m23, .ref m24, .ref m25, .ref m26, .ref m27, .ref m28, .ref m29, .ref m30, .ref m31, .ref m32, .ref m33, .ref m34, .ref m35, .ref m36, .ref m37, .ref m38, .int 0, .int 0, .ref m41, .ref m42, .ref m43, .ref m44, .int 0, .int 0, .ref m47, .ref m48, .ref m49, .ref m50, .ref m51, .ref m52, .ref m53, .ref m54])), (m11, .inl (cI, 2, .inl (fun _ => 0))), (m12, .inl (cI, 2, .inl (fun _ => 0))), (m13, .inl (cI, 2, .inl (fun _ => 0))), (m14, .inl (cI, 2, .inl (fun _ => 0))), (m15, .inl (cI, 2, .inl (fun _ => 0))), (m16, .inl (cI, 2, .inl (fun _ => 0))), (m17, .inl (cI, 2, .inl (fun _ => 0)))] := hD
  refine lv_aload_n hx hb d_Mo_land_5 rfl (lv_at hl 0 rfl) ?_
  refine lv_iconst (v := (-1)) hx hb d_Mo_land_6 (by decide +kernel) ?_
  refine va_put (D := D) (ci := 12) (v := .int (-1)) (ty := .int) (C := R_Mo) (T := F_Mo) (N := 55) hx hb hts i_Mo t_Mo t_Mo_ok n_Mo hown hK.1 hP hD hS 0 rfl rfl 5 (by decide) (hts _ k_1023) (fun _ h9 => h9) rfl (by decide +kernel) rfl rfl (Nat.le_of_ble_eq_true rfl) d_Mo_land_7 (fun H locs hP hD hS => ?_)
  have hP : va_P D nz_cl [(m0_, .inr (12, [.ref m0, .ref m1, .int 0, .int 0, .int 0, .int (-1), .int 0, .int 0, .int 0, .int 0, .long 0, .ref m11, .ref m12, .ref m13, .ref m14, .ref m15, .ref m16, .ref m17, .ref m18, .ref m19, .ref m20, .ref m21, .ref m22, .ref m23, .ref m24, .ref m25, .ref m26, .ref m27, .ref m28, .ref m29, .ref m30, .ref m31, .ref m32, .ref m33, .ref m34, .ref m35, .ref m36, .ref m37, .ref m38, .int 0, .int 0, .ref m41, .ref m42, .ref m43, .ref m44, .int 0, .int 0, .ref m47, .ref m48, .ref m49, .ref m50, .ref m51, .ref m52, .ref m53, .ref m54])), (m11, .inl (cI, 2, .inl (fun _ => 0))), (m12, .inl (cI, 2, .inl (fun _ => 0))), (m13, .inl (cI, 2, .inl (fun _ => 0))), (m14, .inl (cI, 2, .inl (fun _ => 0))), (m15, .inl (cI, 2, .inl (fun _ => 0))), (m16, .inl (cI, 2, .inl (fun _ => 0))), (m17, .inl (cI, 2, .inl (fun _ => 0)))] H := hP
  have hD : va_D A [(m0_, .inr (12, [.ref m0, .ref m1, .int 0, .int 0, .int 0, .int (-1), .int 0, .int 0, .int 0, .int 0, .long 0, .ref m11, .ref m12, .ref m13, .ref m14, .ref m15, .ref m16, .ref m17, .ref m18, .ref m19, .ref m20, .ref m21, .ref m22, .ref m23, .ref m24, .ref m25, .ref m26, .ref m27, .ref m28, .ref m29, .ref m30, .ref m31, .ref m32, .ref m33, .ref m34, .ref m35, .ref m36, .ref m37, .ref m38, .int 0, .int 0, .ref m41, .ref m42, .ref m43, .ref m44, .int 0, .int 0, .ref m47, .ref m48, .ref m49, .ref m50, .ref m51, .ref m52, .ref m53, .ref m54])), (m11, .inl (cI, 2, .inl (fun _ => 0))), (m12, .inl (cI, 2, .inl (fun _ => 0))), (m13, .inl (cI, 2, .inl (fun _ => 0))), (m14, .inl (cI, 2, .inl (fun _ => 0))), (m15, .inl (cI, 2, .inl (fun _ => 0))), (m16, .inl (cI, 2, .inl (fun _ => 0))), (m17, .inl (cI, 2, .inl (fun _ => 0)))] := hD
  refine lv_aload_n hx hb d_Mo_land_10 rfl (lv_at hl 0 rfl) ?_
  refine lv_aload_n hx hb d_Mo_land_11 rfl (lv_at hl 0 rfl) ?_
  refine va_get (D := D) (ci := 12) (v := .int 0) (C := R_Mo) (T := F_Mo) (N := 55) hx hb hts i_Mo hown hK.1 hP 0 rfl rfl 2 (by decide) (hts _ k_1020) (fun _ h9 => h9) rfl d_Mo_land_12 ?_
  refine va_put (D := D) (ci := 12) (v := .int 0) (ty := .int) (C := R_Mo) (T := F_Mo) (N := 55) hx hb hts i_Mo t_Mo t_Mo_ok n_Mo hown hK.1 hP hD hS 0 rfl rfl 3 (by decide) (hts _ k_1021) (fun _ h9 => h9) rfl (by decide +kernel) rfl rfl (Nat.le_of_ble_eq_true rfl) d_Mo_land_15 (fun H locs hP hD hS => ?_)
  have hP : va_P D nz_cl [(m0_, .inr (12, [.ref m0, .ref m1, .int 0, .int 0, .int 0, .int (-1), .int 0, .int 0, .int 0, .int 0, .long 0, .ref m11, .ref m12, .ref m13, .ref m14, .ref m15, .ref m16, .ref m17, .ref m18, .ref m19, .ref m20, .ref m21, .ref m22, .ref m23, .ref m24, .ref m25, .ref m26, .ref m27, .ref m28, .ref m29, .ref m30, .ref m31, .ref m32, .ref m33, .ref m34, .ref m35, .ref m36, .ref m37, .ref m38, .int 0, .int 0, .ref m41, .ref m42, .ref m43, .ref m44, .int 0, .int 0, .ref m47, .ref m48, .ref m49, .ref m50, .ref m51, .ref m52, .ref m53, .ref m54])), (m11, .inl (cI, 2, .inl (fun _ => 0))), (m12, .inl (cI, 2, .inl (fun _ => 0))), (m13, .inl (cI, 2, .inl (fun _ => 0))), (m14, .inl (cI, 2, .inl (fun _ => 0))), (m15, .inl (cI, 2, .inl (fun _ => 0))), (m16, .inl (cI, 2, .inl (fun _ => 0))), (m17, .inl (cI, 2, .inl (fun _ => 0)))] H := hP
  have hD : va_D A [(m0_, .inr (12, [.ref m0, .ref m1, .int 0, .int 0, .int 0, .int (-1), .int 0, .int 0, .int 0, .int 0, .long 0, .ref m11, .ref m12, .ref m13, .ref m14, .ref m15, .ref m16, .ref m17, .ref m18, .ref m19, .ref m20, .ref m21, .ref m22, .ref m23, .ref m24, .ref m25, .ref m26, .ref m27, .ref m28, .ref m29, .ref m30, .ref m31, .ref m32, .ref m33, .ref m34, .ref m35, .ref m36, .ref m37, .ref m38, .int 0, .int 0, .ref m41, .ref m42, .ref m43, .ref m44, .int 0, .int 0, .ref m47, .ref m48, .ref m49, .ref m50, .ref m51, .ref m52, .ref m53, .ref m54])), (m11, .inl (cI, 2, .inl (fun _ => 0))), (m12, .inl (cI, 2, .inl (fun _ => 0))), (m13, .inl (cI, 2, .inl (fun _ => 0))), (m14, .inl (cI, 2, .inl (fun _ => 0))), (m15, .inl (cI, 2, .inl (fun _ => 0))), (m16, .inl (cI, 2, .inl (fun _ => 0))), (m17, .inl (cI, 2, .inl (fun _ => 0)))] := hD
  refine lv_iconst (v := 0) hx hb d_Mo_land_18 (by decide +kernel) ?_
  refine lv_istore_n (lv' := [(1, .int 0), (0, .ref m0_)]) hx hb d_Mo_land_19 rfl hl (by decide) rfl (fun ls hl => ?_)
  refine lv_iload_n hx hb d_Mo_land_20 rfl (lv_at hl 0 rfl) ?_
  refine lv_aload_n hx hb d_Mo_land_21 rfl (lv_at hl 1 rfl) ?_
  refine va_get (D := D) (ci := 12) (v := .int 0) (C := R_Mo) (T := F_Mo) (N := 55) hx hb hts i_Mo hown hK.1 hP 0 rfl rfl 3 (by decide) (hts _ k_1021) (fun _ h9 => h9) rfl d_Mo_land_22 ?_
  refine lv_icmp_ge (tgt := 46) hx hb d_Mo_land_25 (by decide) (fun c_1 => ?_) (fun c_1 => absurd (by decide +kernel) c_1)
  refine lv_aload_n hx hb d_Mo_land_46 rfl (lv_at hl 1 rfl) ?_
  refine lv_iconst (v := 0) hx hb d_Mo_land_47 (by decide +kernel) ?_
  refine va_put (D := D) (ci := 12) (v := .int 0) (ty := .int) (C := R_Mo) (T := F_Mo) (N := 55) hx hb hts i_Mo t_Mo t_Mo_ok n_Mo hown hK.1 hP hD hS 0 rfl rfl 2 (by decide) (hts _ k_1020) (fun _ h9 => h9) rfl (by decide +kernel) rfl rfl (Nat.le_of_ble_eq_true rfl) d_Mo_land_48 (fun H locs hP hD hS => ?_)
  have hP : va_P D nz_cl [(m0_, .inr (12, [.ref m0, .ref m1, .int 0, .int 0, .int 0, .int (-1), .int 0, .int 0, .int 0, .int 0, .long 0, .ref m11, .ref m12, .ref m13, .ref m14, .ref m15, .ref m16, .ref m17, .ref m18, .ref m19, .ref m20, .ref m21, .ref m22, .ref m23, .ref m24, .ref m25, .ref m26, .ref m27, .ref m28, .ref m29, .ref m30, .ref m31, .ref m32, .ref m33, .ref m34, .ref m35, .ref m36, .ref m37, .ref m38, .int 0, .int 0, .ref m41, .ref m42, .ref m43, .ref m44, .int 0, .int 0, .ref m47, .ref m48, .ref m49, .ref m50, .ref m51, .ref m52, .ref m53, .ref m54])), (m11, .inl (cI, 2, .inl (fun _ => 0))), (m12, .inl (cI, 2, .inl (fun _ => 0))), (m13, .inl (cI, 2, .inl (fun _ => 0))), (m14, .inl (cI, 2, .inl (fun _ => 0))), (m15, .inl (cI, 2, .inl (fun _ => 0))), (m16, .inl (cI, 2, .inl (fun _ => 0))), (m17, .inl (cI, 2, .inl (fun _ => 0)))] H := hP
  have hD : va_D A [(m0_, .inr (12, [.ref m0, .ref m1, .int 0, .int 0, .int 0, .int (-1), .int 0, .int 0, .int 0, .int 0, .long 0, .ref m11, .ref m12, .ref m13, .ref m14, .ref m15, .ref m16, .ref m17, .ref m18, .ref m19, .ref m20, .ref m21, .ref m22, .ref m23, .ref m24, .ref m25, .ref m26, .ref m27, .ref m28, .ref m29, .ref m30, .ref m31, .ref m32, .ref m33, .ref m34, .ref m35, .ref m36, .ref m37, .ref m38, .int 0, .int 0, .ref m41, .ref m42, .ref m43, .ref m44, .int 0, .int 0, .ref m47, .ref m48, .ref m49, .ref m50, .ref m51, .ref m52, .ref m53, .ref m54])), (m11, .inl (cI, 2, .inl (fun _ => 0))), (m12, .inl (cI, 2, .inl (fun _ => 0))), (m13, .inl (cI, 2, .inl (fun _ => 0))), (m14, .inl (cI, 2, .inl (fun _ => 0))), (m15, .inl (cI, 2, .inl (fun _ => 0))), (m16, .inl (cI, 2, .inl (fun _ => 0))), (m17, .inl (cI, 2, .inl (fun _ => 0)))] := hD
  refine lv_aload_n hx hb d_Mo_land_51 rfl (lv_at hl 1 rfl) ?_
  refine lv_iconst (v := 0) hx hb d_Mo_land_52 (by decide +kernel) ?_
  refine va_put (D := D) (ci := 12) (v := .int 0) (ty := .int) (C := R_Mo) (T := F_Mo) (N := 55) hx hb hts i_Mo t_Mo t_Mo_ok n_Mo hown hK.1 hP hD hS 0 rfl rfl 7 (by decide) (hts _ k_1025) (fun _ h9 => h9) rfl (by decide +kernel) rfl rfl (Nat.le_of_ble_eq_true rfl) d_Mo_land_53 (fun H locs hP hD hS => ?_)
  have hP : va_P D nz_cl [(m0_, .inr (12, [.ref m0, .ref m1, .int 0, .int 0, .int 0, .int (-1), .int 0, .int 0, .int 0, .int 0, .long 0, .ref m11, .ref m12, .ref m13, .ref m14, .ref m15, .ref m16, .ref m17, .ref m18, .ref m19, .ref m20, .ref m21, .ref m22, .ref m23, .ref m24, .ref m25, .ref m26, .ref m27, .ref m28, .ref m29, .ref m30, .ref m31, .ref m32, .ref m33, .ref m34, .ref m35, .ref m36, .ref m37, .ref m38, .int 0, .int 0, .ref m41, .ref m42, .ref m43, .ref m44, .int 0, .int 0, .ref m47, .ref m48, .ref m49, .ref m50, .ref m51, .ref m52, .ref m53, .ref m54])), (m11, .inl (cI, 2, .inl (fun _ => 0))), (m12, .inl (cI, 2, .inl (fun _ => 0))), (m13, .inl (cI, 2, .inl (fun _ => 0))), (m14, .inl (cI, 2, .inl (fun _ => 0))), (m15, .inl (cI, 2, .inl (fun _ => 0))), (m16, .inl (cI, 2, .inl (fun _ => 0))), (m17, .inl (cI, 2, .inl (fun _ => 0)))] H := hP
  have hD : va_D A [(m0_, .inr (12, [.ref m0, .ref m1, .int 0, .int 0, .int 0, .int (-1), .int 0, .int 0, .int 0, .int 0, .long 0, .ref m11, .ref m12, .ref m13, .ref m14, .ref m15, .ref m16, .ref m17, .ref m18, .ref m19, .ref m20, .ref m21, .ref m22, .ref m23, .ref m24, .ref m25, .ref m26, .ref m27, .ref m28, .ref m29, .ref m30, .ref m31, .ref m32, .ref m33, .ref m34, .ref m35, .ref m36, .ref m37, .ref m38, .int 0, .int 0, .ref m41, .ref m42, .ref m43, .ref m44, .int 0, .int 0, .ref m47, .ref m48, .ref m49, .ref m50, .ref m51, .ref m52, .ref m53, .ref m54])), (m11, .inl (cI, 2, .inl (fun _ => 0))), (m12, .inl (cI, 2, .inl (fun _ => 0))), (m13, .inl (cI, 2, .inl (fun _ => 0))), (m14, .inl (cI, 2, .inl (fun _ => 0))), (m15, .inl (cI, 2, .inl (fun _ => 0))), (m16, .inl (cI, 2, .inl (fun _ => 0))), (m17, .inl (cI, 2, .inl (fun _ => 0)))] := hD
  refine lv_aload_n hx hb d_Mo_land_56 rfl (lv_at hl 1 rfl) ?_
  refine lv_iconst (v := 1) hx hb d_Mo_land_57 (by decide +kernel) ?_
  refine lv_aload_n hx hb d_Mo_land_58 rfl (lv_at hl 1 rfl) ?_
  refine va_get (D := D) (ci := 12) (v := .int 0) (C := R_Mo) (T := F_Mo) (N := 55) hx hb hts i_Mo hown hK.1 hP 0 rfl rfl 39 (by decide) (hts _ k_1057) (fun _ h9 => h9) rfl d_Mo_land_59 ?_
  refine lv_isub hx hb d_Mo_land_62 ?_
  refine nz_ctopi (v := 1) (by decide +kernel) ?_
  refine va_put (D := D) (ci := 12) (v := .int 1) (ty := .int) (C := R_Mo) (T := F_Mo) (N := 55) hx hb hts i_Mo t_Mo t_Mo_ok n_Mo hown hK.1 hP hD hS 0 rfl rfl 40 (by decide) (hts _ k_1058) (fun _ h9 => h9) rfl (by decide +kernel) rfl rfl (Nat.le_of_ble_eq_true rfl) d_Mo_land_63 (fun H locs hP hD hS => ?_)
  have hP : va_P D nz_cl [(m0_, .inr (12, [.ref m0, .ref m1, .int 0, .int 0, .int 0, .int (-1), .int 0, .int 0, .int 0, .int 0, .long 0, .ref m11, .ref m12, .ref m13, .ref m14, .ref m15, .ref m16, .ref m17, .ref m18, .ref m19, .ref m20, .ref m21, .ref m22, .ref m23, .ref m24, .ref m25, .ref m26, .ref m27, .ref m28, .ref m29, .ref m30, .ref m31, .ref m32, .ref m33, .ref m34, .ref m35, .ref m36, .ref m37, .ref m38, .int 0, .int 1, .ref m41, .ref m42, .ref m43, .ref m44, .int 0, .int 0, .ref m47, .ref m48, .ref m49, .ref m50, .ref m51, .ref m52, .ref m53, .ref m54])), (m11, .inl (cI, 2, .inl (fun _ => 0))), (m12, .inl (cI, 2, .inl (fun _ => 0))), (m13, .inl (cI, 2, .inl (fun _ => 0))), (m14, .inl (cI, 2, .inl (fun _ => 0))), (m15, .inl (cI, 2, .inl (fun _ => 0))), (m16, .inl (cI, 2, .inl (fun _ => 0))), (m17, .inl (cI, 2, .inl (fun _ => 0)))] H := hP
  have hD : va_D A [(m0_, .inr (12, [.ref m0, .ref m1, .int 0, .int 0, .int 0, .int (-1), .int 0, .int 0, .int 0, .int 0, .long 0, .ref m11, .ref m12, .ref m13, .ref m14, .ref m15, .ref m16, .ref m17, .ref m18, .ref m19, .ref m20, .ref m21, .ref m22, .ref m23, .ref m24, .ref m25, .ref m26, .ref m27, .ref m28, .ref m29, .ref m30, .ref m31, .ref m32, .ref m33, .ref m34, .ref m35, .ref m36, .ref m37, .ref m38, .int 0, .int 1, .ref m41, .ref m42, .ref m43, .ref m44, .int 0, .int 0, .ref m47, .ref m48, .ref m49, .ref m50, .ref m51, .ref m52, .ref m53, .ref m54])), (m11, .inl (cI, 2, .inl (fun _ => 0))), (m12, .inl (cI, 2, .inl (fun _ => 0))), (m13, .inl (cI, 2, .inl (fun _ => 0))), (m14, .inl (cI, 2, .inl (fun _ => 0))), (m15, .inl (cI, 2, .inl (fun _ => 0))), (m16, .inl (cI, 2, .inl (fun _ => 0))), (m17, .inl (cI, 2, .inl (fun _ => 0)))] := hD
  refine lv_aload_n hx hb d_Mo_land_66 rfl (lv_at hl 1 rfl) ?_
  refine va_get (D := D) (ci := 12) (v := .ref m11) (C := R_Mo) (T := F_Mo) (N := 55) hx hb hts i_Mo hown hK.1 hP 0 rfl rfl 11 (by decide) (hts _ k_1029) (fun _ h9 => h9) rfl d_Mo_land_67 ?_
  refine lv_aload_n hx hb d_Mo_land_70 rfl (lv_at hl 1 rfl) ?_
  refine va_get (D := D) (ci := 12) (v := .int 1) (C := R_Mo) (T := F_Mo) (N := 55) hx hb hts i_Mo hown hK.1 hP 0 rfl rfl 40 (by decide) (hts _ k_1058) (fun _ h9 => h9) rfl d_Mo_land_71 ?_
  refine lv_iconst (v := 0) hx hb d_Mo_land_74 (by decide +kernel) ?_
  refine nz_iastZ hx hb hK.1 hP hD hS 1 1 rfl rfl (nz_vin (by decide +kernel)) d_Mo_land_75 (fun H locs f_2 f_2_e hP hD hS => ?_)
  have f_2_z : f_2 = (fun _ => 0) := f_2_e
  subst f_2_z
  have hP : va_P D nz_cl [(m0_, .inr (12, [.ref m0, .ref m1, .int 0, .int 0, .int 0, .int (-1), .int 0, .int 0, .int 0, .int 0, .long 0, .ref m11, .ref m12, .ref m13, .ref m14, .ref m15, .ref m16, .ref m17, .ref m18, .ref m19, .ref m20, .ref m21, .ref m22, .ref m23, .ref m24, .ref m25, .ref m26, .ref m27, .ref m28, .ref m29, .ref m30, .ref m31, .ref m32, .ref m33, .ref m34, .ref m35, .ref m36, .ref m37, .ref m38, .int 0, .int 1, .ref m41, .ref m42, .ref m43, .ref m44, .int 0, .int 0, .ref m47, .ref m48, .ref m49, .ref m50, .ref m51, .ref m52, .ref m53, .ref m54])), (m11, .inl (cI, 2, .inl (fun _ => 0))), (m12, .inl (cI, 2, .inl (fun _ => 0))), (m13, .inl (cI, 2, .inl (fun _ => 0))), (m14, .inl (cI, 2, .inl (fun _ => 0))), (m15, .inl (cI, 2, .inl (fun _ => 0))), (m16, .inl (cI, 2, .inl (fun _ => 0))), (m17, .inl (cI, 2, .inl (fun _ => 0)))] H := hP
  have hD : va_D A [(m0_, .inr (12, [.ref m0, .ref m1, .int 0, .int 0, .int 0, .int (-1), .int 0, .int 0, .int 0, .int 0, .long 0, .ref m11, .ref m12, .ref m13, .ref m14, .ref m15, .ref m16, .ref m17, .ref m18, .ref m19, .ref m20, .ref m21, .ref m22, .ref m23, .ref m24, .ref m25, .ref m26, .ref m27, .ref m28, .ref m29, .ref m30, .ref m31, .ref m32, .ref m33, .ref m34, .ref m35, .ref m36, .ref m37, .ref m38, .int 0, .int 1, .ref m41, .ref m42, .ref m43, .ref m44, .int 0, .int 0, .ref m47, .ref m48, .ref m49, .ref m50, .ref m51, .ref m52, .ref m53, .ref m54])), (m11, .inl (cI, 2, .inl (fun _ => 0))), (m12, .inl (cI, 2, .inl (fun _ => 0))), (m13, .inl (cI, 2, .inl (fun _ => 0))), (m14, .inl (cI, 2, .inl (fun _ => 0))), (m15, .inl (cI, 2, .inl (fun _ => 0))), (m16, .inl (cI, 2, .inl (fun _ => 0))), (m17, .inl (cI, 2, .inl (fun _ => 0)))] := hD
  refine lv_aload_n hx hb d_Mo_land_76 rfl (lv_at hl 1 rfl) ?_
  refine va_get (D := D) (ci := 12) (v := .ref m12) (C := R_Mo) (T := F_Mo) (N := 55) hx hb hts i_Mo hown hK.1 hP 0 rfl rfl 12 (by decide) (hts _ k_1030) (fun _ h9 => h9) rfl d_Mo_land_77 ?_
  refine lv_aload_n hx hb d_Mo_land_80 rfl (lv_at hl 1 rfl) ?_
  refine va_get (D := D) (ci := 12) (v := .int 1) (C := R_Mo) (T := F_Mo) (N := 55) hx hb hts i_Mo hown hK.1 hP 0 rfl rfl 40 (by decide) (hts _ k_1058) (fun _ h9 => h9) rfl d_Mo_land_81 ?_
  refine lv_iconst (v := 0) hx hb d_Mo_land_84 (by decide +kernel) ?_
  refine nz_iastZ hx hb hK.1 hP hD hS 2 1 rfl rfl (nz_vin (by decide +kernel)) d_Mo_land_85 (fun H locs f_3 f_3_e hP hD hS => ?_)
  have f_3_z : f_3 = (fun _ => 0) := f_3_e
  subst f_3_z
  have hP : va_P D nz_cl [(m0_, .inr (12, [.ref m0, .ref m1, .int 0, .int 0, .int 0, .int (-1), .int 0, .int 0, .int 0, .int 0, .long 0, .ref m11, .ref m12, .ref m13, .ref m14, .ref m15, .ref m16, .ref m17, .ref m18, .ref m19, .ref m20, .ref m21, .ref m22, .ref m23, .ref m24, .ref m25, .ref m26, .ref m27, .ref m28, .ref m29, .ref m30, .ref m31, .ref m32, .ref m33, .ref m34, .ref m35, .ref m36, .ref m37, .ref m38, .int 0, .int 1, .ref m41, .ref m42, .ref m43, .ref m44, .int 0, .int 0, .ref m47, .ref m48, .ref m49, .ref m50, .ref m51, .ref m52, .ref m53, .ref m54])), (m11, .inl (cI, 2, .inl (fun _ => 0))), (m12, .inl (cI, 2, .inl (fun _ => 0))), (m13, .inl (cI, 2, .inl (fun _ => 0))), (m14, .inl (cI, 2, .inl (fun _ => 0))), (m15, .inl (cI, 2, .inl (fun _ => 0))), (m16, .inl (cI, 2, .inl (fun _ => 0))), (m17, .inl (cI, 2, .inl (fun _ => 0)))] H := hP
  have hD : va_D A [(m0_, .inr (12, [.ref m0, .ref m1, .int 0, .int 0, .int 0, .int (-1), .int 0, .int 0, .int 0, .int 0, .long 0, .ref m11, .ref m12, .ref m13, .ref m14, .ref m15, .ref m16, .ref m17, .ref m18, .ref m19, .ref m20, .ref m21, .ref m22, .ref m23, .ref m24, .ref m25, .ref m26, .ref m27, .ref m28, .ref m29, .ref m30, .ref m31, .ref m32, .ref m33, .ref m34, .ref m35, .ref m36, .ref m37, .ref m38, .int 0, .int 1, .ref m41, .ref m42, .ref m43, .ref m44, .int 0, .int 0, .ref m47, .ref m48, .ref m49, .ref m50, .ref m51, .ref m52, .ref m53, .ref m54])), (m11, .inl (cI, 2, .inl (fun _ => 0))), (m12, .inl (cI, 2, .inl (fun _ => 0))), (m13, .inl (cI, 2, .inl (fun _ => 0))), (m14, .inl (cI, 2, .inl (fun _ => 0))), (m15, .inl (cI, 2, .inl (fun _ => 0))), (m16, .inl (cI, 2, .inl (fun _ => 0))), (m17, .inl (cI, 2, .inl (fun _ => 0)))] := hD
  refine lv_aload_n hx hb d_Mo_land_86 rfl (lv_at hl 1 rfl) ?_
  refine va_get (D := D) (ci := 12) (v := .ref m13) (C := R_Mo) (T := F_Mo) (N := 55) hx hb hts i_Mo hown hK.1 hP 0 rfl rfl 13 (by decide) (hts _ k_1031) (fun _ h9 => h9) rfl d_Mo_land_87 ?_
  refine lv_aload_n hx hb d_Mo_land_90 rfl (lv_at hl 1 rfl) ?_
  refine va_get (D := D) (ci := 12) (v := .int 1) (C := R_Mo) (T := F_Mo) (N := 55) hx hb hts i_Mo hown hK.1 hP 0 rfl rfl 40 (by decide) (hts _ k_1058) (fun _ h9 => h9) rfl d_Mo_land_91 ?_
  refine lv_iconst (v := 0) hx hb d_Mo_land_94 (by decide +kernel) ?_
  refine nz_iastZ hx hb hK.1 hP hD hS 3 1 rfl rfl (nz_vin (by decide +kernel)) d_Mo_land_95 (fun H locs f_4 f_4_e hP hD hS => ?_)
  have f_4_z : f_4 = (fun _ => 0) := f_4_e
  subst f_4_z
  have hP : va_P D nz_cl [(m0_, .inr (12, [.ref m0, .ref m1, .int 0, .int 0, .int 0, .int (-1), .int 0, .int 0, .int 0, .int 0, .long 0, .ref m11, .ref m12, .ref m13, .ref m14, .ref m15, .ref m16, .ref m17, .ref m18, .ref m19, .ref m20, .ref m21, .ref m22, .ref m23, .ref m24, .ref m25, .ref m26, .ref m27, .ref m28, .ref m29, .ref m30, .ref m31, .ref m32, .ref m33, .ref m34, .ref m35, .ref m36, .ref m37, .ref m38, .int 0, .int 1, .ref m41, .ref m42, .ref m43, .ref m44, .int 0, .int 0, .ref m47, .ref m48, .ref m49, .ref m50, .ref m51, .ref m52, .ref m53, .ref m54])), (m11, .inl (cI, 2, .inl (fun _ => 0))), (m12, .inl (cI, 2, .inl (fun _ => 0))), (m13, .inl (cI, 2, .inl (fun _ => 0))), (m14, .inl (cI, 2, .inl (fun _ => 0))), (m15, .inl (cI, 2, .inl (fun _ => 0))), (m16, .inl (cI, 2, .inl (fun _ => 0))), (m17, .inl (cI, 2, .inl (fun _ => 0)))] H := hP
  have hD : va_D A [(m0_, .inr (12, [.ref m0, .ref m1, .int 0, .int 0, .int 0, .int (-1), .int 0, .int 0, .int 0, .int 0, .long 0, .ref m11, .ref m12, .ref m13, .ref m14, .ref m15, .ref m16, .ref m17, .ref m18, .ref m19, .ref m20, .ref m21, .ref m22, .ref m23, .ref m24, .ref m25, .ref m26, .ref m27, .ref m28, .ref m29, .ref m30, .ref m31, .ref m32, .ref m33, .ref m34, .ref m35, .ref m36, .ref m37, .ref m38, .int 0, .int 1, .ref m41, .ref m42, .ref m43, .ref m44, .int 0, .int 0, .ref m47, .ref m48, .ref m49, .ref m50, .ref m51, .ref m52, .ref m53, .ref m54])), (m11, .inl (cI, 2, .inl (fun _ => 0))), (m12, .inl (cI, 2, .inl (fun _ => 0))), (m13, .inl (cI, 2, .inl (fun _ => 0))), (m14, .inl (cI, 2, .inl (fun _ => 0))), (m15, .inl (cI, 2, .inl (fun _ => 0))), (m16, .inl (cI, 2, .inl (fun _ => 0))), (m17, .inl (cI, 2, .inl (fun _ => 0)))] := hD
  refine lv_aload_n hx hb d_Mo_land_96 rfl (lv_at hl 1 rfl) ?_
  refine va_get (D := D) (ci := 12) (v := .ref m14) (C := R_Mo) (T := F_Mo) (N := 55) hx hb hts i_Mo hown hK.1 hP 0 rfl rfl 14 (by decide) (hts _ k_1032) (fun _ h9 => h9) rfl d_Mo_land_97 ?_
  refine lv_aload_n hx hb d_Mo_land_100 rfl (lv_at hl 1 rfl) ?_
  refine va_get (D := D) (ci := 12) (v := .int 1) (C := R_Mo) (T := F_Mo) (N := 55) hx hb hts i_Mo hown hK.1 hP 0 rfl rfl 40 (by decide) (hts _ k_1058) (fun _ h9 => h9) rfl d_Mo_land_101 ?_
  refine lv_iconst (v := 0) hx hb d_Mo_land_104 (by decide +kernel) ?_
  refine nz_iastZ hx hb hK.1 hP hD hS 4 1 rfl rfl (nz_vin (by decide +kernel)) d_Mo_land_105 (fun H locs f_5 f_5_e hP hD hS => ?_)
  have f_5_z : f_5 = (fun _ => 0) := f_5_e
  subst f_5_z
  have hP : va_P D nz_cl [(m0_, .inr (12, [.ref m0, .ref m1, .int 0, .int 0, .int 0, .int (-1), .int 0, .int 0, .int 0, .int 0, .long 0, .ref m11, .ref m12, .ref m13, .ref m14, .ref m15, .ref m16, .ref m17, .ref m18, .ref m19, .ref m20, .ref m21, .ref m22, .ref m23, .ref m24, .ref m25, .ref m26, .ref m27, .ref m28, .ref m29, .ref m30, .ref m31, .ref m32, .ref m33, .ref m34, .ref m35, .ref m36, .ref m37, .ref m38, .int 0, .int 1, .ref m41, .ref m42, .ref m43, .ref m44, .int 0, .int 0, .ref m47, .ref m48, .ref m49, .ref m50, .ref m51, .ref m52, .ref m53, .ref m54])), (m11, .inl (cI, 2, .inl (fun _ => 0))), (m12, .inl (cI, 2, .inl (fun _ => 0))), (m13, .inl (cI, 2, .inl (fun _ => 0))), (m14, .inl (cI, 2, .inl (fun _ => 0))), (m15, .inl (cI, 2, .inl (fun _ => 0))), (m16, .inl (cI, 2, .inl (fun _ => 0))), (m17, .inl (cI, 2, .inl (fun _ => 0)))] H := hP
  have hD : va_D A [(m0_, .inr (12, [.ref m0, .ref m1, .int 0, .int 0, .int 0, .int (-1), .int 0, .int 0, .int 0, .int 0, .long 0, .ref m11, .ref m12, .ref m13, .ref m14, .ref m15, .ref m16, .ref m17, .ref m18, .ref m19, .ref m20, .ref m21, .ref m22, .ref m23, .ref m24, .ref m25, .ref m26, .ref m27, .ref m28, .ref m29, .ref m30, .ref m31, .ref m32, .ref m33, .ref m34, .ref m35, .ref m36, .ref m37, .ref m38, .int 0, .int 1, .ref m41, .ref m42, .ref m43, .ref m44, .int 0, .int 0, .ref m47, .ref m48, .ref m49, .ref m50, .ref m51, .ref m52, .ref m53, .ref m54])), (m11, .inl (cI, 2, .inl (fun _ => 0))), (m12, .inl (cI, 2, .inl (fun _ => 0))), (m13, .inl (cI, 2, .inl (fun _ => 0))), (m14, .inl (cI, 2, .inl (fun _ => 0))), (m15, .inl (cI, 2, .inl (fun _ => 0))), (m16, .inl (cI, 2, .inl (fun _ => 0))), (m17, .inl (cI, 2, .inl (fun _ => 0)))] := hD
  refine lv_aload_n hx hb d_Mo_land_106 rfl (lv_at hl 1 rfl) ?_
  refine va_get (D := D) (ci := 12) (v := .ref m15) (C := R_Mo) (T := F_Mo) (N := 55) hx hb hts i_Mo hown hK.1 hP 0 rfl rfl 15 (by decide) (hts _ k_1033) (fun _ h9 => h9) rfl d_Mo_land_107 ?_
  refine lv_aload_n hx hb d_Mo_land_110 rfl (lv_at hl 1 rfl) ?_
  refine va_get (D := D) (ci := 12) (v := .int 1) (C := R_Mo) (T := F_Mo) (N := 55) hx hb hts i_Mo hown hK.1 hP 0 rfl rfl 40 (by decide) (hts _ k_1058) (fun _ h9 => h9) rfl d_Mo_land_111 ?_
  refine lv_iconst (v := 0) hx hb d_Mo_land_114 (by decide +kernel) ?_
  refine nz_iastZ hx hb hK.1 hP hD hS 5 1 rfl rfl (nz_vin (by decide +kernel)) d_Mo_land_115 (fun H locs f_6 f_6_e hP hD hS => ?_)
  have f_6_z : f_6 = (fun _ => 0) := f_6_e
  subst f_6_z
  have hP : va_P D nz_cl [(m0_, .inr (12, [.ref m0, .ref m1, .int 0, .int 0, .int 0, .int (-1), .int 0, .int 0, .int 0, .int 0, .long 0, .ref m11, .ref m12, .ref m13, .ref m14, .ref m15, .ref m16, .ref m17, .ref m18, .ref m19, .ref m20, .ref m21, .ref m22, .ref m23, .ref m24, .ref m25, .ref m26, .ref m27, .ref m28, .ref m29, .ref m30, .ref m31, .ref m32, .ref m33, .ref m34, .ref m35, .ref m36, .ref m37, .ref m38, .int 0, .int 1, .ref m41, .ref m42, .ref m43, .ref m44, .int 0, .int 0, .ref m47, .ref m48, .ref m49, .ref m50, .ref m51, .ref m52, .ref m53, .ref m54])), (m11, .inl (cI, 2, .inl (fun _ => 0))), (m12, .inl (cI, 2, .inl (fun _ => 0))), (m13, .inl (cI, 2, .inl (fun _ => 0))), (m14, .inl (cI, 2, .inl (fun _ => 0))), (m15, .inl (cI, 2, .inl (fun _ => 0))), (m16, .inl (cI, 2, .inl (fun _ => 0))), (m17, .inl (cI, 2, .inl (fun _ => 0)))] H := hP
  have hD : va_D A [(m0_, .inr (12, [.ref m0, .ref m1, .int 0, .int 0, .int 0, .int (-1), .int 0, .int 0, .int 0, .int 0, .long 0, .ref m11, .ref m12, .ref m13, .ref m14, .ref m15, .ref m16, .ref m17, .ref m18, .ref m19, .ref m20, .ref m21, .ref m22, .ref m23, .ref m24, .ref m25, .ref m26, .ref m27, .ref m28, .ref m29, .ref m30, .ref m31, .ref m32, .ref m33, .ref m34, .ref m35, .ref m36, .ref m37, .ref m38, .int 0, .int 1, .ref m41, .ref m42, .ref m43, .ref m44, .int 0, .int 0, .ref m47, .ref m48, .ref m49, .ref m50, .ref m51, .ref m52, .ref m53, .ref m54])), (m11, .inl (cI, 2, .inl (fun _ => 0))), (m12, .inl (cI, 2, .inl (fun _ => 0))), (m13, .inl (cI, 2, .inl (fun _ => 0))), (m14, .inl (cI, 2, .inl (fun _ => 0))), (m15, .inl (cI, 2, .inl (fun _ => 0))), (m16, .inl (cI, 2, .inl (fun _ => 0))), (m17, .inl (cI, 2, .inl (fun _ => 0)))] := hD
  refine lv_aload_n hx hb d_Mo_land_116 rfl (lv_at hl 1 rfl) ?_
  refine va_get (D := D) (ci := 12) (v := .ref m16) (C := R_Mo) (T := F_Mo) (N := 55) hx hb hts i_Mo hown hK.1 hP 0 rfl rfl 16 (by decide) (hts _ k_1034) (fun _ h9 => h9) rfl d_Mo_land_117 ?_
  refine lv_aload_n hx hb d_Mo_land_120 rfl (lv_at hl 1 rfl) ?_
  refine va_get (D := D) (ci := 12) (v := .int 1) (C := R_Mo) (T := F_Mo) (N := 55) hx hb hts i_Mo hown hK.1 hP 0 rfl rfl 40 (by decide) (hts _ k_1058) (fun _ h9 => h9) rfl d_Mo_land_121 ?_
  refine lv_iconst (v := 0) hx hb d_Mo_land_124 (by decide +kernel) ?_
  refine nz_iastZ hx hb hK.1 hP hD hS 6 1 rfl rfl (nz_vin (by decide +kernel)) d_Mo_land_125 (fun H locs f_7 f_7_e hP hD hS => ?_)
  have f_7_z : f_7 = (fun _ => 0) := f_7_e
  subst f_7_z
  have hP : va_P D nz_cl [(m0_, .inr (12, [.ref m0, .ref m1, .int 0, .int 0, .int 0, .int (-1), .int 0, .int 0, .int 0, .int 0, .long 0, .ref m11, .ref m12, .ref m13, .ref m14, .ref m15, .ref m16, .ref m17, .ref m18, .ref m19, .ref m20, .ref m21, .ref m22, .ref m23, .ref m24, .ref m25, .ref m26, .ref m27, .ref m28, .ref m29, .ref m30, .ref m31, .ref m32, .ref m33, .ref m34, .ref m35, .ref m36, .ref m37, .ref m38, .int 0, .int 1, .ref m41, .ref m42, .ref m43, .ref m44, .int 0, .int 0, .ref m47, .ref m48, .ref m49, .ref m50, .ref m51, .ref m52, .ref m53, .ref m54])), (m11, .inl (cI, 2, .inl (fun _ => 0))), (m12, .inl (cI, 2, .inl (fun _ => 0))), (m13, .inl (cI, 2, .inl (fun _ => 0))), (m14, .inl (cI, 2, .inl (fun _ => 0))), (m15, .inl (cI, 2, .inl (fun _ => 0))), (m16, .inl (cI, 2, .inl (fun _ => 0))), (m17, .inl (cI, 2, .inl (fun _ => 0)))] H := hP
  have hD : va_D A [(m0_, .inr (12, [.ref m0, .ref m1, .int 0, .int 0, .int 0, .int (-1), .int 0, .int 0, .int 0, .int 0, .long 0, .ref m11, .ref m12, .ref m13, .ref m14, .ref m15, .ref m16, .ref m17, .ref m18, .ref m19, .ref m20, .ref m21, .ref m22, .ref m23, .ref m24, .ref m25, .ref m26, .ref m27, .ref m28, .ref m29, .ref m30, .ref m31, .ref m32, .ref m33, .ref m34, .ref m35, .ref m36, .ref m37, .ref m38, .int 0, .int 1, .ref m41, .ref m42, .ref m43, .ref m44, .int 0, .int 0, .ref m47, .ref m48, .ref m49, .ref m50, .ref m51, .ref m52, .ref m53, .ref m54])), (m11, .inl (cI, 2, .inl (fun _ => 0))), (m12, .inl (cI, 2, .inl (fun _ => 0))), (m13, .inl (cI, 2, .inl (fun _ => 0))), (m14, .inl (cI, 2, .inl (fun _ => 0))), (m15, .inl (cI, 2, .inl (fun _ => 0))), (m16, .inl (cI, 2, .inl (fun _ => 0))), (m17, .inl (cI, 2, .inl (fun _ => 0)))] := hD
  refine lv_aload_n hx hb d_Mo_land_126 rfl (lv_at hl 1 rfl) ?_
  refine va_get (D := D) (ci := 12) (v := .ref m17) (C := R_Mo) (T := F_Mo) (N := 55) hx hb hts i_Mo hown hK.1 hP 0 rfl rfl 17 (by decide) (hts _ k_1035) (fun _ h9 => h9) rfl d_Mo_land_127 ?_
  refine lv_aload_n hx hb d_Mo_land_130 rfl (lv_at hl 1 rfl) ?_
  refine va_get (D := D) (ci := 12) (v := .int 1) (C := R_Mo) (T := F_Mo) (N := 55) hx hb hts i_Mo hown hK.1 hP 0 rfl rfl 40 (by decide) (hts _ k_1058) (fun _ h9 => h9) rfl d_Mo_land_131 ?_
  refine lv_iconst (v := 0) hx hb d_Mo_land_134 (by decide +kernel) ?_
  refine nz_iastZ hx hb hK.1 hP hD hS 7 1 rfl rfl (nz_vin (by decide +kernel)) d_Mo_land_135 (fun H locs f_8 f_8_e hP hD hS => ?_)
  have f_8_z : f_8 = (fun _ => 0) := f_8_e
  subst f_8_z
  have hP : va_P D nz_cl [(m0_, .inr (12, [.ref m0, .ref m1, .int 0, .int 0, .int 0, .int (-1), .int 0, .int 0, .int 0, .int 0, .long 0, .ref m11, .ref m12, .ref m13, .ref m14, .ref m15, .ref m16, .ref m17, .ref m18, .ref m19, .ref m20, .ref m21, .ref m22, .ref m23, .ref m24, .ref m25, .ref m26, .ref m27, .ref m28, .ref m29, .ref m30, .ref m31, .ref m32, .ref m33, .ref m34, .ref m35, .ref m36, .ref m37, .ref m38, .int 0, .int 1, .ref m41, .ref m42, .ref m43, .ref m44, .int 0, .int 0, .ref m47, .ref m48, .ref m49, .ref m50, .ref m51, .ref m52, .ref m53, .ref m54])), (m11, .inl (cI, 2, .inl (fun _ => 0))), (m12, .inl (cI, 2, .inl (fun _ => 0))), (m13, .inl (cI, 2, .inl (fun _ => 0))), (m14, .inl (cI, 2, .inl (fun _ => 0))), (m15, .inl (cI, 2, .inl (fun _ => 0))), (m16, .inl (cI, 2, .inl (fun _ => 0))), (m17, .inl (cI, 2, .inl (fun _ => 0)))] H := hP
  have hD : va_D A [(m0_, .inr (12, [.ref m0, .ref m1, .int 0, .int 0, .int 0, .int (-1), .int 0, .int 0, .int 0, .int 0, .long 0, .ref m11, .ref m12, .ref m13, .ref m14, .ref m15, .ref m16, .ref m17, .ref m18, .ref m19, .ref m20, .ref m21, .ref m22, .ref m23, .ref m24, .ref m25, .ref m26, .ref m27, .ref m28, .ref m29, .ref m30, .ref m31, .ref m32, .ref m33, .ref m34, .ref m35, .ref m36, .ref m37, .ref m38, .int 0, .int 1, .ref m41, .ref m42, .ref m43, .ref m44, .int 0, .int 0, .ref m47, .ref m48, .ref m49, .ref m50, .ref m51, .ref m52, .ref m53, .ref m54])), (m11, .inl (cI, 2, .inl (fun _ => 0))), (m12, .inl (cI, 2, .inl (fun _ => 0))), (m13, .inl (cI, 2, .inl (fun _ => 0))), (m14, .inl (cI, 2, .inl (fun _ => 0))), (m15, .inl (cI, 2, .inl (fun _ => 0))), (m16, .inl (cI, 2, .inl (fun _ => 0))), (m17, .inl (cI, 2, .inl (fun _ => 0)))] := hD
  refine lv_aload_n hx hb d_Mo_land_136 rfl (lv_at hl 1 rfl) ?_
  refine nz_calVv (As := []) (rest := []) C0 (c_Mo_goOn l D cB cI cJ m0_ m0 m1 m11 m12 m13 m14 m15 m16 m17 m18 m19 m20 m21 m22 m23 m24 m25 m26 m27 m28 m29 m30 m31 m32 m33 m34 m35 m36 m37 m38 m41 m42 m43 m44 m47 m48 m49 m50 m51 m52 m53 m54) g_Mo_231 rfl nz_xb0 (by decide) hl.1 hP hD hS hA [0] [1, 2, 3, 4, 5, 6, 7] rfl (wr := [(m11, .inl (cI, 2, .inl (fun _ => 0))), (m12, .inl (cI, 2, .inl (fun _ => 0))), (m13, .inl (cI, 2, .inl (fun _ => 0))), (m14, .inl (cI, 2, .inl (fun _ => 0))), (m15, .inl (cI, 2, .inl (fun _ => 0))), (m16, .inl (cI, 2, .inl (fun _ => 0))), (m17, .inl (cI, 2, .inl (fun _ => 0)))]) rfl (by decide) (by decide) (by decide) rfl rfl (fun _ _ _ => trivial) rfl (Nat.le_of_ble_eq_true rfl) d_Mo_land_137 (by decide) (fun u H locs h_9 hP hD hS => ?_)
  have h_9_w := h_9; subst h_9_w
  have hP : va_P D nz_cl [(m11, .inl (cI, 2, .inl (fun _ => 0))), (m12, .inl (cI, 2, .inl (fun _ => 0))), (m13, .inl (cI, 2, .inl (fun _ => 0))), (m14, .inl (cI, 2, .inl (fun _ => 0))), (m15, .inl (cI, 2, .inl (fun _ => 0))), (m16, .inl (cI, 2, .inl (fun _ => 0))), (m17, .inl (cI, 2, .inl (fun _ => 0))), (m0_, .inr (12, [.ref m0, .ref m1, .int 0, .int 0, .int 0, .int (-1), .int 0, .int 0, .int 0, .int 0, .long 0, .ref m11, .ref m12, .ref m13, .ref m14, .ref m15, .ref m16, .ref m17, .ref m18, .ref m19, .ref m20, .ref m21, .ref m22, .ref m23, .ref m24, .ref m25, .ref m26, .ref m27, .ref m28, .ref m29, .ref m30, .ref m31, .ref m32, .ref m33, .ref m34, .ref m35, .ref m36, .ref m37, .ref m38, .int 0, .int 1, .ref m41, .ref m42, .ref m43, .ref m44, .int 0, .int 0, .ref m47, .ref m48, .ref m49, .ref m50, .ref m51, .ref m52, .ref m53, .ref m54]))] H := hP
  have hD : va_D A [(m11, .inl (cI, 2, .inl (fun _ => 0))), (m12, .inl (cI, 2, .inl (fun _ => 0))), (m13, .inl (cI, 2, .inl (fun _ => 0))), (m14, .inl (cI, 2, .inl (fun _ => 0))), (m15, .inl (cI, 2, .inl (fun _ => 0))), (m16, .inl (cI, 2, .inl (fun _ => 0))), (m17, .inl (cI, 2, .inl (fun _ => 0))), (m0_, .inr (12, [.ref m0, .ref m1, .int 0, .int 0, .int 0, .int (-1), .int 0, .int 0, .int 0, .int 0, .long 0, .ref m11, .ref m12, .ref m13, .ref m14, .ref m15, .ref m16, .ref m17, .ref m18, .ref m19, .ref m20, .ref m21, .ref m22, .ref m23, .ref m24, .ref m25, .ref m26, .ref m27, .ref m28, .ref m29, .ref m30, .ref m31, .ref m32, .ref m33, .ref m34, .ref m35, .ref m36, .ref m37, .ref m38, .int 0, .int 1, .ref m41, .ref m42, .ref m43, .ref m44, .int 0, .int 0, .ref m47, .ref m48, .ref m49, .ref m50, .ref m51, .ref m52, .ref m53, .ref m54]))] := hD
  refine lv_aload_n hx hb d_Mo_land_140 rfl (lv_at hl 1 rfl) ?_
  refine nz_calVi (As := []) (rest := []) C0 (c_Mo_isGood l D cB cI cJ m0_ m0 m1 m11 m12 m13 m14 m15 m16 m17 m18 m19 m20 m21 m22 m23 m24 m25 m26 m27 m28 m29 m30 m31 m32 m33 m34 m35 m36 m37 m38 m41 m42 m43 m44 m47 m48 m49 m50 m51 m52 m53 m54) g_Mo_227 rfl nz_xb0 (by decide) hl.1 hP hD hS hA [7] [0, 1, 2, 3, 4, 5, 6] rfl (wr := [(m11, .inl (cI, 2, .inl (fun _ => 0))), (m12, .inl (cI, 2, .inl (fun _ => 0))), (m13, .inl (cI, 2, .inl (fun _ => 0))), (m14, .inl (cI, 2, .inl (fun _ => 0))), (m15, .inl (cI, 2, .inl (fun _ => 0))), (m16, .inl (cI, 2, .inl (fun _ => 0))), (m17, .inl (cI, 2, .inl (fun _ => 0)))]) rfl (by decide) (by decide) (by decide) rfl rfl (fun _ _ _ => trivial) rfl (Nat.le_of_ble_eq_true rfl) d_Mo_land_141 (by decide) (fun r_10 u H locs h_11 hP hD hS => ?_)
  obtain ⟨h_11_r, rfl⟩ := h_11
  have hP : va_P D nz_cl [(m11, .inl (cI, 2, .inl (fun _ => 0))), (m12, .inl (cI, 2, .inl (fun _ => 0))), (m13, .inl (cI, 2, .inl (fun _ => 0))), (m14, .inl (cI, 2, .inl (fun _ => 0))), (m15, .inl (cI, 2, .inl (fun _ => 0))), (m16, .inl (cI, 2, .inl (fun _ => 0))), (m17, .inl (cI, 2, .inl (fun _ => 0))), (m0_, .inr (12, [.ref m0, .ref m1, .int 0, .int 0, .int 0, .int (-1), .int 0, .int 0, .int 0, .int 0, .long 0, .ref m11, .ref m12, .ref m13, .ref m14, .ref m15, .ref m16, .ref m17, .ref m18, .ref m19, .ref m20, .ref m21, .ref m22, .ref m23, .ref m24, .ref m25, .ref m26, .ref m27, .ref m28, .ref m29, .ref m30, .ref m31, .ref m32, .ref m33, .ref m34, .ref m35, .ref m36, .ref m37, .ref m38, .int 0, .int 1, .ref m41, .ref m42, .ref m43, .ref m44, .int 0, .int 0, .ref m47, .ref m48, .ref m49, .ref m50, .ref m51, .ref m52, .ref m53, .ref m54]))] H := hP
  have hD : va_D A [(m11, .inl (cI, 2, .inl (fun _ => 0))), (m12, .inl (cI, 2, .inl (fun _ => 0))), (m13, .inl (cI, 2, .inl (fun _ => 0))), (m14, .inl (cI, 2, .inl (fun _ => 0))), (m15, .inl (cI, 2, .inl (fun _ => 0))), (m16, .inl (cI, 2, .inl (fun _ => 0))), (m17, .inl (cI, 2, .inl (fun _ => 0))), (m0_, .inr (12, [.ref m0, .ref m1, .int 0, .int 0, .int 0, .int (-1), .int 0, .int 0, .int 0, .int 0, .long 0, .ref m11, .ref m12, .ref m13, .ref m14, .ref m15, .ref m16, .ref m17, .ref m18, .ref m19, .ref m20, .ref m21, .ref m22, .ref m23, .ref m24, .ref m25, .ref m26, .ref m27, .ref m28, .ref m29, .ref m30, .ref m31, .ref m32, .ref m33, .ref m34, .ref m35, .ref m36, .ref m37, .ref m38, .int 0, .int 1, .ref m41, .ref m42, .ref m43, .ref m44, .int 0, .int 0, .ref m47, .ref m48, .ref m49, .ref m50, .ref m51, .ref m52, .ref m53, .ref m54]))] := hD
  subst h_11_r
  refine lv_if_eq (tgt := 161) hx hb d_Mo_land_144 (by decide) (fun c_12 => absurd c_12 (by decide +kernel)) (fun c_12 => ?_)
  refine lv_aload_n hx hb d_Mo_land_147 rfl (lv_at hl 1 rfl) ?_
  refine va_get (D := D) (ci := 12) (v := .int 0) (C := R_Mo) (T := F_Mo) (N := 55) hx hb hts i_Mo hown hK.1 hP 7 rfl rfl 8 (by decide) (hts _ k_1026) (fun _ h9 => h9) rfl d_Mo_land_148 ?_
  refine lv_if_eq (tgt := 161) hx hb d_Mo_land_151 (by decide) (fun c_13 => ?_) (fun c_13 => absurd (by decide +kernel) c_13)
  refine lv_aload_n hx hb d_Mo_land_161 rfl (lv_at hl 1 rfl) ?_
  refine nz_calVi (As := []) (rest := []) C0 (c_Mo_isGood l D cB cI cJ m0_ m0 m1 m11 m12 m13 m14 m15 m16 m17 m18 m19 m20 m21 m22 m23 m24 m25 m26 m27 m28 m29 m30 m31 m32 m33 m34 m35 m36 m37 m38 m41 m42 m43 m44 m47 m48 m49 m50 m51 m52 m53 m54) g_Mo_227 rfl nz_xb0 (by decide) hl.1 hP hD hS hA [7] [0, 1, 2, 3, 4, 5, 6] rfl (wr := [(m11, .inl (cI, 2, .inl (fun _ => 0))), (m12, .inl (cI, 2, .inl (fun _ => 0))), (m13, .inl (cI, 2, .inl (fun _ => 0))), (m14, .inl (cI, 2, .inl (fun _ => 0))), (m15, .inl (cI, 2, .inl (fun _ => 0))), (m16, .inl (cI, 2, .inl (fun _ => 0))), (m17, .inl (cI, 2, .inl (fun _ => 0)))]) rfl (by decide) (by decide) (by decide) rfl rfl (fun _ _ _ => trivial) rfl (Nat.le_of_ble_eq_true rfl) d_Mo_land_162 (by decide) (fun r_14 u H locs h_15 hP hD hS => ?_)
  obtain ⟨h_15_r, rfl⟩ := h_15
  have hP : va_P D nz_cl [(m11, .inl (cI, 2, .inl (fun _ => 0))), (m12, .inl (cI, 2, .inl (fun _ => 0))), (m13, .inl (cI, 2, .inl (fun _ => 0))), (m14, .inl (cI, 2, .inl (fun _ => 0))), (m15, .inl (cI, 2, .inl (fun _ => 0))), (m16, .inl (cI, 2, .inl (fun _ => 0))), (m17, .inl (cI, 2, .inl (fun _ => 0))), (m0_, .inr (12, [.ref m0, .ref m1, .int 0, .int 0, .int 0, .int (-1), .int 0, .int 0, .int 0, .int 0, .long 0, .ref m11, .ref m12, .ref m13, .ref m14, .ref m15, .ref m16, .ref m17, .ref m18, .ref m19, .ref m20, .ref m21, .ref m22, .ref m23, .ref m24, .ref m25, .ref m26, .ref m27, .ref m28, .ref m29, .ref m30, .ref m31, .ref m32, .ref m33, .ref m34, .ref m35, .ref m36, .ref m37, .ref m38, .int 0, .int 1, .ref m41, .ref m42, .ref m43, .ref m44, .int 0, .int 0, .ref m47, .ref m48, .ref m49, .ref m50, .ref m51, .ref m52, .ref m53, .ref m54]))] H := hP
  have hD : va_D A [(m11, .inl (cI, 2, .inl (fun _ => 0))), (m12, .inl (cI, 2, .inl (fun _ => 0))), (m13, .inl (cI, 2, .inl (fun _ => 0))), (m14, .inl (cI, 2, .inl (fun _ => 0))), (m15, .inl (cI, 2, .inl (fun _ => 0))), (m16, .inl (cI, 2, .inl (fun _ => 0))), (m17, .inl (cI, 2, .inl (fun _ => 0))), (m0_, .inr (12, [.ref m0, .ref m1, .int 0, .int 0, .int 0, .int (-1), .int 0, .int 0, .int 0, .int 0, .long 0, .ref m11, .ref m12, .ref m13, .ref m14, .ref m15, .ref m16, .ref m17, .ref m18, .ref m19, .ref m20, .ref m21, .ref m22, .ref m23, .ref m24, .ref m25, .ref m26, .ref m27, .ref m28, .ref m29, .ref m30, .ref m31, .ref m32, .ref m33, .ref m34, .ref m35, .ref m36, .ref m37, .ref m38, .int 0, .int 1, .ref m41, .ref m42, .ref m43, .ref m44, .int 0, .int 0, .ref m47, .ref m48, .ref m49, .ref m50, .ref m51, .ref m52, .ref m53, .ref m54]))] := hD
  subst h_15_r
  refine lv_if_ne (tgt := 170) hx hb d_Mo_land_165 (by decide) (fun c_16 => ?_) (fun c_16 => absurd c_16 (by decide +kernel))
  refine lv_aload_n hx hb d_Mo_land_170 rfl (lv_at hl 1 rfl) ?_
  refine lv_aload_n hx hb d_Mo_land_171 rfl (lv_at hl 1 rfl) ?_
  refine va_get (D := D) (ci := 12) (v := .int 1) (C := R_Mo) (T := F_Mo) (N := 55) hx hb hts i_Mo hown hK.1 hP 7 rfl rfl 40 (by decide) (hts _ k_1058) (fun _ h9 => h9) rfl d_Mo_land_172 ?_
  refine va_put (D := D) (ci := 12) (v := .int 1) (ty := .int) (C := R_Mo) (T := F_Mo) (N := 55) hx hb hts i_Mo t_Mo t_Mo_ok n_Mo hown hK.1 hP hD hS 7 rfl rfl 39 (by decide) (hts _ k_1057) (fun _ h9 => h9) rfl (by decide +kernel) rfl rfl (Nat.le_of_ble_eq_true rfl) d_Mo_land_175 (fun H locs hP hD hS => ?_)
  have hP : va_P D nz_cl [(m11, .inl (cI, 2, .inl (fun _ => 0))), (m12, .inl (cI, 2, .inl (fun _ => 0))), (m13, .inl (cI, 2, .inl (fun _ => 0))), (m14, .inl (cI, 2, .inl (fun _ => 0))), (m15, .inl (cI, 2, .inl (fun _ => 0))), (m16, .inl (cI, 2, .inl (fun _ => 0))), (m17, .inl (cI, 2, .inl (fun _ => 0))), (m0_, .inr (12, [.ref m0, .ref m1, .int 0, .int 0, .int 0, .int (-1), .int 0, .int 0, .int 0, .int 0, .long 0, .ref m11, .ref m12, .ref m13, .ref m14, .ref m15, .ref m16, .ref m17, .ref m18, .ref m19, .ref m20, .ref m21, .ref m22, .ref m23, .ref m24, .ref m25, .ref m26, .ref m27, .ref m28, .ref m29, .ref m30, .ref m31, .ref m32, .ref m33, .ref m34, .ref m35, .ref m36, .ref m37, .ref m38, .int 1, .int 1, .ref m41, .ref m42, .ref m43, .ref m44, .int 0, .int 0, .ref m47, .ref m48, .ref m49, .ref m50, .ref m51, .ref m52, .ref m53, .ref m54]))] H := hP
  have hD : va_D A [(m11, .inl (cI, 2, .inl (fun _ => 0))), (m12, .inl (cI, 2, .inl (fun _ => 0))), (m13, .inl (cI, 2, .inl (fun _ => 0))), (m14, .inl (cI, 2, .inl (fun _ => 0))), (m15, .inl (cI, 2, .inl (fun _ => 0))), (m16, .inl (cI, 2, .inl (fun _ => 0))), (m17, .inl (cI, 2, .inl (fun _ => 0))), (m0_, .inr (12, [.ref m0, .ref m1, .int 0, .int 0, .int 0, .int (-1), .int 0, .int 0, .int 0, .int 0, .long 0, .ref m11, .ref m12, .ref m13, .ref m14, .ref m15, .ref m16, .ref m17, .ref m18, .ref m19, .ref m20, .ref m21, .ref m22, .ref m23, .ref m24, .ref m25, .ref m26, .ref m27, .ref m28, .ref m29, .ref m30, .ref m31, .ref m32, .ref m33, .ref m34, .ref m35, .ref m36, .ref m37, .ref m38, .int 1, .int 1, .ref m41, .ref m42, .ref m43, .ref m44, .int 0, .int 0, .ref m47, .ref m48, .ref m49, .ref m50, .ref m51, .ref m52, .ref m53, .ref m54]))] := hD
  refine lv_aload_n hx hb d_Mo_land_178 rfl (lv_at hl 1 rfl) ?_
  refine lv_iconst (v := 0) hx hb d_Mo_land_179 (by decide +kernel) ?_
  refine va_put (D := D) (ci := 12) (v := .int 0) (ty := .int) (C := R_Mo) (T := F_Mo) (N := 55) hx hb hts i_Mo t_Mo t_Mo_ok n_Mo hown hK.1 hP hD hS 7 rfl rfl 45 (by decide) (hts _ k_1063) (fun _ h9 => h9) rfl (by decide +kernel) rfl rfl (Nat.le_of_ble_eq_true rfl) d_Mo_land_180 (fun H locs hP hD hS => ?_)
  have hP : va_P D nz_cl [(m11, .inl (cI, 2, .inl (fun _ => 0))), (m12, .inl (cI, 2, .inl (fun _ => 0))), (m13, .inl (cI, 2, .inl (fun _ => 0))), (m14, .inl (cI, 2, .inl (fun _ => 0))), (m15, .inl (cI, 2, .inl (fun _ => 0))), (m16, .inl (cI, 2, .inl (fun _ => 0))), (m17, .inl (cI, 2, .inl (fun _ => 0))), (m0_, .inr (12, [.ref m0, .ref m1, .int 0, .int 0, .int 0, .int (-1), .int 0, .int 0, .int 0, .int 0, .long 0, .ref m11, .ref m12, .ref m13, .ref m14, .ref m15, .ref m16, .ref m17, .ref m18, .ref m19, .ref m20, .ref m21, .ref m22, .ref m23, .ref m24, .ref m25, .ref m26, .ref m27, .ref m28, .ref m29, .ref m30, .ref m31, .ref m32, .ref m33, .ref m34, .ref m35, .ref m36, .ref m37, .ref m38, .int 1, .int 1, .ref m41, .ref m42, .ref m43, .ref m44, .int 0, .int 0, .ref m47, .ref m48, .ref m49, .ref m50, .ref m51, .ref m52, .ref m53, .ref m54]))] H := hP
  have hD : va_D A [(m11, .inl (cI, 2, .inl (fun _ => 0))), (m12, .inl (cI, 2, .inl (fun _ => 0))), (m13, .inl (cI, 2, .inl (fun _ => 0))), (m14, .inl (cI, 2, .inl (fun _ => 0))), (m15, .inl (cI, 2, .inl (fun _ => 0))), (m16, .inl (cI, 2, .inl (fun _ => 0))), (m17, .inl (cI, 2, .inl (fun _ => 0))), (m0_, .inr (12, [.ref m0, .ref m1, .int 0, .int 0, .int 0, .int (-1), .int 0, .int 0, .int 0, .int 0, .long 0, .ref m11, .ref m12, .ref m13, .ref m14, .ref m15, .ref m16, .ref m17, .ref m18, .ref m19, .ref m20, .ref m21, .ref m22, .ref m23, .ref m24, .ref m25, .ref m26, .ref m27, .ref m28, .ref m29, .ref m30, .ref m31, .ref m32, .ref m33, .ref m34, .ref m35, .ref m36, .ref m37, .ref m38, .int 1, .int 1, .ref m41, .ref m42, .ref m43, .ref m44, .int 0, .int 0, .ref m47, .ref m48, .ref m49, .ref m50, .ref m51, .ref m52, .ref m53, .ref m54]))] := hD
  refine lv_aload_n hx hb d_Mo_land_183 rfl (lv_at hl 1 rfl) ?_
  refine nz_calVv (As := []) (rest := []) C0 (c_Mo_layNear l D cB cI cJ m0_ m0 m1 m11 m12 m13 m14 m15 m16 m17 m18 m19 m20 m21 m22 m23 m24 m25 m26 m27 m28 m29 m30 m31 m32 m33 m34 m35 m36 m37 m38 m41 m42 m43 m44 m47 m48 m49 m50 m51 m52 m53 m54) g_Mo_252 rfl nz_xb0 (by decide) hl.1 hP hD hS hA [7, 4] [0, 1, 2, 3, 5, 6] rfl (wr := [(m11, .inl (cI, 2, .inl (fun _ => 0))), (m12, .inl (cI, 2, .inl (fun _ => 0))), (m13, .inl (cI, 2, .inl (fun _ => 0))), (m14, .inl (cI, 2, .inl (fun _ => 0))), (m16, .inl (cI, 2, .inl (fun _ => 0))), (m17, .inl (cI, 2, .inl (fun _ => 0)))]) rfl (by decide) (by decide) (by decide) rfl rfl (fun _ _ _ => trivial) rfl (Nat.le_of_ble_eq_true rfl) d_Mo_land_184 (by decide) (fun u H locs h_17 hP hD hS => ?_)
  have h_17_w := h_17; subst h_17_w
  have hP : va_P D nz_cl [(m11, .inl (cI, 2, .inl (fun _ => 0))), (m12, .inl (cI, 2, .inl (fun _ => 0))), (m13, .inl (cI, 2, .inl (fun _ => 0))), (m14, .inl (cI, 2, .inl (fun _ => 0))), (m16, .inl (cI, 2, .inl (fun _ => 0))), (m17, .inl (cI, 2, .inl (fun _ => 0))), (m0_, .inr (12, [.ref m0, .ref m1, .int 0, .int 0, .int 0, .int (-1), .int 0, .int 0, .int 0, .int 0, .long 0, .ref m11, .ref m12, .ref m13, .ref m14, .ref m15, .ref m16, .ref m17, .ref m18, .ref m19, .ref m20, .ref m21, .ref m22, .ref m23, .ref m24, .ref m25, .ref m26, .ref m27, .ref m28, .ref m29, .ref m30, .ref m31, .ref m32, .ref m33, .ref m34, .ref m35, .ref m36, .ref m37, .ref m38, .int 1, .int 1, .ref m41, .ref m42, .ref m43, .ref m44, .int 0, .int 0, .ref m47, .ref m48, .ref m49, .ref m50, .ref m51, .ref m52, .ref m53, .ref m54])), (m15, .inl (cI, 2, .inl (fun _ => 0)))] H := hP
  have hD : va_D A [(m11, .inl (cI, 2, .inl (fun _ => 0))), (m12, .inl (cI, 2, .inl (fun _ => 0))), (m13, .inl (cI, 2, .inl (fun _ => 0))), (m14, .inl (cI, 2, .inl (fun _ => 0))), (m16, .inl (cI, 2, .inl (fun _ => 0))), (m17, .inl (cI, 2, .inl (fun _ => 0))), (m0_, .inr (12, [.ref m0, .ref m1, .int 0, .int 0, .int 0, .int (-1), .int 0, .int 0, .int 0, .int 0, .long 0, .ref m11, .ref m12, .ref m13, .ref m14, .ref m15, .ref m16, .ref m17, .ref m18, .ref m19, .ref m20, .ref m21, .ref m22, .ref m23, .ref m24, .ref m25, .ref m26, .ref m27, .ref m28, .ref m29, .ref m30, .ref m31, .ref m32, .ref m33, .ref m34, .ref m35, .ref m36, .ref m37, .ref m38, .int 1, .int 1, .ref m41, .ref m42, .ref m43, .ref m44, .int 0, .int 0, .ref m47, .ref m48, .ref m49, .ref m50, .ref m51, .ref m52, .ref m53, .ref m54])), (m15, .inl (cI, 2, .inl (fun _ => 0)))] := hD
  refine lv_aload_n hx hb d_Mo_land_187 rfl (lv_at hl 1 rfl) ?_
  refine va_get (D := D) (ci := 12) (v := .ref m17) (C := R_Mo) (T := F_Mo) (N := 55) hx hb hts i_Mo hown hK.1 hP 6 rfl rfl 17 (by decide) (hts _ k_1035) (fun _ h9 => h9) rfl d_Mo_land_188 ?_
  refine lv_aload_n hx hb d_Mo_land_191 rfl (lv_at hl 1 rfl) ?_
  refine va_get (D := D) (ci := 12) (v := .int 1) (C := R_Mo) (T := F_Mo) (N := 55) hx hb hts i_Mo hown hK.1 hP 6 rfl rfl 39 (by decide) (hts _ k_1057) (fun _ h9 => h9) rfl d_Mo_land_192 ?_
  refine va_iald hx hb hK.1 hP 5 1 rfl rfl (nz_vin (by decide +kernel)) d_Mo_land_195 ?_
  refine nz_ctopi (v := 0) rfl ?_
  exact nz_reti C0 (hP.sub (ws' := [(m0_, .inr (12, [.ref m0, .ref m1, .int 0, .int 0, .int 0, .int (-1), .int 0, .int 0, .int 0, .int 0, .long 0, .ref m11, .ref m12, .ref m13, .ref m14, .ref m15, .ref m16, .ref m17, .ref m18, .ref m19, .ref m20, .ref m21, .ref m22, .ref m23, .ref m24, .ref m25, .ref m26, .ref m27, .ref m28, .ref m29, .ref m30, .ref m31, .ref m32, .ref m33, .ref m34, .ref m35, .ref m36, .ref m37, .ref m38, .int 1, .int 1, .ref m41, .ref m42, .ref m43, .ref m44, .int 0, .int 0, .ref m47, .ref m48, .ref m49, .ref m50, .ref m51, .ref m52, .ref m53, .ref m54])), (m11, .inl (cI, 2, .inl (fun _ => 0))), (m12, .inl (cI, 2, .inl (fun _ => 0))), (m13, .inl (cI, 2, .inl (fun _ => 0))), (m14, .inl (cI, 2, .inl (fun _ => 0))), (m15, .inl (cI, 2, .inl (fun _ => 0))), (m16, .inl (cI, 2, .inl (fun _ => 0))), (m17, .inl (cI, 2, .inl (fun _ => 0)))]) [6, 0, 1, 2, 3, 7, 4, 5] rfl) (hD.sub (ws' := [(m0_, .inr (12, [.ref m0, .ref m1, .int 0, .int 0, .int 0, .int (-1), .int 0, .int 0, .int 0, .int 0, .long 0, .ref m11, .ref m12, .ref m13, .ref m14, .ref m15, .ref m16, .ref m17, .ref m18, .ref m19, .ref m20, .ref m21, .ref m22, .ref m23, .ref m24, .ref m25, .ref m26, .ref m27, .ref m28, .ref m29, .ref m30, .ref m31, .ref m32, .ref m33, .ref m34, .ref m35, .ref m36, .ref m37, .ref m38, .int 1, .int 1, .ref m41, .ref m42, .ref m43, .ref m44, .int 0, .int 0, .ref m47, .ref m48, .ref m49, .ref m50, .ref m51, .ref m52, .ref m53, .ref m54])), (m11, .inl (cI, 2, .inl (fun _ => 0))), (m12, .inl (cI, 2, .inl (fun _ => 0))), (m13, .inl (cI, 2, .inl (fun _ => 0))), (m14, .inl (cI, 2, .inl (fun _ => 0))), (m15, .inl (cI, 2, .inl (fun _ => 0))), (m16, .inl (cI, 2, .inl (fun _ => 0))), (m17, .inl (cI, 2, .inl (fun _ => 0)))]) [6, 0, 1, 2, 3, 7, 4, 5] (by decide) rfl) hS ⟨rfl, rfl⟩ d_Mo_land_196
