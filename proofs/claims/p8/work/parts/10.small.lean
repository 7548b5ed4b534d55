def nz_lt (t z : Int32) : Int32 := if z < 0 then -1 else if 1000 < z then -1 else if t + z ≤ 100000 then t + z else -1
def nz_tn (t z : Int32) : Int32 := if z < 0 then t else if 1000 < z then t else if t + z ≤ 100000 then t + z else t
def nz_rg (z n : Int32) : Int32 := if z < 0 then 0 else if n ≤ z then 0 else 1
def nz_isin (z a b : Int32) : Int32 := if z < a then 0 else if b < z then 0 else 1
def nz_yr (z : Int32) : Int32 := if z < 0 then 0 else if 199 < z then 0 else 1
set_option maxHeartbeats 4000000 in
set_option maxRecDepth 100000 in
theorem c_Deaths_goOn (l : Launch) (D : va_G) (cB cI cJ : ClassId) (o5 : Nat) (p0 : Int32) (dn : Int32) (dt : Int32) (d1 : Nat) (d2 : Nat) (d3 : Nat) (d4 : Nat) : nz_Ci l D cB cI cJ nz_x0 y_Deaths_goOn b_Deaths_goOn 2 (some .int) { frames := 0, cells := 0, slots := 0, locals := 0 } [.ref o5, .int p0] [(o5, .inr (1, [.int dn, .int dt, .ref d1, .ref d2, .ref d3, .ref d4]))] (fun r w => ∃ (zt : Int32), r = nz_lt dt p0 ∧ zt = nz_tn dt p0 ∧ w = [(o5, .inr (1, [.int dn, .int zt, .ref d1, .ref d2, .ref d3, .ref d4]))]) := by
  refine nz_Ci.mk (by decide) (Nat.le_of_ble_eq_true rfl) ?_
  intro p e s m below meth c A ls C0 hnm hP hD hS hA hX hl
  have C0 : nz_Cx p s m _ meth c b_Deaths_goOn 2 (some .int) R_Deaths D cB cI cJ := C0
  obtain ⟨hx, hb, hr, hml, hown, hts, hlk, hK⟩ := id C0
  have hl : lv_has ls 2 [(0, .ref o5), (1, .int p0)] := hl
  refine lv_iload_n hx hb d_Deaths_goOn_0 rfl (lv_at hl 1 rfl) ?_
  refine lv_if_lt (tgt := 22) hx hb d_Deaths_goOn_1 (by decide) (fun c_1 => ?_) (fun c_1 => ?_)
  · refine lv_iconst (v := (-1)) hx hb d_Deaths_goOn_22 (by decide +kernel) ?_
    exact nz_reti C0 (hP.sub (ws' := [(o5, .inr (1, [.int dn, .int dt, .ref d1, .ref d2, .ref d3, .ref d4]))]) [0] rfl) (hD.sub (ws' := [(o5, .inr (1, [.int dn, .int dt, .ref d1, .ref d2, .ref d3, .ref d4]))]) [0] (by decide) rfl) hS ⟨dt, (by unfold nz_lt; (try first | rw [if_pos c_1] | rw [if_neg c_1] | rw [if_pos (Int32.not_le.mp c_1)] | rw [if_neg (Int32.not_lt.mpr c_1)] | rw [if_pos (Decidable.not_not.mp c_1)])), (by unfold nz_tn; (try first | rw [if_pos c_1] | rw [if_neg c_1] | rw [if_pos (Int32.not_le.mp c_1)] | rw [if_neg (Int32.not_lt.mpr c_1)] | rw [if_pos (Decidable.not_not.mp c_1)])), rfl⟩ d_Deaths_goOn_23
  · refine lv_iload_n hx hb d_Deaths_goOn_4 rfl (lv_at hl 1 rfl) ?_
    refine lv_sipush (v := 1000) hx hb d_Deaths_goOn_5 (by decide +kernel) ?_
    refine lv_icmp_gt (tgt := 22) hx hb d_Deaths_goOn_8 (by decide) (fun c_2 => ?_) (fun c_2 => ?_)
    · refine lv_iconst (v := (-1)) hx hb d_Deaths_goOn_22 (by decide +kernel) ?_
      exact nz_reti C0 (hP.sub (ws' := [(o5, .inr (1, [.int dn, .int dt, .ref d1, .ref d2, .ref d3, .ref d4]))]) [0] rfl) (hD.sub (ws' := [(o5, .inr (1, [.int dn, .int dt, .ref d1, .ref d2, .ref d3, .ref d4]))]) [0] (by decide) rfl) hS ⟨dt, (by unfold nz_lt; (try first | rw [if_pos c_1] | rw [if_neg c_1] | rw [if_pos (Int32.not_le.mp c_1)] | rw [if_neg (Int32.not_lt.mpr c_1)] | rw [if_pos (Decidable.not_not.mp c_1)]); (try first | rw [if_pos c_2] | rw [if_neg c_2] | rw [if_pos (Int32.not_le.mp c_2)] | rw [if_neg (Int32.not_lt.mpr c_2)] | rw [if_pos (Decidable.not_not.mp c_2)])), (by unfold nz_tn; (try first | rw [if_pos c_1] | rw [if_neg c_1] | rw [if_pos (Int32.not_le.mp c_1)] | rw [if_neg (Int32.not_lt.mpr c_1)] | rw [if_pos (Decidable.not_not.mp c_1)]); (try first | rw [if_pos c_2] | rw [if_neg c_2] | rw [if_pos (Int32.not_le.mp c_2)] | rw [if_neg (Int32.not_lt.mpr c_2)] | rw [if_pos (Decidable.not_not.mp c_2)])), rfl⟩ d_Deaths_goOn_23
    · refine lv_aload_n hx hb d_Deaths_goOn_11 rfl (lv_at hl 0 rfl) ?_
      refine va_get (D := D) (ci := 1) (v := .int dt) (C := R_Deaths) (T := F_Deaths) (N := 6) hx hb hts i_Deaths hown hK.1 hP 0 rfl rfl 1 (by decide) (hts _ k_395) (fun _ h9 => h9) rfl d_Deaths_goOn_12 ?_
      refine lv_iload_n hx hb d_Deaths_goOn_15 rfl (lv_at hl 1 rfl) ?_
      refine lv_iadd hx hb d_Deaths_goOn_16 ?_
      refine lv_topi (fun x_3 e_4 => ?_)
      refine lv_ldc (v := 100000) hx hb hown (hts _ k_721) d_Deaths_goOn_17 ?_
      refine lv_icmp_le (tgt := 24) hx hb d_Deaths_goOn_19 (by decide) (fun c_5 => ?_) (fun c_5 => ?_)
      · refine lv_aload_n hx hb d_Deaths_goOn_24 rfl (lv_at hl 0 rfl) ?_
        refine lv_dup hx hb d_Deaths_goOn_25 rfl ?_
        refine va_get (D := D) (ci := 1) (v := .int dt) (C := R_Deaths) (T := F_Deaths) (N := 6) hx hb hts i_Deaths hown hK.1 hP 0 rfl rfl 1 (by decide) (hts _ k_395) (fun _ h9 => h9) rfl d_Deaths_goOn_26 ?_
        refine lv_iload_n hx hb d_Deaths_goOn_29 rfl (lv_at hl 1 rfl) ?_
        refine lv_iadd hx hb d_Deaths_goOn_30 ?_
        refine lv_topi (fun x_6 e_7 => ?_)
        refine va_put (D := D) (ci := 1) (v := .int x_6) (ty := .int) (C := R_Deaths) (T := F_Deaths) (N := 6) hx hb hts i_Deaths t_Deaths t_Deaths_ok n_Deaths hown hK.1 hP hD hS 0 rfl rfl 1 (by decide) (hts _ k_395) (fun _ h9 => h9) rfl (by decide +kernel) rfl rfl (Nat.le_of_ble_eq_true rfl) d_Deaths_goOn_31 (fun H locs hP hD hS => ?_)
        have hP : va_P D nz_cl [(o5, .inr (1, [.int dn, .int x_6, .ref d1, .ref d2, .ref d3, .ref d4]))] H := hP
        have hD : va_D A [(o5, .inr (1, [.int dn, .int x_6, .ref d1, .ref d2, .ref d3, .ref d4]))] := hD
        refine lv_aload_n hx hb d_Deaths_goOn_34 rfl (lv_at hl 0 rfl) ?_
        refine va_get (D := D) (ci := 1) (v := .int x_6) (C := R_Deaths) (T := F_Deaths) (N := 6) hx hb hts i_Deaths hown hK.1 hP 0 rfl rfl 1 (by decide) (hts _ k_395) (fun _ h9 => h9) rfl d_Deaths_goOn_35 ?_
        exact nz_reti C0 (hP.sub (ws' := [(o5, .inr (1, [.int dn, .int x_6, .ref d1, .ref d2, .ref d3, .ref d4]))]) [0] rfl) (hD.sub (ws' := [(o5, .inr (1, [.int dn, .int x_6, .ref d1, .ref d2, .ref d3, .ref d4]))]) [0] (by decide) rfl) hS ⟨x_6, (by (try subst e_4); (try subst e_7); unfold nz_lt; (try first | rw [if_pos c_1] | rw [if_neg c_1] | rw [if_pos (Int32.not_le.mp c_1)] | rw [if_neg (Int32.not_lt.mpr c_1)] | rw [if_pos (Decidable.not_not.mp c_1)]); (try first | rw [if_pos c_2] | rw [if_neg c_2] | rw [if_pos (Int32.not_le.mp c_2)] | rw [if_neg (Int32.not_lt.mpr c_2)] | rw [if_pos (Decidable.not_not.mp c_2)]); (try first | rw [if_pos c_5] | rw [if_neg c_5] | rw [if_pos (Int32.not_le.mp c_5)] | rw [if_neg (Int32.not_lt.mpr c_5)] | rw [if_pos (Decidable.not_not.mp c_5)])), (by (try subst e_4); (try subst e_7); unfold nz_tn; (try first | rw [if_pos c_1] | rw [if_neg c_1] | rw [if_pos (Int32.not_le.mp c_1)] | rw [if_neg (Int32.not_lt.mpr c_1)] | rw [if_pos (Decidable.not_not.mp c_1)]); (try first | rw [if_pos c_2] | rw [if_neg c_2] | rw [if_pos (Int32.not_le.mp c_2)] | rw [if_neg (Int32.not_lt.mpr c_2)] | rw [if_pos (Decidable.not_not.mp c_2)]); (try first | rw [if_pos c_5] | rw [if_neg c_5] | rw [if_pos (Int32.not_le.mp c_5)] | rw [if_neg (Int32.not_lt.mpr c_5)] | rw [if_pos (Decidable.not_not.mp c_5)])), rfl⟩ d_Deaths_goOn_38
      · refine lv_iconst (v := (-1)) hx hb d_Deaths_goOn_22 (by decide +kernel) ?_
        exact nz_reti C0 (hP.sub (ws' := [(o5, .inr (1, [.int dn, .int dt, .ref d1, .ref d2, .ref d3, .ref d4]))]) [0] rfl) (hD.sub (ws' := [(o5, .inr (1, [.int dn, .int dt, .ref d1, .ref d2, .ref d3, .ref d4]))]) [0] (by decide) rfl) hS ⟨dt, (by (try subst e_4); unfold nz_lt; (try first | rw [if_pos c_1] | rw [if_neg c_1] | rw [if_pos (Int32.not_le.mp c_1)] | rw [if_neg (Int32.not_lt.mpr c_1)] | rw [if_pos (Decidable.not_not.mp c_1)]); (try first | rw [if_pos c_2] | rw [if_neg c_2] | rw [if_pos (Int32.not_le.mp c_2)] | rw [if_neg (Int32.not_lt.mpr c_2)] | rw [if_pos (Decidable.not_not.mp c_2)]); (try first | rw [if_pos c_5] | rw [if_neg c_5] | rw [if_pos (Int32.not_le.mp c_5)] | rw [if_neg (Int32.not_lt.mpr c_5)] | rw [if_pos (Decidable.not_not.mp c_5)])), (by (try subst e_4); unfold nz_tn; (try first | rw [if_pos c_1] | rw [if_neg c_1] | rw [if_pos (Int32.not_le.mp c_1)] | rw [if_neg (Int32.not_lt.mpr c_1)] | rw [if_pos (Decidable.not_not.mp c_1)]); (try first | rw [if_pos c_2] | rw [if_neg c_2] | rw [if_pos (Int32.not_le.mp c_2)] | rw [if_neg (Int32.not_lt.mpr c_2)] | rw [if_pos (Decidable.not_not.mp c_2)]); (try first | rw [if_pos c_5] | rw [if_neg c_5] | rw [if_pos (Int32.not_le.mp c_5)] | rw [if_neg (Int32.not_lt.mpr c_5)] | rw [if_pos (Decidable.not_not.mp c_5)])), rfl⟩ d_Deaths_goOn_23
set_option maxHeartbeats 4000000 in
set_option maxRecDepth 100000 in
theorem c_NF_later (l : Launch) (D : va_G) (cB cI cJ : ClassId) (o0 : Nat) (p0 : Int32) (o1 : Nat) (tp : Int32) (o2 : Nat) (o3 : Nat) (o4 : Nat) (o5 : Nat) (o6 : Nat) (o7 : Nat) (o8 : Nat) (o9 : Nat) (o10 : Nat) (dn : Int32) (dt : Int32) (d1 : Nat) (d2 : Nat) (d3 : Nat) (d4 : Nat) : nz_Ci l D cB cI cJ nz_x0 y_NF_later b_NF_later 2 (some .int) { frames := 1, cells := 0, slots := 0, locals := 21 } [.ref o0, .int p0] [(o0, .inr (11, [.ref o1, .int tp, .ref o2, .ref o3, .ref o4, .ref o5, .ref o6, .ref o7, .ref o8, .ref o9, .ref o10])), (o5, .inr (1, [.int dn, .int dt, .ref d1, .ref d2, .ref d3, .ref d4]))] (fun r w => ∃ (zt : Int32), r = nz_lt dt p0 ∧ zt = nz_tn dt p0 ∧ w = [(o0, .inr (11, [.ref o1, .int tp, .ref o2, .ref o3, .ref o4, .ref o5, .ref o6, .ref o7, .ref o8, .ref o9, .ref o10])), (o5, .inr (1, [.int dn, .int zt, .ref d1, .ref d2, .ref d3, .ref d4]))]) := by
  refine nz_Ci.mk (by decide) (Nat.le_of_ble_eq_true rfl) ?_
  intro p e s m below meth c A ls C0 hnm hP hD hS hA hX hl
  have C0 : nz_Cx p s m _ meth c b_NF_later 2 (some .int) R_NF D cB cI cJ := C0
  obtain ⟨hx, hb, hr, hml, hown, hts, hlk, hK⟩ := id C0
  have hl : lv_has ls 2 [(0, .ref o0), (1, .int p0)] := hl
  refine lv_aload_n hx hb d_NF_later_0 rfl (lv_at hl 0 rfl) ?_
  refine va_get (D := D) (ci := 11) (v := .ref o5) (C := R_NF) (T := F_NF) (N := 11) hx hb hts i_NF hown hK.1 hP 0 rfl rfl 5 (by decide) (hts _ k_465) (fun _ h9 => h9) rfl d_NF_later_1 ?_
  refine lv_iload_n hx hb d_NF_later_4 rfl (lv_at hl 1 rfl) ?_
  refine nz_calVi (As := [.int p0]) (rest := []) C0 (c_Deaths_goOn l D cB cI cJ o5 p0 dn dt d1 d2 d3 d4) g_NF_127 rfl nz_xb0 (by decide) hl.1 hP hD hS hA [1] [0] rfl (wr := [(o0, .inr (11, [.ref o1, .int tp, .ref o2, .ref o3, .ref o4, .ref o5, .ref o6, .ref o7, .ref o8, .ref o9, .ref o10]))]) rfl (by decide) (by decide) (by decide) rfl rfl (fun _ _ _ => trivial) rfl (Nat.le_of_ble_eq_true rfl) d_NF_later_5 (by decide) (fun r_1 u H locs h_3 hP hD hS => ?_)
  obtain ⟨z_2, h_3_r, h_3_f0, rfl⟩ := h_3
  have hP : va_P D nz_cl [(o0, .inr (11, [.ref o1, .int tp, .ref o2, .ref o3, .ref o4, .ref o5, .ref o6, .ref o7, .ref o8, .ref o9, .ref o10])), (o5, .inr (1, [.int dn, .int z_2, .ref d1, .ref d2, .ref d3, .ref d4]))] H := hP
  have hD : va_D A [(o0, .inr (11, [.ref o1, .int tp, .ref o2, .ref o3, .ref o4, .ref o5, .ref o6, .ref o7, .ref o8, .ref o9, .ref o10])), (o5, .inr (1, [.int dn, .int z_2, .ref d1, .ref d2, .ref d3, .ref d4]))] := hD
  subst h_3_r
  exact nz_reti C0 (hP.sub (ws' := [(o0, .inr (11, [.ref o1, .int tp, .ref o2, .ref o3, .ref o4, .ref o5, .ref o6, .ref o7, .ref o8, .ref o9, .ref o10])), (o5, .inr (1, [.int dn, .int z_2, .ref d1, .ref d2, .ref d3, .ref d4]))]) [0, 1] rfl) (hD.sub (ws' := [(o0, .inr (11, [.ref o1, .int tp, .ref o2, .ref o3, .ref o4, .ref o5, .ref o6, .ref o7, .ref o8, .ref o9, .ref o10])), (o5, .inr (1, [.int dn, .int z_2, .ref d1, .ref d2, .ref d3, .ref d4]))]) [0, 1] (by decide) rfl) hS ⟨z_2, rfl, h_3_f0, rfl⟩ d_NF_later_8
set_option maxHeartbeats 4000000 in
set_option maxRecDepth 100000 in
theorem c_Deaths_forget (l : Launch) (D : va_G) (cB cI cJ : ClassId) (o5 : Nat) (dn : Int32) (dt : Int32) (d1 : Nat) (d2 : Nat) (d3 : Nat) (d4 : Nat) : nz_Cv l D cB cI cJ nz_x0 y_Deaths_forget b_Deaths_forget 1 none { frames := 0, cells := 0, slots := 0, locals := 0 } [.ref o5] [(o5, .inr (1, [.int dn, .int dt, .ref d1, .ref d2, .ref d3, .ref d4]))] (fun w => w = [(o5, .inr (1, [.int 0, .int dt, .ref d1, .ref d2, .ref d3, .ref d4]))]) := by
  refine nz_Cv.mk (by decide) (Nat.le_of_ble_eq_true rfl) ?_
  intro p e s m below meth c A ls C0 hnm hP hD hS hA hX hl
  have C0 : nz_Cx p s m _ meth c b_Deaths_forget 1 none R_Deaths D cB cI cJ := C0
  obtain ⟨hx, hb, hr, hml, hown, hts, hlk, hK⟩ := id C0
  have hl : lv_has ls 1 [(0, .ref o5)] := hl
  refine lv_aload_n hx hb d_Deaths_forget_0 rfl (lv_at hl 0 rfl) ?_
  refine lv_iconst (v := 0) hx hb d_Deaths_forget_1 (by decide +kernel) ?_
  refine va_put (D := D) (ci := 1) (v := .int 0) (ty := .int) (C := R_Deaths) (T := F_Deaths) (N := 6) hx hb hts i_Deaths t_Deaths t_Deaths_ok n_Deaths hown hK.1 hP hD hS 0 rfl rfl 0 (by decide) (hts _ k_393) (fun _ h9 => h9) rfl (by decide +kernel) rfl rfl (Nat.le_of_ble_eq_true rfl) d_Deaths_forget_2 (fun H locs hP hD hS => ?_)
  have hP : va_P D nz_cl [(o5, .inr (1, [.int 0, .int dt, .ref d1, .ref d2, .ref d3, .ref d4]))] H := hP
  have hD : va_D A [(o5, .inr (1, [.int 0, .int dt, .ref d1, .ref d2, .ref d3, .ref d4]))] := hD
  exact nz_retv C0 (hP.sub (ws' := [(o5, .inr (1, [.int 0, .int dt, .ref d1, .ref d2, .ref d3, .ref d4]))]) [0] rfl) (hD.sub (ws' := [(o5, .inr (1, [.int 0, .int dt, .ref d1, .ref d2, .ref d3, .ref d4]))]) [0] (by decide) rfl) hS rfl d_Deaths_forget_5
set_option maxHeartbeats 4000000 in
set_option maxRecDepth 100000 in
theorem c_NF_isPlace (l : Launch) (D : va_G) (cB cI cJ : ClassId) (o0 : Nat) (p0 : Int32) (o1 : Nat) (tp : Int32) (o2 : Nat) (o3 : Nat) (o4 : Nat) (o5 : Nat) (o6 : Nat) (o7 : Nat) (o8 : Nat) (o9 : Nat) (o10 : Nat) (u1 : Nat) (u2 : Nat) (u3 : Nat) (u4 : Nat) (u5 : Nat) (np : Int32) (u11 : Nat) (u12 : Nat) (u13 : Nat) (u14 : Nat) (u15 : Nat) (u16 : Nat) (u17 : Nat) : nz_Ci l D cB cI cJ nz_x0 y_NF_isPlace b_NF_isPlace 2 (some .boolean) { frames := 0, cells := 0, slots := 0, locals := 0 } [.ref o0, .int p0] [(o0, .inr (11, [.ref o1, .int tp, .ref o2, .ref o3, .ref o4, .ref o5, .ref o6, .ref o7, .ref o8, .ref o9, .ref o10])), (o2, .inr (3, [.ref u1, .ref u2, .ref u3, .ref u4, .ref u5])), (u1, .inr (6, [.int np, .ref u11, .ref u12, .ref u13, .ref u14, .ref u15, .ref u16, .ref u17]))] (fun r w => r = nz_rg p0 np ∧ w = [(o0, .inr (11, [.ref o1, .int tp, .ref o2, .ref o3, .ref o4, .ref o5, .ref o6, .ref o7, .ref o8, .ref o9, .ref o10])), (o2, .inr (3, [.ref u1, .ref u2, .ref u3, .ref u4, .ref u5])), (u1, .inr (6, [.int np, .ref u11, .ref u12, .ref u13, .ref u14, .ref u15, .ref u16, .ref u17]))]) := by
  refine nz_Ci.mk (by decide) (Nat.le_of_ble_eq_true rfl) ?_
  intro p e s m below meth c A ls C0 hnm hP hD hS hA hX hl
  have C0 : nz_Cx p s m _ meth c b_NF_isPlace 2 (some .boolean) R_NF D cB cI cJ := C0
  obtain ⟨hx, hb, hr, hml, hown, hts, hlk, hK⟩ := id C0
  have hl : lv_has ls 2 [(0, .ref o0), (1, .int p0)] := hl
  refine lv_iload_n hx hb d_NF_isPlace_0 rfl (lv_at hl 1 rfl) ?_
  refine lv_if_lt (tgt := 22) hx hb d_NF_isPlace_1 (by decide) (fun c_1 => ?_) (fun c_1 => ?_)
  · refine lv_iconst (v := 0) hx hb d_NF_isPlace_22 (by decide +kernel) ?_
    exact nz_retz C0 (by decide +kernel) (hP.sub (ws' := [(o0, .inr (11, [.ref o1, .int tp, .ref o2, .ref o3, .ref o4, .ref o5, .ref o6, .ref o7, .ref o8, .ref o9, .ref o10])), (o2, .inr (3, [.ref u1, .ref u2, .ref u3, .ref u4, .ref u5])), (u1, .inr (6, [.int np, .ref u11, .ref u12, .ref u13, .ref u14, .ref u15, .ref u16, .ref u17]))]) [0, 1, 2] rfl) (hD.sub (ws' := [(o0, .inr (11, [.ref o1, .int tp, .ref o2, .ref o3, .ref o4, .ref o5, .ref o6, .ref o7, .ref o8, .ref o9, .ref o10])), (o2, .inr (3, [.ref u1, .ref u2, .ref u3, .ref u4, .ref u5])), (u1, .inr (6, [.int np, .ref u11, .ref u12, .ref u13, .ref u14, .ref u15, .ref u16, .ref u17]))]) [0, 1, 2] (by decide) rfl) hS ⟨(by unfold nz_rg; (try first | rw [if_pos c_1] | rw [if_neg c_1] | rw [if_pos (Int32.not_le.mp c_1)] | rw [if_neg (Int32.not_lt.mpr c_1)] | rw [if_pos (Decidable.not_not.mp c_1)])), rfl⟩ d_NF_isPlace_23
  · refine lv_iload_n hx hb d_NF_isPlace_4 rfl (lv_at hl 1 rfl) ?_
    refine lv_aload_n hx hb d_NF_isPlace_5 rfl (lv_at hl 0 rfl) ?_
    refine va_get (D := D) (ci := 11) (v := .ref o2) (C := R_NF) (T := F_NF) (N := 11) hx hb hts i_NF hown hK.1 hP 0 rfl rfl 2 (by decide) (hts _ k_462) (fun _ h9 => h9) rfl d_NF_isPlace_6 ?_
    refine va_get (D := D) (ci := 3) (v := .ref u1) (C := R_Land) (T := F_Land) (N := 5) hx hb hts i_Land hown hK.1 hP 1 rfl rfl 0 (by decide) (hts _ k_217) (fun _ h9 => h9) rfl d_NF_isPlace_9 ?_
    refine va_get (D := D) (ci := 6) (v := .int np) (C := R_Places) (T := F_Places) (N := 8) hx hb hts i_Places hown hK.1 hP 2 rfl rfl 0 (by decide) (hts _ k_44) (fun _ h9 => h9) rfl d_NF_isPlace_12 ?_
    refine lv_icmp_ge (tgt := 22) hx hb d_NF_isPlace_15 (by decide) (fun c_2 => ?_) (fun c_2 => ?_)
    · refine lv_iconst (v := 0) hx hb d_NF_isPlace_22 (by decide +kernel) ?_
      exact nz_retz C0 (by decide +kernel) (hP.sub (ws' := [(o0, .inr (11, [.ref o1, .int tp, .ref o2, .ref o3, .ref o4, .ref o5, .ref o6, .ref o7, .ref o8, .ref o9, .ref o10])), (o2, .inr (3, [.ref u1, .ref u2, .ref u3, .ref u4, .ref u5])), (u1, .inr (6, [.int np, .ref u11, .ref u12, .ref u13, .ref u14, .ref u15, .ref u16, .ref u17]))]) [0, 1, 2] rfl) (hD.sub (ws' := [(o0, .inr (11, [.ref o1, .int tp, .ref o2, .ref o3, .ref o4, .ref o5, .ref o6, .ref o7, .ref o8, .ref o9, .ref o10])), (o2, .inr (3, [.ref u1, .ref u2, .ref u3, .ref u4, .ref u5])), (u1, .inr (6, [.int np, .ref u11, .ref u12, .ref u13, .ref u14, .ref u15, .ref u16, .ref u17]))]) [0, 1, 2] (by decide) rfl) hS ⟨(by unfold nz_rg; (try first | rw [if_pos c_1] | rw [if_neg c_1] | rw [if_pos (Int32.not_le.mp c_1)] | rw [if_neg (Int32.not_lt.mpr c_1)] | rw [if_pos (Decidable.not_not.mp c_1)]); (try first | rw [if_pos c_2] | rw [if_neg c_2] | rw [if_pos (Int32.not_le.mp c_2)] | rw [if_neg (Int32.not_lt.mpr c_2)] | rw [if_pos (Decidable.not_not.mp c_2)])), rfl⟩ d_NF_isPlace_23
    · refine lv_iconst (v := 1) hx hb d_NF_isPlace_18 (by decide +kernel) ?_
      refine lv_goto (tgt := 23) hx hb d_NF_isPlace_19 (by decide) ?_
      exact nz_retz C0 (by decide +kernel) (hP.sub (ws' := [(o0, .inr (11, [.ref o1, .int tp, .ref o2, .ref o3, .ref o4, .ref o5, .ref o6, .ref o7, .ref o8, .ref o9, .ref o10])), (o2, .inr (3, [.ref u1, .ref u2, .ref u3, .ref u4, .ref u5])), (u1, .inr (6, [.int np, .ref u11, .ref u12, .ref u13, .ref u14, .ref u15, .ref u16, .ref u17]))]) [0, 1, 2] rfl) (hD.sub (ws' := [(o0, .inr (11, [.ref o1, .int tp, .ref o2, .ref o3, .ref o4, .ref o5, .ref o6, .ref o7, .ref o8, .ref o9, .ref o10])), (o2, .inr (3, [.ref u1, .ref u2, .ref u3, .ref u4, .ref u5])), (u1, .inr (6, [.int np, .ref u11, .ref u12, .ref u13, .ref u14, .ref u15, .ref u16, .ref u17]))]) [0, 1, 2] (by decide) rfl) hS ⟨(by unfold nz_rg; (try first | rw [if_pos c_1] | rw [if_neg c_1] | rw [if_pos (Int32.not_le.mp c_1)] | rw [if_neg (Int32.not_lt.mpr c_1)] | rw [if_pos (Decidable.not_not.mp c_1)]); (try first | rw [if_pos c_2] | rw [if_neg c_2] | rw [if_pos (Int32.not_le.mp c_2)] | rw [if_neg (Int32.not_lt.mpr c_2)] | rw [if_pos (Decidable.not_not.mp c_2)])), rfl⟩ d_NF_isPlace_23
set_option maxHeartbeats 4000000 in
set_option maxRecDepth 100000 in
theorem c_NF_isMeaning (l : Launch) (D : va_G) (cB cI cJ : ClassId) (o0 : Nat) (p0 : Int32) (o1 : Nat) (tp : Int32) (o2 : Nat) (o3 : Nat) (o4 : Nat) (o5 : Nat) (o6 : Nat) (o7 : Nat) (o8 : Nat) (o9 : Nat) (o10 : Nat) (u1 : Nat) (u2 : Nat) (u3 : Nat) (u4 : Nat) (u5 : Nat) (nm : Int32) (u21 : Nat) (nt : Int32) (u22 : Nat) (u23 : Nat) (u24 : Nat) : nz_Ci l D cB cI cJ nz_x0 y_NF_isMeaning b_NF_isMeaning 2 (some .boolean) { frames := 0, cells := 0, slots := 0, locals := 0 } [.ref o0, .int p0] [(o0, .inr (11, [.ref o1, .int tp, .ref o2, .ref o3, .ref o4, .ref o5, .ref o6, .ref o7, .ref o8, .ref o9, .ref o10])), (o2, .inr (3, [.ref u1, .ref u2, .ref u3, .ref u4, .ref u5])), (u2, .inr (4, [.int nm, .ref u21, .int nt, .ref u22, .ref u23, .ref u24]))] (fun r w => r = nz_rg p0 nm ∧ w = [(o0, .inr (11, [.ref o1, .int tp, .ref o2, .ref o3, .ref o4, .ref o5, .ref o6, .ref o7, .ref o8, .ref o9, .ref o10])), (o2, .inr (3, [.ref u1, .ref u2, .ref u3, .ref u4, .ref u5])), (u2, .inr (4, [.int nm, .ref u21, .int nt, .ref u22, .ref u23, .ref u24]))]) := by
  refine nz_Ci.mk (by decide) (Nat.le_of_ble_eq_true rfl) ?_
  intro p e s m below meth c A ls C0 hnm hP hD hS hA hX hl
  have C0 : nz_Cx p s m _ meth c b_NF_isMeaning 2 (some .boolean) R_NF D cB cI cJ := C0
  obtain ⟨hx, hb, hr, hml, hown, hts, hlk, hK⟩ := id C0
  have hl : lv_has ls 2 [(0, .ref o0), (1, .int p0)] := hl
  refine lv_iload_n hx hb d_NF_isMeaning_0 rfl (lv_at hl 1 rfl) ?_
  refine lv_if_lt (tgt := 22) hx hb d_NF_isMeaning_1 (by decide) (fun c_1 => ?_) (fun c_1 => ?_)
  · refine lv_iconst (v := 0) hx hb d_NF_isMeaning_22 (by decide +kernel) ?_
    exact nz_retz C0 (by decide +kernel) (hP.sub (ws' := [(o0, .inr (11, [.ref o1, .int tp, .ref o2, .ref o3, .ref o4, .ref o5, .ref o6, .ref o7, .ref o8, .ref o9, .ref o10])), (o2, .inr (3, [.ref u1, .ref u2, .ref u3, .ref u4, .ref u5])), (u2, .inr (4, [.int nm, .ref u21, .int nt, .ref u22, .ref u23, .ref u24]))]) [0, 1, 2] rfl) (hD.sub (ws' := [(o0, .inr (11, [.ref o1, .int tp, .ref o2, .ref o3, .ref o4, .ref o5, .ref o6, .ref o7, .ref o8, .ref o9, .ref o10])), (o2, .inr (3, [.ref u1, .ref u2, .ref u3, .ref u4, .ref u5])), (u2, .inr (4, [.int nm, .ref u21, .int nt, .ref u22, .ref u23, .ref u24]))]) [0, 1, 2] (by decide) rfl) hS ⟨(by unfold nz_rg; (try first | rw [if_pos c_1] | rw [if_neg c_1] | rw [if_pos (Int32.not_le.mp c_1)] | rw [if_neg (Int32.not_lt.mpr c_1)] | rw [if_pos (Decidable.not_not.mp c_1)])), rfl⟩ d_NF_isMeaning_23
  · refine lv_iload_n hx hb d_NF_isMeaning_4 rfl (lv_at hl 1 rfl) ?_
    refine lv_aload_n hx hb d_NF_isMeaning_5 rfl (lv_at hl 0 rfl) ?_
    refine va_get (D := D) (ci := 11) (v := .ref o2) (C := R_NF) (T := F_NF) (N := 11) hx hb hts i_NF hown hK.1 hP 0 rfl rfl 2 (by decide) (hts _ k_462) (fun _ h9 => h9) rfl d_NF_isMeaning_6 ?_
    refine va_get (D := D) (ci := 3) (v := .ref u2) (C := R_Land) (T := F_Land) (N := 5) hx hb hts i_Land hown hK.1 hP 1 rfl rfl 1 (by decide) (hts _ k_222) (fun _ h9 => h9) rfl d_NF_isMeaning_9 ?_
    refine va_get (D := D) (ci := 4) (v := .int nm) (C := R_Meanings) (T := F_Meanings) (N := 6) hx hb hts i_Meanings hown hK.1 hP 2 rfl rfl 0 (by decide) (hts _ k_94) (fun _ h9 => h9) rfl d_NF_isMeaning_12 ?_
    refine lv_icmp_ge (tgt := 22) hx hb d_NF_isMeaning_15 (by decide) (fun c_2 => ?_) (fun c_2 => ?_)
    · refine lv_iconst (v := 0) hx hb d_NF_isMeaning_22 (by decide +kernel) ?_
      exact nz_retz C0 (by decide +kernel) (hP.sub (ws' := [(o0, .inr (11, [.ref o1, .int tp, .ref o2, .ref o3, .ref o4, .ref o5, .ref o6, .ref o7, .ref o8, .ref o9, .ref o10])), (o2, .inr (3, [.ref u1, .ref u2, .ref u3, .ref u4, .ref u5])), (u2, .inr (4, [.int nm, .ref u21, .int nt, .ref u22, .ref u23, .ref u24]))]) [0, 1, 2] rfl) (hD.sub (ws' := [(o0, .inr (11, [.ref o1, .int tp, .ref o2, .ref o3, .ref o4, .ref o5, .ref o6, .ref o7, .ref o8, .ref o9, .ref o10])), (o2, .inr (3, [.ref u1, .ref u2, .ref u3, .ref u4, .ref u5])), (u2, .inr (4, [.int nm, .ref u21, .int nt, .ref u22, .ref u23, .ref u24]))]) [0, 1, 2] (by decide) rfl) hS ⟨(by unfold nz_rg; (try first | rw [if_pos c_1] | rw [if_neg c_1] | rw [if_pos (Int32.not_le.mp c_1)] | rw [if_neg (Int32.not_lt.mpr c_1)] | rw [if_pos (Decidable.not_not.mp c_1)]); (try first | rw [if_pos c_2] | rw [if_neg c_2] | rw [if_pos (Int32.not_le.mp c_2)] | rw [if_neg (Int32.not_lt.mpr c_2)] | rw [if_pos (Decidable.not_not.mp c_2)])), rfl⟩ d_NF_isMeaning_23
    · refine lv_iconst (v := 1) hx hb d_NF_isMeaning_18 (by decide +kernel) ?_
      refine lv_goto (tgt := 23) hx hb d_NF_isMeaning_19 (by decide) ?_
      exact nz_retz C0 (by decide +kernel) (hP.sub (ws' := [(o0, .inr (11, [.ref o1, .int tp, .ref o2, .ref o3, .ref o4, .ref o5, .ref o6, .ref o7, .ref o8, .ref o9, .ref o10])), (o2, .inr (3, [.ref u1, .ref u2, .ref u3, .ref u4, .ref u5])), (u2, .inr (4, [.int nm, .ref u21, .int nt, .ref u22, .ref u23, .ref u24]))]) [0, 1, 2] rfl) (hD.sub (ws' := [(o0, .inr (11, [.ref o1, .int tp, .ref o2, .ref o3, .ref o4, .ref o5, .ref o6, .ref o7, .ref o8, .ref o9, .ref o10])), (o2, .inr (3, [.ref u1, .ref u2, .ref u3, .ref u4, .ref u5])), (u2, .inr (4, [.int nm, .ref u21, .int nt, .ref u22, .ref u23, .ref u24]))]) [0, 1, 2] (by decide) rfl) hS ⟨(by unfold nz_rg; (try first | rw [if_pos c_1] | rw [if_neg c_1] | rw [if_pos (Int32.not_le.mp c_1)] | rw [if_neg (Int32.not_lt.mpr c_1)] | rw [if_pos (Decidable.not_not.mp c_1)]); (try first | rw [if_pos c_2] | rw [if_neg c_2] | rw [if_pos (Int32.not_le.mp c_2)] | rw [if_neg (Int32.not_lt.mpr c_2)] | rw [if_pos (Decidable.not_not.mp c_2)])), rfl⟩ d_NF_isMeaning_23
set_option maxHeartbeats 4000000 in
set_option maxRecDepth 100000 in
theorem c_NF_isWord (l : Launch) (D : va_G) (cB cI cJ : ClassId) (o0 : Nat) (p0 : Int32) (o1 : Nat) (tp : Int32) (o2 : Nat) (o3 : Nat) (o4 : Nat) (o5 : Nat) (o6 : Nat) (o7 : Nat) (o8 : Nat) (o9 : Nat) (o10 : Nat) (u1 : Nat) (u2 : Nat) (u3 : Nat) (u4 : Nat) (u5 : Nat) (nw : Int32) (u31 : Nat) (u32 : Nat) : nz_Ci l D cB cI cJ nz_x0 y_NF_isWord b_NF_isWord 2 (some .boolean) { frames := 0, cells := 0, slots := 0, locals := 0 } [.ref o0, .int p0] [(o0, .inr (11, [.ref o1, .int tp, .ref o2, .ref o3, .ref o4, .ref o5, .ref o6, .ref o7, .ref o8, .ref o9, .ref o10])), (o2, .inr (3, [.ref u1, .ref u2, .ref u3, .ref u4, .ref u5])), (u3, .inr (10, [.int nw, .ref u31, .ref u32]))] (fun r w => r = nz_rg p0 nw ∧ w = [(o0, .inr (11, [.ref o1, .int tp, .ref o2, .ref o3, .ref o4, .ref o5, .ref o6, .ref o7, .ref o8, .ref o9, .ref o10])), (o2, .inr (3, [.ref u1, .ref u2, .ref u3, .ref u4, .ref u5])), (u3, .inr (10, [.int nw, .ref u31, .ref u32]))]) := by
  refine nz_Ci.mk (by decide) (Nat.le_of_ble_eq_true rfl) ?_
  intro p e s m below meth c A ls C0 hnm hP hD hS hA hX hl
  have C0 : nz_Cx p s m _ meth c b_NF_isWord 2 (some .boolean) R_NF D cB cI cJ := C0
  obtain ⟨hx, hb, hr, hml, hown, hts, hlk, hK⟩ := id C0
  have hl : lv_has ls 2 [(0, .ref o0), (1, .int p0)] := hl
  refine lv_iload_n hx hb d_NF_isWord_0 rfl (lv_at hl 1 rfl) ?_
  refine lv_if_lt (tgt := 22) hx hb d_NF_isWord_1 (by decide) (fun c_1 => ?_) (fun c_1 => ?_)
  · refine lv_iconst (v := 0) hx hb d_NF_isWord_22 (by decide +kernel) ?_
    exact nz_retz C0 (by decide +kernel) (hP.sub (ws' := [(o0, .inr (11, [.ref o1, .int tp, .ref o2, .ref o3, .ref o4, .ref o5, .ref o6, .ref o7, .ref o8, .ref o9, .ref o10])), (o2, .inr (3, [.ref u1, .ref u2, .ref u3, .ref u4, .ref u5])), (u3, .inr (10, [.int nw, .ref u31, .ref u32]))]) [0, 1, 2] rfl) (hD.sub (ws' := [(o0, .inr (11, [.ref o1, .int tp, .ref o2, .ref o3, .ref o4, .ref o5, .ref o6, .ref o7, .ref o8, .ref o9, .ref o10])), (o2, .inr (3, [.ref u1, .ref u2, .ref u3, .ref u4, .ref u5])), (u3, .inr (10, [.int nw, .ref u31, .ref u32]))]) [0, 1, 2] (by decide) rfl) hS ⟨(by unfold nz_rg; (try first | rw [if_pos c_1] | rw [if_neg c_1] | rw [if_pos (Int32.not_le.mp c_1)] | rw [if_neg (Int32.not_lt.mpr c_1)] | rw [if_pos (Decidable.not_not.mp c_1)])), rfl⟩ d_NF_isWord_23
  · refine lv_iload_n hx hb d_NF_isWord_4 rfl (lv_at hl 1 rfl) ?_
    refine lv_aload_n hx hb d_NF_isWord_5 rfl (lv_at hl 0 rfl) ?_
    refine va_get (D := D) (ci := 11) (v := .ref o2) (C := R_NF) (T := F_NF) (N := 11) hx hb hts i_NF hown hK.1 hP 0 rfl rfl 2 (by decide) (hts _ k_462) (fun _ h9 => h9) rfl d_NF_isWord_6 ?_
    refine va_get (D := D) (ci := 3) (v := .ref u3) (C := R_Land) (T := F_Land) (N := 5) hx hb hts i_Land hown hK.1 hP 1 rfl rfl 2 (by decide) (hts _ k_225) (fun _ h9 => h9) rfl d_NF_isWord_9 ?_
    refine va_get (D := D) (ci := 10) (v := .int nw) (C := R_Words) (T := F_Words) (N := 3) hx hb hts i_Words hown hK.1 hP 2 rfl rfl 0 (by decide) (hts _ k_132) (fun _ h9 => h9) rfl d_NF_isWord_12 ?_
    refine lv_icmp_ge (tgt := 22) hx hb d_NF_isWord_15 (by decide) (fun c_2 => ?_) (fun c_2 => ?_)
    · refine lv_iconst (v := 0) hx hb d_NF_isWord_22 (by decide +kernel) ?_
      exact nz_retz C0 (by decide +kernel) (hP.sub (ws' := [(o0, .inr (11, [.ref o1, .int tp, .ref o2, .ref o3, .ref o4, .ref o5, .ref o6, .ref o7, .ref o8, .ref o9, .ref o10])), (o2, .inr (3, [.ref u1, .ref u2, .ref u3, .ref u4, .ref u5])), (u3, .inr (10, [.int nw, .ref u31, .ref u32]))]) [0, 1, 2] rfl) (hD.sub (ws' := [(o0, .inr (11, [.ref o1, .int tp, .ref o2, .ref o3, .ref o4, .ref o5, .ref o6, .ref o7, .ref o8, .ref o9, .ref o10])), (o2, .inr (3, [.ref u1, .ref u2, .ref u3, .ref u4, .ref u5])), (u3, .inr (10, [.int nw, .ref u31, .ref u32]))]) [0, 1, 2] (by decide) rfl) hS ⟨(by unfold nz_rg; (try first | rw [if_pos c_1] | rw [if_neg c_1] | rw [if_pos (Int32.not_le.mp c_1)] | rw [if_neg (Int32.not_lt.mpr c_1)] | rw [if_pos (Decidable.not_not.mp c_1)]); (try first | rw [if_pos c_2] | rw [if_neg c_2] | rw [if_pos (Int32.not_le.mp c_2)] | rw [if_neg (Int32.not_lt.mpr c_2)] | rw [if_pos (Decidable.not_not.mp c_2)])), rfl⟩ d_NF_isWord_23
    · refine lv_iconst (v := 1) hx hb d_NF_isWord_18 (by decide +kernel) ?_
      refine lv_goto (tgt := 23) hx hb d_NF_isWord_19 (by decide) ?_
      exact nz_retz C0 (by decide +kernel) (hP.sub (ws' := [(o0, .inr (11, [.ref o1, .int tp, .ref o2, .ref o3, .ref o4, .ref o5, .ref o6, .ref o7, .ref o8, .ref o9, .ref o10])), (o2, .inr (3, [.ref u1, .ref u2, .ref u3, .ref u4, .ref u5])), (u3, .inr (10, [.int nw, .ref u31, .ref u32]))]) [0, 1, 2] rfl) (hD.sub (ws' := [(o0, .inr (11, [.ref o1, .int tp, .ref o2, .ref o3, .ref o4, .ref o5, .ref o6, .ref o7, .ref o8, .ref o9, .ref o10])), (o2, .inr (3, [.ref u1, .ref u2, .ref u3, .ref u4, .ref u5])), (u3, .inr (10, [.int nw, .ref u31, .ref u32]))]) [0, 1, 2] (by decide) rfl) hS ⟨(by unfold nz_rg; (try first | rw [if_pos c_1] | rw [if_neg c_1] | rw [if_pos (Int32.not_le.mp c_1)] | rw [if_neg (Int32.not_lt.mpr c_1)] | rw [if_pos (Decidable.not_not.mp c_1)]); (try first | rw [if_pos c_2] | rw [if_neg c_2] | rw [if_pos (Int32.not_le.mp c_2)] | rw [if_neg (Int32.not_lt.mpr c_2)] | rw [if_pos (Decidable.not_not.mp c_2)])), rfl⟩ d_NF_isWord_23
set_option maxHeartbeats 4000000 in
set_option maxRecDepth 100000 in
theorem c_NF_isPerson (l : Launch) (D : va_G) (cB cI cJ : ClassId) (o0 : Nat) (p0 : Int32) (o1 : Nat) (tp : Int32) (o2 : Nat) (o3 : Nat) (o4 : Nat) (o5 : Nat) (o6 : Nat) (o7 : Nat) (o8 : Nat) (o9 : Nat) (o10 : Nat) (u1 : Nat) (u2 : Nat) (u3 : Nat) (u4 : Nat) (u5 : Nat) (nh : Int32) (nk : Int32) (u41 : Nat) (u42 : Nat) (u43 : Nat) (u44 : Nat) (u45 : Nat) (u46 : Nat) (u47 : Nat) (u48 : Nat) (u49 : Nat) : nz_Ci l D cB cI cJ nz_x0 y_NF_isPerson b_NF_isPerson 2 (some .boolean) { frames := 0, cells := 0, slots := 0, locals := 0 } [.ref o0, .int p0] [(o0, .inr (11, [.ref o1, .int tp, .ref o2, .ref o3, .ref o4, .ref o5, .ref o6, .ref o7, .ref o8, .ref o9, .ref o10])), (o2, .inr (3, [.ref u1, .ref u2, .ref u3, .ref u4, .ref u5])), (u4, .inr (5, [.int nh, .int nk, .ref u41, .ref u42, .ref u43, .ref u44, .ref u45, .ref u46, .ref u47, .ref u48, .ref u49]))] (fun r w => r = nz_rg p0 nh ∧ w = [(o0, .inr (11, [.ref o1, .int tp, .ref o2, .ref o3, .ref o4, .ref o5, .ref o6, .ref o7, .ref o8, .ref o9, .ref o10])), (o2, .inr (3, [.ref u1, .ref u2, .ref u3, .ref u4, .ref u5])), (u4, .inr (5, [.int nh, .int nk, .ref u41, .ref u42, .ref u43, .ref u44, .ref u45, .ref u46, .ref u47, .ref u48, .ref u49]))]) := by
  refine nz_Ci.mk (by decide) (Nat.le_of_ble_eq_true rfl) ?_
  intro p e s m below meth c A ls C0 hnm hP hD hS hA hX hl
  have C0 : nz_Cx p s m _ meth c b_NF_isPerson 2 (some .boolean) R_NF D cB cI cJ := C0
  obtain ⟨hx, hb, hr, hml, hown, hts, hlk, hK⟩ := id C0
  have hl : lv_has ls 2 [(0, .ref o0), (1, .int p0)] := hl
  refine lv_iload_n hx hb d_NF_isPerson_0 rfl (lv_at hl 1 rfl) ?_
  refine lv_if_lt (tgt := 22) hx hb d_NF_isPerson_1 (by decide) (fun c_1 => ?_) (fun c_1 => ?_)
  · refine lv_iconst (v := 0) hx hb d_NF_isPerson_22 (by decide +kernel) ?_
    exact nz_retz C0 (by decide +kernel) (hP.sub (ws' := [(o0, .inr (11, [.ref o1, .int tp, .ref o2, .ref o3, .ref o4, .ref o5, .ref o6, .ref o7, .ref o8, .ref o9, .ref o10])), (o2, .inr (3, [.ref u1, .ref u2, .ref u3, .ref u4, .ref u5])), (u4, .inr (5, [.int nh, .int nk, .ref u41, .ref u42, .ref u43, .ref u44, .ref u45, .ref u46, .ref u47, .ref u48, .ref u49]))]) [0, 1, 2] rfl) (hD.sub (ws' := [(o0, .inr (11, [.ref o1, .int tp, .ref o2, .ref o3, .ref o4, .ref o5, .ref o6, .ref o7, .ref o8, .ref o9, .ref o10])), (o2, .inr (3, [.ref u1, .ref u2, .ref u3, .ref u4, .ref u5])), (u4, .inr (5, [.int nh, .int nk, .ref u41, .ref u42, .ref u43, .ref u44, .ref u45, .ref u46, .ref u47, .ref u48, .ref u49]))]) [0, 1, 2] (by decide) rfl) hS ⟨(by unfold nz_rg; (try first | rw [if_pos c_1] | rw [if_neg c_1] | rw [if_pos (Int32.not_le.mp c_1)] | rw [if_neg (Int32.not_lt.mpr c_1)] | rw [if_pos (Decidable.not_not.mp c_1)])), rfl⟩ d_NF_isPerson_23
  · refine lv_iload_n hx hb d_NF_isPerson_4 rfl (lv_at hl 1 rfl) ?_
    refine lv_aload_n hx hb d_NF_isPerson_5 rfl (lv_at hl 0 rfl) ?_
    refine va_get (D := D) (ci := 11) (v := .ref o2) (C := R_NF) (T := F_NF) (N := 11) hx hb hts i_NF hown hK.1 hP 0 rfl rfl 2 (by decide) (hts _ k_462) (fun _ h9 => h9) rfl d_NF_isPerson_6 ?_
    refine va_get (D := D) (ci := 3) (v := .ref u4) (C := R_Land) (T := F_Land) (N := 5) hx hb hts i_Land hown hK.1 hP 1 rfl rfl 3 (by decide) (hts _ k_231) (fun _ h9 => h9) rfl d_NF_isPerson_9 ?_
    refine va_get (D := D) (ci := 5) (v := .int nh) (C := R_Persons) (T := F_Persons) (N := 11) hx hb hts i_Persons hown hK.1 hP 2 rfl rfl 0 (by decide) (hts _ k_158) (fun _ h9 => h9) rfl d_NF_isPerson_12 ?_
    refine lv_icmp_ge (tgt := 22) hx hb d_NF_isPerson_15 (by decide) (fun c_2 => ?_) (fun c_2 => ?_)
    · refine lv_iconst (v := 0) hx hb d_NF_isPerson_22 (by decide +kernel) ?_
      exact nz_retz C0 (by decide +kernel) (hP.sub (ws' := [(o0, .inr (11, [.ref o1, .int tp, .ref o2, .ref o3, .ref o4, .ref o5, .ref o6, .ref o7, .ref o8, .ref o9, .ref o10])), (o2, .inr (3, [.ref u1, .ref u2, .ref u3, .ref u4, .ref u5])), (u4, .inr (5, [.int nh, .int nk, .ref u41, .ref u42, .ref u43, .ref u44, .ref u45, .ref u46, .ref u47, .ref u48, .ref u49]))]) [0, 1, 2] rfl) (hD.sub (ws' := [(o0, .inr (11, [.ref o1, .int tp, .ref o2, .ref o3, .ref o4, .ref o5, .ref o6, .ref o7, .ref o8, .ref o9, .ref o10])), (o2, .inr (3, [.ref u1, .ref u2, .ref u3, .ref u4, .ref u5])), (u4, .inr (5, [.int nh, .int nk, .ref u41, .ref u42, .ref u43, .ref u44, .ref u45, .ref u46, .ref u47, .ref u48, .ref u49]))]) [0, 1, 2] (by decide) rfl) hS ⟨(by unfold nz_rg; (try first | rw [if_pos c_1] | rw [if_neg c_1] | rw [if_pos (Int32.not_le.mp c_1)] | rw [if_neg (Int32.not_lt.mpr c_1)] | rw [if_pos (Decidable.not_not.mp c_1)]); (try first | rw [if_pos c_2] | rw [if_neg c_2] | rw [if_pos (Int32.not_le.mp c_2)] | rw [if_neg (Int32.not_lt.mpr c_2)] | rw [if_pos (Decidable.not_not.mp c_2)])), rfl⟩ d_NF_isPerson_23
    · refine lv_iconst (v := 1) hx hb d_NF_isPerson_18 (by decide +kernel) ?_
      refine lv_goto (tgt := 23) hx hb d_NF_isPerson_19 (by decide) ?_
      exact nz_retz C0 (by decide +kernel) (hP.sub (ws' := [(o0, .inr (11, [.ref o1, .int tp, .ref o2, .ref o3, .ref o4, .ref o5, .ref o6, .ref o7, .ref o8, .ref o9, .ref o10])), (o2, .inr (3, [.ref u1, .ref u2, .ref u3, .ref u4, .ref u5])), (u4, .inr (5, [.int nh, .int nk, .ref u41, .ref u42, .ref u43, .ref u44, .ref u45, .ref u46, .ref u47, .ref u48, .ref u49]))]) [0, 1, 2] rfl) (hD.sub (ws' := [(o0, .inr (11, [.ref o1, .int tp, .ref o2, .ref o3, .ref o4, .ref o5, .ref o6, .ref o7, .ref o8, .ref o9, .ref o10])), (o2, .inr (3, [.ref u1, .ref u2, .ref u3, .ref u4, .ref u5])), (u4, .inr (5, [.int nh, .int nk, .ref u41, .ref u42, .ref u43, .ref u44, .ref u45, .ref u46, .ref u47, .ref u48, .ref u49]))]) [0, 1, 2] (by decide) rfl) hS ⟨(by unfold nz_rg; (try first | rw [if_pos c_1] | rw [if_neg c_1] | rw [if_pos (Int32.not_le.mp c_1)] | rw [if_neg (Int32.not_lt.mpr c_1)] | rw [if_pos (Decidable.not_not.mp c_1)]); (try first | rw [if_pos c_2] | rw [if_neg c_2] | rw [if_pos (Int32.not_le.mp c_2)] | rw [if_neg (Int32.not_lt.mpr c_2)] | rw [if_pos (Decidable.not_not.mp c_2)])), rfl⟩ d_NF_isPerson_23
set_option maxHeartbeats 4000000 in
set_option maxRecDepth 100000 in
theorem c_NF_isYear (l : Launch) (D : va_G) (cB cI cJ : ClassId) (p0 : Int32) : nz_Ci l D cB cI cJ nz_x0 y_NF_isYear b_NF_isYear 1 (some .boolean) { frames := 0, cells := 0, slots := 0, locals := 0 } [.int p0] [] (fun r w => r = nz_yr p0 ∧ w = []) := by
  refine nz_Ci.mk (by decide) (Nat.le_of_ble_eq_true rfl) ?_
  intro p e s m below meth c A ls C0 hnm hP hD hS hA hX hl
  have C0 : nz_Cx p s m _ meth c b_NF_isYear 1 (some .boolean) R_NF D cB cI cJ := C0
  obtain ⟨hx, hb, hr, hml, hown, hts, hlk, hK⟩ := id C0
  have hl : lv_has ls 1 [(0, .int p0)] := hl
  refine lv_iload_n hx hb d_NF_isYear_0 rfl (lv_at hl 0 rfl) ?_
  refine lv_if_lt (tgt := 15) hx hb d_NF_isYear_1 (by decide) (fun c_1 => ?_) (fun c_1 => ?_)
  · refine lv_iconst (v := 0) hx hb d_NF_isYear_15 (by decide +kernel) ?_
    exact nz_retz C0 (by decide +kernel) (hP.sub (ws' := []) [] rfl) (hD.sub (ws' := []) [] (by decide) rfl) hS ⟨(by unfold nz_yr; (try first | rw [if_pos c_1] | rw [if_neg c_1] | rw [if_pos (Int32.not_le.mp c_1)] | rw [if_neg (Int32.not_lt.mpr c_1)] | rw [if_pos (Decidable.not_not.mp c_1)])), rfl⟩ d_NF_isYear_16
  · refine lv_iload_n hx hb d_NF_isYear_4 rfl (lv_at hl 0 rfl) ?_
    refine lv_sipush (v := 199) hx hb d_NF_isYear_5 (by decide +kernel) ?_
    refine lv_icmp_gt (tgt := 15) hx hb d_NF_isYear_8 (by decide) (fun c_2 => ?_) (fun c_2 => ?_)
    · refine lv_iconst (v := 0) hx hb d_NF_isYear_15 (by decide +kernel) ?_
      exact nz_retz C0 (by decide +kernel) (hP.sub (ws' := []) [] rfl) (hD.sub (ws' := []) [] (by decide) rfl) hS ⟨(by unfold nz_yr; (try first | rw [if_pos c_1] | rw [if_neg c_1] | rw [if_pos (Int32.not_le.mp c_1)] | rw [if_neg (Int32.not_lt.mpr c_1)] | rw [if_pos (Decidable.not_not.mp c_1)]); (try first | rw [if_pos c_2] | rw [if_neg c_2] | rw [if_pos (Int32.not_le.mp c_2)] | rw [if_neg (Int32.not_lt.mpr c_2)] | rw [if_pos (Decidable.not_not.mp c_2)])), rfl⟩ d_NF_isYear_16
    · refine lv_iconst (v := 1) hx hb d_NF_isYear_11 (by decide +kernel) ?_
      refine lv_goto (tgt := 16) hx hb d_NF_isYear_12 (by decide) ?_
      exact nz_retz C0 (by decide +kernel) (hP.sub (ws' := []) [] rfl) (hD.sub (ws' := []) [] (by decide) rfl) hS ⟨(by unfold nz_yr; (try first | rw [if_pos c_1] | rw [if_neg c_1] | rw [if_pos (Int32.not_le.mp c_1)] | rw [if_neg (Int32.not_lt.mpr c_1)] | rw [if_pos (Decidable.not_not.mp c_1)]); (try first | rw [if_pos c_2] | rw [if_neg c_2] | rw [if_pos (Int32.not_le.mp c_2)] | rw [if_neg (Int32.not_lt.mpr c_2)] | rw [if_pos (Decidable.not_not.mp c_2)])), rfl⟩ d_NF_isYear_16
set_option maxHeartbeats 4000000 in
set_option maxRecDepth 100000 in
theorem c_Mo_isIn (l : Launch) (D : va_G) (cB cI cJ : ClassId) (p0 : Int32) (p1 : Int32) (p2 : Int32) : nz_Ci l D cB cI cJ nz_x0 y_Mo_isIn b_Mo_isIn 3 (some .boolean) { frames := 0, cells := 0, slots := 0, locals := 0 } [.int p0, .int p1, .int p2] [] (fun r w => r = nz_isin p0 p1 p2 ∧ w = []) := by
  refine nz_Ci.mk (by decide) (Nat.le_of_ble_eq_true rfl) ?_
  intro p e s m below meth c A ls C0 hnm hP hD hS hA hX hl
  have C0 : nz_Cx p s m _ meth c b_Mo_isIn 3 (some .boolean) R_Mo D cB cI cJ := C0
  obtain ⟨hx, hb, hr, hml, hown, hts, hlk, hK⟩ := id C0
  have hl : lv_has ls 3 [(0, .int p0), (1, .int p1), (2, .int p2)] := hl
  refine lv_iload_n hx hb d_Mo_isIn_0 rfl (lv_at hl 0 rfl) ?_
  refine lv_iload_n hx hb d_Mo_isIn_1 rfl (lv_at hl 1 rfl) ?_
  refine lv_icmp_lt (tgt := 14) hx hb d_Mo_isIn_2 (by decide) (fun c_1 => ?_) (fun c_1 => ?_)
  · refine lv_iconst (v := 0) hx hb d_Mo_isIn_14 (by decide +kernel) ?_
    exact nz_retz C0 (by decide +kernel) (hP.sub (ws' := []) [] rfl) (hD.sub (ws' := []) [] (by decide) rfl) hS ⟨(by unfold nz_isin; (try first | rw [if_pos c_1] | rw [if_neg c_1] | rw [if_pos (Int32.not_le.mp c_1)] | rw [if_neg (Int32.not_lt.mpr c_1)] | rw [if_pos (Decidable.not_not.mp c_1)])), rfl⟩ d_Mo_isIn_15
  · refine lv_iload_n hx hb d_Mo_isIn_5 rfl (lv_at hl 0 rfl) ?_
    refine lv_iload_n hx hb d_Mo_isIn_6 rfl (lv_at hl 2 rfl) ?_
    refine lv_icmp_gt (tgt := 14) hx hb d_Mo_isIn_7 (by decide) (fun c_2 => ?_) (fun c_2 => ?_)
    · refine lv_iconst (v := 0) hx hb d_Mo_isIn_14 (by decide +kernel) ?_
      exact nz_retz C0 (by decide +kernel) (hP.sub (ws' := []) [] rfl) (hD.sub (ws' := []) [] (by decide) rfl) hS ⟨(by unfold nz_isin; (try first | rw [if_pos c_1] | rw [if_neg c_1] | rw [if_pos (Int32.not_le.mp c_1)] | rw [if_neg (Int32.not_lt.mpr c_1)] | rw [if_pos (Decidable.not_not.mp c_1)]); (try first | rw [if_pos c_2] | rw [if_neg c_2] | rw [if_pos (Int32.not_le.mp c_2)] | rw [if_neg (Int32.not_lt.mpr c_2)] | rw [if_pos (Decidable.not_not.mp c_2)])), rfl⟩ d_Mo_isIn_15
    · refine lv_iconst (v := 1) hx hb d_Mo_isIn_10 (by decide +kernel) ?_
      refine lv_goto (tgt := 15) hx hb d_Mo_isIn_11 (by decide) ?_
      exact nz_retz C0 (by decide +kernel) (hP.sub (ws' := []) [] rfl) (hD.sub (ws' := []) [] (by decide) rfl) hS ⟨(by unfold nz_isin; (try first | rw [if_pos c_1] | rw [if_neg c_1] | rw [if_pos (Int32.not_le.mp c_1)] | rw [if_neg (Int32.not_lt.mpr c_1)] | rw [if_pos (Decidable.not_not.mp c_1)]); (try first | rw [if_pos c_2] | rw [if_neg c_2] | rw [if_pos (Int32.not_le.mp c_2)] | rw [if_neg (Int32.not_lt.mpr c_2)] | rw [if_pos (Decidable.not_not.mp c_2)])), rfl⟩ d_Mo_isIn_15
