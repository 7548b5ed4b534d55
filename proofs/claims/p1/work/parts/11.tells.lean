def nz_lf (z : Int32) : Int32 := if z < 0 then -1 else if 1000 < z then -1 else z
def nz_in (z : Int32) : Int32 := if z < 0 then 0 else if 1000 < z then 0 else 1
def nz_fl (z : Int32) : Int32 := if z = 0 then 0 else -1
def nz_ab (z : Int32) : Int32 := if z.toInt < 0 ∨ 8 < z.toInt then -1 else 0
def nz_en (z : Int32) : Int32 := if z < 0 then -1 else if 0 < z then -1 else z
set_option maxHeartbeats 4000000 in
set_option maxRecDepth 100000 in
theorem c_Deaths_goOn (l : Launch) (D : va_G) (cB cI cJ : ClassId) (o5 : Nat) (p0 : Int32) (d1 : Nat) (d2 : Nat) (d3 : Nat) (d4 : Nat) : nz_Ci l D cB cI cJ nz_x0 y_Deaths_goOn b_Deaths_goOn 2 (some .int) { frames := 0, cells := 0, slots := 0, locals := 0 } [.ref o5, .int p0] [(o5, .inr (1, [.int 0, .int 0, .ref d1, .ref d2, .ref d3, .ref d4]))] (fun r w => ∃ (zt : Int32), r = nz_lf p0 ∧ w = [(o5, .inr (1, [.int 0, .int zt, .ref d1, .ref d2, .ref d3, .ref d4]))]) := by
  refine nz_Ci.mk (by decide) (Nat.le_of_ble_eq_true rfl) ?_
  intro p e s m below meth c A ls C0 hnm hP hD hS hA hX hl
  have C0 : nz_Cx p s m _ meth c b_Deaths_goOn 2 (some .int) R_Deaths D cB cI cJ := C0
  obtain ⟨hx, hb, hr, hml, hown, hts, hlk, hK⟩ := id C0
  have hl : lv_has ls 2 [(0, .ref o5), (1, .int p0)] := hl
  refine lv_iload_n hx hb d_Deaths_goOn_0 rfl (lv_at hl 1 rfl) ?_
  refine lv_if_lt (tgt := 22) hx hb d_Deaths_goOn_1 (by decide) (fun c_1 => ?_) (fun c_1 => ?_)
  · refine lv_iconst (v := (-1)) hx hb d_Deaths_goOn_22 (by decide +kernel) ?_
    exact nz_reti C0 (hP.sub (ws' := [(o5, .inr (1, [.int 0, .int 0, .ref d1, .ref d2, .ref d3, .ref d4]))]) [0] rfl) (hD.sub (ws' := [(o5, .inr (1, [.int 0, .int 0, .ref d1, .ref d2, .ref d3, .ref d4]))]) [0] (by decide) rfl) hS ⟨0, (by unfold nz_lf; (try first | rw [if_pos c_1] | rw [if_neg c_1] | rw [if_pos (Int32.not_le.mp c_1)] | rw [if_neg (Int32.not_lt.mpr c_1)] | rw [if_pos (Decidable.not_not.mp c_1)])), rfl⟩ d_Deaths_goOn_23
  · refine lv_iload_n hx hb d_Deaths_goOn_4 rfl (lv_at hl 1 rfl) ?_
    refine lv_sipush (v := 1000) hx hb d_Deaths_goOn_5 (by decide +kernel) ?_
    refine lv_icmp_gt (tgt := 22) hx hb d_Deaths_goOn_8 (by decide) (fun c_2 => ?_) (fun c_2 => ?_)
    · refine lv_iconst (v := (-1)) hx hb d_Deaths_goOn_22 (by decide +kernel) ?_
      exact nz_reti C0 (hP.sub (ws' := [(o5, .inr (1, [.int 0, .int 0, .ref d1, .ref d2, .ref d3, .ref d4]))]) [0] rfl) (hD.sub (ws' := [(o5, .inr (1, [.int 0, .int 0, .ref d1, .ref d2, .ref d3, .ref d4]))]) [0] (by decide) rfl) hS ⟨0, (by unfold nz_lf; (try first | rw [if_pos c_1] | rw [if_neg c_1] | rw [if_pos (Int32.not_le.mp c_1)] | rw [if_neg (Int32.not_lt.mpr c_1)] | rw [if_pos (Decidable.not_not.mp c_1)]); (try first | rw [if_pos c_2] | rw [if_neg c_2] | rw [if_pos (Int32.not_le.mp c_2)] | rw [if_neg (Int32.not_lt.mpr c_2)] | rw [if_pos (Decidable.not_not.mp c_2)])), rfl⟩ d_Deaths_goOn_23
    · refine lv_aload_n hx hb d_Deaths_goOn_11 rfl (lv_at hl 0 rfl) ?_
      refine va_get (D := D) (ci := 1) (v := .int 0) (C := R_Deaths) (T := F_Deaths) (N := 6) hx hb hts i_Deaths hown hK.1 hP 0 rfl rfl 1 (by decide) (hts _ k_395) (fun _ h9 => h9) rfl d_Deaths_goOn_12 ?_
      refine lv_iload_n hx hb d_Deaths_goOn_15 rfl (lv_at hl 1 rfl) ?_
      refine lv_iadd hx hb d_Deaths_goOn_16 ?_
      refine nz_ctopi (v := p0) (Int32.zero_add _) ?_
      refine lv_ldc (v := 100000) hx hb hown (hts _ k_721) d_Deaths_goOn_17 ?_
      refine lv_icmp_le (tgt := 24) hx hb d_Deaths_goOn_19 (by decide) (fun c_3 => ?_) (fun c_3 => ?_)
      · refine lv_aload_n hx hb d_Deaths_goOn_24 rfl (lv_at hl 0 rfl) ?_
        refine lv_dup hx hb d_Deaths_goOn_25 rfl ?_
        refine va_get (D := D) (ci := 1) (v := .int 0) (C := R_Deaths) (T := F_Deaths) (N := 6) hx hb hts i_Deaths hown hK.1 hP 0 rfl rfl 1 (by decide) (hts _ k_395) (fun _ h9 => h9) rfl d_Deaths_goOn_26 ?_
        refine lv_iload_n hx hb d_Deaths_goOn_29 rfl (lv_at hl 1 rfl) ?_
        refine lv_iadd hx hb d_Deaths_goOn_30 ?_
        refine nz_ctopi (v := p0) (Int32.zero_add _) ?_
        refine va_put (D := D) (ci := 1) (v := .int p0) (ty := .int) (C := R_Deaths) (T := F_Deaths) (N := 6) hx hb hts i_Deaths t_Deaths t_Deaths_ok n_Deaths hown hK.1 hP hD hS 0 rfl rfl 1 (by decide) (hts _ k_395) (fun _ h9 => h9) rfl (by decide +kernel) rfl rfl (Nat.le_of_ble_eq_true rfl) d_Deaths_goOn_31 (fun H locs hP hD hS => ?_)
        have hP : va_P D nz_cl [(o5, .inr (1, [.int 0, .int p0, .ref d1, .ref d2, .ref d3, .ref d4]))] H := hP
        have hD : va_D A [(o5, .inr (1, [.int 0, .int p0, .ref d1, .ref d2, .ref d3, .ref d4]))] := hD
        refine lv_aload_n hx hb d_Deaths_goOn_34 rfl (lv_at hl 0 rfl) ?_
        refine va_get (D := D) (ci := 1) (v := .int p0) (C := R_Deaths) (T := F_Deaths) (N := 6) hx hb hts i_Deaths hown hK.1 hP 0 rfl rfl 1 (by decide) (hts _ k_395) (fun _ h9 => h9) rfl d_Deaths_goOn_35 ?_
        exact nz_reti C0 (hP.sub (ws' := [(o5, .inr (1, [.int 0, .int p0, .ref d1, .ref d2, .ref d3, .ref d4]))]) [0] rfl) (hD.sub (ws' := [(o5, .inr (1, [.int 0, .int p0, .ref d1, .ref d2, .ref d3, .ref d4]))]) [0] (by decide) rfl) hS ⟨p0, (by unfold nz_lf; (try first | rw [if_pos c_1] | rw [if_neg c_1] | rw [if_pos (Int32.not_le.mp c_1)] | rw [if_neg (Int32.not_lt.mpr c_1)] | rw [if_pos (Decidable.not_not.mp c_1)]); (try first | rw [if_pos c_2] | rw [if_neg c_2] | rw [if_pos (Int32.not_le.mp c_2)] | rw [if_neg (Int32.not_lt.mpr c_2)] | rw [if_pos (Decidable.not_not.mp c_2)]); (try first | rw [if_pos c_3] | rw [if_neg c_3] | rw [if_pos (Int32.not_le.mp c_3)] | rw [if_neg (Int32.not_lt.mpr c_3)] | rw [if_pos (Decidable.not_not.mp c_3)])), rfl⟩ d_Deaths_goOn_38
      · exfalso; have z0 : (0 : Int32).toInt = 0 := (by decide +kernel); have z1 : (1000 : Int32).toInt = 1000 := (by decide +kernel); have z2 : (100000 : Int32).toInt = 100000 := (by decide +kernel); simp only [Int32.lt_iff_toInt_lt, Int32.le_iff_toInt_le, ← Int32.toInt_inj] at c_1 c_2 c_3; omega
set_option maxHeartbeats 4000000 in
set_option maxRecDepth 100000 in
theorem c_NF_later (l : Launch) (D : va_G) (cB cI cJ : ClassId) (o0 : Nat) (p0 : Int32) (o1 : Nat) (o2 : Nat) (o3 : Nat) (o4 : Nat) (o5 : Nat) (o6 : Nat) (o7 : Nat) (o8 : Nat) (o9 : Nat) (o10 : Nat) (d1 : Nat) (d2 : Nat) (d3 : Nat) (d4 : Nat) : nz_Ci l D cB cI cJ nz_x0 y_NF_later b_NF_later 2 (some .int) { frames := 1, cells := 0, slots := 0, locals := 21 } [.ref o0, .int p0] [(o0, .inr (11, [.ref o1, .int 0, .ref o2, .ref o3, .ref o4, .ref o5, .ref o6, .ref o7, .ref o8, .ref o9, .ref o10])), (o5, .inr (1, [.int 0, .int 0, .ref d1, .ref d2, .ref d3, .ref d4]))] (fun r w => ∃ (zt : Int32), r = nz_lf p0 ∧ w = [(o0, .inr (11, [.ref o1, .int 0, .ref o2, .ref o3, .ref o4, .ref o5, .ref o6, .ref o7, .ref o8, .ref o9, .ref o10])), (o5, .inr (1, [.int 0, .int zt, .ref d1, .ref d2, .ref d3, .ref d4]))]) := by
  refine nz_Ci.mk (by decide) (Nat.le_of_ble_eq_true rfl) ?_
  intro p e s m below meth c A ls C0 hnm hP hD hS hA hX hl
  have C0 : nz_Cx p s m _ meth c b_NF_later 2 (some .int) R_NF D cB cI cJ := C0
  obtain ⟨hx, hb, hr, hml, hown, hts, hlk, hK⟩ := id C0
  have hl : lv_has ls 2 [(0, .ref o0), (1, .int p0)] := hl
  refine lv_aload_n hx hb d_NF_later_0 rfl (lv_at hl 0 rfl) ?_
  refine va_get (D := D) (ci := 11) (v := .ref o5) (C := R_NF) (T := F_NF) (N := 11) hx hb hts i_NF hown hK.1 hP 0 rfl rfl 5 (by decide) (hts _ k_465) (fun _ h9 => h9) rfl d_NF_later_1 ?_
  refine lv_iload_n hx hb d_NF_later_4 rfl (lv_at hl 1 rfl) ?_
  refine nz_calVi (As := [.int p0]) (rest := []) C0 (c_Deaths_goOn l D cB cI cJ o5 p0 d1 d2 d3 d4) g_NF_127 rfl nz_xb0 (by decide) hl.1 hP hD hS hA [1] [0] rfl (wr := [(o0, .inr (11, [.ref o1, .int 0, .ref o2, .ref o3, .ref o4, .ref o5, .ref o6, .ref o7, .ref o8, .ref o9, .ref o10]))]) rfl (by decide) (by decide) (by decide) rfl rfl (fun _ _ _ => trivial) rfl (Nat.le_of_ble_eq_true rfl) d_NF_later_5 (by decide) (fun r_1 u H locs h_3 hP hD hS => ?_)
  obtain ⟨z_2, h_3_r, rfl⟩ := h_3
  have hP : va_P D nz_cl [(o0, .inr (11, [.ref o1, .int 0, .ref o2, .ref o3, .ref o4, .ref o5, .ref o6, .ref o7, .ref o8, .ref o9, .ref o10])), (o5, .inr (1, [.int 0, .int z_2, .ref d1, .ref d2, .ref d3, .ref d4]))] H := hP
  have hD : va_D A [(o0, .inr (11, [.ref o1, .int 0, .ref o2, .ref o3, .ref o4, .ref o5, .ref o6, .ref o7, .ref o8, .ref o9, .ref o10])), (o5, .inr (1, [.int 0, .int z_2, .ref d1, .ref d2, .ref d3, .ref d4]))] := hD
  subst h_3_r
  exact nz_reti C0 (hP.sub (ws' := [(o0, .inr (11, [.ref o1, .int 0, .ref o2, .ref o3, .ref o4, .ref o5, .ref o6, .ref o7, .ref o8, .ref o9, .ref o10])), (o5, .inr (1, [.int 0, .int z_2, .ref d1, .ref d2, .ref d3, .ref d4]))]) [0, 1] rfl) (hD.sub (ws' := [(o0, .inr (11, [.ref o1, .int 0, .ref o2, .ref o3, .ref o4, .ref o5, .ref o6, .ref o7, .ref o8, .ref o9, .ref o10])), (o5, .inr (1, [.int 0, .int z_2, .ref d1, .ref d2, .ref d3, .ref d4]))]) [0, 1] (by decide) rfl) hS ⟨z_2, rfl, rfl⟩ d_NF_later_8
set_option maxHeartbeats 4000000 in
set_option maxRecDepth 100000 in
theorem c_Deaths_takeBack (l : Launch) (D : va_G) (cB cI cJ : ClassId) (o5 : Nat) (p0 : Int32) (d1 : Nat) (d2 : Nat) (d3 : Nat) (d4 : Nat) : nz_Ci l D cB cI cJ nz_x0 y_Deaths_takeBack b_Deaths_takeBack 2 (some .boolean) { frames := 0, cells := 0, slots := 0, locals := 0 } [.ref o5, .int p0] [(o5, .inr (1, [.int 0, .int 0, .ref d1, .ref d2, .ref d3, .ref d4]))] (fun r w => r = 0 ∧ w = [(o5, .inr (1, [.int 0, .int 0, .ref d1, .ref d2, .ref d3, .ref d4]))]) := by
  refine nz_Ci.mk (by decide) (Nat.le_of_ble_eq_true rfl) ?_
  intro p e s m below meth c A ls C0 hnm hP hD hS hA hX hl
  have C0 : nz_Cx p s m _ meth c b_Deaths_takeBack 2 (some .boolean) R_Deaths D cB cI cJ := C0
  obtain ⟨hx, hb, hr, hml, hown, hts, hlk, hK⟩ := id C0
  have hl : lv_has ls 2 [(0, .ref o5), (1, .int p0)] := hl
  refine lv_iload_n hx hb d_Deaths_takeBack_0 rfl (lv_at hl 1 rfl) ?_
  refine lv_if_lt (tgt := 22) hx hb d_Deaths_takeBack_1 (by decide) (fun c_1 => ?_) (fun c_1 => ?_)
  · refine lv_iconst (v := 0) hx hb d_Deaths_takeBack_22 (by decide +kernel) ?_
    exact nz_retz C0 (by decide +kernel) (hP.sub (ws' := [(o5, .inr (1, [.int 0, .int 0, .ref d1, .ref d2, .ref d3, .ref d4]))]) [0] rfl) (hD.sub (ws' := [(o5, .inr (1, [.int 0, .int 0, .ref d1, .ref d2, .ref d3, .ref d4]))]) [0] (by decide) rfl) hS ⟨rfl, rfl⟩ d_Deaths_takeBack_23
  · refine lv_iload_n hx hb d_Deaths_takeBack_4 rfl (lv_at hl 1 rfl) ?_
    refine lv_aload_n hx hb d_Deaths_takeBack_5 rfl (lv_at hl 0 rfl) ?_
    refine va_get (D := D) (ci := 1) (v := .int 0) (C := R_Deaths) (T := F_Deaths) (N := 6) hx hb hts i_Deaths hown hK.1 hP 0 rfl rfl 0 (by decide) (hts _ k_393) (fun _ h9 => h9) rfl d_Deaths_takeBack_6 ?_
    refine lv_icmp_ge (tgt := 22) hx hb d_Deaths_takeBack_9 (by decide) (fun c_2 => ?_) (fun c_2 => ?_)
    · refine lv_iconst (v := 0) hx hb d_Deaths_takeBack_22 (by decide +kernel) ?_
      exact nz_retz C0 (by decide +kernel) (hP.sub (ws' := [(o5, .inr (1, [.int 0, .int 0, .ref d1, .ref d2, .ref d3, .ref d4]))]) [0] rfl) (hD.sub (ws' := [(o5, .inr (1, [.int 0, .int 0, .ref d1, .ref d2, .ref d3, .ref d4]))]) [0] (by decide) rfl) hS ⟨rfl, rfl⟩ d_Deaths_takeBack_23
    · exfalso; have z0 : (0 : Int32).toInt = 0 := (by decide +kernel); simp only [Int32.lt_iff_toInt_lt, Int32.le_iff_toInt_le, ← Int32.toInt_inj] at c_1 c_2; omega
set_option maxHeartbeats 4000000 in
set_option maxRecDepth 100000 in
theorem c_NF_untell (l : Launch) (D : va_G) (cB cI cJ : ClassId) (o0 : Nat) (p0 : Int32) (o1 : Nat) (o2 : Nat) (o3 : Nat) (o4 : Nat) (o5 : Nat) (o6 : Nat) (o7 : Nat) (o8 : Nat) (o9 : Nat) (o10 : Nat) (d1 : Nat) (d2 : Nat) (d3 : Nat) (d4 : Nat) : nz_Ci l D cB cI cJ nz_x0 y_NF_untell b_NF_untell 2 (some .boolean) { frames := 1, cells := 0, slots := 0, locals := 21 } [.ref o0, .int p0] [(o0, .inr (11, [.ref o1, .int 0, .ref o2, .ref o3, .ref o4, .ref o5, .ref o6, .ref o7, .ref o8, .ref o9, .ref o10])), (o5, .inr (1, [.int 0, .int 0, .ref d1, .ref d2, .ref d3, .ref d4]))] (fun r w => r = 0 ∧ w = [(o0, .inr (11, [.ref o1, .int 0, .ref o2, .ref o3, .ref o4, .ref o5, .ref o6, .ref o7, .ref o8, .ref o9, .ref o10])), (o5, .inr (1, [.int 0, .int 0, .ref d1, .ref d2, .ref d3, .ref d4]))]) := by
  refine nz_Ci.mk (by decide) (Nat.le_of_ble_eq_true rfl) ?_
  intro p e s m below meth c A ls C0 hnm hP hD hS hA hX hl
  have C0 : nz_Cx p s m _ meth c b_NF_untell 2 (some .boolean) R_NF D cB cI cJ := C0
  obtain ⟨hx, hb, hr, hml, hown, hts, hlk, hK⟩ := id C0
  have hl : lv_has ls 2 [(0, .ref o0), (1, .int p0)] := hl
  refine lv_aload_n hx hb d_NF_untell_0 rfl (lv_at hl 0 rfl) ?_
  refine va_get (D := D) (ci := 11) (v := .ref o5) (C := R_NF) (T := F_NF) (N := 11) hx hb hts i_NF hown hK.1 hP 0 rfl rfl 5 (by decide) (hts _ k_465) (fun _ h9 => h9) rfl d_NF_untell_1 ?_
  refine lv_iload_n hx hb d_NF_untell_4 rfl (lv_at hl 1 rfl) ?_
  refine nz_calVi (As := [.int p0]) (rest := []) C0 (c_Deaths_takeBack l D cB cI cJ o5 p0 d1 d2 d3 d4) g_NF_124 rfl nz_xb0 (by decide) hl.1 hP hD hS hA [1] [0] rfl (wr := [(o0, .inr (11, [.ref o1, .int 0, .ref o2, .ref o3, .ref o4, .ref o5, .ref o6, .ref o7, .ref o8, .ref o9, .ref o10]))]) rfl (by decide) (by decide) (by decide) rfl rfl (fun _ _ _ => trivial) rfl (Nat.le_of_ble_eq_true rfl) d_NF_untell_5 (by decide) (fun r_1 u H locs h_2 hP hD hS => ?_)
  obtain ⟨h_2_r, rfl⟩ := h_2
  have hP : va_P D nz_cl [(o0, .inr (11, [.ref o1, .int 0, .ref o2, .ref o3, .ref o4, .ref o5, .ref o6, .ref o7, .ref o8, .ref o9, .ref o10])), (o5, .inr (1, [.int 0, .int 0, .ref d1, .ref d2, .ref d3, .ref d4]))] H := hP
  have hD : va_D A [(o0, .inr (11, [.ref o1, .int 0, .ref o2, .ref o3, .ref o4, .ref o5, .ref o6, .ref o7, .ref o8, .ref o9, .ref o10])), (o5, .inr (1, [.int 0, .int 0, .ref d1, .ref d2, .ref d3, .ref d4]))] := hD
  subst h_2_r
  exact nz_retz C0 (by decide +kernel) (hP.sub (ws' := [(o0, .inr (11, [.ref o1, .int 0, .ref o2, .ref o3, .ref o4, .ref o5, .ref o6, .ref o7, .ref o8, .ref o9, .ref o10])), (o5, .inr (1, [.int 0, .int 0, .ref d1, .ref d2, .ref d3, .ref d4]))]) [0, 1] rfl) (hD.sub (ws' := [(o0, .inr (11, [.ref o1, .int 0, .ref o2, .ref o3, .ref o4, .ref o5, .ref o6, .ref o7, .ref o8, .ref o9, .ref o10])), (o5, .inr (1, [.int 0, .int 0, .ref d1, .ref d2, .ref d3, .ref d4]))]) [0, 1] (by decide) rfl) hS ⟨rfl, rfl⟩ d_NF_untell_8
set_option maxHeartbeats 4000000 in
set_option maxRecDepth 100000 in
theorem c_NF_end (l : Launch) (D : va_G) (cB cI cJ : ClassId) (o0 : Nat) (p0 : Int32) (o1 : Nat) (o2 : Nat) (o3 : Nat) (o4 : Nat) (o5 : Nat) (o6 : Nat) (o7 : Nat) (o8 : Nat) (o9 : Nat) (o10 : Nat) : nz_Ci l D cB cI cJ nz_x0 y_NF_end b_NF_end 2 (some .int) { frames := 0, cells := 0, slots := 0, locals := 0 } [.ref o0, .int p0] [(o0, .inr (11, [.ref o1, .int 0, .ref o2, .ref o3, .ref o4, .ref o5, .ref o6, .ref o7, .ref o8, .ref o9, .ref o10]))] (fun r w => ∃ (zt : Int32), r = nz_en p0 ∧ w = [(o0, .inr (11, [.ref o1, .int zt, .ref o2, .ref o3, .ref o4, .ref o5, .ref o6, .ref o7, .ref o8, .ref o9, .ref o10]))]) := by
  refine nz_Ci.mk (by decide) (Nat.le_of_ble_eq_true rfl) ?_
  intro p e s m below meth c A ls C0 hnm hP hD hS hA hX hl
  have C0 : nz_Cx p s m _ meth c b_NF_end 2 (some .int) R_NF D cB cI cJ := C0
  obtain ⟨hx, hb, hr, hml, hown, hts, hlk, hK⟩ := id C0
  have hl : lv_has ls 2 [(0, .ref o0), (1, .int p0)] := hl
  refine lv_iload_n hx hb d_NF_end_0 rfl (lv_at hl 1 rfl) ?_
  refine lv_if_lt (tgt := 12) hx hb d_NF_end_1 (by decide) (fun c_1 => ?_) (fun c_1 => ?_)
  · refine lv_iconst (v := (-1)) hx hb d_NF_end_12 (by decide +kernel) ?_
    exact nz_reti C0 (hP.sub (ws' := [(o0, .inr (11, [.ref o1, .int 0, .ref o2, .ref o3, .ref o4, .ref o5, .ref o6, .ref o7, .ref o8, .ref o9, .ref o10]))]) [0] rfl) (hD.sub (ws' := [(o0, .inr (11, [.ref o1, .int 0, .ref o2, .ref o3, .ref o4, .ref o5, .ref o6, .ref o7, .ref o8, .ref o9, .ref o10]))]) [0] (by decide) rfl) hS ⟨0, (by unfold nz_en; (try first | rw [if_pos c_1] | rw [if_neg c_1] | rw [if_pos (Int32.not_le.mp c_1)] | rw [if_neg (Int32.not_lt.mpr c_1)] | rw [if_pos (Decidable.not_not.mp c_1)])), rfl⟩ d_NF_end_13
  · refine lv_iload_n hx hb d_NF_end_4 rfl (lv_at hl 1 rfl) ?_
    refine lv_aload_n hx hb d_NF_end_5 rfl (lv_at hl 0 rfl) ?_
    refine va_get (D := D) (ci := 11) (v := .int 0) (C := R_NF) (T := F_NF) (N := 11) hx hb hts i_NF hown hK.1 hP 0 rfl rfl 1 (by decide) (hts _ k_461) (fun _ h9 => h9) rfl d_NF_end_6 ?_
    refine lv_icmp_le (tgt := 14) hx hb d_NF_end_9 (by decide) (fun c_2 => ?_) (fun c_2 => ?_)
    · refine lv_aload_n hx hb d_NF_end_14 rfl (lv_at hl 0 rfl) ?_
      refine lv_iload_n hx hb d_NF_end_15 rfl (lv_at hl 1 rfl) ?_
      refine va_put (D := D) (ci := 11) (v := .int p0) (ty := .int) (C := R_NF) (T := F_NF) (N := 11) hx hb hts i_NF t_NF t_NF_ok n_NF hown hK.1 hP hD hS 0 rfl rfl 1 (by decide) (hts _ k_461) (fun _ h9 => h9) rfl (by decide +kernel) rfl rfl (Nat.le_of_ble_eq_true rfl) d_NF_end_16 (fun H locs hP hD hS => ?_)
      have hP : va_P D nz_cl [(o0, .inr (11, [.ref o1, .int p0, .ref o2, .ref o3, .ref o4, .ref o5, .ref o6, .ref o7, .ref o8, .ref o9, .ref o10]))] H := hP
      have hD : va_D A [(o0, .inr (11, [.ref o1, .int p0, .ref o2, .ref o3, .ref o4, .ref o5, .ref o6, .ref o7, .ref o8, .ref o9, .ref o10]))] := hD
      refine lv_iload_n hx hb d_NF_end_19 rfl (lv_at hl 1 rfl) ?_
      exact nz_reti C0 (hP.sub (ws' := [(o0, .inr (11, [.ref o1, .int p0, .ref o2, .ref o3, .ref o4, .ref o5, .ref o6, .ref o7, .ref o8, .ref o9, .ref o10]))]) [0] rfl) (hD.sub (ws' := [(o0, .inr (11, [.ref o1, .int p0, .ref o2, .ref o3, .ref o4, .ref o5, .ref o6, .ref o7, .ref o8, .ref o9, .ref o10]))]) [0] (by decide) rfl) hS ⟨p0, (by unfold nz_en; (try first | rw [if_pos c_1] | rw [if_neg c_1] | rw [if_pos (Int32.not_le.mp c_1)] | rw [if_neg (Int32.not_lt.mpr c_1)] | rw [if_pos (Decidable.not_not.mp c_1)]); (try first | rw [if_pos c_2] | rw [if_neg c_2] | rw [if_pos (Int32.not_le.mp c_2)] | rw [if_neg (Int32.not_lt.mpr c_2)] | rw [if_pos (Decidable.not_not.mp c_2)])), rfl⟩ d_NF_end_20
    · refine lv_iconst (v := (-1)) hx hb d_NF_end_12 (by decide +kernel) ?_
      exact nz_reti C0 (hP.sub (ws' := [(o0, .inr (11, [.ref o1, .int 0, .ref o2, .ref o3, .ref o4, .ref o5, .ref o6, .ref o7, .ref o8, .ref o9, .ref o10]))]) [0] rfl) (hD.sub (ws' := [(o0, .inr (11, [.ref o1, .int 0, .ref o2, .ref o3, .ref o4, .ref o5, .ref o6, .ref o7, .ref o8, .ref o9, .ref o10]))]) [0] (by decide) rfl) hS ⟨0, (by unfold nz_en; (try first | rw [if_pos c_1] | rw [if_neg c_1] | rw [if_pos (Int32.not_le.mp c_1)] | rw [if_neg (Int32.not_lt.mpr c_1)] | rw [if_pos (Decidable.not_not.mp c_1)]); (try first | rw [if_pos c_2] | rw [if_neg c_2] | rw [if_pos (Int32.not_le.mp c_2)] | rw [if_neg (Int32.not_lt.mpr c_2)] | rw [if_pos (Decidable.not_not.mp c_2)])), rfl⟩ d_NF_end_13
set_option maxHeartbeats 4000000 in
set_option maxRecDepth 100000 in
theorem c_NF_fault (l : Launch) (D : va_G) (cB cI cJ : ClassId) (o0 : Nat) (p0 : Int32) (o1 : Nat) (o2 : Nat) (o3 : Nat) (o4 : Nat) (o5 : Nat) (o6 : Nat) (o7 : Nat) (o8 : Nat) (o9 : Nat) (o10 : Nat) (s0 : Nat) : nz_Ci l D cB cI cJ nz_x0 y_NF_fault b_NF_fault 2 (some .int) { frames := 0, cells := 0, slots := 0, locals := 0 } [.ref o0, .int p0] [(o0, .inr (11, [.ref o1, .int 0, .ref o2, .ref o3, .ref o4, .ref o5, .ref o6, .ref o7, .ref o8, .ref o9, .ref o10])), (o4, .inr (7, [.int 0, .int (-1), .ref s0, .long 0, .int 0]))] (fun r w => r = nz_fl p0 ∧ w = [(o0, .inr (11, [.ref o1, .int 0, .ref o2, .ref o3, .ref o4, .ref o5, .ref o6, .ref o7, .ref o8, .ref o9, .ref o10])), (o4, .inr (7, [.int 0, .int (-1), .ref s0, .long 0, .int 0]))]) := by
  refine nz_Ci.mk (by decide) (Nat.le_of_ble_eq_true rfl) ?_
  intro p e s m below meth c A ls C0 hnm hP hD hS hA hX hl
  have C0 : nz_Cx p s m _ meth c b_NF_fault 2 (some .int) R_NF D cB cI cJ := C0
  obtain ⟨hx, hb, hr, hml, hown, hts, hlk, hK⟩ := id C0
  have hl : lv_has ls 2 [(0, .ref o0), (1, .int p0)] := hl
  refine lv_iload_n hx hb d_NF_fault_0 rfl (lv_at hl 1 rfl) ?_
  by_cases c_1 : p0 = 0
  · refine lv_lookup (off := 27) (tgt := 28) hx hb d_NF_fault_1 (by decide) (by rw [c_1]; rfl) (by decide) ?_
    refine lv_aload_n hx hb d_NF_fault_28 rfl (lv_at hl 0 rfl) ?_
    refine va_get (D := D) (ci := 11) (v := .ref o4) (C := R_NF) (T := F_NF) (N := 11) hx hb hts i_NF hown hK.1 hP 0 rfl rfl 4 (by decide) (hts _ k_464) (fun _ h9 => h9) rfl d_NF_fault_29 ?_
    refine va_get (D := D) (ci := 7) (v := .int 0) (C := R_Reader) (T := F_Reader) (N := 5) hx hb hts i_Reader hown hK.1 hP 1 rfl rfl 0 (by decide) (hts _ k_370) (fun _ h9 => h9) rfl d_NF_fault_32 ?_
    exact nz_reti C0 (hP.sub (ws' := [(o0, .inr (11, [.ref o1, .int 0, .ref o2, .ref o3, .ref o4, .ref o5, .ref o6, .ref o7, .ref o8, .ref o9, .ref o10])), (o4, .inr (7, [.int 0, .int (-1), .ref s0, .long 0, .int 0]))]) [0, 1] rfl) (hD.sub (ws' := [(o0, .inr (11, [.ref o1, .int 0, .ref o2, .ref o3, .ref o4, .ref o5, .ref o6, .ref o7, .ref o8, .ref o9, .ref o10])), (o4, .inr (7, [.int 0, .int (-1), .ref s0, .long 0, .int 0]))]) [0, 1] (by decide) rfl) hS ⟨(by unfold nz_fl; (try first | rw [if_pos c_1] | rw [if_neg c_1] | rw [if_pos (Int32.not_le.mp c_1)] | rw [if_neg (Int32.not_lt.mpr c_1)] | rw [if_pos (Decidable.not_not.mp c_1)])), rfl⟩ d_NF_fault_35
  · skip
    by_cases c_2 : p0 = 1
    · refine lv_lookup (off := 35) (tgt := 36) hx hb d_NF_fault_1 (by decide) (by rw [c_2]; rfl) (by decide) ?_
      refine lv_aload_n hx hb d_NF_fault_36 rfl (lv_at hl 0 rfl) ?_
      refine va_get (D := D) (ci := 11) (v := .ref o4) (C := R_NF) (T := F_NF) (N := 11) hx hb hts i_NF hown hK.1 hP 0 rfl rfl 4 (by decide) (hts _ k_464) (fun _ h9 => h9) rfl d_NF_fault_37 ?_
      refine va_get (D := D) (ci := 7) (v := .int (-1)) (C := R_Reader) (T := F_Reader) (N := 5) hx hb hts i_Reader hown hK.1 hP 1 rfl rfl 1 (by decide) (hts _ k_372) (fun _ h9 => h9) rfl d_NF_fault_40 ?_
      exact nz_reti C0 (hP.sub (ws' := [(o0, .inr (11, [.ref o1, .int 0, .ref o2, .ref o3, .ref o4, .ref o5, .ref o6, .ref o7, .ref o8, .ref o9, .ref o10])), (o4, .inr (7, [.int 0, .int (-1), .ref s0, .long 0, .int 0]))]) [0, 1] rfl) (hD.sub (ws' := [(o0, .inr (11, [.ref o1, .int 0, .ref o2, .ref o3, .ref o4, .ref o5, .ref o6, .ref o7, .ref o8, .ref o9, .ref o10])), (o4, .inr (7, [.int 0, .int (-1), .ref s0, .long 0, .int 0]))]) [0, 1] (by decide) rfl) hS ⟨(by unfold nz_fl; (try first | rw [if_pos c_1] | rw [if_neg c_1] | rw [if_pos (Int32.not_le.mp c_1)] | rw [if_neg (Int32.not_lt.mpr c_1)] | rw [if_pos (Decidable.not_not.mp c_1)]); (try first | rw [if_pos c_2] | rw [if_neg c_2] | rw [if_pos (Int32.not_le.mp c_2)] | rw [if_neg (Int32.not_lt.mpr c_2)] | rw [if_pos (Decidable.not_not.mp c_2)])), rfl⟩ d_NF_fault_43
    · skip
      refine lv_lookup (off := 43) (tgt := 44) hx hb d_NF_fault_1 (by decide) ((lv_osw c_1 (by decide +kernel)).trans ((lv_osw c_2 (by decide +kernel)).trans (rfl))) (by decide) ?_
      refine lv_iconst (v := (-1)) hx hb d_NF_fault_44 (by decide +kernel) ?_
      exact nz_reti C0 (hP.sub (ws' := [(o0, .inr (11, [.ref o1, .int 0, .ref o2, .ref o3, .ref o4, .ref o5, .ref o6, .ref o7, .ref o8, .ref o9, .ref o10])), (o4, .inr (7, [.int 0, .int (-1), .ref s0, .long 0, .int 0]))]) [0, 1] rfl) (hD.sub (ws' := [(o0, .inr (11, [.ref o1, .int 0, .ref o2, .ref o3, .ref o4, .ref o5, .ref o6, .ref o7, .ref o8, .ref o9, .ref o10])), (o4, .inr (7, [.int 0, .int (-1), .ref s0, .long 0, .int 0]))]) [0, 1] (by decide) rfl) hS ⟨(by unfold nz_fl; (try first | rw [if_pos c_1] | rw [if_neg c_1] | rw [if_pos (Int32.not_le.mp c_1)] | rw [if_neg (Int32.not_lt.mpr c_1)] | rw [if_pos (Decidable.not_not.mp c_1)]); (try first | rw [if_pos c_2] | rw [if_neg c_2] | rw [if_pos (Int32.not_le.mp c_2)] | rw [if_neg (Int32.not_lt.mpr c_2)] | rw [if_pos (Decidable.not_not.mp c_2)])), rfl⟩ d_NF_fault_45
set_option maxHeartbeats 4000000 in
set_option maxRecDepth 100000 in
theorem c_NF_about (l : Launch) (D : va_G) (cB cI cJ : ClassId) (o0 : Nat) (p0 : Int32) (o1 : Nat) (o2 : Nat) (o3 : Nat) (o4 : Nat) (o5 : Nat) (o6 : Nat) (o7 : Nat) (o8 : Nat) (o9 : Nat) (o10 : Nat) (u1 : Nat) (u2 : Nat) (u3 : Nat) (u4 : Nat) (u5 : Nat) (u11 : Nat) (u12 : Nat) (u13 : Nat) (u14 : Nat) (u15 : Nat) (u16 : Nat) (u17 : Nat) (u21 : Nat) (u22 : Nat) (u23 : Nat) (u24 : Nat) (u31 : Nat) (u32 : Nat) (u41 : Nat) (u42 : Nat) (u43 : Nat) (u44 : Nat) (u45 : Nat) (u46 : Nat) (u47 : Nat) (u48 : Nat) (u49 : Nat) (d1 : Nat) (d2 : Nat) (d3 : Nat) (d4 : Nat) : nz_Ci l D cB cI cJ nz_x0 y_NF_about b_NF_about 2 (some .int) { frames := 0, cells := 0, slots := 0, locals := 0 } [.ref o0, .int p0] [(o0, .inr (11, [.ref o1, .int 0, .ref o2, .ref o3, .ref o4, .ref o5, .ref o6, .ref o7, .ref o8, .ref o9, .ref o10])), (o2, .inr (3, [.ref u1, .ref u2, .ref u3, .ref u4, .ref u5])), (u1, .inr (6, [.int 0, .ref u11, .ref u12, .ref u13, .ref u14, .ref u15, .ref u16, .ref u17])), (u2, .inr (4, [.int 0, .ref u21, .int 0, .ref u22, .ref u23, .ref u24])), (u3, .inr (10, [.int 0, .ref u31, .ref u32])), (u4, .inr (5, [.int 0, .int 0, .ref u41, .ref u42, .ref u43, .ref u44, .ref u45, .ref u46, .ref u47, .ref u48, .ref u49])), (o5, .inr (1, [.int 0, .int 0, .ref d1, .ref d2, .ref d3, .ref d4]))] (fun r w => r = nz_ab p0 ∧ w = [(o0, .inr (11, [.ref o1, .int 0, .ref o2, .ref o3, .ref o4, .ref o5, .ref o6, .ref o7, .ref o8, .ref o9, .ref o10])), (o2, .inr (3, [.ref u1, .ref u2, .ref u3, .ref u4, .ref u5])), (u1, .inr (6, [.int 0, .ref u11, .ref u12, .ref u13, .ref u14, .ref u15, .ref u16, .ref u17])), (u2, .inr (4, [.int 0, .ref u21, .int 0, .ref u22, .ref u23, .ref u24])), (u3, .inr (10, [.int 0, .ref u31, .ref u32])), (u4, .inr (5, [.int 0, .int 0, .ref u41, .ref u42, .ref u43, .ref u44, .ref u45, .ref u46, .ref u47, .ref u48, .ref u49])), (o5, .inr (1, [.int 0, .int 0, .ref d1, .ref d2, .ref d3, .ref d4]))]) := by
  refine nz_Ci.mk (by decide) (Nat.le_of_ble_eq_true rfl) ?_
  intro p e s m below meth c A ls C0 hnm hP hD hS hA hX hl
  have C0 : nz_Cx p s m _ meth c b_NF_about 2 (some .int) R_NF D cB cI cJ := C0
  obtain ⟨hx, hb, hr, hml, hown, hts, hlk, hK⟩ := id C0
  have hl : lv_has ls 2 [(0, .ref o0), (1, .int p0)] := hl
  refine lv_iload_n hx hb d_NF_about_0 rfl (lv_at hl 1 rfl) ?_
  by_cases c_1 : p0.toInt < 0 ∨ 8 < p0.toInt
  · refine lv_tableOut (tgt := 139) hx hb d_NF_about_1 c_1 (by decide) ?_
    refine lv_iconst (v := (-1)) hx hb d_NF_about_139 (by decide +kernel) ?_
    exact nz_reti C0 (hP.sub (ws' := [(o0, .inr (11, [.ref o1, .int 0, .ref o2, .ref o3, .ref o4, .ref o5, .ref o6, .ref o7, .ref o8, .ref o9, .ref o10])), (o2, .inr (3, [.ref u1, .ref u2, .ref u3, .ref u4, .ref u5])), (u1, .inr (6, [.int 0, .ref u11, .ref u12, .ref u13, .ref u14, .ref u15, .ref u16, .ref u17])), (u2, .inr (4, [.int 0, .ref u21, .int 0, .ref u22, .ref u23, .ref u24])), (u3, .inr (10, [.int 0, .ref u31, .ref u32])), (u4, .inr (5, [.int 0, .int 0, .ref u41, .ref u42, .ref u43, .ref u44, .ref u45, .ref u46, .ref u47, .ref u48, .ref u49])), (o5, .inr (1, [.int 0, .int 0, .ref d1, .ref d2, .ref d3, .ref d4]))]) [0, 1, 2, 3, 4, 5, 6] rfl) (hD.sub (ws' := [(o0, .inr (11, [.ref o1, .int 0, .ref o2, .ref o3, .ref o4, .ref o5, .ref o6, .ref o7, .ref o8, .ref o9, .ref o10])), (o2, .inr (3, [.ref u1, .ref u2, .ref u3, .ref u4, .ref u5])), (u1, .inr (6, [.int 0, .ref u11, .ref u12, .ref u13, .ref u14, .ref u15, .ref u16, .ref u17])), (u2, .inr (4, [.int 0, .ref u21, .int 0, .ref u22, .ref u23, .ref u24])), (u3, .inr (10, [.int 0, .ref u31, .ref u32])), (u4, .inr (5, [.int 0, .int 0, .ref u41, .ref u42, .ref u43, .ref u44, .ref u45, .ref u46, .ref u47, .ref u48, .ref u49])), (o5, .inr (1, [.int 0, .int 0, .ref d1, .ref d2, .ref d3, .ref d4]))]) [0, 1, 2, 3, 4, 5, 6] (by decide) rfl) hS ⟨(by unfold nz_ab; (try first | rw [if_pos c_1] | rw [if_neg c_1] | rw [if_pos (Int32.not_le.mp c_1)] | rw [if_neg (Int32.not_lt.mpr c_1)] | rw [if_pos (Decidable.not_not.mp c_1)])), rfl⟩ d_NF_about_140
  · have hh : p0.toInt = 0 ∨ p0.toInt = 1 ∨ p0.toInt = 2 ∨ p0.toInt = 3 ∨ p0.toInt = 4 ∨ p0.toInt = 5 ∨ p0.toInt = 6 ∨ p0.toInt = 7 ∨ p0.toInt = 8 := by omega
    rcases hh with hh | hh | hh | hh | hh | hh | hh | hh | hh
    · refine lv_tableIn (off := 51) (tgt := 52) hx hb d_NF_about_1 (by omega) (by omega) (by rw [hh]; rfl) (by decide) ?_
      refine lv_aload_n hx hb d_NF_about_52 rfl (lv_at hl 0 rfl) ?_
      refine va_get (D := D) (ci := 11) (v := .ref o2) (C := R_NF) (T := F_NF) (N := 11) hx hb hts i_NF hown hK.1 hP 0 rfl rfl 2 (by decide) (hts _ k_462) (fun _ h9 => h9) rfl d_NF_about_53 ?_
      refine va_get (D := D) (ci := 3) (v := .ref u1) (C := R_Land) (T := F_Land) (N := 5) hx hb hts i_Land hown hK.1 hP 1 rfl rfl 0 (by decide) (hts _ k_217) (fun _ h9 => h9) rfl d_NF_about_56 ?_
      refine va_get (D := D) (ci := 6) (v := .int 0) (C := R_Places) (T := F_Places) (N := 8) hx hb hts i_Places hown hK.1 hP 2 rfl rfl 0 (by decide) (hts _ k_44) (fun _ h9 => h9) rfl d_NF_about_59 ?_
      exact nz_reti C0 (hP.sub (ws' := [(o0, .inr (11, [.ref o1, .int 0, .ref o2, .ref o3, .ref o4, .ref o5, .ref o6, .ref o7, .ref o8, .ref o9, .ref o10])), (o2, .inr (3, [.ref u1, .ref u2, .ref u3, .ref u4, .ref u5])), (u1, .inr (6, [.int 0, .ref u11, .ref u12, .ref u13, .ref u14, .ref u15, .ref u16, .ref u17])), (u2, .inr (4, [.int 0, .ref u21, .int 0, .ref u22, .ref u23, .ref u24])), (u3, .inr (10, [.int 0, .ref u31, .ref u32])), (u4, .inr (5, [.int 0, .int 0, .ref u41, .ref u42, .ref u43, .ref u44, .ref u45, .ref u46, .ref u47, .ref u48, .ref u49])), (o5, .inr (1, [.int 0, .int 0, .ref d1, .ref d2, .ref d3, .ref d4]))]) [0, 1, 2, 3, 4, 5, 6] rfl) (hD.sub (ws' := [(o0, .inr (11, [.ref o1, .int 0, .ref o2, .ref o3, .ref o4, .ref o5, .ref o6, .ref o7, .ref o8, .ref o9, .ref o10])), (o2, .inr (3, [.ref u1, .ref u2, .ref u3, .ref u4, .ref u5])), (u1, .inr (6, [.int 0, .ref u11, .ref u12, .ref u13, .ref u14, .ref u15, .ref u16, .ref u17])), (u2, .inr (4, [.int 0, .ref u21, .int 0, .ref u22, .ref u23, .ref u24])), (u3, .inr (10, [.int 0, .ref u31, .ref u32])), (u4, .inr (5, [.int 0, .int 0, .ref u41, .ref u42, .ref u43, .ref u44, .ref u45, .ref u46, .ref u47, .ref u48, .ref u49])), (o5, .inr (1, [.int 0, .int 0, .ref d1, .ref d2, .ref d3, .ref d4]))]) [0, 1, 2, 3, 4, 5, 6] (by decide) rfl) hS ⟨(by unfold nz_ab; (try first | rw [if_pos c_1] | rw [if_neg c_1] | rw [if_pos (Int32.not_le.mp c_1)] | rw [if_neg (Int32.not_lt.mpr c_1)] | rw [if_pos (Decidable.not_not.mp c_1)])), rfl⟩ d_NF_about_62
    · refine lv_tableIn (off := 62) (tgt := 63) hx hb d_NF_about_1 (by omega) (by omega) (by rw [hh]; rfl) (by decide) ?_
      refine lv_aload_n hx hb d_NF_about_63 rfl (lv_at hl 0 rfl) ?_
      refine va_get (D := D) (ci := 11) (v := .ref o2) (C := R_NF) (T := F_NF) (N := 11) hx hb hts i_NF hown hK.1 hP 0 rfl rfl 2 (by decide) (hts _ k_462) (fun _ h9 => h9) rfl d_NF_about_64 ?_
      refine va_get (D := D) (ci := 3) (v := .ref u2) (C := R_Land) (T := F_Land) (N := 5) hx hb hts i_Land hown hK.1 hP 1 rfl rfl 1 (by decide) (hts _ k_222) (fun _ h9 => h9) rfl d_NF_about_67 ?_
      refine va_get (D := D) (ci := 4) (v := .int 0) (C := R_Meanings) (T := F_Meanings) (N := 6) hx hb hts i_Meanings hown hK.1 hP 3 rfl rfl 0 (by decide) (hts _ k_94) (fun _ h9 => h9) rfl d_NF_about_70 ?_
      exact nz_reti C0 (hP.sub (ws' := [(o0, .inr (11, [.ref o1, .int 0, .ref o2, .ref o3, .ref o4, .ref o5, .ref o6, .ref o7, .ref o8, .ref o9, .ref o10])), (o2, .inr (3, [.ref u1, .ref u2, .ref u3, .ref u4, .ref u5])), (u1, .inr (6, [.int 0, .ref u11, .ref u12, .ref u13, .ref u14, .ref u15, .ref u16, .ref u17])), (u2, .inr (4, [.int 0, .ref u21, .int 0, .ref u22, .ref u23, .ref u24])), (u3, .inr (10, [.int 0, .ref u31, .ref u32])), (u4, .inr (5, [.int 0, .int 0, .ref u41, .ref u42, .ref u43, .ref u44, .ref u45, .ref u46, .ref u47, .ref u48, .ref u49])), (o5, .inr (1, [.int 0, .int 0, .ref d1, .ref d2, .ref d3, .ref d4]))]) [0, 1, 2, 3, 4, 5, 6] rfl) (hD.sub (ws' := [(o0, .inr (11, [.ref o1, .int 0, .ref o2, .ref o3, .ref o4, .ref o5, .ref o6, .ref o7, .ref o8, .ref o9, .ref o10])), (o2, .inr (3, [.ref u1, .ref u2, .ref u3, .ref u4, .ref u5])), (u1, .inr (6, [.int 0, .ref u11, .ref u12, .ref u13, .ref u14, .ref u15, .ref u16, .ref u17])), (u2, .inr (4, [.int 0, .ref u21, .int 0, .ref u22, .ref u23, .ref u24])), (u3, .inr (10, [.int 0, .ref u31, .ref u32])), (u4, .inr (5, [.int 0, .int 0, .ref u41, .ref u42, .ref u43, .ref u44, .ref u45, .ref u46, .ref u47, .ref u48, .ref u49])), (o5, .inr (1, [.int 0, .int 0, .ref d1, .ref d2, .ref d3, .ref d4]))]) [0, 1, 2, 3, 4, 5, 6] (by decide) rfl) hS ⟨(by unfold nz_ab; (try first | rw [if_pos c_1] | rw [if_neg c_1] | rw [if_pos (Int32.not_le.mp c_1)] | rw [if_neg (Int32.not_lt.mpr c_1)] | rw [if_pos (Decidable.not_not.mp c_1)])), rfl⟩ d_NF_about_73
    · refine lv_tableIn (off := 73) (tgt := 74) hx hb d_NF_about_1 (by omega) (by omega) (by rw [hh]; rfl) (by decide) ?_
      refine lv_aload_n hx hb d_NF_about_74 rfl (lv_at hl 0 rfl) ?_
      refine va_get (D := D) (ci := 11) (v := .ref o2) (C := R_NF) (T := F_NF) (N := 11) hx hb hts i_NF hown hK.1 hP 0 rfl rfl 2 (by decide) (hts _ k_462) (fun _ h9 => h9) rfl d_NF_about_75 ?_
      refine va_get (D := D) (ci := 3) (v := .ref u3) (C := R_Land) (T := F_Land) (N := 5) hx hb hts i_Land hown hK.1 hP 1 rfl rfl 2 (by decide) (hts _ k_225) (fun _ h9 => h9) rfl d_NF_about_78 ?_
      refine va_get (D := D) (ci := 10) (v := .int 0) (C := R_Words) (T := F_Words) (N := 3) hx hb hts i_Words hown hK.1 hP 4 rfl rfl 0 (by decide) (hts _ k_132) (fun _ h9 => h9) rfl d_NF_about_81 ?_
      exact nz_reti C0 (hP.sub (ws' := [(o0, .inr (11, [.ref o1, .int 0, .ref o2, .ref o3, .ref o4, .ref o5, .ref o6, .ref o7, .ref o8, .ref o9, .ref o10])), (o2, .inr (3, [.ref u1, .ref u2, .ref u3, .ref u4, .ref u5])), (u1, .inr (6, [.int 0, .ref u11, .ref u12, .ref u13, .ref u14, .ref u15, .ref u16, .ref u17])), (u2, .inr (4, [.int 0, .ref u21, .int 0, .ref u22, .ref u23, .ref u24])), (u3, .inr (10, [.int 0, .ref u31, .ref u32])), (u4, .inr (5, [.int 0, .int 0, .ref u41, .ref u42, .ref u43, .ref u44, .ref u45, .ref u46, .ref u47, .ref u48, .ref u49])), (o5, .inr (1, [.int 0, .int 0, .ref d1, .ref d2, .ref d3, .ref d4]))]) [0, 1, 2, 3, 4, 5, 6] rfl) (hD.sub (ws' := [(o0, .inr (11, [.ref o1, .int 0, .ref o2, .ref o3, .ref o4, .ref o5, .ref o6, .ref o7, .ref o8, .ref o9, .ref o10])), (o2, .inr (3, [.ref u1, .ref u2, .ref u3, .ref u4, .ref u5])), (u1, .inr (6, [.int 0, .ref u11, .ref u12, .ref u13, .ref u14, .ref u15, .ref u16, .ref u17])), (u2, .inr (4, [.int 0, .ref u21, .int 0, .ref u22, .ref u23, .ref u24])), (u3, .inr (10, [.int 0, .ref u31, .ref u32])), (u4, .inr (5, [.int 0, .int 0, .ref u41, .ref u42, .ref u43, .ref u44, .ref u45, .ref u46, .ref u47, .ref u48, .ref u49])), (o5, .inr (1, [.int 0, .int 0, .ref d1, .ref d2, .ref d3, .ref d4]))]) [0, 1, 2, 3, 4, 5, 6] (by decide) rfl) hS ⟨(by unfold nz_ab; (try first | rw [if_pos c_1] | rw [if_neg c_1] | rw [if_pos (Int32.not_le.mp c_1)] | rw [if_neg (Int32.not_lt.mpr c_1)] | rw [if_pos (Decidable.not_not.mp c_1)])), rfl⟩ d_NF_about_84
    · refine lv_tableIn (off := 84) (tgt := 85) hx hb d_NF_about_1 (by omega) (by omega) (by rw [hh]; rfl) (by decide) ?_
      refine lv_aload_n hx hb d_NF_about_85 rfl (lv_at hl 0 rfl) ?_
      refine va_get (D := D) (ci := 11) (v := .ref o2) (C := R_NF) (T := F_NF) (N := 11) hx hb hts i_NF hown hK.1 hP 0 rfl rfl 2 (by decide) (hts _ k_462) (fun _ h9 => h9) rfl d_NF_about_86 ?_
      refine va_get (D := D) (ci := 3) (v := .ref u2) (C := R_Land) (T := F_Land) (N := 5) hx hb hts i_Land hown hK.1 hP 1 rfl rfl 1 (by decide) (hts _ k_222) (fun _ h9 => h9) rfl d_NF_about_89 ?_
      refine va_get (D := D) (ci := 4) (v := .int 0) (C := R_Meanings) (T := F_Meanings) (N := 6) hx hb hts i_Meanings hown hK.1 hP 3 rfl rfl 2 (by decide) (hts _ k_100) (fun _ h9 => h9) rfl d_NF_about_92 ?_
      exact nz_reti C0 (hP.sub (ws' := [(o0, .inr (11, [.ref o1, .int 0, .ref o2, .ref o3, .ref o4, .ref o5, .ref o6, .ref o7, .ref o8, .ref o9, .ref o10])), (o2, .inr (3, [.ref u1, .ref u2, .ref u3, .ref u4, .ref u5])), (u1, .inr (6, [.int 0, .ref u11, .ref u12, .ref u13, .ref u14, .ref u15, .ref u16, .ref u17])), (u2, .inr (4, [.int 0, .ref u21, .int 0, .ref u22, .ref u23, .ref u24])), (u3, .inr (10, [.int 0, .ref u31, .ref u32])), (u4, .inr (5, [.int 0, .int 0, .ref u41, .ref u42, .ref u43, .ref u44, .ref u45, .ref u46, .ref u47, .ref u48, .ref u49])), (o5, .inr (1, [.int 0, .int 0, .ref d1, .ref d2, .ref d3, .ref d4]))]) [0, 1, 2, 3, 4, 5, 6] rfl) (hD.sub (ws' := [(o0, .inr (11, [.ref o1, .int 0, .ref o2, .ref o3, .ref o4, .ref o5, .ref o6, .ref o7, .ref o8, .ref o9, .ref o10])), (o2, .inr (3, [.ref u1, .ref u2, .ref u3, .ref u4, .ref u5])), (u1, .inr (6, [.int 0, .ref u11, .ref u12, .ref u13, .ref u14, .ref u15, .ref u16, .ref u17])), (u2, .inr (4, [.int 0, .ref u21, .int 0, .ref u22, .ref u23, .ref u24])), (u3, .inr (10, [.int 0, .ref u31, .ref u32])), (u4, .inr (5, [.int 0, .int 0, .ref u41, .ref u42, .ref u43, .ref u44, .ref u45, .ref u46, .ref u47, .ref u48, .ref u49])), (o5, .inr (1, [.int 0, .int 0, .ref d1, .ref d2, .ref d3, .ref d4]))]) [0, 1, 2, 3, 4, 5, 6] (by decide) rfl) hS ⟨(by unfold nz_ab; (try first | rw [if_pos c_1] | rw [if_neg c_1] | rw [if_pos (Int32.not_le.mp c_1)] | rw [if_neg (Int32.not_lt.mpr c_1)] | rw [if_pos (Decidable.not_not.mp c_1)])), rfl⟩ d_NF_about_95
    · refine lv_tableIn (off := 95) (tgt := 96) hx hb d_NF_about_1 (by omega) (by omega) (by rw [hh]; rfl) (by decide) ?_
      refine lv_aload_n hx hb d_NF_about_96 rfl (lv_at hl 0 rfl) ?_
      refine va_get (D := D) (ci := 11) (v := .ref o2) (C := R_NF) (T := F_NF) (N := 11) hx hb hts i_NF hown hK.1 hP 0 rfl rfl 2 (by decide) (hts _ k_462) (fun _ h9 => h9) rfl d_NF_about_97 ?_
      refine va_get (D := D) (ci := 3) (v := .ref u4) (C := R_Land) (T := F_Land) (N := 5) hx hb hts i_Land hown hK.1 hP 1 rfl rfl 3 (by decide) (hts _ k_231) (fun _ h9 => h9) rfl d_NF_about_100 ?_
      refine va_get (D := D) (ci := 5) (v := .int 0) (C := R_Persons) (T := F_Persons) (N := 11) hx hb hts i_Persons hown hK.1 hP 5 rfl rfl 0 (by decide) (hts _ k_158) (fun _ h9 => h9) rfl d_NF_about_103 ?_
      exact nz_reti C0 (hP.sub (ws' := [(o0, .inr (11, [.ref o1, .int 0, .ref o2, .ref o3, .ref o4, .ref o5, .ref o6, .ref o7, .ref o8, .ref o9, .ref o10])), (o2, .inr (3, [.ref u1, .ref u2, .ref u3, .ref u4, .ref u5])), (u1, .inr (6, [.int 0, .ref u11, .ref u12, .ref u13, .ref u14, .ref u15, .ref u16, .ref u17])), (u2, .inr (4, [.int 0, .ref u21, .int 0, .ref u22, .ref u23, .ref u24])), (u3, .inr (10, [.int 0, .ref u31, .ref u32])), (u4, .inr (5, [.int 0, .int 0, .ref u41, .ref u42, .ref u43, .ref u44, .ref u45, .ref u46, .ref u47, .ref u48, .ref u49])), (o5, .inr (1, [.int 0, .int 0, .ref d1, .ref d2, .ref d3, .ref d4]))]) [0, 1, 2, 3, 4, 5, 6] rfl) (hD.sub (ws' := [(o0, .inr (11, [.ref o1, .int 0, .ref o2, .ref o3, .ref o4, .ref o5, .ref o6, .ref o7, .ref o8, .ref o9, .ref o10])), (o2, .inr (3, [.ref u1, .ref u2, .ref u3, .ref u4, .ref u5])), (u1, .inr (6, [.int 0, .ref u11, .ref u12, .ref u13, .ref u14, .ref u15, .ref u16, .ref u17])), (u2, .inr (4, [.int 0, .ref u21, .int 0, .ref u22, .ref u23, .ref u24])), (u3, .inr (10, [.int 0, .ref u31, .ref u32])), (u4, .inr (5, [.int 0, .int 0, .ref u41, .ref u42, .ref u43, .ref u44, .ref u45, .ref u46, .ref u47, .ref u48, .ref u49])), (o5, .inr (1, [.int 0, .int 0, .ref d1, .ref d2, .ref d3, .ref d4]))]) [0, 1, 2, 3, 4, 5, 6] (by decide) rfl) hS ⟨(by unfold nz_ab; (try first | rw [if_pos c_1] | rw [if_neg c_1] | rw [if_pos (Int32.not_le.mp c_1)] | rw [if_neg (Int32.not_lt.mpr c_1)] | rw [if_pos (Decidable.not_not.mp c_1)])), rfl⟩ d_NF_about_106
    · refine lv_tableIn (off := 106) (tgt := 107) hx hb d_NF_about_1 (by omega) (by omega) (by rw [hh]; rfl) (by decide) ?_
      refine lv_aload_n hx hb d_NF_about_107 rfl (lv_at hl 0 rfl) ?_
      refine va_get (D := D) (ci := 11) (v := .ref o2) (C := R_NF) (T := F_NF) (N := 11) hx hb hts i_NF hown hK.1 hP 0 rfl rfl 2 (by decide) (hts _ k_462) (fun _ h9 => h9) rfl d_NF_about_108 ?_
      refine va_get (D := D) (ci := 3) (v := .ref u4) (C := R_Land) (T := F_Land) (N := 5) hx hb hts i_Land hown hK.1 hP 1 rfl rfl 3 (by decide) (hts _ k_231) (fun _ h9 => h9) rfl d_NF_about_111 ?_
      refine va_get (D := D) (ci := 5) (v := .int 0) (C := R_Persons) (T := F_Persons) (N := 11) hx hb hts i_Persons hown hK.1 hP 5 rfl rfl 1 (by decide) (hts _ k_161) (fun _ h9 => h9) rfl d_NF_about_114 ?_
      exact nz_reti C0 (hP.sub (ws' := [(o0, .inr (11, [.ref o1, .int 0, .ref o2, .ref o3, .ref o4, .ref o5, .ref o6, .ref o7, .ref o8, .ref o9, .ref o10])), (o2, .inr (3, [.ref u1, .ref u2, .ref u3, .ref u4, .ref u5])), (u1, .inr (6, [.int 0, .ref u11, .ref u12, .ref u13, .ref u14, .ref u15, .ref u16, .ref u17])), (u2, .inr (4, [.int 0, .ref u21, .int 0, .ref u22, .ref u23, .ref u24])), (u3, .inr (10, [.int 0, .ref u31, .ref u32])), (u4, .inr (5, [.int 0, .int 0, .ref u41, .ref u42, .ref u43, .ref u44, .ref u45, .ref u46, .ref u47, .ref u48, .ref u49])), (o5, .inr (1, [.int 0, .int 0, .ref d1, .ref d2, .ref d3, .ref d4]))]) [0, 1, 2, 3, 4, 5, 6] rfl) (hD.sub (ws' := [(o0, .inr (11, [.ref o1, .int 0, .ref o2, .ref o3, .ref o4, .ref o5, .ref o6, .ref o7, .ref o8, .ref o9, .ref o10])), (o2, .inr (3, [.ref u1, .ref u2, .ref u3, .ref u4, .ref u5])), (u1, .inr (6, [.int 0, .ref u11, .ref u12, .ref u13, .ref u14, .ref u15, .ref u16, .ref u17])), (u2, .inr (4, [.int 0, .ref u21, .int 0, .ref u22, .ref u23, .ref u24])), (u3, .inr (10, [.int 0, .ref u31, .ref u32])), (u4, .inr (5, [.int 0, .int 0, .ref u41, .ref u42, .ref u43, .ref u44, .ref u45, .ref u46, .ref u47, .ref u48, .ref u49])), (o5, .inr (1, [.int 0, .int 0, .ref d1, .ref d2, .ref d3, .ref d4]))]) [0, 1, 2, 3, 4, 5, 6] (by decide) rfl) hS ⟨(by unfold nz_ab; (try first | rw [if_pos c_1] | rw [if_neg c_1] | rw [if_pos (Int32.not_le.mp c_1)] | rw [if_neg (Int32.not_lt.mpr c_1)] | rw [if_pos (Decidable.not_not.mp c_1)])), rfl⟩ d_NF_about_117
    · refine lv_tableIn (off := 117) (tgt := 118) hx hb d_NF_about_1 (by omega) (by omega) (by rw [hh]; rfl) (by decide) ?_
      refine lv_aload_n hx hb d_NF_about_118 rfl (lv_at hl 0 rfl) ?_
      refine va_get (D := D) (ci := 11) (v := .ref o5) (C := R_NF) (T := F_NF) (N := 11) hx hb hts i_NF hown hK.1 hP 0 rfl rfl 5 (by decide) (hts _ k_465) (fun _ h9 => h9) rfl d_NF_about_119 ?_
      refine va_get (D := D) (ci := 1) (v := .int 0) (C := R_Deaths) (T := F_Deaths) (N := 6) hx hb hts i_Deaths hown hK.1 hP 6 rfl rfl 0 (by decide) (hts _ k_394) (fun _ h9 => h9) rfl d_NF_about_122 ?_
      exact nz_reti C0 (hP.sub (ws' := [(o0, .inr (11, [.ref o1, .int 0, .ref o2, .ref o3, .ref o4, .ref o5, .ref o6, .ref o7, .ref o8, .ref o9, .ref o10])), (o2, .inr (3, [.ref u1, .ref u2, .ref u3, .ref u4, .ref u5])), (u1, .inr (6, [.int 0, .ref u11, .ref u12, .ref u13, .ref u14, .ref u15, .ref u16, .ref u17])), (u2, .inr (4, [.int 0, .ref u21, .int 0, .ref u22, .ref u23, .ref u24])), (u3, .inr (10, [.int 0, .ref u31, .ref u32])), (u4, .inr (5, [.int 0, .int 0, .ref u41, .ref u42, .ref u43, .ref u44, .ref u45, .ref u46, .ref u47, .ref u48, .ref u49])), (o5, .inr (1, [.int 0, .int 0, .ref d1, .ref d2, .ref d3, .ref d4]))]) [0, 1, 2, 3, 4, 5, 6] rfl) (hD.sub (ws' := [(o0, .inr (11, [.ref o1, .int 0, .ref o2, .ref o3, .ref o4, .ref o5, .ref o6, .ref o7, .ref o8, .ref o9, .ref o10])), (o2, .inr (3, [.ref u1, .ref u2, .ref u3, .ref u4, .ref u5])), (u1, .inr (6, [.int 0, .ref u11, .ref u12, .ref u13, .ref u14, .ref u15, .ref u16, .ref u17])), (u2, .inr (4, [.int 0, .ref u21, .int 0, .ref u22, .ref u23, .ref u24])), (u3, .inr (10, [.int 0, .ref u31, .ref u32])), (u4, .inr (5, [.int 0, .int 0, .ref u41, .ref u42, .ref u43, .ref u44, .ref u45, .ref u46, .ref u47, .ref u48, .ref u49])), (o5, .inr (1, [.int 0, .int 0, .ref d1, .ref d2, .ref d3, .ref d4]))]) [0, 1, 2, 3, 4, 5, 6] (by decide) rfl) hS ⟨(by unfold nz_ab; (try first | rw [if_pos c_1] | rw [if_neg c_1] | rw [if_pos (Int32.not_le.mp c_1)] | rw [if_neg (Int32.not_lt.mpr c_1)] | rw [if_pos (Decidable.not_not.mp c_1)])), rfl⟩ d_NF_about_125
    · refine lv_tableIn (off := 125) (tgt := 126) hx hb d_NF_about_1 (by omega) (by omega) (by rw [hh]; rfl) (by decide) ?_
      refine lv_aload_n hx hb d_NF_about_126 rfl (lv_at hl 0 rfl) ?_
      refine va_get (D := D) (ci := 11) (v := .ref o5) (C := R_NF) (T := F_NF) (N := 11) hx hb hts i_NF hown hK.1 hP 0 rfl rfl 5 (by decide) (hts _ k_465) (fun _ h9 => h9) rfl d_NF_about_127 ?_
      refine va_get (D := D) (ci := 1) (v := .int 0) (C := R_Deaths) (T := F_Deaths) (N := 6) hx hb hts i_Deaths hown hK.1 hP 6 rfl rfl 1 (by decide) (hts _ k_396) (fun _ h9 => h9) rfl d_NF_about_130 ?_
      exact nz_reti C0 (hP.sub (ws' := [(o0, .inr (11, [.ref o1, .int 0, .ref o2, .ref o3, .ref o4, .ref o5, .ref o6, .ref o7, .ref o8, .ref o9, .ref o10])), (o2, .inr (3, [.ref u1, .ref u2, .ref u3, .ref u4, .ref u5])), (u1, .inr (6, [.int 0, .ref u11, .ref u12, .ref u13, .ref u14, .ref u15, .ref u16, .ref u17])), (u2, .inr (4, [.int 0, .ref u21, .int 0, .ref u22, .ref u23, .ref u24])), (u3, .inr (10, [.int 0, .ref u31, .ref u32])), (u4, .inr (5, [.int 0, .int 0, .ref u41, .ref u42, .ref u43, .ref u44, .ref u45, .ref u46, .ref u47, .ref u48, .ref u49])), (o5, .inr (1, [.int 0, .int 0, .ref d1, .ref d2, .ref d3, .ref d4]))]) [0, 1, 2, 3, 4, 5, 6] rfl) (hD.sub (ws' := [(o0, .inr (11, [.ref o1, .int 0, .ref o2, .ref o3, .ref o4, .ref o5, .ref o6, .ref o7, .ref o8, .ref o9, .ref o10])), (o2, .inr (3, [.ref u1, .ref u2, .ref u3, .ref u4, .ref u5])), (u1, .inr (6, [.int 0, .ref u11, .ref u12, .ref u13, .ref u14, .ref u15, .ref u16, .ref u17])), (u2, .inr (4, [.int 0, .ref u21, .int 0, .ref u22, .ref u23, .ref u24])), (u3, .inr (10, [.int 0, .ref u31, .ref u32])), (u4, .inr (5, [.int 0, .int 0, .ref u41, .ref u42, .ref u43, .ref u44, .ref u45, .ref u46, .ref u47, .ref u48, .ref u49])), (o5, .inr (1, [.int 0, .int 0, .ref d1, .ref d2, .ref d3, .ref d4]))]) [0, 1, 2, 3, 4, 5, 6] (by decide) rfl) hS ⟨(by unfold nz_ab; (try first | rw [if_pos c_1] | rw [if_neg c_1] | rw [if_pos (Int32.not_le.mp c_1)] | rw [if_neg (Int32.not_lt.mpr c_1)] | rw [if_pos (Decidable.not_not.mp c_1)])), rfl⟩ d_NF_about_133
    · refine lv_tableIn (off := 133) (tgt := 134) hx hb d_NF_about_1 (by omega) (by omega) (by rw [hh]; rfl) (by decide) ?_
      refine lv_aload_n hx hb d_NF_about_134 rfl (lv_at hl 0 rfl) ?_
      refine va_get (D := D) (ci := 11) (v := .int 0) (C := R_NF) (T := F_NF) (N := 11) hx hb hts i_NF hown hK.1 hP 0 rfl rfl 1 (by decide) (hts _ k_461) (fun _ h9 => h9) rfl d_NF_about_135 ?_
      exact nz_reti C0 (hP.sub (ws' := [(o0, .inr (11, [.ref o1, .int 0, .ref o2, .ref o3, .ref o4, .ref o5, .ref o6, .ref o7, .ref o8, .ref o9, .ref o10])), (o2, .inr (3, [.ref u1, .ref u2, .ref u3, .ref u4, .ref u5])), (u1, .inr (6, [.int 0, .ref u11, .ref u12, .ref u13, .ref u14, .ref u15, .ref u16, .ref u17])), (u2, .inr (4, [.int 0, .ref u21, .int 0, .ref u22, .ref u23, .ref u24])), (u3, .inr (10, [.int 0, .ref u31, .ref u32])), (u4, .inr (5, [.int 0, .int 0, .ref u41, .ref u42, .ref u43, .ref u44, .ref u45, .ref u46, .ref u47, .ref u48, .ref u49])), (o5, .inr (1, [.int 0, .int 0, .ref d1, .ref d2, .ref d3, .ref d4]))]) [0, 1, 2, 3, 4, 5, 6] rfl) (hD.sub (ws' := [(o0, .inr (11, [.ref o1, .int 0, .ref o2, .ref o3, .ref o4, .ref o5, .ref o6, .ref o7, .ref o8, .ref o9, .ref o10])), (o2, .inr (3, [.ref u1, .ref u2, .ref u3, .ref u4, .ref u5])), (u1, .inr (6, [.int 0, .ref u11, .ref u12, .ref u13, .ref u14, .ref u15, .ref u16, .ref u17])), (u2, .inr (4, [.int 0, .ref u21, .int 0, .ref u22, .ref u23, .ref u24])), (u3, .inr (10, [.int 0, .ref u31, .ref u32])), (u4, .inr (5, [.int 0, .int 0, .ref u41, .ref u42, .ref u43, .ref u44, .ref u45, .ref u46, .ref u47, .ref u48, .ref u49])), (o5, .inr (1, [.int 0, .int 0, .ref d1, .ref d2, .ref d3, .ref d4]))]) [0, 1, 2, 3, 4, 5, 6] (by decide) rfl) hS ⟨(by unfold nz_ab; (try first | rw [if_pos c_1] | rw [if_neg c_1] | rw [if_pos (Int32.not_le.mp c_1)] | rw [if_neg (Int32.not_lt.mpr c_1)] | rw [if_pos (Decidable.not_not.mp c_1)])), rfl⟩ d_NF_about_138
set_option maxHeartbeats 4000000 in
set_option maxRecDepth 100000 in
theorem c_NF_putBytes_0 (l : Launch) (D : va_G) (cB cI cJ : ClassId) (o0 : Nat) (p0 : Int32) (o1 : Nat) (o2 : Nat) (o3 : Nat) (o4 : Nat) (o5 : Nat) (o6 : Nat) (o7 : Nat) (o8 : Nat) (o9 : Nat) (o10 : Nat) (ft : Nat → Int32) : nz_Cv l D cB cI cJ nz_x0 y_NF_putBytes b_NF_putBytes 3 none { frames := 0, cells := 0, slots := 0, locals := 0 } [.ref o0, .int p0] [(o0, .inr (11, [.ref o1, .int 0, .ref o2, .ref o3, .ref o4, .ref o5, .ref o6, .ref o7, .ref o8, .ref o9, .ref o10])), (o1, .inl (cB, 1600, .inl ft))] (fun w => ∃ (zf : Nat → Int32), w = [(o0, .inr (11, [.ref o1, .int 4, .ref o2, .ref o3, .ref o4, .ref o5, .ref o6, .ref o7, .ref o8, .ref o9, .ref o10])), (o1, .inl (cB, 1600, .inl zf))]) := by
  refine nz_Cv.mk (by decide) (Nat.le_of_ble_eq_true rfl) ?_
  intro p e s m below meth c A ls C0 hnm hP hD hS hA hX hl
  have C0 : nz_Cx p s m _ meth c b_NF_putBytes 3 none R_NF D cB cI cJ := C0
  obtain ⟨hx, hb, hr, hml, hown, hts, hlk, hK⟩ := id C0
  have hl : lv_has ls 3 [(0, .ref o0), (1, .int p0)] := hl
  refine lv_bipush (v := 24) hx hb d_NF_putBytes_0 (by decide +kernel) ?_
  refine lv_istore_n (lv' := [(2, .int 24), (0, .ref o0), (1, .int p0)]) hx hb d_NF_putBytes_2 rfl hl (by decide) rfl (fun ls hl => ?_)
  refine lv_iload_n hx hb d_NF_putBytes_3 rfl (lv_at hl 0 rfl) ?_
  refine lv_if_lt (tgt := 48) hx hb d_NF_putBytes_4 (by decide) (fun c_1 => absurd c_1 (by decide +kernel)) (fun c_1 => ?_)
  refine lv_aload_n hx hb d_NF_putBytes_7 rfl (lv_at hl 1 rfl) ?_
  refine va_get (D := D) (ci := 11) (v := .int 0) (C := R_NF) (T := F_NF) (N := 11) hx hb hts i_NF hown hK.1 hP 0 rfl rfl 1 (by decide) (hts _ k_461) (fun _ h9 => h9) rfl d_NF_putBytes_8 ?_
  refine lv_aload_n hx hb d_NF_putBytes_11 rfl (lv_at hl 1 rfl) ?_
  refine va_get (D := D) (ci := 11) (v := .ref o1) (C := R_NF) (T := F_NF) (N := 11) hx hb hts i_NF hown hK.1 hP 0 rfl rfl 0 (by decide) (hts _ k_460) (fun _ h9 => h9) rfl d_NF_putBytes_12 ?_
  refine va_alen (v := 1600) hx hb hK.1 hP 1 0 rfl rfl rfl d_NF_putBytes_15 ?_
  refine lv_icmp_ge (tgt := 42) hx hb d_NF_putBytes_16 (by decide) (fun c_2 => absurd c_2 (by decide +kernel)) (fun c_2 => ?_)
  refine lv_aload_n hx hb d_NF_putBytes_19 rfl (lv_at hl 1 rfl) ?_
  refine va_get (D := D) (ci := 11) (v := .ref o1) (C := R_NF) (T := F_NF) (N := 11) hx hb hts i_NF hown hK.1 hP 0 rfl rfl 0 (by decide) (hts _ k_460) (fun _ h9 => h9) rfl d_NF_putBytes_20 ?_
  refine lv_aload_n hx hb d_NF_putBytes_23 rfl (lv_at hl 1 rfl) ?_
  refine va_get (D := D) (ci := 11) (v := .int 0) (C := R_NF) (T := F_NF) (N := 11) hx hb hts i_NF hown hK.1 hP 0 rfl rfl 1 (by decide) (hts _ k_461) (fun _ h9 => h9) rfl d_NF_putBytes_24 ?_
  refine lv_iload_n hx hb d_NF_putBytes_27 rfl (lv_at hl 2 rfl) ?_
  refine lv_iload_n hx hb d_NF_putBytes_28 rfl (lv_at hl 0 rfl) ?_
  refine lv_ishr hx hb d_NF_putBytes_29 ?_
  refine lv_topi (fun x_3 e_4 => ?_)
  refine lv_i2b (v := x_3.toInt8.toInt32) hx hb d_NF_putBytes_30 rfl ?_
  refine lv_topi (fun x_6 e_7 => ?_)
  refine nz_bastE hx hb hK.1 hP hD hS 1 0 rfl rfl (nz_vin (by decide +kernel)) d_NF_putBytes_31 (fun H locs f_8 f_8_e hP hD hS => ?_)
  have hP : va_P D nz_cl [(o0, .inr (11, [.ref o1, .int 0, .ref o2, .ref o3, .ref o4, .ref o5, .ref o6, .ref o7, .ref o8, .ref o9, .ref o10])), (o1, .inl (cB, 1600, .inl f_8))] H := hP
  have hD : va_D A [(o0, .inr (11, [.ref o1, .int 0, .ref o2, .ref o3, .ref o4, .ref o5, .ref o6, .ref o7, .ref o8, .ref o9, .ref o10])), (o1, .inl (cB, 1600, .inl f_8))] := hD
  refine lv_aload_n hx hb d_NF_putBytes_32 rfl (lv_at hl 1 rfl) ?_
  refine lv_dup hx hb d_NF_putBytes_33 rfl ?_
  refine va_get (D := D) (ci := 11) (v := .int 0) (C := R_NF) (T := F_NF) (N := 11) hx hb hts i_NF hown hK.1 hP 0 rfl rfl 1 (by decide) (hts _ k_461) (fun _ h9 => h9) rfl d_NF_putBytes_34 ?_
  refine lv_iconst (v := 1) hx hb d_NF_putBytes_37 (by decide +kernel) ?_
  refine lv_iadd hx hb d_NF_putBytes_38 ?_
  refine nz_ctopi (v := 1) (by decide +kernel) ?_
  refine va_put (D := D) (ci := 11) (v := .int 1) (ty := .int) (C := R_NF) (T := F_NF) (N := 11) hx hb hts i_NF t_NF t_NF_ok n_NF hown hK.1 hP hD hS 0 rfl rfl 1 (by decide) (hts _ k_461) (fun _ h9 => h9) rfl (by decide +kernel) rfl rfl (Nat.le_of_ble_eq_true rfl) d_NF_putBytes_39 (fun H locs hP hD hS => ?_)
  have hP : va_P D nz_cl [(o0, .inr (11, [.ref o1, .int 1, .ref o2, .ref o3, .ref o4, .ref o5, .ref o6, .ref o7, .ref o8, .ref o9, .ref o10])), (o1, .inl (cB, 1600, .inl f_8))] H := hP
  have hD : va_D A [(o0, .inr (11, [.ref o1, .int 1, .ref o2, .ref o3, .ref o4, .ref o5, .ref o6, .ref o7, .ref o8, .ref o9, .ref o10])), (o1, .inl (cB, 1600, .inl f_8))] := hD
  refine lv_iinc (v := 16) (lv' := [(2, .int 16), (0, .ref o0), (1, .int p0)]) hx hb d_NF_putBytes_42 hl (k := 0) rfl (by decide +kernel) (by decide) rfl (fun ls hl => ?_)
  refine lv_goto (tgt := 3) hx hb d_NF_putBytes_45 (by decide) ?_
  refine lv_iload_n hx hb d_NF_putBytes_3 rfl (lv_at hl 0 rfl) ?_
  refine lv_if_lt (tgt := 48) hx hb d_NF_putBytes_4 (by decide) (fun c_9 => absurd c_9 (by decide +kernel)) (fun c_9 => ?_)
  refine lv_aload_n hx hb d_NF_putBytes_7 rfl (lv_at hl 1 rfl) ?_
  refine va_get (D := D) (ci := 11) (v := .int 1) (C := R_NF) (T := F_NF) (N := 11) hx hb hts i_NF hown hK.1 hP 0 rfl rfl 1 (by decide) (hts _ k_461) (fun _ h9 => h9) rfl d_NF_putBytes_8 ?_
  refine lv_aload_n hx hb d_NF_putBytes_11 rfl (lv_at hl 1 rfl) ?_
  refine va_get (D := D) (ci := 11) (v := .ref o1) (C := R_NF) (T := F_NF) (N := 11) hx hb hts i_NF hown hK.1 hP 0 rfl rfl 0 (by decide) (hts _ k_460) (fun _ h9 => h9) rfl d_NF_putBytes_12 ?_
  refine va_alen (v := 1600) hx hb hK.1 hP 1 0 rfl rfl rfl d_NF_putBytes_15 ?_
  refine lv_icmp_ge (tgt := 42) hx hb d_NF_putBytes_16 (by decide) (fun c_10 => absurd c_10 (by decide +kernel)) (fun c_10 => ?_)
  refine lv_aload_n hx hb d_NF_putBytes_19 rfl (lv_at hl 1 rfl) ?_
  refine va_get (D := D) (ci := 11) (v := .ref o1) (C := R_NF) (T := F_NF) (N := 11) hx hb hts i_NF hown hK.1 hP 0 rfl rfl 0 (by decide) (hts _ k_460) (fun _ h9 => h9) rfl d_NF_putBytes_20 ?_
  refine lv_aload_n hx hb d_NF_putBytes_23 rfl (lv_at hl 1 rfl) ?_
  refine va_get (D := D) (ci := 11) (v := .int 1) (C := R_NF) (T := F_NF) (N := 11) hx hb hts i_NF hown hK.1 hP 0 rfl rfl 1 (by decide) (hts _ k_461) (fun _ h9 => h9) rfl d_NF_putBytes_24 ?_
  refine lv_iload_n hx hb d_NF_putBytes_27 rfl (lv_at hl 2 rfl) ?_
  refine lv_iload_n hx hb d_NF_putBytes_28 rfl (lv_at hl 0 rfl) ?_
  refine lv_ishr hx hb d_NF_putBytes_29 ?_
  refine lv_topi (fun x_11 e_12 => ?_)
  refine lv_i2b (v := x_11.toInt8.toInt32) hx hb d_NF_putBytes_30 rfl ?_
  refine lv_topi (fun x_14 e_15 => ?_)
  refine nz_bastE hx hb hK.1 hP hD hS 1 0 rfl rfl (nz_vin (by decide +kernel)) d_NF_putBytes_31 (fun H locs f_16 f_16_e hP hD hS => ?_)
  have hP : va_P D nz_cl [(o0, .inr (11, [.ref o1, .int 1, .ref o2, .ref o3, .ref o4, .ref o5, .ref o6, .ref o7, .ref o8, .ref o9, .ref o10])), (o1, .inl (cB, 1600, .inl f_16))] H := hP
  have hD : va_D A [(o0, .inr (11, [.ref o1, .int 1, .ref o2, .ref o3, .ref o4, .ref o5, .ref o6, .ref o7, .ref o8, .ref o9, .ref o10])), (o1, .inl (cB, 1600, .inl f_16))] := hD
  refine lv_aload_n hx hb d_NF_putBytes_32 rfl (lv_at hl 1 rfl) ?_
  refine lv_dup hx hb d_NF_putBytes_33 rfl ?_
  refine va_get (D := D) (ci := 11) (v := .int 1) (C := R_NF) (T := F_NF) (N := 11) hx hb hts i_NF hown hK.1 hP 0 rfl rfl 1 (by decide) (hts _ k_461) (fun _ h9 => h9) rfl d_NF_putBytes_34 ?_
  refine lv_iconst (v := 1) hx hb d_NF_putBytes_37 (by decide +kernel) ?_
  refine lv_iadd hx hb d_NF_putBytes_38 ?_
  refine nz_ctopi (v := 2) (by decide +kernel) ?_
  refine va_put (D := D) (ci := 11) (v := .int 2) (ty := .int) (C := R_NF) (T := F_NF) (N := 11) hx hb hts i_NF t_NF t_NF_ok n_NF hown hK.1 hP hD hS 0 rfl rfl 1 (by decide) (hts _ k_461) (fun _ h9 => h9) rfl (by decide +kernel) rfl rfl (Nat.le_of_ble_eq_true rfl) d_NF_putBytes_39 (fun H locs hP hD hS => ?_)
  have hP : va_P D nz_cl [(o0, .inr (11, [.ref o1, .int 2, .ref o2, .ref o3, .ref o4, .ref o5, .ref o6, .ref o7, .ref o8, .ref o9, .ref o10])), (o1, .inl (cB, 1600, .inl f_16))] H := hP
  have hD : va_D A [(o0, .inr (11, [.ref o1, .int 2, .ref o2, .ref o3, .ref o4, .ref o5, .ref o6, .ref o7, .ref o8, .ref o9, .ref o10])), (o1, .inl (cB, 1600, .inl f_16))] := hD
  refine lv_iinc (v := 8) (lv' := [(2, .int 8), (0, .ref o0), (1, .int p0)]) hx hb d_NF_putBytes_42 hl (k := 0) rfl (by decide +kernel) (by decide) rfl (fun ls hl => ?_)
  refine lv_goto (tgt := 3) hx hb d_NF_putBytes_45 (by decide) ?_
  refine lv_iload_n hx hb d_NF_putBytes_3 rfl (lv_at hl 0 rfl) ?_
  refine lv_if_lt (tgt := 48) hx hb d_NF_putBytes_4 (by decide) (fun c_17 => absurd c_17 (by decide +kernel)) (fun c_17 => ?_)
  refine lv_aload_n hx hb d_NF_putBytes_7 rfl (lv_at hl 1 rfl) ?_
  refine va_get (D := D) (ci := 11) (v := .int 2) (C := R_NF) (T := F_NF) (N := 11) hx hb hts i_NF hown hK.1 hP 0 rfl rfl 1 (by decide) (hts _ k_461) (fun _ h9 => h9) rfl d_NF_putBytes_8 ?_
  refine lv_aload_n hx hb d_NF_putBytes_11 rfl (lv_at hl 1 rfl) ?_
  refine va_get (D := D) (ci := 11) (v := .ref o1) (C := R_NF) (T := F_NF) (N := 11) hx hb hts i_NF hown hK.1 hP 0 rfl rfl 0 (by decide) (hts _ k_460) (fun _ h9 => h9) rfl d_NF_putBytes_12 ?_
  refine va_alen (v := 1600) hx hb hK.1 hP 1 0 rfl rfl rfl d_NF_putBytes_15 ?_
  refine lv_icmp_ge (tgt := 42) hx hb d_NF_putBytes_16 (by decide) (fun c_18 => absurd c_18 (by decide +kernel)) (fun c_18 => ?_)
  refine lv_aload_n hx hb d_NF_putBytes_19 rfl (lv_at hl 1 rfl) ?_
  refine va_get (D := D) (ci := 11) (v := .ref o1) (C := R_NF) (T := F_NF) (N := 11) hx hb hts i_NF hown hK.1 hP 0 rfl rfl 0 (by decide) (hts _ k_460) (fun _ h9 => h9) rfl d_NF_putBytes_20 ?_
  refine lv_aload_n hx hb d_NF_putBytes_23 rfl (lv_at hl 1 rfl) ?_
  refine va_get (D := D) (ci := 11) (v := .int 2) (C := R_NF) (T := F_NF) (N := 11) hx hb hts i_NF hown hK.1 hP 0 rfl rfl 1 (by decide) (hts _ k_461) (fun _ h9 => h9) rfl d_NF_putBytes_24 ?_
  refine lv_iload_n hx hb d_NF_putBytes_27 rfl (lv_at hl 2 rfl) ?_
  refine lv_iload_n hx hb d_NF_putBytes_28 rfl (lv_at hl 0 rfl) ?_
  refine lv_ishr hx hb d_NF_putBytes_29 ?_
  refine lv_topi (fun x_19 e_20 => ?_)
  refine lv_i2b (v := x_19.toInt8.toInt32) hx hb d_NF_putBytes_30 rfl ?_
  refine lv_topi (fun x_22 e_23 => ?_)
  refine nz_bastE hx hb hK.1 hP hD hS 1 0 rfl rfl (nz_vin (by decide +kernel)) d_NF_putBytes_31 (fun H locs f_24 f_24_e hP hD hS => ?_)
  have hP : va_P D nz_cl [(o0, .inr (11, [.ref o1, .int 2, .ref o2, .ref o3, .ref o4, .ref o5, .ref o6, .ref o7, .ref o8, .ref o9, .ref o10])), (o1, .inl (cB, 1600, .inl f_24))] H := hP
  have hD : va_D A [(o0, .inr (11, [.ref o1, .int 2, .ref o2, .ref o3, .ref o4, .ref o5, .ref o6, .ref o7, .ref o8, .ref o9, .ref o10])), (o1, .inl (cB, 1600, .inl f_24))] := hD
  refine lv_aload_n hx hb d_NF_putBytes_32 rfl (lv_at hl 1 rfl) ?_
  refine lv_dup hx hb d_NF_putBytes_33 rfl ?_
  refine va_get (D := D) (ci := 11) (v := .int 2) (C := R_NF) (T := F_NF) (N := 11) hx hb hts i_NF hown hK.1 hP 0 rfl rfl 1 (by decide) (hts _ k_461) (fun _ h9 => h9) rfl d_NF_putBytes_34 ?_
  refine lv_iconst (v := 1) hx hb d_NF_putBytes_37 (by decide +kernel) ?_
  refine lv_iadd hx hb d_NF_putBytes_38 ?_
  refine nz_ctopi (v := 3) (by decide +kernel) ?_
  refine va_put (D := D) (ci := 11) (v := .int 3) (ty := .int) (C := R_NF) (T := F_NF) (N := 11) hx hb hts i_NF t_NF t_NF_ok n_NF hown hK.1 hP hD hS 0 rfl rfl 1 (by decide) (hts _ k_461) (fun _ h9 => h9) rfl (by decide +kernel) rfl rfl (Nat.le_of_ble_eq_true rfl) d_NF_putBytes_39 (fun H locs hP hD hS => ?_)
  have hP : va_P D nz_cl [(o0, .inr (11, [.ref o1, .int 3, .ref o2, .ref o3, .ref o4, .ref o5, .ref o6, .ref o7, .ref o8, .ref o9, .ref o10])), (o1, .inl (cB, 1600, .inl f_24))] H := hP
  have hD : va_D A [(o0, .inr (11, [.ref o1, .int 3, .ref o2, .ref o3, .ref o4, .ref o5, .ref o6, .ref o7, .ref o8, .ref o9, .ref o10])), (o1, .inl (cB, 1600, .inl f_24))] := hD
  refine lv_iinc (v := 0) (lv' := [(2, .int 0), (0, .ref o0), (1, .int p0)]) hx hb d_NF_putBytes_42 hl (k := 0) rfl (by decide +kernel) (by decide) rfl (fun ls hl => ?_)
  refine lv_goto (tgt := 3) hx hb d_NF_putBytes_45 (by decide) ?_
  refine lv_iload_n hx hb d_NF_putBytes_3 rfl (lv_at hl 0 rfl) ?_
  refine lv_if_lt (tgt := 48) hx hb d_NF_putBytes_4 (by decide) (fun c_25 => absurd c_25 (by decide +kernel)) (fun c_25 => ?_)
  refine lv_aload_n hx hb d_NF_putBytes_7 rfl (lv_at hl 1 rfl) ?_
  refine va_get (D := D) (ci := 11) (v := .int 3) (C := R_NF) (T := F_NF) (N := 11) hx hb hts i_NF hown hK.1 hP 0 rfl rfl 1 (by decide) (hts _ k_461) (fun _ h9 => h9) rfl d_NF_putBytes_8 ?_
  refine lv_aload_n hx hb d_NF_putBytes_11 rfl (lv_at hl 1 rfl) ?_
  refine va_get (D := D) (ci := 11) (v := .ref o1) (C := R_NF) (T := F_NF) (N := 11) hx hb hts i_NF hown hK.1 hP 0 rfl rfl 0 (by decide) (hts _ k_460) (fun _ h9 => h9) rfl d_NF_putBytes_12 ?_
  refine va_alen (v := 1600) hx hb hK.1 hP 1 0 rfl rfl rfl d_NF_putBytes_15 ?_
  refine lv_icmp_ge (tgt := 42) hx hb d_NF_putBytes_16 (by decide) (fun c_26 => absurd c_26 (by decide +kernel)) (fun c_26 => ?_)
  refine lv_aload_n hx hb d_NF_putBytes_19 rfl (lv_at hl 1 rfl) ?_
  refine va_get (D := D) (ci := 11) (v := .ref o1) (C := R_NF) (T := F_NF) (N := 11) hx hb hts i_NF hown hK.1 hP 0 rfl rfl 0 (by decide) (hts _ k_460) (fun _ h9 => h9) rfl d_NF_putBytes_20 ?_
  refine lv_aload_n hx hb d_NF_putBytes_23 rfl (lv_at hl 1 rfl) ?_
  refine va_get (D := D) (ci := 11) (v := .int 3) (C := R_NF) (T := F_NF) (N := 11) hx hb hts i_NF hown hK.1 hP 0 rfl rfl 1 (by decide) (hts _ k_461) (fun _ h9 => h9) rfl d_NF_putBytes_24 ?_
  refine lv_iload_n hx hb d_NF_putBytes_27 rfl (lv_at hl 2 rfl) ?_
  refine lv_iload_n hx hb d_NF_putBytes_28 rfl (lv_at hl 0 rfl) ?_
  refine lv_ishr hx hb d_NF_putBytes_29 ?_
  refine lv_topi (fun x_27 e_28 => ?_)
  refine lv_i2b (v := x_27.toInt8.toInt32) hx hb d_NF_putBytes_30 rfl ?_
  refine lv_topi (fun x_30 e_31 => ?_)
  refine nz_bastE hx hb hK.1 hP hD hS 1 0 rfl rfl (nz_vin (by decide +kernel)) d_NF_putBytes_31 (fun H locs f_32 f_32_e hP hD hS => ?_)
  have hP : va_P D nz_cl [(o0, .inr (11, [.ref o1, .int 3, .ref o2, .ref o3, .ref o4, .ref o5, .ref o6, .ref o7, .ref o8, .ref o9, .ref o10])), (o1, .inl (cB, 1600, .inl f_32))] H := hP
  have hD : va_D A [(o0, .inr (11, [.ref o1, .int 3, .ref o2, .ref o3, .ref o4, .ref o5, .ref o6, .ref o7, .ref o8, .ref o9, .ref o10])), (o1, .inl (cB, 1600, .inl f_32))] := hD
  refine lv_aload_n hx hb d_NF_putBytes_32 rfl (lv_at hl 1 rfl) ?_
  refine lv_dup hx hb d_NF_putBytes_33 rfl ?_
  refine va_get (D := D) (ci := 11) (v := .int 3) (C := R_NF) (T := F_NF) (N := 11) hx hb hts i_NF hown hK.1 hP 0 rfl rfl 1 (by decide) (hts _ k_461) (fun _ h9 => h9) rfl d_NF_putBytes_34 ?_
  refine lv_iconst (v := 1) hx hb d_NF_putBytes_37 (by decide +kernel) ?_
  refine lv_iadd hx hb d_NF_putBytes_38 ?_
  refine nz_ctopi (v := 4) (by decide +kernel) ?_
  refine va_put (D := D) (ci := 11) (v := .int 4) (ty := .int) (C := R_NF) (T := F_NF) (N := 11) hx hb hts i_NF t_NF t_NF_ok n_NF hown hK.1 hP hD hS 0 rfl rfl 1 (by decide) (hts _ k_461) (fun _ h9 => h9) rfl (by decide +kernel) rfl rfl (Nat.le_of_ble_eq_true rfl) d_NF_putBytes_39 (fun H locs hP hD hS => ?_)
  have hP : va_P D nz_cl [(o0, .inr (11, [.ref o1, .int 4, .ref o2, .ref o3, .ref o4, .ref o5, .ref o6, .ref o7, .ref o8, .ref o9, .ref o10])), (o1, .inl (cB, 1600, .inl f_32))] H := hP
  have hD : va_D A [(o0, .inr (11, [.ref o1, .int 4, .ref o2, .ref o3, .ref o4, .ref o5, .ref o6, .ref o7, .ref o8, .ref o9, .ref o10])), (o1, .inl (cB, 1600, .inl f_32))] := hD
  refine lv_iinc (v := (-8)) (lv' := [(2, .int (-8)), (0, .ref o0), (1, .int p0)]) hx hb d_NF_putBytes_42 hl (k := 0) rfl (by decide +kernel) (by decide) rfl (fun ls hl => ?_)
  refine lv_goto (tgt := 3) hx hb d_NF_putBytes_45 (by decide) ?_
  refine lv_iload_n hx hb d_NF_putBytes_3 rfl (lv_at hl 0 rfl) ?_
  refine lv_if_lt (tgt := 48) hx hb d_NF_putBytes_4 (by decide) (fun c_33 => ?_) (fun c_33 => absurd (by decide +kernel) c_33)
  exact nz_retv C0 (hP.sub (ws' := [(o0, .inr (11, [.ref o1, .int 4, .ref o2, .ref o3, .ref o4, .ref o5, .ref o6, .ref o7, .ref o8, .ref o9, .ref o10])), (o1, .inl (cB, 1600, .inl f_32))]) [0, 1] rfl) (hD.sub (ws' := [(o0, .inr (11, [.ref o1, .int 4, .ref o2, .ref o3, .ref o4, .ref o5, .ref o6, .ref o7, .ref o8, .ref o9, .ref o10])), (o1, .inl (cB, 1600, .inl f_32))]) [0, 1] (by decide) rfl) hS ⟨(f_32), rfl⟩ d_NF_putBytes_48
set_option maxHeartbeats 4000000 in
set_option maxRecDepth 100000 in
theorem c_NF_putBytes_4 (l : Launch) (D : va_G) (cB cI cJ : ClassId) (o0 : Nat) (p0 : Int32) (o1 : Nat) (o2 : Nat) (o3 : Nat) (o4 : Nat) (o5 : Nat) (o6 : Nat) (o7 : Nat) (o8 : Nat) (o9 : Nat) (o10 : Nat) (ft : Nat → Int32) : nz_Cv l D cB cI cJ nz_x0 y_NF_putBytes b_NF_putBytes 3 none { frames := 0, cells := 0, slots := 0, locals := 0 } [.ref o0, .int p0] [(o0, .inr (11, [.ref o1, .int 4, .ref o2, .ref o3, .ref o4, .ref o5, .ref o6, .ref o7, .ref o8, .ref o9, .ref o10])), (o1, .inl (cB, 1600, .inl ft))] (fun w => ∃ (zf : Nat → Int32), w = [(o0, .inr (11, [.ref o1, .int 8, .ref o2, .ref o3, .ref o4, .ref o5, .ref o6, .ref o7, .ref o8, .ref o9, .ref o10])), (o1, .inl (cB, 1600, .inl zf))]) := by
  refine nz_Cv.mk (by decide) (Nat.le_of_ble_eq_true rfl) ?_
  intro p e s m below meth c A ls C0 hnm hP hD hS hA hX hl
  have C0 : nz_Cx p s m _ meth c b_NF_putBytes 3 none R_NF D cB cI cJ := C0
  obtain ⟨hx, hb, hr, hml, hown, hts, hlk, hK⟩ := id C0
  have hl : lv_has ls 3 [(0, .ref o0), (1, .int p0)] := hl
  refine lv_bipush (v := 24) hx hb d_NF_putBytes_0 (by decide +kernel) ?_
  refine lv_istore_n (lv' := [(2, .int 24), (0, .ref o0), (1, .int p0)]) hx hb d_NF_putBytes_2 rfl hl (by decide) rfl (fun ls hl => ?_)
  refine lv_iload_n hx hb d_NF_putBytes_3 rfl (lv_at hl 0 rfl) ?_
  refine lv_if_lt (tgt := 48) hx hb d_NF_putBytes_4 (by decide) (fun c_1 => absurd c_1 (by decide +kernel)) (fun c_1 => ?_)
  refine lv_aload_n hx hb d_NF_putBytes_7 rfl (lv_at hl 1 rfl) ?_
  refine va_get (D := D) (ci := 11) (v := .int 4) (C := R_NF) (T := F_NF) (N := 11) hx hb hts i_NF hown hK.1 hP 0 rfl rfl 1 (by decide) (hts _ k_461) (fun _ h9 => h9) rfl d_NF_putBytes_8 ?_
  refine lv_aload_n hx hb d_NF_putBytes_11 rfl (lv_at hl 1 rfl) ?_
  refine va_get (D := D) (ci := 11) (v := .ref o1) (C := R_NF) (T := F_NF) (N := 11) hx hb hts i_NF hown hK.1 hP 0 rfl rfl 0 (by decide) (hts _ k_460) (fun _ h9 => h9) rfl d_NF_putBytes_12 ?_
  refine va_alen (v := 1600) hx hb hK.1 hP 1 0 rfl rfl rfl d_NF_putBytes_15 ?_
  refine lv_icmp_ge (tgt := 42) hx hb d_NF_putBytes_16 (by decide) (fun c_2 => absurd c_2 (by decide +kernel)) (fun c_2 => ?_)
  refine lv_aload_n hx hb d_NF_putBytes_19 rfl (lv_at hl 1 rfl) ?_
  refine va_get (D := D) (ci := 11) (v := .ref o1) (C := R_NF) (T := F_NF) (N := 11) hx hb hts i_NF hown hK.1 hP 0 rfl rfl 0 (by decide) (hts _ k_460) (fun _ h9 => h9) rfl d_NF_putBytes_20 ?_
  refine lv_aload_n hx hb d_NF_putBytes_23 rfl (lv_at hl 1 rfl) ?_
  refine va_get (D := D) (ci := 11) (v := .int 4) (C := R_NF) (T := F_NF) (N := 11) hx hb hts i_NF hown hK.1 hP 0 rfl rfl 1 (by decide) (hts _ k_461) (fun _ h9 => h9) rfl d_NF_putBytes_24 ?_
  refine lv_iload_n hx hb d_NF_putBytes_27 rfl (lv_at hl 2 rfl) ?_
  refine lv_iload_n hx hb d_NF_putBytes_28 rfl (lv_at hl 0 rfl) ?_
  refine lv_ishr hx hb d_NF_putBytes_29 ?_
  refine lv_topi (fun x_3 e_4 => ?_)
  refine lv_i2b (v := x_3.toInt8.toInt32) hx hb d_NF_putBytes_30 rfl ?_
  refine lv_topi (fun x_6 e_7 => ?_)
  refine nz_bastE hx hb hK.1 hP hD hS 1 0 rfl rfl (nz_vin (by decide +kernel)) d_NF_putBytes_31 (fun H locs f_8 f_8_e hP hD hS => ?_)
  have hP : va_P D nz_cl [(o0, .inr (11, [.ref o1, .int 4, .ref o2, .ref o3, .ref o4, .ref o5, .ref o6, .ref o7, .ref o8, .ref o9, .ref o10])), (o1, .inl (cB, 1600, .inl f_8))] H := hP
  have hD : va_D A [(o0, .inr (11, [.ref o1, .int 4, .ref o2, .ref o3, .ref o4, .ref o5, .ref o6, .ref o7, .ref o8, .ref o9, .ref o10])), (o1, .inl (cB, 1600, .inl f_8))] := hD
  refine lv_aload_n hx hb d_NF_putBytes_32 rfl (lv_at hl 1 rfl) ?_
  refine lv_dup hx hb d_NF_putBytes_33 rfl ?_
  refine va_get (D := D) (ci := 11) (v := .int 4) (C := R_NF) (T := F_NF) (N := 11) hx hb hts i_NF hown hK.1 hP 0 rfl rfl 1 (by decide) (hts _ k_461) (fun _ h9 => h9) rfl d_NF_putBytes_34 ?_
  refine lv_iconst (v := 1) hx hb d_NF_putBytes_37 (by decide +kernel) ?_
  refine lv_iadd hx hb d_NF_putBytes_38 ?_
  refine nz_ctopi (v := 5) (by decide +kernel) ?_
  refine va_put (D := D) (ci := 11) (v := .int 5) (ty := .int) (C := R_NF) (T := F_NF) (N := 11) hx hb hts i_NF t_NF t_NF_ok n_NF hown hK.1 hP hD hS 0 rfl rfl 1 (by decide) (hts _ k_461) (fun _ h9 => h9) rfl (by decide +kernel) rfl rfl (Nat.le_of_ble_eq_true rfl) d_NF_putBytes_39 (fun H locs hP hD hS => ?_)
  have hP : va_P D nz_cl [(o0, .inr (11, [.ref o1, .int 5, .ref o2, .ref o3, .ref o4, .ref o5, .ref o6, .ref o7, .ref o8, .ref o9, .ref o10])), (o1, .inl (cB, 1600, .inl f_8))] H := hP
  have hD : va_D A [(o0, .inr (11, [.ref o1, .int 5, .ref o2, .ref o3, .ref o4, .ref o5, .ref o6, .ref o7, .ref o8, .ref o9, .ref o10])), (o1, .inl (cB, 1600, .inl f_8))] := hD
  refine lv_iinc (v := 16) (lv' := [(2, .int 16), (0, .ref o0), (1, .int p0)]) hx hb d_NF_putBytes_42 hl (k := 0) rfl (by decide +kernel) (by decide) rfl (fun ls hl => ?_)
  refine lv_goto (tgt := 3) hx hb d_NF_putBytes_45 (by decide) ?_
  refine lv_iload_n hx hb d_NF_putBytes_3 rfl (lv_at hl 0 rfl) ?_
  refine lv_if_lt (tgt := 48) hx hb d_NF_putBytes_4 (by decide) (fun c_9 => absurd c_9 (by decide +kernel)) (fun c_9 => ?_)
  refine lv_aload_n hx hb d_NF_putBytes_7 rfl (lv_at hl 1 rfl) ?_
  refine va_get (D := D) (ci := 11) (v := .int 5) (C := R_NF) (T := F_NF) (N := 11) hx hb hts i_NF hown hK.1 hP 0 rfl rfl 1 (by decide) (hts _ k_461) (fun _ h9 => h9) rfl d_NF_putBytes_8 ?_
  refine lv_aload_n hx hb d_NF_putBytes_11 rfl (lv_at hl 1 rfl) ?_
  refine va_get (D := D) (ci := 11) (v := .ref o1) (C := R_NF) (T := F_NF) (N := 11) hx hb hts i_NF hown hK.1 hP 0 rfl rfl 0 (by decide) (hts _ k_460) (fun _ h9 => h9) rfl d_NF_putBytes_12 ?_
  refine va_alen (v := 1600) hx hb hK.1 hP 1 0 rfl rfl rfl d_NF_putBytes_15 ?_
  refine lv_icmp_ge (tgt := 42) hx hb d_NF_putBytes_16 (by decide) (fun c_10 => absurd c_10 (by decide +kernel)) (fun c_10 => ?_)
  refine lv_aload_n hx hb d_NF_putBytes_19 rfl (lv_at hl 1 rfl) ?_
  refine va_get (D := D) (ci := 11) (v := .ref o1) (C := R_NF) (T := F_NF) (N := 11) hx hb hts i_NF hown hK.1 hP 0 rfl rfl 0 (by decide) (hts _ k_460) (fun _ h9 => h9) rfl d_NF_putBytes_20 ?_
  refine lv_aload_n hx hb d_NF_putBytes_23 rfl (lv_at hl 1 rfl) ?_
  refine va_get (D := D) (ci := 11) (v := .int 5) (C := R_NF) (T := F_NF) (N := 11) hx hb hts i_NF hown hK.1 hP 0 rfl rfl 1 (by decide) (hts _ k_461) (fun _ h9 => h9) rfl d_NF_putBytes_24 ?_
  refine lv_iload_n hx hb d_NF_putBytes_27 rfl (lv_at hl 2 rfl) ?_
  refine lv_iload_n hx hb d_NF_putBytes_28 rfl (lv_at hl 0 rfl) ?_
  refine lv_ishr hx hb d_NF_putBytes_29 ?_
  refine lv_topi (fun x_11 e_12 => ?_)
  refine lv_i2b (v := x_11.toInt8.toInt32) hx hb d_NF_putBytes_30 rfl ?_
  refine lv_topi (fun x_14 e_15 => ?_)
  refine nz_bastE hx hb hK.1 hP hD hS 1 0 rfl rfl (nz_vin (by decide +kernel)) d_NF_putBytes_31 (fun H locs f_16 f_16_e hP hD hS => ?_)
  have hP : va_P D nz_cl [(o0, .inr (11, [.ref o1, .int 5, .ref o2, .ref o3, .ref o4, .ref o5, .ref o6, .ref o7, .ref o8, .ref o9, .ref o10])), (o1, .inl (cB, 1600, .inl f_16))] H := hP
  have hD : va_D A [(o0, .inr (11, [.ref o1, .int 5, .ref o2, .ref o3, .ref o4, .ref o5, .ref o6, .ref o7, .ref o8, .ref o9, .ref o10])), (o1, .inl (cB, 1600, .inl f_16))] := hD
  refine lv_aload_n hx hb d_NF_putBytes_32 rfl (lv_at hl 1 rfl) ?_
  refine lv_dup hx hb d_NF_putBytes_33 rfl ?_
  refine va_get (D := D) (ci := 11) (v := .int 5) (C := R_NF) (T := F_NF) (N := 11) hx hb hts i_NF hown hK.1 hP 0 rfl rfl 1 (by decide) (hts _ k_461) (fun _ h9 => h9) rfl d_NF_putBytes_34 ?_
  refine lv_iconst (v := 1) hx hb d_NF_putBytes_37 (by decide +kernel) ?_
  refine lv_iadd hx hb d_NF_putBytes_38 ?_
  refine nz_ctopi (v := 6) (by decide +kernel) ?_
  refine va_put (D := D) (ci := 11) (v := .int 6) (ty := .int) (C := R_NF) (T := F_NF) (N := 11) hx hb hts i_NF t_NF t_NF_ok n_NF hown hK.1 hP hD hS 0 rfl rfl 1 (by decide) (hts _ k_461) (fun _ h9 => h9) rfl (by decide +kernel) rfl rfl (Nat.le_of_ble_eq_true rfl) d_NF_putBytes_39 (fun H locs hP hD hS => ?_)
  have hP : va_P D nz_cl [(o0, .inr (11, [.ref o1, .int 6, .ref o2, .ref o3, .ref o4, .ref o5, .ref o6, .ref o7, .ref o8, .ref o9, .ref o10])), (o1, .inl (cB, 1600, .inl f_16))] H := hP
  have hD : va_D A [(o0, .inr (11, [.ref o1, .int 6, .ref o2, .ref o3, .ref o4, .ref o5, .ref o6, .ref o7, .ref o8, .ref o9, .ref o10])), (o1, .inl (cB, 1600, .inl f_16))] := hD
  refine lv_iinc (v := 8) (lv' := [(2, .int 8), (0, .ref o0), (1, .int p0)]) hx hb d_NF_putBytes_42 hl (k := 0) rfl (by decide +kernel) (by decide) rfl (fun ls hl => ?_)
  refine lv_goto (tgt := 3) hx hb d_NF_putBytes_45 (by decide) ?_
  refine lv_iload_n hx hb d_NF_putBytes_3 rfl (lv_at hl 0 rfl) ?_
  refine lv_if_lt (tgt := 48) hx hb d_NF_putBytes_4 (by decide) (fun c_17 => absurd c_17 (by decide +kernel)) (fun c_17 => ?_)
  refine lv_aload_n hx hb d_NF_putBytes_7 rfl (lv_at hl 1 rfl) ?_
  refine va_get (D := D) (ci := 11) (v := .int 6) (C := R_NF) (T := F_NF) (N := 11) hx hb hts i_NF hown hK.1 hP 0 rfl rfl 1 (by decide) (hts _ k_461) (fun _ h9 => h9) rfl d_NF_putBytes_8 ?_
  refine lv_aload_n hx hb d_NF_putBytes_11 rfl (lv_at hl 1 rfl) ?_
  refine va_get (D := D) (ci := 11) (v := .ref o1) (C := R_NF) (T := F_NF) (N := 11) hx hb hts i_NF hown hK.1 hP 0 rfl rfl 0 (by decide) (hts _ k_460) (fun _ h9 => h9) rfl d_NF_putBytes_12 ?_
  refine va_alen (v := 1600) hx hb hK.1 hP 1 0 rfl rfl rfl d_NF_putBytes_15 ?_
  refine lv_icmp_ge (tgt := 42) hx hb d_NF_putBytes_16 (by decide) (fun c_18 => absurd c_18 (by decide +kernel)) (fun c_18 => ?_)
  refine lv_aload_n hx hb d_NF_putBytes_19 rfl (lv_at hl 1 rfl) ?_
  refine va_get (D := D) (ci := 11) (v := .ref o1) (C := R_NF) (T := F_NF) (N := 11) hx hb hts i_NF hown hK.1 hP 0 rfl rfl 0 (by decide) (hts _ k_460) (fun _ h9 => h9) rfl d_NF_putBytes_20 ?_
  refine lv_aload_n hx hb d_NF_putBytes_23 rfl (lv_at hl 1 rfl) ?_
  refine va_get (D := D) (ci := 11) (v := .int 6) (C := R_NF) (T := F_NF) (N := 11) hx hb hts i_NF hown hK.1 hP 0 rfl rfl 1 (by decide) (hts _ k_461) (fun _ h9 => h9) rfl d_NF_putBytes_24 ?_
  refine lv_iload_n hx hb d_NF_putBytes_27 rfl (lv_at hl 2 rfl) ?_
  refine lv_iload_n hx hb d_NF_putBytes_28 rfl (lv_at hl 0 rfl) ?_
  refine lv_ishr hx hb d_NF_putBytes_29 ?_
  refine lv_topi (fun x_19 e_20 => ?_)
  refine lv_i2b (v := x_19.toInt8.toInt32) hx hb d_NF_putBytes_30 rfl ?_
  refine lv_topi (fun x_22 e_23 => ?_)
  refine nz_bastE hx hb hK.1 hP hD hS 1 0 rfl rfl (nz_vin (by decide +kernel)) d_NF_putBytes_31 (fun H locs f_24 f_24_e hP hD hS => ?_)
  have hP : va_P D nz_cl [(o0, .inr (11, [.ref o1, .int 6, .ref o2, .ref o3, .ref o4, .ref o5, .ref o6, .ref o7, .ref o8, .ref o9, .ref o10])), (o1, .inl (cB, 1600, .inl f_24))] H := hP
  have hD : va_D A [(o0, .inr (11, [.ref o1, .int 6, .ref o2, .ref o3, .ref o4, .ref o5, .ref o6, .ref o7, .ref o8, .ref o9, .ref o10])), (o1, .inl (cB, 1600, .inl f_24))] := hD
  refine lv_aload_n hx hb d_NF_putBytes_32 rfl (lv_at hl 1 rfl) ?_
  refine lv_dup hx hb d_NF_putBytes_33 rfl ?_
  refine va_get (D := D) (ci := 11) (v := .int 6) (C := R_NF) (T := F_NF) (N := 11) hx hb hts i_NF hown hK.1 hP 0 rfl rfl 1 (by decide) (hts _ k_461) (fun _ h9 => h9) rfl d_NF_putBytes_34 ?_
  refine lv_iconst (v := 1) hx hb d_NF_putBytes_37 (by decide +kernel) ?_
  refine lv_iadd hx hb d_NF_putBytes_38 ?_
  refine nz_ctopi (v := 7) (by decide +kernel) ?_
  refine va_put (D := D) (ci := 11) (v := .int 7) (ty := .int) (C := R_NF) (T := F_NF) (N := 11) hx hb hts i_NF t_NF t_NF_ok n_NF hown hK.1 hP hD hS 0 rfl rfl 1 (by decide) (hts _ k_461) (fun _ h9 => h9) rfl (by decide +kernel) rfl rfl (Nat.le_of_ble_eq_true rfl) d_NF_putBytes_39 (fun H locs hP hD hS => ?_)
  have hP : va_P D nz_cl [(o0, .inr (11, [.ref o1, .int 7, .ref o2, .ref o3, .ref o4, .ref o5, .ref o6, .ref o7, .ref o8, .ref o9, .ref o10])), (o1, .inl (cB, 1600, .inl f_24))] H := hP
  have hD : va_D A [(o0, .inr (11, [.ref o1, .int 7, .ref o2, .ref o3, .ref o4, .ref o5, .ref o6, .ref o7, .ref o8, .ref o9, .ref o10])), (o1, .inl (cB, 1600, .inl f_24))] := hD
  refine lv_iinc (v := 0) (lv' := [(2, .int 0), (0, .ref o0), (1, .int p0)]) hx hb d_NF_putBytes_42 hl (k := 0) rfl (by decide +kernel) (by decide) rfl (fun ls hl => ?_)
  refine lv_goto (tgt := 3) hx hb d_NF_putBytes_45 (by decide) ?_
  refine lv_iload_n hx hb d_NF_putBytes_3 rfl (lv_at hl 0 rfl) ?_
  refine lv_if_lt (tgt := 48) hx hb d_NF_putBytes_4 (by decide) (fun c_25 => absurd c_25 (by decide +kernel)) (fun c_25 => ?_)
  refine lv_aload_n hx hb d_NF_putBytes_7 rfl (lv_at hl 1 rfl) ?_
  refine va_get (D := D) (ci := 11) (v := .int 7) (C := R_NF) (T := F_NF) (N := 11) hx hb hts i_NF hown hK.1 hP 0 rfl rfl 1 (by decide) (hts _ k_461) (fun _ h9 => h9) rfl d_NF_putBytes_8 ?_
  refine lv_aload_n hx hb d_NF_putBytes_11 rfl (lv_at hl 1 rfl) ?_
  refine va_get (D := D) (ci := 11) (v := .ref o1) (C := R_NF) (T := F_NF) (N := 11) hx hb hts i_NF hown hK.1 hP 0 rfl rfl 0 (by decide) (hts _ k_460) (fun _ h9 => h9) rfl d_NF_putBytes_12 ?_
  refine va_alen (v := 1600) hx hb hK.1 hP 1 0 rfl rfl rfl d_NF_putBytes_15 ?_
  refine lv_icmp_ge (tgt := 42) hx hb d_NF_putBytes_16 (by decide) (fun c_26 => absurd c_26 (by decide +kernel)) (fun c_26 => ?_)
  refine lv_aload_n hx hb d_NF_putBytes_19 rfl (lv_at hl 1 rfl) ?_
  refine va_get (D := D) (ci := 11) (v := .ref o1) (C := R_NF) (T := F_NF) (N := 11) hx hb hts i_NF hown hK.1 hP 0 rfl rfl 0 (by decide) (hts _ k_460) (fun _ h9 => h9) rfl d_NF_putBytes_20 ?_
  refine lv_aload_n hx hb d_NF_putBytes_23 rfl (lv_at hl 1 rfl) ?_
  refine va_get (D := D) (ci := 11) (v := .int 7) (C := R_NF) (T := F_NF) (N := 11) hx hb hts i_NF hown hK.1 hP 0 rfl rfl 1 (by decide) (hts _ k_461) (fun _ h9 => h9) rfl d_NF_putBytes_24 ?_
  refine lv_iload_n hx hb d_NF_putBytes_27 rfl (lv_at hl 2 rfl) ?_
  refine lv_iload_n hx hb d_NF_putBytes_28 rfl (lv_at hl 0 rfl) ?_
  refine lv_ishr hx hb d_NF_putBytes_29 ?_
  refine lv_topi (fun x_27 e_28 => ?_)
  refine lv_i2b (v := x_27.toInt8.toInt32) hx hb d_NF_putBytes_30 rfl ?_
  refine lv_topi (fun x_30 e_31 => ?_)
  refine nz_bastE hx hb hK.1 hP hD hS 1 0 rfl rfl (nz_vin (by decide +kernel)) d_NF_putBytes_31 (fun H locs f_32 f_32_e hP hD hS => ?_)
  have hP : va_P D nz_cl [(o0, .inr (11, [.ref o1, .int 7, .ref o2, .ref o3, .ref o4, .ref o5, .ref o6, .ref o7, .ref o8, .ref o9, .ref o10])), (o1, .inl (cB, 1600, .inl f_32))] H := hP
  have hD : va_D A [(o0, .inr (11, [.ref o1, .int 7, .ref o2, .ref o3, .ref o4, .ref o5, .ref o6, .ref o7, .ref o8, .ref o9, .ref o10])), (o1, .inl (cB, 1600, .inl f_32))] := hD
  refine lv_aload_n hx hb d_NF_putBytes_32 rfl (lv_at hl 1 rfl) ?_
  refine lv_dup hx hb d_NF_putBytes_33 rfl ?_
  refine va_get (D := D) (ci := 11) (v := .int 7) (C := R_NF) (T := F_NF) (N := 11) hx hb hts i_NF hown hK.1 hP 0 rfl rfl 1 (by decide) (hts _ k_461) (fun _ h9 => h9) rfl d_NF_putBytes_34 ?_
  refine lv_iconst (v := 1) hx hb d_NF_putBytes_37 (by decide +kernel) ?_
  refine lv_iadd hx hb d_NF_putBytes_38 ?_
  refine nz_ctopi (v := 8) (by decide +kernel) ?_
  refine va_put (D := D) (ci := 11) (v := .int 8) (ty := .int) (C := R_NF) (T := F_NF) (N := 11) hx hb hts i_NF t_NF t_NF_ok n_NF hown hK.1 hP hD hS 0 rfl rfl 1 (by decide) (hts _ k_461) (fun _ h9 => h9) rfl (by decide +kernel) rfl rfl (Nat.le_of_ble_eq_true rfl) d_NF_putBytes_39 (fun H locs hP hD hS => ?_)
  have hP : va_P D nz_cl [(o0, .inr (11, [.ref o1, .int 8, .ref o2, .ref o3, .ref o4, .ref o5, .ref o6, .ref o7, .ref o8, .ref o9, .ref o10])), (o1, .inl (cB, 1600, .inl f_32))] H := hP
  have hD : va_D A [(o0, .inr (11, [.ref o1, .int 8, .ref o2, .ref o3, .ref o4, .ref o5, .ref o6, .ref o7, .ref o8, .ref o9, .ref o10])), (o1, .inl (cB, 1600, .inl f_32))] := hD
  refine lv_iinc (v := (-8)) (lv' := [(2, .int (-8)), (0, .ref o0), (1, .int p0)]) hx hb d_NF_putBytes_42 hl (k := 0) rfl (by decide +kernel) (by decide) rfl (fun ls hl => ?_)
  refine lv_goto (tgt := 3) hx hb d_NF_putBytes_45 (by decide) ?_
  refine lv_iload_n hx hb d_NF_putBytes_3 rfl (lv_at hl 0 rfl) ?_
  refine lv_if_lt (tgt := 48) hx hb d_NF_putBytes_4 (by decide) (fun c_33 => ?_) (fun c_33 => absurd (by decide +kernel) c_33)
  exact nz_retv C0 (hP.sub (ws' := [(o0, .inr (11, [.ref o1, .int 8, .ref o2, .ref o3, .ref o4, .ref o5, .ref o6, .ref o7, .ref o8, .ref o9, .ref o10])), (o1, .inl (cB, 1600, .inl f_32))]) [0, 1] rfl) (hD.sub (ws' := [(o0, .inr (11, [.ref o1, .int 8, .ref o2, .ref o3, .ref o4, .ref o5, .ref o6, .ref o7, .ref o8, .ref o9, .ref o10])), (o1, .inl (cB, 1600, .inl f_32))]) [0, 1] (by decide) rfl) hS ⟨(f_32), rfl⟩ d_NF_putBytes_48
set_option maxHeartbeats 4000000 in
set_option maxRecDepth 100000 in
theorem c_NF_putBytes_8 (l : Launch) (D : va_G) (cB cI cJ : ClassId) (o0 : Nat) (p0 : Int32) (o1 : Nat) (o2 : Nat) (o3 : Nat) (o4 : Nat) (o5 : Nat) (o6 : Nat) (o7 : Nat) (o8 : Nat) (o9 : Nat) (o10 : Nat) (ft : Nat → Int32) : nz_Cv l D cB cI cJ nz_x0 y_NF_putBytes b_NF_putBytes 3 none { frames := 0, cells := 0, slots := 0, locals := 0 } [.ref o0, .int p0] [(o0, .inr (11, [.ref o1, .int 8, .ref o2, .ref o3, .ref o4, .ref o5, .ref o6, .ref o7, .ref o8, .ref o9, .ref o10])), (o1, .inl (cB, 1600, .inl ft))] (fun w => ∃ (zf : Nat → Int32), w = [(o0, .inr (11, [.ref o1, .int 12, .ref o2, .ref o3, .ref o4, .ref o5, .ref o6, .ref o7, .ref o8, .ref o9, .ref o10])), (o1, .inl (cB, 1600, .inl zf))]) := by
  refine nz_Cv.mk (by decide) (Nat.le_of_ble_eq_true rfl) ?_
  intro p e s m below meth c A ls C0 hnm hP hD hS hA hX hl
  have C0 : nz_Cx p s m _ meth c b_NF_putBytes 3 none R_NF D cB cI cJ := C0
  obtain ⟨hx, hb, hr, hml, hown, hts, hlk, hK⟩ := id C0
  have hl : lv_has ls 3 [(0, .ref o0), (1, .int p0)] := hl
  refine lv_bipush (v := 24) hx hb d_NF_putBytes_0 (by decide +kernel) ?_
  refine lv_istore_n (lv' := [(2, .int 24), (0, .ref o0), (1, .int p0)]) hx hb d_NF_putBytes_2 rfl hl (by decide) rfl (fun ls hl => ?_)
  refine lv_iload_n hx hb d_NF_putBytes_3 rfl (lv_at hl 0 rfl) ?_
  refine lv_if_lt (tgt := 48) hx hb d_NF_putBytes_4 (by decide) (fun c_1 => absurd c_1 (by decide +kernel)) (fun c_1 => ?_)
  refine lv_aload_n hx hb d_NF_putBytes_7 rfl (lv_at hl 1 rfl) ?_
  refine va_get (D := D) (ci := 11) (v := .int 8) (C := R_NF) (T := F_NF) (N := 11) hx hb hts i_NF hown hK.1 hP 0 rfl rfl 1 (by decide) (hts _ k_461) (fun _ h9 => h9) rfl d_NF_putBytes_8 ?_
  refine lv_aload_n hx hb d_NF_putBytes_11 rfl (lv_at hl 1 rfl) ?_
  refine va_get (D := D) (ci := 11) (v := .ref o1) (C := R_NF) (T := F_NF) (N := 11) hx hb hts i_NF hown hK.1 hP 0 rfl rfl 0 (by decide) (hts _ k_460) (fun _ h9 => h9) rfl d_NF_putBytes_12 ?_
  refine va_alen (v := 1600) hx hb hK.1 hP 1 0 rfl rfl rfl d_NF_putBytes_15 ?_
  refine lv_icmp_ge (tgt := 42) hx hb d_NF_putBytes_16 (by decide) (fun c_2 => absurd c_2 (by decide +kernel)) (fun c_2 => ?_)
  refine lv_aload_n hx hb d_NF_putBytes_19 rfl (lv_at hl 1 rfl) ?_
  refine va_get (D := D) (ci := 11) (v := .ref o1) (C := R_NF) (T := F_NF) (N := 11) hx hb hts i_NF hown hK.1 hP 0 rfl rfl 0 (by decide) (hts _ k_460) (fun _ h9 => h9) rfl d_NF_putBytes_20 ?_
  refine lv_aload_n hx hb d_NF_putBytes_23 rfl (lv_at hl 1 rfl) ?_
  refine va_get (D := D) (ci := 11) (v := .int 8) (C := R_NF) (T := F_NF) (N := 11) hx hb hts i_NF hown hK.1 hP 0 rfl rfl 1 (by decide) (hts _ k_461) (fun _ h9 => h9) rfl d_NF_putBytes_24 ?_
  refine lv_iload_n hx hb d_NF_putBytes_27 rfl (lv_at hl 2 rfl) ?_
  refine lv_iload_n hx hb d_NF_putBytes_28 rfl (lv_at hl 0 rfl) ?_
  refine lv_ishr hx hb d_NF_putBytes_29 ?_
  refine lv_topi (fun x_3 e_4 => ?_)
  refine lv_i2b (v := x_3.toInt8.toInt32) hx hb d_NF_putBytes_30 rfl ?_
  refine lv_topi (fun x_6 e_7 => ?_)
  refine nz_bastE hx hb hK.1 hP hD hS 1 0 rfl rfl (nz_vin (by decide +kernel)) d_NF_putBytes_31 (fun H locs f_8 f_8_e hP hD hS => ?_)
  have hP : va_P D nz_cl [(o0, .inr (11, [.ref o1, .int 8, .ref o2, .ref o3, .ref o4, .ref o5, .ref o6, .ref o7, .ref o8, .ref o9, .ref o10])), (o1, .inl (cB, 1600, .inl f_8))] H := hP
  have hD : va_D A [(o0, .inr (11, [.ref o1, .int 8, .ref o2, .ref o3, .ref o4, .ref o5, .ref o6, .ref o7, .ref o8, .ref o9, .ref o10])), (o1, .inl (cB, 1600, .inl f_8))] := hD
  refine lv_aload_n hx hb d_NF_putBytes_32 rfl (lv_at hl 1 rfl) ?_
  refine lv_dup hx hb d_NF_putBytes_33 rfl ?_
  refine va_get (D := D) (ci := 11) (v := .int 8) (C := R_NF) (T := F_NF) (N := 11) hx hb hts i_NF hown hK.1 hP 0 rfl rfl 1 (by decide) (hts _ k_461) (fun _ h9 => h9) rfl d_NF_putBytes_34 ?_
  refine lv_iconst (v := 1) hx hb d_NF_putBytes_37 (by decide +kernel) ?_
  refine lv_iadd hx hb d_NF_putBytes_38 ?_
  refine nz_ctopi (v := 9) (by decide +kernel) ?_
  refine va_put (D := D) (ci := 11) (v := .int 9) (ty := .int) (C := R_NF) (T := F_NF) (N := 11) hx hb hts i_NF t_NF t_NF_ok n_NF hown hK.1 hP hD hS 0 rfl rfl 1 (by decide) (hts _ k_461) (fun _ h9 => h9) rfl (by decide +kernel) rfl rfl (Nat.le_of_ble_eq_true rfl) d_NF_putBytes_39 (fun H locs hP hD hS => ?_)
  have hP : va_P D nz_cl [(o0, .inr (11, [.ref o1, .int 9, .ref o2, .ref o3, .ref o4, .ref o5, .ref o6, .ref o7, .ref o8, .ref o9, .ref o10])), (o1, .inl (cB, 1600, .inl f_8))] H := hP
  have hD : va_D A [(o0, .inr (11, [.ref o1, .int 9, .ref o2, .ref o3, .ref o4, .ref o5, .ref o6, .ref o7, .ref o8, .ref o9, .ref o10])), (o1, .inl (cB, 1600, .inl f_8))] := hD
  refine lv_iinc (v := 16) (lv' := [(2, .int 16), (0, .ref o0), (1, .int p0)]) hx hb d_NF_putBytes_42 hl (k := 0) rfl (by decide +kernel) (by decide) rfl (fun ls hl => ?_)
  refine lv_goto (tgt := 3) hx hb d_NF_putBytes_45 (by decide) ?_
  refine lv_iload_n hx hb d_NF_putBytes_3 rfl (lv_at hl 0 rfl) ?_
  refine lv_if_lt (tgt := 48) hx hb d_NF_putBytes_4 (by decide) (fun c_9 => absurd c_9 (by decide +kernel)) (fun c_9 => ?_)
  refine lv_aload_n hx hb d_NF_putBytes_7 rfl (lv_at hl 1 rfl) ?_
  refine va_get (D := D) (ci := 11) (v := .int 9) (C := R_NF) (T := F_NF) (N := 11) hx hb hts i_NF hown hK.1 hP 0 rfl rfl 1 (by decide) (hts _ k_461) (fun _ h9 => h9) rfl d_NF_putBytes_8 ?_
  refine lv_aload_n hx hb d_NF_putBytes_11 rfl (lv_at hl 1 rfl) ?_
  refine va_get (D := D) (ci := 11) (v := .ref o1) (C := R_NF) (T := F_NF) (N := 11) hx hb hts i_NF hown hK.1 hP 0 rfl rfl 0 (by decide) (hts _ k_460) (fun _ h9 => h9) rfl d_NF_putBytes_12 ?_
  refine va_alen (v := 1600) hx hb hK.1 hP 1 0 rfl rfl rfl d_NF_putBytes_15 ?_
  refine lv_icmp_ge (tgt := 42) hx hb d_NF_putBytes_16 (by decide) (fun c_10 => absurd c_10 (by decide +kernel)) (fun c_10 => ?_)
  refine lv_aload_n hx hb d_NF_putBytes_19 rfl (lv_at hl 1 rfl) ?_
  refine va_get (D := D) (ci := 11) (v := .ref o1) (C := R_NF) (T := F_NF) (N := 11) hx hb hts i_NF hown hK.1 hP 0 rfl rfl 0 (by decide) (hts _ k_460) (fun _ h9 => h9) rfl d_NF_putBytes_20 ?_
  refine lv_aload_n hx hb d_NF_putBytes_23 rfl (lv_at hl 1 rfl) ?_
  refine va_get (D := D) (ci := 11) (v := .int 9) (C := R_NF) (T := F_NF) (N := 11) hx hb hts i_NF hown hK.1 hP 0 rfl rfl 1 (by decide) (hts _ k_461) (fun _ h9 => h9) rfl d_NF_putBytes_24 ?_
  refine lv_iload_n hx hb d_NF_putBytes_27 rfl (lv_at hl 2 rfl) ?_
  refine lv_iload_n hx hb d_NF_putBytes_28 rfl (lv_at hl 0 rfl) ?_
  refine lv_ishr hx hb d_NF_putBytes_29 ?_
  refine lv_topi (fun x_11 e_12 => ?_)
  refine lv_i2b (v := x_11.toInt8.toInt32) hx hb d_NF_putBytes_30 rfl ?_
  refine lv_topi (fun x_14 e_15 => ?_)
  refine nz_bastE hx hb hK.1 hP hD hS 1 0 rfl rfl (nz_vin (by decide +kernel)) d_NF_putBytes_31 (fun H locs f_16 f_16_e hP hD hS => ?_)
  have hP : va_P D nz_cl [(o0, .inr (11, [.ref o1, .int 9, .ref o2, .ref o3, .ref o4, .ref o5, .ref o6, .ref o7, .ref o8, .ref o9, .ref o10])), (o1, .inl (cB, 1600, .inl f_16))] H := hP
  have hD : va_D A [(o0, .inr (11, [.ref o1, .int 9, .ref o2, .ref o3, .ref o4, .ref o5, .ref o6, .ref o7, .ref o8, .ref o9, .ref o10])), (o1, .inl (cB, 1600, .inl f_16))] := hD
  refine lv_aload_n hx hb d_NF_putBytes_32 rfl (lv_at hl 1 rfl) ?_
  refine lv_dup hx hb d_NF_putBytes_33 rfl ?_
  refine va_get (D := D) (ci := 11) (v := .int 9) (C := R_NF) (T := F_NF) (N := 11) hx hb hts i_NF hown hK.1 hP 0 rfl rfl 1 (by decide) (hts _ k_461) (fun _ h9 => h9) rfl d_NF_putBytes_34 ?_
  refine lv_iconst (v := 1) hx hb d_NF_putBytes_37 (by decide +kernel) ?_
  refine lv_iadd hx hb d_NF_putBytes_38 ?_
  refine nz_ctopi (v := 10) (by decide +kernel) ?_
  refine va_put (D := D) (ci := 11) (v := .int 10) (ty := .int) (C := R_NF) (T := F_NF) (N := 11) hx hb hts i_NF t_NF t_NF_ok n_NF hown hK.1 hP hD hS 0 rfl rfl 1 (by decide) (hts _ k_461) (fun _ h9 => h9) rfl (by decide +kernel) rfl rfl (Nat.le_of_ble_eq_true rfl) d_NF_putBytes_39 (fun H locs hP hD hS => ?_)
  have hP : va_P D nz_cl [(o0, .inr (11, [.ref o1, .int 10, .ref o2, .ref o3, .ref o4, .ref o5, .ref o6, .ref o7, .ref o8, .ref o9, .ref o10])), (o1, .inl (cB, 1600, .inl f_16))] H := hP
  have hD : va_D A [(o0, .inr (11, [.ref o1, .int 10, .ref o2, .ref o3, .ref o4, .ref o5, .ref o6, .ref o7, .ref o8, .ref o9, .ref o10])), (o1, .inl (cB, 1600, .inl f_16))] := hD
  refine lv_iinc (v := 8) (lv' := [(2, .int 8), (0, .ref o0), (1, .int p0)]) hx hb d_NF_putBytes_42 hl (k := 0) rfl (by decide +kernel) (by decide) rfl (fun ls hl => ?_)
  refine lv_goto (tgt := 3) hx hb d_NF_putBytes_45 (by decide) ?_
  refine lv_iload_n hx hb d_NF_putBytes_3 rfl (lv_at hl 0 rfl) ?_
  refine lv_if_lt (tgt := 48) hx hb d_NF_putBytes_4 (by decide) (fun c_17 => absurd c_17 (by decide +kernel)) (fun c_17 => ?_)
  refine lv_aload_n hx hb d_NF_putBytes_7 rfl (lv_at hl 1 rfl) ?_
  refine va_get (D := D) (ci := 11) (v := .int 10) (C := R_NF) (T := F_NF) (N := 11) hx hb hts i_NF hown hK.1 hP 0 rfl rfl 1 (by decide) (hts _ k_461) (fun _ h9 => h9) rfl d_NF_putBytes_8 ?_
  refine lv_aload_n hx hb d_NF_putBytes_11 rfl (lv_at hl 1 rfl) ?_
  refine va_get (D := D) (ci := 11) (v := .ref o1) (C := R_NF) (T := F_NF) (N := 11) hx hb hts i_NF hown hK.1 hP 0 rfl rfl 0 (by decide) (hts _ k_460) (fun _ h9 => h9) rfl d_NF_putBytes_12 ?_
  refine va_alen (v := 1600) hx hb hK.1 hP 1 0 rfl rfl rfl d_NF_putBytes_15 ?_
  refine lv_icmp_ge (tgt := 42) hx hb d_NF_putBytes_16 (by decide) (fun c_18 => absurd c_18 (by decide +kernel)) (fun c_18 => ?_)
  refine lv_aload_n hx hb d_NF_putBytes_19 rfl (lv_at hl 1 rfl) ?_
  refine va_get (D := D) (ci := 11) (v := .ref o1) (C := R_NF) (T := F_NF) (N := 11) hx hb hts i_NF hown hK.1 hP 0 rfl rfl 0 (by decide) (hts _ k_460) (fun _ h9 => h9) rfl d_NF_putBytes_20 ?_
  refine lv_aload_n hx hb d_NF_putBytes_23 rfl (lv_at hl 1 rfl) ?_
  refine va_get (D := D) (ci := 11) (v := .int 10) (C := R_NF) (T := F_NF) (N := 11) hx hb hts i_NF hown hK.1 hP 0 rfl rfl 1 (by decide) (hts _ k_461) (fun _ h9 => h9) rfl d_NF_putBytes_24 ?_
  refine lv_iload_n hx hb d_NF_putBytes_27 rfl (lv_at hl 2 rfl) ?_
  refine lv_iload_n hx hb d_NF_putBytes_28 rfl (lv_at hl 0 rfl) ?_
  refine lv_ishr hx hb d_NF_putBytes_29 ?_
  refine lv_topi (fun x_19 e_20 => ?_)
  refine lv_i2b (v := x_19.toInt8.toInt32) hx hb d_NF_putBytes_30 rfl ?_
  refine lv_topi (fun x_22 e_23 => ?_)
  refine nz_bastE hx hb hK.1 hP hD hS 1 0 rfl rfl (nz_vin (by decide +kernel)) d_NF_putBytes_31 (fun H locs f_24 f_24_e hP hD hS => ?_)
  have hP : va_P D nz_cl [(o0, .inr (11, [.ref o1, .int 10, .ref o2, .ref o3, .ref o4, .ref o5, .ref o6, .ref o7, .ref o8, .ref o9, .ref o10])), (o1, .inl (cB, 1600, .inl f_24))] H := hP
  have hD : va_D A [(o0, .inr (11, [.ref o1, .int 10, .ref o2, .ref o3, .ref o4, .ref o5, .ref o6, .ref o7, .ref o8, .ref o9, .ref o10])), (o1, .inl (cB, 1600, .inl f_24))] := hD
  refine lv_aload_n hx hb d_NF_putBytes_32 rfl (lv_at hl 1 rfl) ?_
  refine lv_dup hx hb d_NF_putBytes_33 rfl ?_
  refine va_get (D := D) (ci := 11) (v := .int 10) (C := R_NF) (T := F_NF) (N := 11) hx hb hts i_NF hown hK.1 hP 0 rfl rfl 1 (by decide) (hts _ k_461) (fun _ h9 => h9) rfl d_NF_putBytes_34 ?_
  refine lv_iconst (v := 1) hx hb d_NF_putBytes_37 (by decide +kernel) ?_
  refine lv_iadd hx hb d_NF_putBytes_38 ?_
  refine nz_ctopi (v := 11) (by decide +kernel) ?_
  refine va_put (D := D) (ci := 11) (v := .int 11) (ty := .int) (C := R_NF) (T := F_NF) (N := 11) hx hb hts i_NF t_NF t_NF_ok n_NF hown hK.1 hP hD hS 0 rfl rfl 1 (by decide) (hts _ k_461) (fun _ h9 => h9) rfl (by decide +kernel) rfl rfl (Nat.le_of_ble_eq_true rfl) d_NF_putBytes_39 (fun H locs hP hD hS => ?_)
  have hP : va_P D nz_cl [(o0, .inr (11, [.ref o1, .int 11, .ref o2, .ref o3, .ref o4, .ref o5, .ref o6, .ref o7, .ref o8, .ref o9, .ref o10])), (o1, .inl (cB, 1600, .inl f_24))] H := hP
  have hD : va_D A [(o0, .inr (11, [.ref o1, .int 11, .ref o2, .ref o3, .ref o4, .ref o5, .ref o6, .ref o7, .ref o8, .ref o9, .ref o10])), (o1, .inl (cB, 1600, .inl f_24))] := hD
  refine lv_iinc (v := 0) (lv' := [(2, .int 0), (0, .ref o0), (1, .int p0)]) hx hb d_NF_putBytes_42 hl (k := 0) rfl (by decide +kernel) (by decide) rfl (fun ls hl => ?_)
  refine lv_goto (tgt := 3) hx hb d_NF_putBytes_45 (by decide) ?_
  refine lv_iload_n hx hb d_NF_putBytes_3 rfl (lv_at hl 0 rfl) ?_
  refine lv_if_lt (tgt := 48) hx hb d_NF_putBytes_4 (by decide) (fun c_25 => absurd c_25 (by decide +kernel)) (fun c_25 => ?_)
  refine lv_aload_n hx hb d_NF_putBytes_7 rfl (lv_at hl 1 rfl) ?_
  refine va_get (D := D) (ci := 11) (v := .int 11) (C := R_NF) (T := F_NF) (N := 11) hx hb hts i_NF hown hK.1 hP 0 rfl rfl 1 (by decide) (hts _ k_461) (fun _ h9 => h9) rfl d_NF_putBytes_8 ?_
  refine lv_aload_n hx hb d_NF_putBytes_11 rfl (lv_at hl 1 rfl) ?_
  refine va_get (D := D) (ci := 11) (v := .ref o1) (C := R_NF) (T := F_NF) (N := 11) hx hb hts i_NF hown hK.1 hP 0 rfl rfl 0 (by decide) (hts _ k_460) (fun _ h9 => h9) rfl d_NF_putBytes_12 ?_
  refine va_alen (v := 1600) hx hb hK.1 hP 1 0 rfl rfl rfl d_NF_putBytes_15 ?_
  refine lv_icmp_ge (tgt := 42) hx hb d_NF_putBytes_16 (by decide) (fun c_26 => absurd c_26 (by decide +kernel)) (fun c_26 => ?_)
  refine lv_aload_n hx hb d_NF_putBytes_19 rfl (lv_at hl 1 rfl) ?_
  refine va_get (D := D) (ci := 11) (v := .ref o1) (C := R_NF) (T := F_NF) (N := 11) hx hb hts i_NF hown hK.1 hP 0 rfl rfl 0 (by decide) (hts _ k_460) (fun _ h9 => h9) rfl d_NF_putBytes_20 ?_
  refine lv_aload_n hx hb d_NF_putBytes_23 rfl (lv_at hl 1 rfl) ?_
  refine va_get (D := D) (ci := 11) (v := .int 11) (C := R_NF) (T := F_NF) (N := 11) hx hb hts i_NF hown hK.1 hP 0 rfl rfl 1 (by decide) (hts _ k_461) (fun _ h9 => h9) rfl d_NF_putBytes_24 ?_
  refine lv_iload_n hx hb d_NF_putBytes_27 rfl (lv_at hl 2 rfl) ?_
  refine lv_iload_n hx hb d_NF_putBytes_28 rfl (lv_at hl 0 rfl) ?_
  refine lv_ishr hx hb d_NF_putBytes_29 ?_
  refine lv_topi (fun x_27 e_28 => ?_)
  refine lv_i2b (v := x_27.toInt8.toInt32) hx hb d_NF_putBytes_30 rfl ?_
  refine lv_topi (fun x_30 e_31 => ?_)
  refine nz_bastE hx hb hK.1 hP hD hS 1 0 rfl rfl (nz_vin (by decide +kernel)) d_NF_putBytes_31 (fun H locs f_32 f_32_e hP hD hS => ?_)
  have hP : va_P D nz_cl [(o0, .inr (11, [.ref o1, .int 11, .ref o2, .ref o3, .ref o4, .ref o5, .ref o6, .ref o7, .ref o8, .ref o9, .ref o10])), (o1, .inl (cB, 1600, .inl f_32))] H := hP
  have hD : va_D A [(o0, .inr (11, [.ref o1, .int 11, .ref o2, .ref o3, .ref o4, .ref o5, .ref o6, .ref o7, .ref o8, .ref o9, .ref o10])), (o1, .inl (cB, 1600, .inl f_32))] := hD
  refine lv_aload_n hx hb d_NF_putBytes_32 rfl (lv_at hl 1 rfl) ?_
  refine lv_dup hx hb d_NF_putBytes_33 rfl ?_
  refine va_get (D := D) (ci := 11) (v := .int 11) (C := R_NF) (T := F_NF) (N := 11) hx hb hts i_NF hown hK.1 hP 0 rfl rfl 1 (by decide) (hts _ k_461) (fun _ h9 => h9) rfl d_NF_putBytes_34 ?_
  refine lv_iconst (v := 1) hx hb d_NF_putBytes_37 (by decide +kernel) ?_
  refine lv_iadd hx hb d_NF_putBytes_38 ?_
  refine nz_ctopi (v := 12) (by decide +kernel) ?_
  refine va_put (D := D) (ci := 11) (v := .int 12) (ty := .int) (C := R_NF) (T := F_NF) (N := 11) hx hb hts i_NF t_NF t_NF_ok n_NF hown hK.1 hP hD hS 0 rfl rfl 1 (by decide) (hts _ k_461) (fun _ h9 => h9) rfl (by decide +kernel) rfl rfl (Nat.le_of_ble_eq_true rfl) d_NF_putBytes_39 (fun H locs hP hD hS => ?_)
  have hP : va_P D nz_cl [(o0, .inr (11, [.ref o1, .int 12, .ref o2, .ref o3, .ref o4, .ref o5, .ref o6, .ref o7, .ref o8, .ref o9, .ref o10])), (o1, .inl (cB, 1600, .inl f_32))] H := hP
  have hD : va_D A [(o0, .inr (11, [.ref o1, .int 12, .ref o2, .ref o3, .ref o4, .ref o5, .ref o6, .ref o7, .ref o8, .ref o9, .ref o10])), (o1, .inl (cB, 1600, .inl f_32))] := hD
  refine lv_iinc (v := (-8)) (lv' := [(2, .int (-8)), (0, .ref o0), (1, .int p0)]) hx hb d_NF_putBytes_42 hl (k := 0) rfl (by decide +kernel) (by decide) rfl (fun ls hl => ?_)
  refine lv_goto (tgt := 3) hx hb d_NF_putBytes_45 (by decide) ?_
  refine lv_iload_n hx hb d_NF_putBytes_3 rfl (lv_at hl 0 rfl) ?_
  refine lv_if_lt (tgt := 48) hx hb d_NF_putBytes_4 (by decide) (fun c_33 => ?_) (fun c_33 => absurd (by decide +kernel) c_33)
  exact nz_retv C0 (hP.sub (ws' := [(o0, .inr (11, [.ref o1, .int 12, .ref o2, .ref o3, .ref o4, .ref o5, .ref o6, .ref o7, .ref o8, .ref o9, .ref o10])), (o1, .inl (cB, 1600, .inl f_32))]) [0, 1] rfl) (hD.sub (ws' := [(o0, .inr (11, [.ref o1, .int 12, .ref o2, .ref o3, .ref o4, .ref o5, .ref o6, .ref o7, .ref o8, .ref o9, .ref o10])), (o1, .inl (cB, 1600, .inl f_32))]) [0, 1] (by decide) rfl) hS ⟨(f_32), rfl⟩ d_NF_putBytes_48
set_option maxHeartbeats 4000000 in
set_option maxRecDepth 100000 in
theorem c_NF_putBytes_12 (l : Launch) (D : va_G) (cB cI cJ : ClassId) (o0 : Nat) (p0 : Int32) (o1 : Nat) (o2 : Nat) (o3 : Nat) (o4 : Nat) (o5 : Nat) (o6 : Nat) (o7 : Nat) (o8 : Nat) (o9 : Nat) (o10 : Nat) (ft : Nat → Int32) : nz_Cv l D cB cI cJ nz_x0 y_NF_putBytes b_NF_putBytes 3 none { frames := 0, cells := 0, slots := 0, locals := 0 } [.ref o0, .int p0] [(o0, .inr (11, [.ref o1, .int 12, .ref o2, .ref o3, .ref o4, .ref o5, .ref o6, .ref o7, .ref o8, .ref o9, .ref o10])), (o1, .inl (cB, 1600, .inl ft))] (fun w => ∃ (zf : Nat → Int32), w = [(o0, .inr (11, [.ref o1, .int 16, .ref o2, .ref o3, .ref o4, .ref o5, .ref o6, .ref o7, .ref o8, .ref o9, .ref o10])), (o1, .inl (cB, 1600, .inl zf))]) := by
  refine nz_Cv.mk (by decide) (Nat.le_of_ble_eq_true rfl) ?_
  intro p e s m below meth c A ls C0 hnm hP hD hS hA hX hl
  have C0 : nz_Cx p s m _ meth c b_NF_putBytes 3 none R_NF D cB cI cJ := C0
  obtain ⟨hx, hb, hr, hml, hown, hts, hlk, hK⟩ := id C0
  have hl : lv_has ls 3 [(0, .ref o0), (1, .int p0)] := hl
  refine lv_bipush (v := 24) hx hb d_NF_putBytes_0 (by decide +kernel) ?_
  refine lv_istore_n (lv' := [(2, .int 24), (0, .ref o0), (1, .int p0)]) hx hb d_NF_putBytes_2 rfl hl (by decide) rfl (fun ls hl => ?_)
  refine lv_iload_n hx hb d_NF_putBytes_3 rfl (lv_at hl 0 rfl) ?_
  refine lv_if_lt (tgt := 48) hx hb d_NF_putBytes_4 (by decide) (fun c_1 => absurd c_1 (by decide +kernel)) (fun c_1 => ?_)
  refine lv_aload_n hx hb d_NF_putBytes_7 rfl (lv_at hl 1 rfl) ?_
  refine va_get (D := D) (ci := 11) (v := .int 12) (C := R_NF) (T := F_NF) (N := 11) hx hb hts i_NF hown hK.1 hP 0 rfl rfl 1 (by decide) (hts _ k_461) (fun _ h9 => h9) rfl d_NF_putBytes_8 ?_
  refine lv_aload_n hx hb d_NF_putBytes_11 rfl (lv_at hl 1 rfl) ?_
  refine va_get (D := D) (ci := 11) (v := .ref o1) (C := R_NF) (T := F_NF) (N := 11) hx hb hts i_NF hown hK.1 hP 0 rfl rfl 0 (by decide) (hts _ k_460) (fun _ h9 => h9) rfl d_NF_putBytes_12 ?_
  refine va_alen (v := 1600) hx hb hK.1 hP 1 0 rfl rfl rfl d_NF_putBytes_15 ?_
  refine lv_icmp_ge (tgt := 42) hx hb d_NF_putBytes_16 (by decide) (fun c_2 => absurd c_2 (by decide +kernel)) (fun c_2 => ?_)
  refine lv_aload_n hx hb d_NF_putBytes_19 rfl (lv_at hl 1 rfl) ?_
  refine va_get (D := D) (ci := 11) (v := .ref o1) (C := R_NF) (T := F_NF) (N := 11) hx hb hts i_NF hown hK.1 hP 0 rfl rfl 0 (by decide) (hts _ k_460) (fun _ h9 => h9) rfl d_NF_putBytes_20 ?_
  refine lv_aload_n hx hb d_NF_putBytes_23 rfl (lv_at hl 1 rfl) ?_
  refine va_get (D := D) (ci := 11) (v := .int 12) (C := R_NF) (T := F_NF) (N := 11) hx hb hts i_NF hown hK.1 hP 0 rfl rfl 1 (by decide) (hts _ k_461) (fun _ h9 => h9) rfl d_NF_putBytes_24 ?_
  refine lv_iload_n hx hb d_NF_putBytes_27 rfl (lv_at hl 2 rfl) ?_
  refine lv_iload_n hx hb d_NF_putBytes_28 rfl (lv_at hl 0 rfl) ?_
  refine lv_ishr hx hb d_NF_putBytes_29 ?_
  refine lv_topi (fun x_3 e_4 => ?_)
  refine lv_i2b (v := x_3.toInt8.toInt32) hx hb d_NF_putBytes_30 rfl ?_
  refine lv_topi (fun x_6 e_7 => ?_)
  refine nz_bastE hx hb hK.1 hP hD hS 1 0 rfl rfl (nz_vin (by decide +kernel)) d_NF_putBytes_31 (fun H locs f_8 f_8_e hP hD hS => ?_)
  have hP : va_P D nz_cl [(o0, .inr (11, [.ref o1, .int 12, .ref o2, .ref o3, .ref o4, .ref o5, .ref o6, .ref o7, .ref o8, .ref o9, .ref o10])), (o1, .inl (cB, 1600, .inl f_8))] H := hP
  have hD : va_D A [(o0, .inr (11, [.ref o1, .int 12, .ref o2, .ref o3, .ref o4, .ref o5, .ref o6, .ref o7, .ref o8, .ref o9, .ref o10])), (o1, .inl (cB, 1600, .inl f_8))] := hD
  refine lv_aload_n hx hb d_NF_putBytes_32 rfl (lv_at hl 1 rfl) ?_
  refine lv_dup hx hb d_NF_putBytes_33 rfl ?_
  refine va_get (D := D) (ci := 11) (v := .int 12) (C := R_NF) (T := F_NF) (N := 11) hx hb hts i_NF hown hK.1 hP 0 rfl rfl 1 (by decide) (hts _ k_461) (fun _ h9 => h9) rfl d_NF_putBytes_34 ?_
  refine lv_iconst (v := 1) hx hb d_NF_putBytes_37 (by decide +kernel) ?_
  refine lv_iadd hx hb d_NF_putBytes_38 ?_
  refine nz_ctopi (v := 13) (by decide +kernel) ?_
  refine va_put (D := D) (ci := 11) (v := .int 13) (ty := .int) (C := R_NF) (T := F_NF) (N := 11) hx hb hts i_NF t_NF t_NF_ok n_NF hown hK.1 hP hD hS 0 rfl rfl 1 (by decide) (hts _ k_461) (fun _ h9 => h9) rfl (by decide +kernel) rfl rfl (Nat.le_of_ble_eq_true rfl) d_NF_putBytes_39 (fun H locs hP hD hS => ?_)
  have hP : va_P D nz_cl [(o0, .inr (11, [.ref o1, .int 13, .ref o2, .ref o3, .ref o4, .ref o5, .ref o6, .ref o7, .ref o8, .ref o9, .ref o10])), (o1, .inl (cB, 1600, .inl f_8))] H := hP
  have hD : va_D A [(o0, .inr (11, [.ref o1, .int 13, .ref o2, .ref o3, .ref o4, .ref o5, .ref o6, .ref o7, .ref o8, .ref o9, .ref o10])), (o1, .inl (cB, 1600, .inl f_8))] := hD
  refine lv_iinc (v := 16) (lv' := [(2, .int 16), (0, .ref o0), (1, .int p0)]) hx hb d_NF_putBytes_42 hl (k := 0) rfl (by decide +kernel) (by decide) rfl (fun ls hl => ?_)
  refine lv_goto (tgt := 3) hx hb d_NF_putBytes_45 (by decide) ?_
  refine lv_iload_n hx hb d_NF_putBytes_3 rfl (lv_at hl 0 rfl) ?_
  refine lv_if_lt (tgt := 48) hx hb d_NF_putBytes_4 (by decide) (fun c_9 => absurd c_9 (by decide +kernel)) (fun c_9 => ?_)
  refine lv_aload_n hx hb d_NF_putBytes_7 rfl (lv_at hl 1 rfl) ?_
  refine va_get (D := D) (ci := 11) (v := .int 13) (C := R_NF) (T := F_NF) (N := 11) hx hb hts i_NF hown hK.1 hP 0 rfl rfl 1 (by decide) (hts _ k_461) (fun _ h9 => h9) rfl d_NF_putBytes_8 ?_
  refine lv_aload_n hx hb d_NF_putBytes_11 rfl (lv_at hl 1 rfl) ?_
  refine va_get (D := D) (ci := 11) (v := .ref o1) (C := R_NF) (T := F_NF) (N := 11) hx hb hts i_NF hown hK.1 hP 0 rfl rfl 0 (by decide) (hts _ k_460) (fun _ h9 => h9) rfl d_NF_putBytes_12 ?_
  refine va_alen (v := 1600) hx hb hK.1 hP 1 0 rfl rfl rfl d_NF_putBytes_15 ?_
  refine lv_icmp_ge (tgt := 42) hx hb d_NF_putBytes_16 (by decide) (fun c_10 => absurd c_10 (by decide +kernel)) (fun c_10 => ?_)
  refine lv_aload_n hx hb d_NF_putBytes_19 rfl (lv_at hl 1 rfl) ?_
  refine va_get (D := D) (ci := 11) (v := .ref o1) (C := R_NF) (T := F_NF) (N := 11) hx hb hts i_NF hown hK.1 hP 0 rfl rfl 0 (by decide) (hts _ k_460) (fun _ h9 => h9) rfl d_NF_putBytes_20 ?_
  refine lv_aload_n hx hb d_NF_putBytes_23 rfl (lv_at hl 1 rfl) ?_
  refine va_get (D := D) (ci := 11) (v := .int 13) (C := R_NF) (T := F_NF) (N := 11) hx hb hts i_NF hown hK.1 hP 0 rfl rfl 1 (by decide) (hts _ k_461) (fun _ h9 => h9) rfl d_NF_putBytes_24 ?_
  refine lv_iload_n hx hb d_NF_putBytes_27 rfl (lv_at hl 2 rfl) ?_
  refine lv_iload_n hx hb d_NF_putBytes_28 rfl (lv_at hl 0 rfl) ?_
  refine lv_ishr hx hb d_NF_putBytes_29 ?_
  refine lv_topi (fun x_11 e_12 => ?_)
  refine lv_i2b (v := x_11.toInt8.toInt32) hx hb d_NF_putBytes_30 rfl ?_
  refine lv_topi (fun x_14 e_15 => ?_)
  refine nz_bastE hx hb hK.1 hP hD hS 1 0 rfl rfl (nz_vin (by decide +kernel)) d_NF_putBytes_31 (fun H locs f_16 f_16_e hP hD hS => ?_)
  have hP : va_P D nz_cl [(o0, .inr (11, [.ref o1, .int 13, .ref o2, .ref o3, .ref o4, .ref o5, .ref o6, .ref o7, .ref o8, .ref o9, .ref o10])), (o1, .inl (cB, 1600, .inl f_16))] H := hP
  have hD : va_D A [(o0, .inr (11, [.ref o1, .int 13, .ref o2, .ref o3, .ref o4, .ref o5, .ref o6, .ref o7, .ref o8, .ref o9, .ref o10])), (o1, .inl (cB, 1600, .inl f_16))] := hD
  refine lv_aload_n hx hb d_NF_putBytes_32 rfl (lv_at hl 1 rfl) ?_
  refine lv_dup hx hb d_NF_putBytes_33 rfl ?_
  refine va_get (D := D) (ci := 11) (v := .int 13) (C := R_NF) (T := F_NF) (N := 11) hx hb hts i_NF hown hK.1 hP 0 rfl rfl 1 (by decide) (hts _ k_461) (fun _ h9 => h9) rfl d_NF_putBytes_34 ?_
  refine lv_iconst (v := 1) hx hb d_NF_putBytes_37 (by decide +kernel) ?_
  refine lv_iadd hx hb d_NF_putBytes_38 ?_
  refine nz_ctopi (v := 14) (by decide +kernel) ?_
  refine va_put (D := D) (ci := 11) (v := .int 14) (ty := .int) (C := R_NF) (T := F_NF) (N := 11) hx hb hts i_NF t_NF t_NF_ok n_NF hown hK.1 hP hD hS 0 rfl rfl 1 (by decide) (hts _ k_461) (fun _ h9 => h9) rfl (by decide +kernel) rfl rfl (Nat.le_of_ble_eq_true rfl) d_NF_putBytes_39 (fun H locs hP hD hS => ?_)
  have hP : va_P D nz_cl [(o0, .inr (11, [.ref o1, .int 14, .ref o2, .ref o3, .ref o4, .ref o5, .ref o6, .ref o7, .ref o8, .ref o9, .ref o10])), (o1, .inl (cB, 1600, .inl f_16))] H := hP
  have hD : va_D A [(o0, .inr (11, [.ref o1, .int 14, .ref o2, .ref o3, .ref o4, .ref o5, .ref o6, .ref o7, .ref o8, .ref o9, .ref o10])), (o1, .inl (cB, 1600, .inl f_16))] := hD
  refine lv_iinc (v := 8) (lv' := [(2, .int 8), (0, .ref o0), (1, .int p0)]) hx hb d_NF_putBytes_42 hl (k := 0) rfl (by decide +kernel) (by decide) rfl (fun ls hl => ?_)
  refine lv_goto (tgt := 3) hx hb d_NF_putBytes_45 (by decide) ?_
  refine lv_iload_n hx hb d_NF_putBytes_3 rfl (lv_at hl 0 rfl) ?_
  refine lv_if_lt (tgt := 48) hx hb d_NF_putBytes_4 (by decide) (fun c_17 => absurd c_17 (by decide +kernel)) (fun c_17 => ?_)
  refine lv_aload_n hx hb d_NF_putBytes_7 rfl (lv_at hl 1 rfl) ?_
  refine va_get (D := D) (ci := 11) (v := .int 14) (C := R_NF) (T := F_NF) (N := 11) hx hb hts i_NF hown hK.1 hP 0 rfl rfl 1 (by decide) (hts _ k_461) (fun _ h9 => h9) rfl d_NF_putBytes_8 ?_
  refine lv_aload_n hx hb d_NF_putBytes_11 rfl (lv_at hl 1 rfl) ?_
  refine va_get (D := D) (ci := 11) (v := .ref o1) (C := R_NF) (T := F_NF) (N := 11) hx hb hts i_NF hown hK.1 hP 0 rfl rfl 0 (by decide) (hts _ k_460) (fun _ h9 => h9) rfl d_NF_putBytes_12 ?_
  refine va_alen (v := 1600) hx hb hK.1 hP 1 0 rfl rfl rfl d_NF_putBytes_15 ?_
  refine lv_icmp_ge (tgt := 42) hx hb d_NF_putBytes_16 (by decide) (fun c_18 => absurd c_18 (by decide +kernel)) (fun c_18 => ?_)
  refine lv_aload_n hx hb d_NF_putBytes_19 rfl (lv_at hl 1 rfl) ?_
  refine va_get (D := D) (ci := 11) (v := .ref o1) (C := R_NF) (T := F_NF) (N := 11) hx hb hts i_NF hown hK.1 hP 0 rfl rfl 0 (by decide) (hts _ k_460) (fun _ h9 => h9) rfl d_NF_putBytes_20 ?_
  refine lv_aload_n hx hb d_NF_putBytes_23 rfl (lv_at hl 1 rfl) ?_
  refine va_get (D := D) (ci := 11) (v := .int 14) (C := R_NF) (T := F_NF) (N := 11) hx hb hts i_NF hown hK.1 hP 0 rfl rfl 1 (by decide) (hts _ k_461) (fun _ h9 => h9) rfl d_NF_putBytes_24 ?_
  refine lv_iload_n hx hb d_NF_putBytes_27 rfl (lv_at hl 2 rfl) ?_
  refine lv_iload_n hx hb d_NF_putBytes_28 rfl (lv_at hl 0 rfl) ?_
  refine lv_ishr hx hb d_NF_putBytes_29 ?_
  refine lv_topi (fun x_19 e_20 => ?_)
  refine lv_i2b (v := x_19.toInt8.toInt32) hx hb d_NF_putBytes_30 rfl ?_
  refine lv_topi (fun x_22 e_23 => ?_)
  refine nz_bastE hx hb hK.1 hP hD hS 1 0 rfl rfl (nz_vin (by decide +kernel)) d_NF_putBytes_31 (fun H locs f_24 f_24_e hP hD hS => ?_)
  have hP : va_P D nz_cl [(o0, .inr (11, [.ref o1, .int 14, .ref o2, .ref o3, .ref o4, .ref o5, .ref o6, .ref o7, .ref o8, .ref o9, .ref o10])), (o1, .inl (cB, 1600, .inl f_24))] H := hP
  have hD : va_D A [(o0, .inr (11, [.ref o1, .int 14, .ref o2, .ref o3, .ref o4, .ref o5, .ref o6, .ref o7, .ref o8, .ref o9, .ref o10])), (o1, .inl (cB, 1600, .inl f_24))] := hD
  refine lv_aload_n hx hb d_NF_putBytes_32 rfl (lv_at hl 1 rfl) ?_
  refine lv_dup hx hb d_NF_putBytes_33 rfl ?_
  refine va_get (D := D) (ci := 11) (v := .int 14) (C := R_NF) (T := F_NF) (N := 11) hx hb hts i_NF hown hK.1 hP 0 rfl rfl 1 (by decide) (hts _ k_461) (fun _ h9 => h9) rfl d_NF_putBytes_34 ?_
  refine lv_iconst (v := 1) hx hb d_NF_putBytes_37 (by decide +kernel) ?_
  refine lv_iadd hx hb d_NF_putBytes_38 ?_
  refine nz_ctopi (v := 15) (by decide +kernel) ?_
  refine va_put (D := D) (ci := 11) (v := .int 15) (ty := .int) (C := R_NF) (T := F_NF) (N := 11) hx hb hts i_NF t_NF t_NF_ok n_NF hown hK.1 hP hD hS 0 rfl rfl 1 (by decide) (hts _ k_461) (fun _ h9 => h9) rfl (by decide +kernel) rfl rfl (Nat.le_of_ble_eq_true rfl) d_NF_putBytes_39 (fun H locs hP hD hS => ?_)
  have hP : va_P D nz_cl [(o0, .inr (11, [.ref o1, .int 15, .ref o2, .ref o3, .ref o4, .ref o5, .ref o6, .ref o7, .ref o8, .ref o9, .ref o10])), (o1, .inl (cB, 1600, .inl f_24))] H := hP
  have hD : va_D A [(o0, .inr (11, [.ref o1, .int 15, .ref o2, .ref o3, .ref o4, .ref o5, .ref o6, .ref o7, .ref o8, .ref o9, .ref o10])), (o1, .inl (cB, 1600, .inl f_24))] := hD
  refine lv_iinc (v := 0) (lv' := [(2, .int 0), (0, .ref o0), (1, .int p0)]) hx hb d_NF_putBytes_42 hl (k := 0) rfl (by decide +kernel) (by decide) rfl (fun ls hl => ?_)
  refine lv_goto (tgt := 3) hx hb d_NF_putBytes_45 (by decide) ?_
  refine lv_iload_n hx hb d_NF_putBytes_3 rfl (lv_at hl 0 rfl) ?_
  refine lv_if_lt (tgt := 48) hx hb d_NF_putBytes_4 (by decide) (fun c_25 => absurd c_25 (by decide +kernel)) (fun c_25 => ?_)
  refine lv_aload_n hx hb d_NF_putBytes_7 rfl (lv_at hl 1 rfl) ?_
  refine va_get (D := D) (ci := 11) (v := .int 15) (C := R_NF) (T := F_NF) (N := 11) hx hb hts i_NF hown hK.1 hP 0 rfl rfl 1 (by decide) (hts _ k_461) (fun _ h9 => h9) rfl d_NF_putBytes_8 ?_
  refine lv_aload_n hx hb d_NF_putBytes_11 rfl (lv_at hl 1 rfl) ?_
  refine va_get (D := D) (ci := 11) (v := .ref o1) (C := R_NF) (T := F_NF) (N := 11) hx hb hts i_NF hown hK.1 hP 0 rfl rfl 0 (by decide) (hts _ k_460) (fun _ h9 => h9) rfl d_NF_putBytes_12 ?_
  refine va_alen (v := 1600) hx hb hK.1 hP 1 0 rfl rfl rfl d_NF_putBytes_15 ?_
  refine lv_icmp_ge (tgt := 42) hx hb d_NF_putBytes_16 (by decide) (fun c_26 => absurd c_26 (by decide +kernel)) (fun c_26 => ?_)
  refine lv_aload_n hx hb d_NF_putBytes_19 rfl (lv_at hl 1 rfl) ?_
  refine va_get (D := D) (ci := 11) (v := .ref o1) (C := R_NF) (T := F_NF) (N := 11) hx hb hts i_NF hown hK.1 hP 0 rfl rfl 0 (by decide) (hts _ k_460) (fun _ h9 => h9) rfl d_NF_putBytes_20 ?_
  refine lv_aload_n hx hb d_NF_putBytes_23 rfl (lv_at hl 1 rfl) ?_
  refine va_get (D := D) (ci := 11) (v := .int 15) (C := R_NF) (T := F_NF) (N := 11) hx hb hts i_NF hown hK.1 hP 0 rfl rfl 1 (by decide) (hts _ k_461) (fun _ h9 => h9) rfl d_NF_putBytes_24 ?_
  refine lv_iload_n hx hb d_NF_putBytes_27 rfl (lv_at hl 2 rfl) ?_
  refine lv_iload_n hx hb d_NF_putBytes_28 rfl (lv_at hl 0 rfl) ?_
  refine lv_ishr hx hb d_NF_putBytes_29 ?_
  refine lv_topi (fun x_27 e_28 => ?_)
  refine lv_i2b (v := x_27.toInt8.toInt32) hx hb d_NF_putBytes_30 rfl ?_
  refine lv_topi (fun x_30 e_31 => ?_)
  refine nz_bastE hx hb hK.1 hP hD hS 1 0 rfl rfl (nz_vin (by decide +kernel)) d_NF_putBytes_31 (fun H locs f_32 f_32_e hP hD hS => ?_)
  have hP : va_P D nz_cl [(o0, .inr (11, [.ref o1, .int 15, .ref o2, .ref o3, .ref o4, .ref o5, .ref o6, .ref o7, .ref o8, .ref o9, .ref o10])), (o1, .inl (cB, 1600, .inl f_32))] H := hP
  have hD : va_D A [(o0, .inr (11, [.ref o1, .int 15, .ref o2, .ref o3, .ref o4, .ref o5, .ref o6, .ref o7, .ref o8, .ref o9, .ref o10])), (o1, .inl (cB, 1600, .inl f_32))] := hD
  refine lv_aload_n hx hb d_NF_putBytes_32 rfl (lv_at hl 1 rfl) ?_
  refine lv_dup hx hb d_NF_putBytes_33 rfl ?_
  refine va_get (D := D) (ci := 11) (v := .int 15) (C := R_NF) (T := F_NF) (N := 11) hx hb hts i_NF hown hK.1 hP 0 rfl rfl 1 (by decide) (hts _ k_461) (fun _ h9 => h9) rfl d_NF_putBytes_34 ?_
  refine lv_iconst (v := 1) hx hb d_NF_putBytes_37 (by decide +kernel) ?_
  refine lv_iadd hx hb d_NF_putBytes_38 ?_
  refine nz_ctopi (v := 16) (by decide +kernel) ?_
  refine va_put (D := D) (ci := 11) (v := .int 16) (ty := .int) (C := R_NF) (T := F_NF) (N := 11) hx hb hts i_NF t_NF t_NF_ok n_NF hown hK.1 hP hD hS 0 rfl rfl 1 (by decide) (hts _ k_461) (fun _ h9 => h9) rfl (by decide +kernel) rfl rfl (Nat.le_of_ble_eq_true rfl) d_NF_putBytes_39 (fun H locs hP hD hS => ?_)
  have hP : va_P D nz_cl [(o0, .inr (11, [.ref o1, .int 16, .ref o2, .ref o3, .ref o4, .ref o5, .ref o6, .ref o7, .ref o8, .ref o9, .ref o10])), (o1, .inl (cB, 1600, .inl f_32))] H := hP
  have hD : va_D A [(o0, .inr (11, [.ref o1, .int 16, .ref o2, .ref o3, .ref o4, .ref o5, .ref o6, .ref o7, .ref o8, .ref o9, .ref o10])), (o1, .inl (cB, 1600, .inl f_32))] := hD
  refine lv_iinc (v := (-8)) (lv' := [(2, .int (-8)), (0, .ref o0), (1, .int p0)]) hx hb d_NF_putBytes_42 hl (k := 0) rfl (by decide +kernel) (by decide) rfl (fun ls hl => ?_)
  refine lv_goto (tgt := 3) hx hb d_NF_putBytes_45 (by decide) ?_
  refine lv_iload_n hx hb d_NF_putBytes_3 rfl (lv_at hl 0 rfl) ?_
  refine lv_if_lt (tgt := 48) hx hb d_NF_putBytes_4 (by decide) (fun c_33 => ?_) (fun c_33 => absurd (by decide +kernel) c_33)
  exact nz_retv C0 (hP.sub (ws' := [(o0, .inr (11, [.ref o1, .int 16, .ref o2, .ref o3, .ref o4, .ref o5, .ref o6, .ref o7, .ref o8, .ref o9, .ref o10])), (o1, .inl (cB, 1600, .inl f_32))]) [0, 1] rfl) (hD.sub (ws' := [(o0, .inr (11, [.ref o1, .int 16, .ref o2, .ref o3, .ref o4, .ref o5, .ref o6, .ref o7, .ref o8, .ref o9, .ref o10])), (o1, .inl (cB, 1600, .inl f_32))]) [0, 1] (by decide) rfl) hS ⟨(f_32), rfl⟩ d_NF_putBytes_48
set_option maxHeartbeats 4000000 in
set_option maxRecDepth 100000 in
theorem c_NF_putBytes_16 (l : Launch) (D : va_G) (cB cI cJ : ClassId) (o0 : Nat) (p0 : Int32) (o1 : Nat) (o2 : Nat) (o3 : Nat) (o4 : Nat) (o5 : Nat) (o6 : Nat) (o7 : Nat) (o8 : Nat) (o9 : Nat) (o10 : Nat) (ft : Nat → Int32) : nz_Cv l D cB cI cJ nz_x0 y_NF_putBytes b_NF_putBytes 3 none { frames := 0, cells := 0, slots := 0, locals := 0 } [.ref o0, .int p0] [(o0, .inr (11, [.ref o1, .int 16, .ref o2, .ref o3, .ref o4, .ref o5, .ref o6, .ref o7, .ref o8, .ref o9, .ref o10])), (o1, .inl (cB, 1600, .inl ft))] (fun w => ∃ (zf : Nat → Int32), w = [(o0, .inr (11, [.ref o1, .int 20, .ref o2, .ref o3, .ref o4, .ref o5, .ref o6, .ref o7, .ref o8, .ref o9, .ref o10])), (o1, .inl (cB, 1600, .inl zf))]) := by
  refine nz_Cv.mk (by decide) (Nat.le_of_ble_eq_true rfl) ?_
  intro p e s m below meth c A ls C0 hnm hP hD hS hA hX hl
  have C0 : nz_Cx p s m _ meth c b_NF_putBytes 3 none R_NF D cB cI cJ := C0
  obtain ⟨hx, hb, hr, hml, hown, hts, hlk, hK⟩ := id C0
  have hl : lv_has ls 3 [(0, .ref o0), (1, .int p0)] := hl
  refine lv_bipush (v := 24) hx hb d_NF_putBytes_0 (by decide +kernel) ?_
  refine lv_istore_n (lv' := [(2, .int 24), (0, .ref o0), (1, .int p0)]) hx hb d_NF_putBytes_2 rfl hl (by decide) rfl (fun ls hl => ?_)
  refine lv_iload_n hx hb d_NF_putBytes_3 rfl (lv_at hl 0 rfl) ?_
  refine lv_if_lt (tgt := 48) hx hb d_NF_putBytes_4 (by decide) (fun c_1 => absurd c_1 (by decide +kernel)) (fun c_1 => ?_)
  refine lv_aload_n hx hb d_NF_putBytes_7 rfl (lv_at hl 1 rfl) ?_
  refine va_get (D := D) (ci := 11) (v := .int 16) (C := R_NF) (T := F_NF) (N := 11) hx hb hts i_NF hown hK.1 hP 0 rfl rfl 1 (by decide) (hts _ k_461) (fun _ h9 => h9) rfl d_NF_putBytes_8 ?_
  refine lv_aload_n hx hb d_NF_putBytes_11 rfl (lv_at hl 1 rfl) ?_
  refine va_get (D := D) (ci := 11) (v := .ref o1) (C := R_NF) (T := F_NF) (N := 11) hx hb hts i_NF hown hK.1 hP 0 rfl rfl 0 (by decide) (hts _ k_460) (fun _ h9 => h9) rfl d_NF_putBytes_12 ?_
  refine va_alen (v := 1600) hx hb hK.1 hP 1 0 rfl rfl rfl d_NF_putBytes_15 ?_
  refine lv_icmp_ge (tgt := 42) hx hb d_NF_putBytes_16 (by decide) (fun c_2 => absurd c_2 (by decide +kernel)) (fun c_2 => ?_)
  refine lv_aload_n hx hb d_NF_putBytes_19 rfl (lv_at hl 1 rfl) ?_
  refine va_get (D := D) (ci := 11) (v := .ref o1) (C := R_NF) (T := F_NF) (N := 11) hx hb hts i_NF hown hK.1 hP 0 rfl rfl 0 (by decide) (hts _ k_460) (fun _ h9 => h9) rfl d_NF_putBytes_20 ?_
  refine lv_aload_n hx hb d_NF_putBytes_23 rfl (lv_at hl 1 rfl) ?_
  refine va_get (D := D) (ci := 11) (v := .int 16) (C := R_NF) (T := F_NF) (N := 11) hx hb hts i_NF hown hK.1 hP 0 rfl rfl 1 (by decide) (hts _ k_461) (fun _ h9 => h9) rfl d_NF_putBytes_24 ?_
  refine lv_iload_n hx hb d_NF_putBytes_27 rfl (lv_at hl 2 rfl) ?_
  refine lv_iload_n hx hb d_NF_putBytes_28 rfl (lv_at hl 0 rfl) ?_
  refine lv_ishr hx hb d_NF_putBytes_29 ?_
  refine lv_topi (fun x_3 e_4 => ?_)
  refine lv_i2b (v := x_3.toInt8.toInt32) hx hb d_NF_putBytes_30 rfl ?_
  refine lv_topi (fun x_6 e_7 => ?_)
  refine nz_bastE hx hb hK.1 hP hD hS 1 0 rfl rfl (nz_vin (by decide +kernel)) d_NF_putBytes_31 (fun H locs f_8 f_8_e hP hD hS => ?_)
  have hP : va_P D nz_cl [(o0, .inr (11, [.ref o1, .int 16, .ref o2, .ref o3, .ref o4, .ref o5, .ref o6, .ref o7, .ref o8, .ref o9, .ref o10])), (o1, .inl (cB, 1600, .inl f_8))] H := hP
  have hD : va_D A [(o0, .inr (11, [.ref o1, .int 16, .ref o2, .ref o3, .ref o4, .ref o5, .ref o6, .ref o7, .ref o8, .ref o9, .ref o10])), (o1, .inl (cB, 1600, .inl f_8))] := hD
  refine lv_aload_n hx hb d_NF_putBytes_32 rfl (lv_at hl 1 rfl) ?_
  refine lv_dup hx hb d_NF_putBytes_33 rfl ?_
  refine va_get (D := D) (ci := 11) (v := .int 16) (C := R_NF) (T := F_NF) (N := 11) hx hb hts i_NF hown hK.1 hP 0 rfl rfl 1 (by decide) (hts _ k_461) (fun _ h9 => h9) rfl d_NF_putBytes_34 ?_
  refine lv_iconst (v := 1) hx hb d_NF_putBytes_37 (by decide +kernel) ?_
  refine lv_iadd hx hb d_NF_putBytes_38 ?_
  refine nz_ctopi (v := 17) (by decide +kernel) ?_
  refine va_put (D := D) (ci := 11) (v := .int 17) (ty := .int) (C := R_NF) (T := F_NF) (N := 11) hx hb hts i_NF t_NF t_NF_ok n_NF hown hK.1 hP hD hS 0 rfl rfl 1 (by decide) (hts _ k_461) (fun _ h9 => h9) rfl (by decide +kernel) rfl rfl (Nat.le_of_ble_eq_true rfl) d_NF_putBytes_39 (fun H locs hP hD hS => ?_)
  have hP : va_P D nz_cl [(o0, .inr (11, [.ref o1, .int 17, .ref o2, .ref o3, .ref o4, .ref o5, .ref o6, .ref o7, .ref o8, .ref o9, .ref o10])), (o1, .inl (cB, 1600, .inl f_8))] H := hP
  have hD : va_D A [(o0, .inr (11, [.ref o1, .int 17, .ref o2, .ref o3, .ref o4, .ref o5, .ref o6, .ref o7, .ref o8, .ref o9, .ref o10])), (o1, .inl (cB, 1600, .inl f_8))] := hD
  refine lv_iinc (v := 16) (lv' := [(2, .int 16), (0, .ref o0), (1, .int p0)]) hx hb d_NF_putBytes_42 hl (k := 0) rfl (by decide +kernel) (by decide) rfl (fun ls hl => ?_)
  refine lv_goto (tgt := 3) hx hb d_NF_putBytes_45 (by decide) ?_
  refine lv_iload_n hx hb d_NF_putBytes_3 rfl (lv_at hl 0 rfl) ?_
  refine lv_if_lt (tgt := 48) hx hb d_NF_putBytes_4 (by decide) (fun c_9 => absurd c_9 (by decide +kernel)) (fun c_9 => ?_)
  refine lv_aload_n hx hb d_NF_putBytes_7 rfl (lv_at hl 1 rfl) ?_
  refine va_get (D := D) (ci := 11) (v := .int 17) (C := R_NF) (T := F_NF) (N := 11) hx hb hts i_NF hown hK.1 hP 0 rfl rfl 1 (by decide) (hts _ k_461) (fun _ h9 => h9) rfl d_NF_putBytes_8 ?_
  refine lv_aload_n hx hb d_NF_putBytes_11 rfl (lv_at hl 1 rfl) ?_
  refine va_get (D := D) (ci := 11) (v := .ref o1) (C := R_NF) (T := F_NF) (N := 11) hx hb hts i_NF hown hK.1 hP 0 rfl rfl 0 (by decide) (hts _ k_460) (fun _ h9 => h9) rfl d_NF_putBytes_12 ?_
  refine va_alen (v := 1600) hx hb hK.1 hP 1 0 rfl rfl rfl d_NF_putBytes_15 ?_
  refine lv_icmp_ge (tgt := 42) hx hb d_NF_putBytes_16 (by decide) (fun c_10 => absurd c_10 (by decide +kernel)) (fun c_10 => ?_)
  refine lv_aload_n hx hb d_NF_putBytes_19 rfl (lv_at hl 1 rfl) ?_
  refine va_get (D := D) (ci := 11) (v := .ref o1) (C := R_NF) (T := F_NF) (N := 11) hx hb hts i_NF hown hK.1 hP 0 rfl rfl 0 (by decide) (hts _ k_460) (fun _ h9 => h9) rfl d_NF_putBytes_20 ?_
  refine lv_aload_n hx hb d_NF_putBytes_23 rfl (lv_at hl 1 rfl) ?_
  refine va_get (D := D) (ci := 11) (v := .int 17) (C := R_NF) (T := F_NF) (N := 11) hx hb hts i_NF hown hK.1 hP 0 rfl rfl 1 (by decide) (hts _ k_461) (fun _ h9 => h9) rfl d_NF_putBytes_24 ?_
  refine lv_iload_n hx hb d_NF_putBytes_27 rfl (lv_at hl 2 rfl) ?_
  refine lv_iload_n hx hb d_NF_putBytes_28 rfl (lv_at hl 0 rfl) ?_
  refine lv_ishr hx hb d_NF_putBytes_29 ?_
  refine lv_topi (fun x_11 e_12 => ?_)
  refine lv_i2b (v := x_11.toInt8.toInt32) hx hb d_NF_putBytes_30 rfl ?_
  refine lv_topi (fun x_14 e_15 => ?_)
  refine nz_bastE hx hb hK.1 hP hD hS 1 0 rfl rfl (nz_vin (by decide +kernel)) d_NF_putBytes_31 (fun H locs f_16 f_16_e hP hD hS => ?_)
  have hP : va_P D nz_cl [(o0, .inr (11, [.ref o1, .int 17, .ref o2, .ref o3, .ref o4, .ref o5, .ref o6, .ref o7, .ref o8, .ref o9, .ref o10])), (o1, .inl (cB, 1600, .inl f_16))] H := hP
  have hD : va_D A [(o0, .inr (11, [.ref o1, .int 17, .ref o2, .ref o3, .ref o4, .ref o5, .ref o6, .ref o7, .ref o8, .ref o9, .ref o10])), (o1, .inl (cB, 1600, .inl f_16))] := hD
  refine lv_aload_n hx hb d_NF_putBytes_32 rfl (lv_at hl 1 rfl) ?_
  refine lv_dup hx hb d_NF_putBytes_33 rfl ?_
  refine va_get (D := D) (ci := 11) (v := .int 17) (C := R_NF) (T := F_NF) (N := 11) hx hb hts i_NF hown hK.1 hP 0 rfl rfl 1 (by decide) (hts _ k_461) (fun _ h9 => h9) rfl d_NF_putBytes_34 ?_
  refine lv_iconst (v := 1) hx hb d_NF_putBytes_37 (by decide +kernel) ?_
  refine lv_iadd hx hb d_NF_putBytes_38 ?_
  refine nz_ctopi (v := 18) (by decide +kernel) ?_
  refine va_put (D := D) (ci := 11) (v := .int 18) (ty := .int) (C := R_NF) (T := F_NF) (N := 11) hx hb hts i_NF t_NF t_NF_ok n_NF hown hK.1 hP hD hS 0 rfl rfl 1 (by decide) (hts _ k_461) (fun _ h9 => h9) rfl (by decide +kernel) rfl rfl (Nat.le_of_ble_eq_true rfl) d_NF_putBytes_39 (fun H locs hP hD hS => ?_)
  have hP : va_P D nz_cl [(o0, .inr (11, [.ref o1, .int 18, .ref o2, .ref o3, .ref o4, .ref o5, .ref o6, .ref o7, .ref o8, .ref o9, .ref o10])), (o1, .inl (cB, 1600, .inl f_16))] H := hP
  have hD : va_D A [(o0, .inr (11, [.ref o1, .int 18, .ref o2, .ref o3, .ref o4, .ref o5, .ref o6, .ref o7, .ref o8, .ref o9, .ref o10])), (o1, .inl (cB, 1600, .inl f_16))] := hD
  refine lv_iinc (v := 8) (lv' := [(2, .int 8), (0, .ref o0), (1, .int p0)]) hx hb d_NF_putBytes_42 hl (k := 0) rfl (by decide +kernel) (by decide) rfl (fun ls hl => ?_)
  refine lv_goto (tgt := 3) hx hb d_NF_putBytes_45 (by decide) ?_
  refine lv_iload_n hx hb d_NF_putBytes_3 rfl (lv_at hl 0 rfl) ?_
  refine lv_if_lt (tgt := 48) hx hb d_NF_putBytes_4 (by decide) (fun c_17 => absurd c_17 (by decide +kernel)) (fun c_17 => ?_)
  refine lv_aload_n hx hb d_NF_putBytes_7 rfl (lv_at hl 1 rfl) ?_
  refine va_get (D := D) (ci := 11) (v := .int 18) (C := R_NF) (T := F_NF) (N := 11) hx hb hts i_NF hown hK.1 hP 0 rfl rfl 1 (by decide) (hts _ k_461) (fun _ h9 => h9) rfl d_NF_putBytes_8 ?_
  refine lv_aload_n hx hb d_NF_putBytes_11 rfl (lv_at hl 1 rfl) ?_
  refine va_get (D := D) (ci := 11) (v := .ref o1) (C := R_NF) (T := F_NF) (N := 11) hx hb hts i_NF hown hK.1 hP 0 rfl rfl 0 (by decide) (hts _ k_460) (fun _ h9 => h9) rfl d_NF_putBytes_12 ?_
  refine va_alen (v := 1600) hx hb hK.1 hP 1 0 rfl rfl rfl d_NF_putBytes_15 ?_
  refine lv_icmp_ge (tgt := 42) hx hb d_NF_putBytes_16 (by decide) (fun c_18 => absurd c_18 (by decide +kernel)) (fun c_18 => ?_)
  refine lv_aload_n hx hb d_NF_putBytes_19 rfl (lv_at hl 1 rfl) ?_
  refine va_get (D := D) (ci := 11) (v := .ref o1) (C := R_NF) (T := F_NF) (N := 11) hx hb hts i_NF hown hK.1 hP 0 rfl rfl 0 (by decide) (hts _ k_460) (fun _ h9 => h9) rfl d_NF_putBytes_20 ?_
  refine lv_aload_n hx hb d_NF_putBytes_23 rfl (lv_at hl 1 rfl) ?_
  refine va_get (D := D) (ci := 11) (v := .int 18) (C := R_NF) (T := F_NF) (N := 11) hx hb hts i_NF hown hK.1 hP 0 rfl rfl 1 (by decide) (hts _ k_461) (fun _ h9 => h9) rfl d_NF_putBytes_24 ?_
  refine lv_iload_n hx hb d_NF_putBytes_27 rfl (lv_at hl 2 rfl) ?_
  refine lv_iload_n hx hb d_NF_putBytes_28 rfl (lv_at hl 0 rfl) ?_
  refine lv_ishr hx hb d_NF_putBytes_29 ?_
  refine lv_topi (fun x_19 e_20 => ?_)
  refine lv_i2b (v := x_19.toInt8.toInt32) hx hb d_NF_putBytes_30 rfl ?_
  refine lv_topi (fun x_22 e_23 => ?_)
  refine nz_bastE hx hb hK.1 hP hD hS 1 0 rfl rfl (nz_vin (by decide +kernel)) d_NF_putBytes_31 (fun H locs f_24 f_24_e hP hD hS => ?_)
  have hP : va_P D nz_cl [(o0, .inr (11, [.ref o1, .int 18, .ref o2, .ref o3, .ref o4, .ref o5, .ref o6, .ref o7, .ref o8, .ref o9, .ref o10])), (o1, .inl (cB, 1600, .inl f_24))] H := hP
  have hD : va_D A [(o0, .inr (11, [.ref o1, .int 18, .ref o2, .ref o3, .ref o4, .ref o5, .ref o6, .ref o7, .ref o8, .ref o9, .ref o10])), (o1, .inl (cB, 1600, .inl f_24))] := hD
  refine lv_aload_n hx hb d_NF_putBytes_32 rfl (lv_at hl 1 rfl) ?_
  refine lv_dup hx hb d_NF_putBytes_33 rfl ?_
  refine va_get (D := D) (ci := 11) (v := .int 18) (C := R_NF) (T := F_NF) (N := 11) hx hb hts i_NF hown hK.1 hP 0 rfl rfl 1 (by decide) (hts _ k_461) (fun _ h9 => h9) rfl d_NF_putBytes_34 ?_
  refine lv_iconst (v := 1) hx hb d_NF_putBytes_37 (by decide +kernel) ?_
  refine lv_iadd hx hb d_NF_putBytes_38 ?_
  refine nz_ctopi (v := 19) (by decide +kernel) ?_
  refine va_put (D := D) (ci := 11) (v := .int 19) (ty := .int) (C := R_NF) (T := F_NF) (N := 11) hx hb hts i_NF t_NF t_NF_ok n_NF hown hK.1 hP hD hS 0 rfl rfl 1 (by decide) (hts _ k_461) (fun _ h9 => h9) rfl (by decide +kernel) rfl rfl (Nat.le_of_ble_eq_true rfl) d_NF_putBytes_39 (fun H locs hP hD hS => ?_)
  have hP : va_P D nz_cl [(o0, .inr (11, [.ref o1, .int 19, .ref o2, .ref o3, .ref o4, .ref o5, .ref o6, .ref o7, .ref o8, .ref o9, .ref o10])), (o1, .inl (cB, 1600, .inl f_24))] H := hP
  have hD : va_D A [(o0, .inr (11, [.ref o1, .int 19, .ref o2, .ref o3, .ref o4, .ref o5, .ref o6, .ref o7, .ref o8, .ref o9, .ref o10])), (o1, .inl (cB, 1600, .inl f_24))] := hD
  refine lv_iinc (v := 0) (lv' := [(2, .int 0), (0, .ref o0), (1, .int p0)]) hx hb d_NF_putBytes_42 hl (k := 0) rfl (by decide +kernel) (by decide) rfl (fun ls hl => ?_)
  refine lv_goto (tgt := 3) hx hb d_NF_putBytes_45 (by decide) ?_
  refine lv_iload_n hx hb d_NF_putBytes_3 rfl (lv_at hl 0 rfl) ?_
  refine lv_if_lt (tgt := 48) hx hb d_NF_putBytes_4 (by decide) (fun c_25 => absurd c_25 (by decide +kernel)) (fun c_25 => ?_)
  refine lv_aload_n hx hb d_NF_putBytes_7 rfl (lv_at hl 1 rfl) ?_
  refine va_get (D := D) (ci := 11) (v := .int 19) (C := R_NF) (T := F_NF) (N := 11) hx hb hts i_NF hown hK.1 hP 0 rfl rfl 1 (by decide) (hts _ k_461) (fun _ h9 => h9) rfl d_NF_putBytes_8 ?_
  refine lv_aload_n hx hb d_NF_putBytes_11 rfl (lv_at hl 1 rfl) ?_
  refine va_get (D := D) (ci := 11) (v := .ref o1) (C := R_NF) (T := F_NF) (N := 11) hx hb hts i_NF hown hK.1 hP 0 rfl rfl 0 (by decide) (hts _ k_460) (fun _ h9 => h9) rfl d_NF_putBytes_12 ?_
  refine va_alen (v := 1600) hx hb hK.1 hP 1 0 rfl rfl rfl d_NF_putBytes_15 ?_
  refine lv_icmp_ge (tgt := 42) hx hb d_NF_putBytes_16 (by decide) (fun c_26 => absurd c_26 (by decide +kernel)) (fun c_26 => ?_)
  refine lv_aload_n hx hb d_NF_putBytes_19 rfl (lv_at hl 1 rfl) ?_
  refine va_get (D := D) (ci := 11) (v := .ref o1) (C := R_NF) (T := F_NF) (N := 11) hx hb hts i_NF hown hK.1 hP 0 rfl rfl 0 (by decide) (hts _ k_460) (fun _ h9 => h9) rfl d_NF_putBytes_20 ?_
  refine lv_aload_n hx hb d_NF_putBytes_23 rfl (lv_at hl 1 rfl) ?_
  refine va_get (D := D) (ci := 11) (v := .int 19) (C := R_NF) (T := F_NF) (N := 11) hx hb hts i_NF hown hK.1 hP 0 rfl rfl 1 (by decide) (hts _ k_461) (fun _ h9 => h9) rfl d_NF_putBytes_24 ?_
  refine lv_iload_n hx hb d_NF_putBytes_27 rfl (lv_at hl 2 rfl) ?_
  refine lv_iload_n hx hb d_NF_putBytes_28 rfl (lv_at hl 0 rfl) ?_
  refine lv_ishr hx hb d_NF_putBytes_29 ?_
  refine lv_topi (fun x_27 e_28 => ?_)
  refine lv_i2b (v := x_27.toInt8.toInt32) hx hb d_NF_putBytes_30 rfl ?_
  refine lv_topi (fun x_30 e_31 => ?_)
  refine nz_bastE hx hb hK.1 hP hD hS 1 0 rfl rfl (nz_vin (by decide +kernel)) d_NF_putBytes_31 (fun H locs f_32 f_32_e hP hD hS => ?_)
  have hP : va_P D nz_cl [(o0, .inr (11, [.ref o1, .int 19, .ref o2, .ref o3, .ref o4, .ref o5, .ref o6, .ref o7, .ref o8, .ref o9, .ref o10])), (o1, .inl (cB, 1600, .inl f_32))] H := hP
  have hD : va_D A [(o0, .inr (11, [.ref o1, .int 19, .ref o2, .ref o3, .ref o4, .ref o5, .ref o6, .ref o7, .ref o8, .ref o9, .ref o10])), (o1, .inl (cB, 1600, .inl f_32))] := hD
  refine lv_aload_n hx hb d_NF_putBytes_32 rfl (lv_at hl 1 rfl) ?_
  refine lv_dup hx hb d_NF_putBytes_33 rfl ?_
  refine va_get (D := D) (ci := 11) (v := .int 19) (C := R_NF) (T := F_NF) (N := 11) hx hb hts i_NF hown hK.1 hP 0 rfl rfl 1 (by decide) (hts _ k_461) (fun _ h9 => h9) rfl d_NF_putBytes_34 ?_
  refine lv_iconst (v := 1) hx hb d_NF_putBytes_37 (by decide +kernel) ?_
  refine lv_iadd hx hb d_NF_putBytes_38 ?_
  refine nz_ctopi (v := 20) (by decide +kernel) ?_
  refine va_put (D := D) (ci := 11) (v := .int 20) (ty := .int) (C := R_NF) (T := F_NF) (N := 11) hx hb hts i_NF t_NF t_NF_ok n_NF hown hK.1 hP hD hS 0 rfl rfl 1 (by decide) (hts _ k_461) (fun _ h9 => h9) rfl (by decide +kernel) rfl rfl (Nat.le_of_ble_eq_true rfl) d_NF_putBytes_39 (fun H locs hP hD hS => ?_)
  have hP : va_P D nz_cl [(o0, .inr (11, [.ref o1, .int 20, .ref o2, .ref o3, .ref o4, .ref o5, .ref o6, .ref o7, .ref o8, .ref o9, .ref o10])), (o1, .inl (cB, 1600, .inl f_32))] H := hP
  have hD : va_D A [(o0, .inr (11, [.ref o1, .int 20, .ref o2, .ref o3, .ref o4, .ref o5, .ref o6, .ref o7, .ref o8, .ref o9, .ref o10])), (o1, .inl (cB, 1600, .inl f_32))] := hD
  refine lv_iinc (v := (-8)) (lv' := [(2, .int (-8)), (0, .ref o0), (1, .int p0)]) hx hb d_NF_putBytes_42 hl (k := 0) rfl (by decide +kernel) (by decide) rfl (fun ls hl => ?_)
  refine lv_goto (tgt := 3) hx hb d_NF_putBytes_45 (by decide) ?_
  refine lv_iload_n hx hb d_NF_putBytes_3 rfl (lv_at hl 0 rfl) ?_
  refine lv_if_lt (tgt := 48) hx hb d_NF_putBytes_4 (by decide) (fun c_33 => ?_) (fun c_33 => absurd (by decide +kernel) c_33)
  exact nz_retv C0 (hP.sub (ws' := [(o0, .inr (11, [.ref o1, .int 20, .ref o2, .ref o3, .ref o4, .ref o5, .ref o6, .ref o7, .ref o8, .ref o9, .ref o10])), (o1, .inl (cB, 1600, .inl f_32))]) [0, 1] rfl) (hD.sub (ws' := [(o0, .inr (11, [.ref o1, .int 20, .ref o2, .ref o3, .ref o4, .ref o5, .ref o6, .ref o7, .ref o8, .ref o9, .ref o10])), (o1, .inl (cB, 1600, .inl f_32))]) [0, 1] (by decide) rfl) hS ⟨(f_32), rfl⟩ d_NF_putBytes_48
set_option maxHeartbeats 4000000 in
set_option maxRecDepth 100000 in
theorem c_NF_feed (l : Launch) (D : va_G) (cB cI cJ : ClassId) (o0 : Nat) (p0 : Int32) (p1 : Int32) (p2 : Int32) (p3 : Int32) (p4 : Int32) (o1 : Nat) (o2 : Nat) (o3 : Nat) (o4 : Nat) (o5 : Nat) (o6 : Nat) (o7 : Nat) (o8 : Nat) (o9 : Nat) (o10 : Nat) (ft : Nat → Int32) : nz_Ci l D cB cI cJ nz_x0 y_NF_feed b_NF_feed 6 (some .int) { frames := 1, cells := 0, slots := 0, locals := 22 } [.ref o0, .int p0, .int p1, .int p2, .int p3, .int p4] [(o0, .inr (11, [.ref o1, .int 0, .ref o2, .ref o3, .ref o4, .ref o5, .ref o6, .ref o7, .ref o8, .ref o9, .ref o10])), (o1, .inl (cB, 1600, .inl ft))] (fun r w => ∃ (zf : Nat → Int32), r = 20 ∧ w = [(o0, .inr (11, [.ref o1, .int 20, .ref o2, .ref o3, .ref o4, .ref o5, .ref o6, .ref o7, .ref o8, .ref o9, .ref o10])), (o1, .inl (cB, 1600, .inl zf))]) := by
  refine nz_Ci.mk (by decide) (Nat.le_of_ble_eq_true rfl) ?_
  intro p e s m below meth c A ls C0 hnm hP hD hS hA hX hl
  have C0 : nz_Cx p s m _ meth c b_NF_feed 6 (some .int) R_NF D cB cI cJ := C0
  obtain ⟨hx, hb, hr, hml, hown, hts, hlk, hK⟩ := id C0
  have hl : lv_has ls 6 [(0, .ref o0), (1, .int p0), (2, .int p1), (3, .int p2), (4, .int p3), (5, .int p4)] := hl
  refine lv_aload_n hx hb d_NF_feed_0 rfl (lv_at hl 0 rfl) ?_
  refine va_get (D := D) (ci := 11) (v := .int 0) (C := R_NF) (T := F_NF) (N := 11) hx hb hts i_NF hown hK.1 hP 0 rfl rfl 1 (by decide) (hts _ k_461) (fun _ h9 => h9) rfl d_NF_feed_1 ?_
  refine lv_bipush (v := 20) hx hb d_NF_feed_4 (by decide +kernel) ?_
  refine lv_iadd hx hb d_NF_feed_6 ?_
  refine nz_ctopi (v := 20) (by decide +kernel) ?_
  refine lv_sipush (v := 1600) hx hb d_NF_feed_7 (by decide +kernel) ?_
  refine lv_icmp_le (tgt := 15) hx hb d_NF_feed_10 (by decide) (fun c_1 => ?_) (fun c_1 => absurd (by decide +kernel) c_1)
  refine lv_aload_n hx hb d_NF_feed_15 rfl (lv_at hl 0 rfl) ?_
  refine lv_iload_n hx hb d_NF_feed_16 rfl (lv_at hl 1 rfl) ?_
  refine nz_calVv (As := [.int p0]) (rest := []) C0 (c_NF_putBytes_0 l D cB cI cJ o0 p0 o1 o2 o3 o4 o5 o6 o7 o8 o9 o10 ft) g_NF_80 rfl nz_xb0 (by decide) hl.1 hP hD hS hA [0, 1] [] rfl (wr := []) rfl (by decide) (by decide) (by decide) rfl rfl (fun _ _ _ => trivial) rfl (Nat.le_of_ble_eq_true rfl) d_NF_feed_17 (by decide) (fun u H locs h_3 hP hD hS => ?_)
  obtain ⟨z_2, rfl⟩ := h_3
  have hP : va_P D nz_cl [(o0, .inr (11, [.ref o1, .int 4, .ref o2, .ref o3, .ref o4, .ref o5, .ref o6, .ref o7, .ref o8, .ref o9, .ref o10])), (o1, .inl (cB, 1600, .inl z_2))] H := hP
  have hD : va_D A [(o0, .inr (11, [.ref o1, .int 4, .ref o2, .ref o3, .ref o4, .ref o5, .ref o6, .ref o7, .ref o8, .ref o9, .ref o10])), (o1, .inl (cB, 1600, .inl z_2))] := hD
  refine lv_aload_n hx hb d_NF_feed_20 rfl (lv_at hl 0 rfl) ?_
  refine lv_iload_n hx hb d_NF_feed_21 rfl (lv_at hl 2 rfl) ?_
  refine nz_calVv (As := [.int p1]) (rest := []) C0 (c_NF_putBytes_4 l D cB cI cJ o0 p1 o1 o2 o3 o4 o5 o6 o7 o8 o9 o10 z_2) g_NF_80 rfl nz_xb0 (by decide) hl.1 hP hD hS hA [0, 1] [] rfl (wr := []) rfl (by decide) (by decide) (by decide) rfl rfl (fun _ _ _ => trivial) rfl (Nat.le_of_ble_eq_true rfl) d_NF_feed_22 (by decide) (fun u H locs h_5 hP hD hS => ?_)
  obtain ⟨z_4, rfl⟩ := h_5
  have hP : va_P D nz_cl [(o0, .inr (11, [.ref o1, .int 8, .ref o2, .ref o3, .ref o4, .ref o5, .ref o6, .ref o7, .ref o8, .ref o9, .ref o10])), (o1, .inl (cB, 1600, .inl z_4))] H := hP
  have hD : va_D A [(o0, .inr (11, [.ref o1, .int 8, .ref o2, .ref o3, .ref o4, .ref o5, .ref o6, .ref o7, .ref o8, .ref o9, .ref o10])), (o1, .inl (cB, 1600, .inl z_4))] := hD
  refine lv_aload_n hx hb d_NF_feed_25 rfl (lv_at hl 0 rfl) ?_
  refine lv_iload_n hx hb d_NF_feed_26 rfl (lv_at hl 3 rfl) ?_
  refine nz_calVv (As := [.int p2]) (rest := []) C0 (c_NF_putBytes_8 l D cB cI cJ o0 p2 o1 o2 o3 o4 o5 o6 o7 o8 o9 o10 z_4) g_NF_80 rfl nz_xb0 (by decide) hl.1 hP hD hS hA [0, 1] [] rfl (wr := []) rfl (by decide) (by decide) (by decide) rfl rfl (fun _ _ _ => trivial) rfl (Nat.le_of_ble_eq_true rfl) d_NF_feed_27 (by decide) (fun u H locs h_7 hP hD hS => ?_)
  obtain ⟨z_6, rfl⟩ := h_7
  have hP : va_P D nz_cl [(o0, .inr (11, [.ref o1, .int 12, .ref o2, .ref o3, .ref o4, .ref o5, .ref o6, .ref o7, .ref o8, .ref o9, .ref o10])), (o1, .inl (cB, 1600, .inl z_6))] H := hP
  have hD : va_D A [(o0, .inr (11, [.ref o1, .int 12, .ref o2, .ref o3, .ref o4, .ref o5, .ref o6, .ref o7, .ref o8, .ref o9, .ref o10])), (o1, .inl (cB, 1600, .inl z_6))] := hD
  refine lv_aload_n hx hb d_NF_feed_30 rfl (lv_at hl 0 rfl) ?_
  refine lv_iload hx hb d_NF_feed_31 (lv_at hl 4 rfl) ?_
  refine nz_calVv (As := [.int p3]) (rest := []) C0 (c_NF_putBytes_12 l D cB cI cJ o0 p3 o1 o2 o3 o4 o5 o6 o7 o8 o9 o10 z_6) g_NF_80 rfl nz_xb0 (by decide) hl.1 hP hD hS hA [0, 1] [] rfl (wr := []) rfl (by decide) (by decide) (by decide) rfl rfl (fun _ _ _ => trivial) rfl (Nat.le_of_ble_eq_true rfl) d_NF_feed_33 (by decide) (fun u H locs h_9 hP hD hS => ?_)
  obtain ⟨z_8, rfl⟩ := h_9
  have hP : va_P D nz_cl [(o0, .inr (11, [.ref o1, .int 16, .ref o2, .ref o3, .ref o4, .ref o5, .ref o6, .ref o7, .ref o8, .ref o9, .ref o10])), (o1, .inl (cB, 1600, .inl z_8))] H := hP
  have hD : va_D A [(o0, .inr (11, [.ref o1, .int 16, .ref o2, .ref o3, .ref o4, .ref o5, .ref o6, .ref o7, .ref o8, .ref o9, .ref o10])), (o1, .inl (cB, 1600, .inl z_8))] := hD
  refine lv_aload_n hx hb d_NF_feed_36 rfl (lv_at hl 0 rfl) ?_
  refine lv_iload hx hb d_NF_feed_37 (lv_at hl 5 rfl) ?_
  refine nz_calVv (As := [.int p4]) (rest := []) C0 (c_NF_putBytes_16 l D cB cI cJ o0 p4 o1 o2 o3 o4 o5 o6 o7 o8 o9 o10 z_8) g_NF_80 rfl nz_xb0 (by decide) hl.1 hP hD hS hA [0, 1] [] rfl (wr := []) rfl (by decide) (by decide) (by decide) rfl rfl (fun _ _ _ => trivial) rfl (Nat.le_of_ble_eq_true rfl) d_NF_feed_39 (by decide) (fun u H locs h_11 hP hD hS => ?_)
  obtain ⟨z_10, rfl⟩ := h_11
  have hP : va_P D nz_cl [(o0, .inr (11, [.ref o1, .int 20, .ref o2, .ref o3, .ref o4, .ref o5, .ref o6, .ref o7, .ref o8, .ref o9, .ref o10])), (o1, .inl (cB, 1600, .inl z_10))] H := hP
  have hD : va_D A [(o0, .inr (11, [.ref o1, .int 20, .ref o2, .ref o3, .ref o4, .ref o5, .ref o6, .ref o7, .ref o8, .ref o9, .ref o10])), (o1, .inl (cB, 1600, .inl z_10))] := hD
  refine lv_aload_n hx hb d_NF_feed_42 rfl (lv_at hl 0 rfl) ?_
  refine va_get (D := D) (ci := 11) (v := .int 20) (C := R_NF) (T := F_NF) (N := 11) hx hb hts i_NF hown hK.1 hP 0 rfl rfl 1 (by decide) (hts _ k_461) (fun _ h9 => h9) rfl d_NF_feed_43 ?_
  exact nz_reti C0 (hP.sub (ws' := [(o0, .inr (11, [.ref o1, .int 20, .ref o2, .ref o3, .ref o4, .ref o5, .ref o6, .ref o7, .ref o8, .ref o9, .ref o10])), (o1, .inl (cB, 1600, .inl z_10))]) [0, 1] rfl) (hD.sub (ws' := [(o0, .inr (11, [.ref o1, .int 20, .ref o2, .ref o3, .ref o4, .ref o5, .ref o6, .ref o7, .ref o8, .ref o9, .ref o10])), (o1, .inl (cB, 1600, .inl z_10))]) [0, 1] (by decide) rfl) hS ⟨(z_10), rfl, rfl⟩ d_NF_feed_46
