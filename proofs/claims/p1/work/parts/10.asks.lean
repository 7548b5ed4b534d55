set_option maxHeartbeats 4000000 in
set_option maxRecDepth 100000 in
theorem c_NF_isPlace (l : Launch) (D : va_G) (cB cI cJ : ClassId) (o0 : Nat) (p0 : Int32) (o1 : Nat) (o2 : Nat) (o3 : Nat) (o4 : Nat) (o5 : Nat) (o6 : Nat) (o7 : Nat) (o8 : Nat) (o9 : Nat) (o10 : Nat) (u1 : Nat) (u2 : Nat) (u3 : Nat) (u4 : Nat) (u5 : Nat) (u11 : Nat) (u12 : Nat) (u13 : Nat) (u14 : Nat) (u15 : Nat) (u16 : Nat) (u17 : Nat) : nz_Ci l D cB cI cJ nz_x0 y_NF_isPlace b_NF_isPlace 2 (some .boolean) { frames := 0, cells := 0, slots := 0, locals := 0 } [.ref o0, .int p0] [(o0, .inr (11, [.ref o1, .int 0, .ref o2, .ref o3, .ref o4, .ref o5, .ref o6, .ref o7, .ref o8, .ref o9, .ref o10])), (o2, .inr (3, [.ref u1, .ref u2, .ref u3, .ref u4, .ref u5])), (u1, .inr (6, [.int 0, .ref u11, .ref u12, .ref u13, .ref u14, .ref u15, .ref u16, .ref u17]))] (fun r w => r = 0 ∧ w = [(o0, .inr (11, [.ref o1, .int 0, .ref o2, .ref o3, .ref o4, .ref o5, .ref o6, .ref o7, .ref o8, .ref o9, .ref o10])), (o2, .inr (3, [.ref u1, .ref u2, .ref u3, .ref u4, .ref u5])), (u1, .inr (6, [.int 0, .ref u11, .ref u12, .ref u13, .ref u14, .ref u15, .ref u16, .ref u17]))]) := by
  refine nz_Ci.mk (by decide) (Nat.le_of_ble_eq_true rfl) ?_
  intro p e s m below meth c A ls C0 hnm hP hD hS hA hX hl
  have C0 : nz_Cx p s m _ meth c b_NF_isPlace 2 (some .boolean) R_NF D cB cI cJ := C0
  obtain ⟨hx, hb, hr, hml, hown, hts, hlk, hK⟩ := id C0
  have hl : lv_has ls 2 [(0, .ref o0), (1, .int p0)] := hl
  refine lv_iload_n hx hb d_NF_isPlace_0 rfl (lv_at hl 1 rfl) ?_
  refine lv_if_lt (tgt := 22) hx hb d_NF_isPlace_1 (by decide) (fun c_1 => ?_) (fun c_1 => ?_)
  · refine lv_iconst (v := 0) hx hb d_NF_isPlace_22 (by decide +kernel) ?_
    exact nz_retz C0 (by decide +kernel) (hP.sub (ws' := [(o0, .inr (11, [.ref o1, .int 0, .ref o2, .ref o3, .ref o4, .ref o5, .ref o6, .ref o7, .ref o8, .ref o9, .ref o10])), (o2, .inr (3, [.ref u1, .ref u2, .ref u3, .ref u4, .ref u5])), (u1, .inr (6, [.int 0, .ref u11, .ref u12, .ref u13, .ref u14, .ref u15, .ref u16, .ref u17]))]) [0, 1, 2] rfl) (hD.sub (ws' := [(o0, .inr (11, [.ref o1, .int 0, .ref o2, .ref o3, .ref o4, .ref o5, .ref o6, .ref o7, .ref o8, .ref o9, .ref o10])), (o2, .inr (3, [.ref u1, .ref u2, .ref u3, .ref u4, .ref u5])), (u1, .inr (6, [.int 0, .ref u11, .ref u12, .ref u13, .ref u14, .ref u15, .ref u16, .ref u17]))]) [0, 1, 2] (by decide) rfl) hS ⟨rfl, rfl⟩ d_NF_isPlace_23
  · refine lv_iload_n hx hb d_NF_isPlace_4 rfl (lv_at hl 1 rfl) ?_
    refine lv_aload_n hx hb d_NF_isPlace_5 rfl (lv_at hl 0 rfl) ?_
    refine va_get (D := D) (ci := 11) (v := .ref o2) (C := R_NF) (T := F_NF) (N := 11) hx hb hts i_NF hown hK.1 hP 0 rfl rfl 2 (by decide) (hts _ k_462) (fun _ h9 => h9) rfl d_NF_isPlace_6 ?_
    refine va_get (D := D) (ci := 3) (v := .ref u1) (C := R_Land) (T := F_Land) (N := 5) hx hb hts i_Land hown hK.1 hP 1 rfl rfl 0 (by decide) (hts _ k_217) (fun _ h9 => h9) rfl d_NF_isPlace_9 ?_
    refine va_get (D := D) (ci := 6) (v := .int 0) (C := R_Places) (T := F_Places) (N := 8) hx hb hts i_Places hown hK.1 hP 2 rfl rfl 0 (by decide) (hts _ k_44) (fun _ h9 => h9) rfl d_NF_isPlace_12 ?_
    refine lv_icmp_ge (tgt := 22) hx hb d_NF_isPlace_15 (by decide) (fun c_2 => ?_) (fun c_2 => ?_)
    · refine lv_iconst (v := 0) hx hb d_NF_isPlace_22 (by decide +kernel) ?_
      exact nz_retz C0 (by decide +kernel) (hP.sub (ws' := [(o0, .inr (11, [.ref o1, .int 0, .ref o2, .ref o3, .ref o4, .ref o5, .ref o6, .ref o7, .ref o8, .ref o9, .ref o10])), (o2, .inr (3, [.ref u1, .ref u2, .ref u3, .ref u4, .ref u5])), (u1, .inr (6, [.int 0, .ref u11, .ref u12, .ref u13, .ref u14, .ref u15, .ref u16, .ref u17]))]) [0, 1, 2] rfl) (hD.sub (ws' := [(o0, .inr (11, [.ref o1, .int 0, .ref o2, .ref o3, .ref o4, .ref o5, .ref o6, .ref o7, .ref o8, .ref o9, .ref o10])), (o2, .inr (3, [.ref u1, .ref u2, .ref u3, .ref u4, .ref u5])), (u1, .inr (6, [.int 0, .ref u11, .ref u12, .ref u13, .ref u14, .ref u15, .ref u16, .ref u17]))]) [0, 1, 2] (by decide) rfl) hS ⟨rfl, rfl⟩ d_NF_isPlace_23
    · exfalso; have z0 : (0 : Int32).toInt = 0 := (by decide +kernel); simp only [Int32.lt_iff_toInt_lt, Int32.le_iff_toInt_le, ← Int32.toInt_inj] at c_1 c_2; omega
set_option maxHeartbeats 4000000 in
set_option maxRecDepth 100000 in
theorem c_NF_isMeaning (l : Launch) (D : va_G) (cB cI cJ : ClassId) (o0 : Nat) (p0 : Int32) (o1 : Nat) (o2 : Nat) (o3 : Nat) (o4 : Nat) (o5 : Nat) (o6 : Nat) (o7 : Nat) (o8 : Nat) (o9 : Nat) (o10 : Nat) (u1 : Nat) (u2 : Nat) (u3 : Nat) (u4 : Nat) (u5 : Nat) (u21 : Nat) (u22 : Nat) (u23 : Nat) (u24 : Nat) : nz_Ci l D cB cI cJ nz_x0 y_NF_isMeaning b_NF_isMeaning 2 (some .boolean) { frames := 0, cells := 0, slots := 0, locals := 0 } [.ref o0, .int p0] [(o0, .inr (11, [.ref o1, .int 0, .ref o2, .ref o3, .ref o4, .ref o5, .ref o6, .ref o7, .ref o8, .ref o9, .ref o10])), (o2, .inr (3, [.ref u1, .ref u2, .ref u3, .ref u4, .ref u5])), (u2, .inr (4, [.int 0, .ref u21, .int 0, .ref u22, .ref u23, .ref u24]))] (fun r w => r = 0 ∧ w = [(o0, .inr (11, [.ref o1, .int 0, .ref o2, .ref o3, .ref o4, .ref o5, .ref o6, .ref o7, .ref o8, .ref o9, .ref o10])), (o2, .inr (3, [.ref u1, .ref u2, .ref u3, .ref u4, .ref u5])), (u2, .inr (4, [.int 0, .ref u21, .int 0, .ref u22, .ref u23, .ref u24]))]) := by
  refine nz_Ci.mk (by decide) (Nat.le_of_ble_eq_true rfl) ?_
  intro p e s m below meth c A ls C0 hnm hP hD hS hA hX hl
  have C0 : nz_Cx p s m _ meth c b_NF_isMeaning 2 (some .boolean) R_NF D cB cI cJ := C0
  obtain ⟨hx, hb, hr, hml, hown, hts, hlk, hK⟩ := id C0
  have hl : lv_has ls 2 [(0, .ref o0), (1, .int p0)] := hl
  refine lv_iload_n hx hb d_NF_isMeaning_0 rfl (lv_at hl 1 rfl) ?_
  refine lv_if_lt (tgt := 22) hx hb d_NF_isMeaning_1 (by decide) (fun c_1 => ?_) (fun c_1 => ?_)
  · refine lv_iconst (v := 0) hx hb d_NF_isMeaning_22 (by decide +kernel) ?_
    exact nz_retz C0 (by decide +kernel) (hP.sub (ws' := [(o0, .inr (11, [.ref o1, .int 0, .ref o2, .ref o3, .ref o4, .ref o5, .ref o6, .ref o7, .ref o8, .ref o9, .ref o10])), (o2, .inr (3, [.ref u1, .ref u2, .ref u3, .ref u4, .ref u5])), (u2, .inr (4, [.int 0, .ref u21, .int 0, .ref u22, .ref u23, .ref u24]))]) [0, 1, 2] rfl) (hD.sub (ws' := [(o0, .inr (11, [.ref o1, .int 0, .ref o2, .ref o3, .ref o4, .ref o5, .ref o6, .ref o7, .ref o8, .ref o9, .ref o10])), (o2, .inr (3, [.ref u1, .ref u2, .ref u3, .ref u4, .ref u5])), (u2, .inr (4, [.int 0, .ref u21, .int 0, .ref u22, .ref u23, .ref u24]))]) [0, 1, 2] (by decide) rfl) hS ⟨rfl, rfl⟩ d_NF_isMeaning_23
  · refine lv_iload_n hx hb d_NF_isMeaning_4 rfl (lv_at hl 1 rfl) ?_
    refine lv_aload_n hx hb d_NF_isMeaning_5 rfl (lv_at hl 0 rfl) ?_
    refine va_get (D := D) (ci := 11) (v := .ref o2) (C := R_NF) (T := F_NF) (N := 11) hx hb hts i_NF hown hK.1 hP 0 rfl rfl 2 (by decide) (hts _ k_462) (fun _ h9 => h9) rfl d_NF_isMeaning_6 ?_
    refine va_get (D := D) (ci := 3) (v := .ref u2) (C := R_Land) (T := F_Land) (N := 5) hx hb hts i_Land hown hK.1 hP 1 rfl rfl 1 (by decide) (hts _ k_222) (fun _ h9 => h9) rfl d_NF_isMeaning_9 ?_
    refine va_get (D := D) (ci := 4) (v := .int 0) (C := R_Meanings) (T := F_Meanings) (N := 6) hx hb hts i_Meanings hown hK.1 hP 2 rfl rfl 0 (by decide) (hts _ k_94) (fun _ h9 => h9) rfl d_NF_isMeaning_12 ?_
    refine lv_icmp_ge (tgt := 22) hx hb d_NF_isMeaning_15 (by decide) (fun c_2 => ?_) (fun c_2 => ?_)
    · refine lv_iconst (v := 0) hx hb d_NF_isMeaning_22 (by decide +kernel) ?_
      exact nz_retz C0 (by decide +kernel) (hP.sub (ws' := [(o0, .inr (11, [.ref o1, .int 0, .ref o2, .ref o3, .ref o4, .ref o5, .ref o6, .ref o7, .ref o8, .ref o9, .ref o10])), (o2, .inr (3, [.ref u1, .ref u2, .ref u3, .ref u4, .ref u5])), (u2, .inr (4, [.int 0, .ref u21, .int 0, .ref u22, .ref u23, .ref u24]))]) [0, 1, 2] rfl) (hD.sub (ws' := [(o0, .inr (11, [.ref o1, .int 0, .ref o2, .ref o3, .ref o4, .ref o5, .ref o6, .ref o7, .ref o8, .ref o9, .ref o10])), (o2, .inr (3, [.ref u1, .ref u2, .ref u3, .ref u4, .ref u5])), (u2, .inr (4, [.int 0, .ref u21, .int 0, .ref u22, .ref u23, .ref u24]))]) [0, 1, 2] (by decide) rfl) hS ⟨rfl, rfl⟩ d_NF_isMeaning_23
    · exfalso; have z0 : (0 : Int32).toInt = 0 := (by decide +kernel); simp only [Int32.lt_iff_toInt_lt, Int32.le_iff_toInt_le, ← Int32.toInt_inj] at c_1 c_2; omega
set_option maxHeartbeats 4000000 in
set_option maxRecDepth 100000 in
theorem c_NF_isWord (l : Launch) (D : va_G) (cB cI cJ : ClassId) (o0 : Nat) (p0 : Int32) (o1 : Nat) (o2 : Nat) (o3 : Nat) (o4 : Nat) (o5 : Nat) (o6 : Nat) (o7 : Nat) (o8 : Nat) (o9 : Nat) (o10 : Nat) (u1 : Nat) (u2 : Nat) (u3 : Nat) (u4 : Nat) (u5 : Nat) (u31 : Nat) (u32 : Nat) : nz_Ci l D cB cI cJ nz_x0 y_NF_isWord b_NF_isWord 2 (some .boolean) { frames := 0, cells := 0, slots := 0, locals := 0 } [.ref o0, .int p0] [(o0, .inr (11, [.ref o1, .int 0, .ref o2, .ref o3, .ref o4, .ref o5, .ref o6, .ref o7, .ref o8, .ref o9, .ref o10])), (o2, .inr (3, [.ref u1, .ref u2, .ref u3, .ref u4, .ref u5])), (u3, .inr (10, [.int 0, .ref u31, .ref u32]))] (fun r w => r = 0 ∧ w = [(o0, .inr (11, [.ref o1, .int 0, .ref o2, .ref o3, .ref o4, .ref o5, .ref o6, .ref o7, .ref o8, .ref o9, .ref o10])), (o2, .inr (3, [.ref u1, .ref u2, .ref u3, .ref u4, .ref u5])), (u3, .inr (10, [.int 0, .ref u31, .ref u32]))]) := by
  refine nz_Ci.mk (by decide) (Nat.le_of_ble_eq_true rfl) ?_
  intro p e s m below meth c A ls C0 hnm hP hD hS hA hX hl
  have C0 : nz_Cx p s m _ meth c b_NF_isWord 2 (some .boolean) R_NF D cB cI cJ := C0
  obtain ⟨hx, hb, hr, hml, hown, hts, hlk, hK⟩ := id C0
  have hl : lv_has ls 2 [(0, .ref o0), (1, .int p0)] := hl
  refine lv_iload_n hx hb d_NF_isWord_0 rfl (lv_at hl 1 rfl) ?_
  refine lv_if_lt (tgt := 22) hx hb d_NF_isWord_1 (by decide) (fun c_1 => ?_) (fun c_1 => ?_)
  · refine lv_iconst (v := 0) hx hb d_NF_isWord_22 (by decide +kernel) ?_
    exact nz_retz C0 (by decide +kernel) (hP.sub (ws' := [(o0, .inr (11, [.ref o1, .int 0, .ref o2, .ref o3, .ref o4, .ref o5, .ref o6, .ref o7, .ref o8, .ref o9, .ref o10])), (o2, .inr (3, [.ref u1, .ref u2, .ref u3, .ref u4, .ref u5])), (u3, .inr (10, [.int 0, .ref u31, .ref u32]))]) [0, 1, 2] rfl) (hD.sub (ws' := [(o0, .inr (11, [.ref o1, .int 0, .ref o2, .ref o3, .ref o4, .ref o5, .ref o6, .ref o7, .ref o8, .ref o9, .ref o10])), (o2, .inr (3, [.ref u1, .ref u2, .ref u3, .ref u4, .ref u5])), (u3, .inr (10, [.int 0, .ref u31, .ref u32]))]) [0, 1, 2] (by decide) rfl) hS ⟨rfl, rfl⟩ d_NF_isWord_23
  · refine lv_iload_n hx hb d_NF_isWord_4 rfl (lv_at hl 1 rfl) ?_
    refine lv_aload_n hx hb d_NF_isWord_5 rfl (lv_at hl 0 rfl) ?_
    refine va_get (D := D) (ci := 11) (v := .ref o2) (C := R_NF) (T := F_NF) (N := 11) hx hb hts i_NF hown hK.1 hP 0 rfl rfl 2 (by decide) (hts _ k_462) (fun _ h9 => h9) rfl d_NF_isWord_6 ?_
    refine va_get (D := D) (ci := 3) (v := .ref u3) (C := R_Land) (T := F_Land) (N := 5) hx hb hts i_Land hown hK.1 hP 1 rfl rfl 2 (by decide) (hts _ k_225) (fun _ h9 => h9) rfl d_NF_isWord_9 ?_
    refine va_get (D := D) (ci := 10) (v := .int 0) (C := R_Words) (T := F_Words) (N := 3) hx hb hts i_Words hown hK.1 hP 2 rfl rfl 0 (by decide) (hts _ k_132) (fun _ h9 => h9) rfl d_NF_isWord_12 ?_
    refine lv_icmp_ge (tgt := 22) hx hb d_NF_isWord_15 (by decide) (fun c_2 => ?_) (fun c_2 => ?_)
    · refine lv_iconst (v := 0) hx hb d_NF_isWord_22 (by decide +kernel) ?_
      exact nz_retz C0 (by decide +kernel) (hP.sub (ws' := [(o0, .inr (11, [.ref o1, .int 0, .ref o2, .ref o3, .ref o4, .ref o5, .ref o6, .ref o7, .ref o8, .ref o9, .ref o10])), (o2, .inr (3, [.ref u1, .ref u2, .ref u3, .ref u4, .ref u5])), (u3, .inr (10, [.int 0, .ref u31, .ref u32]))]) [0, 1, 2] rfl) (hD.sub (ws' := [(o0, .inr (11, [.ref o1, .int 0, .ref o2, .ref o3, .ref o4, .ref o5, .ref o6, .ref o7, .ref o8, .ref o9, .ref o10])), (o2, .inr (3, [.ref u1, .ref u2, .ref u3, .ref u4, .ref u5])), (u3, .inr (10, [.int 0, .ref u31, .ref u32]))]) [0, 1, 2] (by decide) rfl) hS ⟨rfl, rfl⟩ d_NF_isWord_23
    · exfalso; have z0 : (0 : Int32).toInt = 0 := (by decide +kernel); simp only [Int32.lt_iff_toInt_lt, Int32.le_iff_toInt_le, ← Int32.toInt_inj] at c_1 c_2; omega
set_option maxHeartbeats 4000000 in
set_option maxRecDepth 100000 in
theorem c_NF_isPerson (l : Launch) (D : va_G) (cB cI cJ : ClassId) (o0 : Nat) (p0 : Int32) (o1 : Nat) (o2 : Nat) (o3 : Nat) (o4 : Nat) (o5 : Nat) (o6 : Nat) (o7 : Nat) (o8 : Nat) (o9 : Nat) (o10 : Nat) (u1 : Nat) (u2 : Nat) (u3 : Nat) (u4 : Nat) (u5 : Nat) (u41 : Nat) (u42 : Nat) (u43 : Nat) (u44 : Nat) (u45 : Nat) (u46 : Nat) (u47 : Nat) (u48 : Nat) (u49 : Nat) : nz_Ci l D cB cI cJ nz_x0 y_NF_isPerson b_NF_isPerson 2 (some .boolean) { frames := 0, cells := 0, slots := 0, locals := 0 } [.ref o0, .int p0] [(o0, .inr (11, [.ref o1, .int 0, .ref o2, .ref o3, .ref o4, .ref o5, .ref o6, .ref o7, .ref o8, .ref o9, .ref o10])), (o2, .inr (3, [.ref u1, .ref u2, .ref u3, .ref u4, .ref u5])), (u4, .inr (5, [.int 0, .int 0, .ref u41, .ref u42, .ref u43, .ref u44, .ref u45, .ref u46, .ref u47, .ref u48, .ref u49]))] (fun r w => r = 0 ∧ w = [(o0, .inr (11, [.ref o1, .int 0, .ref o2, .ref o3, .ref o4, .ref o5, .ref o6, .ref o7, .ref o8, .ref o9, .ref o10])), (o2, .inr (3, [.ref u1, .ref u2, .ref u3, .ref u4, .ref u5])), (u4, .inr (5, [.int 0, .int 0, .ref u41, .ref u42, .ref u43, .ref u44, .ref u45, .ref u46, .ref u47, .ref u48, .ref u49]))]) := by
  refine nz_Ci.mk (by decide) (Nat.le_of_ble_eq_true rfl) ?_
  intro p e s m below meth c A ls C0 hnm hP hD hS hA hX hl
  have C0 : nz_Cx p s m _ meth c b_NF_isPerson 2 (some .boolean) R_NF D cB cI cJ := C0
  obtain ⟨hx, hb, hr, hml, hown, hts, hlk, hK⟩ := id C0
  have hl : lv_has ls 2 [(0, .ref o0), (1, .int p0)] := hl
  refine lv_iload_n hx hb d_NF_isPerson_0 rfl (lv_at hl 1 rfl) ?_
  refine lv_if_lt (tgt := 22) hx hb d_NF_isPerson_1 (by decide) (fun c_1 => ?_) (fun c_1 => ?_)
  · refine lv_iconst (v := 0) hx hb d_NF_isPerson_22 (by decide +kernel) ?_
    exact nz_retz C0 (by decide +kernel) (hP.sub (ws' := [(o0, .inr (11, [.ref o1, .int 0, .ref o2, .ref o3, .ref o4, .ref o5, .ref o6, .ref o7, .ref o8, .ref o9, .ref o10])), (o2, .inr (3, [.ref u1, .ref u2, .ref u3, .ref u4, .ref u5])), (u4, .inr (5, [.int 0, .int 0, .ref u41, .ref u42, .ref u43, .ref u44, .ref u45, .ref u46, .ref u47, .ref u48, .ref u49]))]) [0, 1, 2] rfl) (hD.sub (ws' := [(o0, .inr (11, [.ref o1, .int 0, .ref o2, .ref o3, .ref o4, .ref o5, .ref o6, .ref o7, .ref o8, .ref o9, .ref o10])), (o2, .inr (3, [.ref u1, .ref u2, .ref u3, .ref u4, .ref u5])), (u4, .inr (5, [.int 0, .int 0, .ref u41, .ref u42, .ref u43, .ref u44, .ref u45, .ref u46, .ref u47, .ref u48, .ref u49]))]) [0, 1, 2] (by decide) rfl) hS ⟨rfl, rfl⟩ d_NF_isPerson_23
  · refine lv_iload_n hx hb d_NF_isPerson_4 rfl (lv_at hl 1 rfl) ?_
    refine lv_aload_n hx hb d_NF_isPerson_5 rfl (lv_at hl 0 rfl) ?_
    refine va_get (D := D) (ci := 11) (v := .ref o2) (C := R_NF) (T := F_NF) (N := 11) hx hb hts i_NF hown hK.1 hP 0 rfl rfl 2 (by decide) (hts _ k_462) (fun _ h9 => h9) rfl d_NF_isPerson_6 ?_
    refine va_get (D := D) (ci := 3) (v := .ref u4) (C := R_Land) (T := F_Land) (N := 5) hx hb hts i_Land hown hK.1 hP 1 rfl rfl 3 (by decide) (hts _ k_231) (fun _ h9 => h9) rfl d_NF_isPerson_9 ?_
    refine va_get (D := D) (ci := 5) (v := .int 0) (C := R_Persons) (T := F_Persons) (N := 11) hx hb hts i_Persons hown hK.1 hP 2 rfl rfl 0 (by decide) (hts _ k_158) (fun _ h9 => h9) rfl d_NF_isPerson_12 ?_
    refine lv_icmp_ge (tgt := 22) hx hb d_NF_isPerson_15 (by decide) (fun c_2 => ?_) (fun c_2 => ?_)
    · refine lv_iconst (v := 0) hx hb d_NF_isPerson_22 (by decide +kernel) ?_
      exact nz_retz C0 (by decide +kernel) (hP.sub (ws' := [(o0, .inr (11, [.ref o1, .int 0, .ref o2, .ref o3, .ref o4, .ref o5, .ref o6, .ref o7, .ref o8, .ref o9, .ref o10])), (o2, .inr (3, [.ref u1, .ref u2, .ref u3, .ref u4, .ref u5])), (u4, .inr (5, [.int 0, .int 0, .ref u41, .ref u42, .ref u43, .ref u44, .ref u45, .ref u46, .ref u47, .ref u48, .ref u49]))]) [0, 1, 2] rfl) (hD.sub (ws' := [(o0, .inr (11, [.ref o1, .int 0, .ref o2, .ref o3, .ref o4, .ref o5, .ref o6, .ref o7, .ref o8, .ref o9, .ref o10])), (o2, .inr (3, [.ref u1, .ref u2, .ref u3, .ref u4, .ref u5])), (u4, .inr (5, [.int 0, .int 0, .ref u41, .ref u42, .ref u43, .ref u44, .ref u45, .ref u46, .ref u47, .ref u48, .ref u49]))]) [0, 1, 2] (by decide) rfl) hS ⟨rfl, rfl⟩ d_NF_isPerson_23
    · exfalso; have z0 : (0 : Int32).toInt = 0 := (by decide +kernel); simp only [Int32.lt_iff_toInt_lt, Int32.le_iff_toInt_le, ← Int32.toInt_inj] at c_1 c_2; omega
set_option maxHeartbeats 4000000 in
set_option maxRecDepth 100000 in
theorem c_NF_canSpeak (l : Launch) (D : va_G) (cB cI cJ : ClassId) (o0 : Nat) (p0 : Int32) (p1 : Int32) (p2 : Int32) (p3 : Int32) (o1 : Nat) (o2 : Nat) (o3 : Nat) (o4 : Nat) (o5 : Nat) (o6 : Nat) (o7 : Nat) (o8 : Nat) (o9 : Nat) (o10 : Nat) (u1 : Nat) (u2 : Nat) (u3 : Nat) (u4 : Nat) (u5 : Nat) (u41 : Nat) (u42 : Nat) (u43 : Nat) (u44 : Nat) (u45 : Nat) (u46 : Nat) (u47 : Nat) (u48 : Nat) (u49 : Nat) : nz_Ci l D cB cI cJ nz_x0 y_NF_canSpeak b_NF_canSpeak 5 (some .boolean) { frames := 1, cells := 0, slots := 0, locals := 21 } [.ref o0, .int p0, .int p1, .int p2, .int p3] [(o0, .inr (11, [.ref o1, .int 0, .ref o2, .ref o3, .ref o4, .ref o5, .ref o6, .ref o7, .ref o8, .ref o9, .ref o10])), (o2, .inr (3, [.ref u1, .ref u2, .ref u3, .ref u4, .ref u5])), (u4, .inr (5, [.int 0, .int 0, .ref u41, .ref u42, .ref u43, .ref u44, .ref u45, .ref u46, .ref u47, .ref u48, .ref u49]))] (fun r w => r = 0 ∧ w = [(o0, .inr (11, [.ref o1, .int 0, .ref o2, .ref o3, .ref o4, .ref o5, .ref o6, .ref o7, .ref o8, .ref o9, .ref o10])), (o2, .inr (3, [.ref u1, .ref u2, .ref u3, .ref u4, .ref u5])), (u4, .inr (5, [.int 0, .int 0, .ref u41, .ref u42, .ref u43, .ref u44, .ref u45, .ref u46, .ref u47, .ref u48, .ref u49]))]) := by
  refine nz_Ci.mk (by decide) (Nat.le_of_ble_eq_true rfl) ?_
  intro p e s m below meth c A ls C0 hnm hP hD hS hA hX hl
  have C0 : nz_Cx p s m _ meth c b_NF_canSpeak 5 (some .boolean) R_NF D cB cI cJ := C0
  obtain ⟨hx, hb, hr, hml, hown, hts, hlk, hK⟩ := id C0
  have hl : lv_has ls 5 [(0, .ref o0), (1, .int p0), (2, .int p1), (3, .int p2), (4, .int p3)] := hl
  refine lv_aload_n hx hb d_NF_canSpeak_0 rfl (lv_at hl 0 rfl) ?_
  refine lv_iload_n hx hb d_NF_canSpeak_1 rfl (lv_at hl 1 rfl) ?_
  refine nz_calVi (As := [.int p0]) (rest := []) C0 (c_NF_isPerson l D cB cI cJ o0 p0 o1 o2 o3 o4 o5 o6 o7 o8 o9 o10 u1 u2 u3 u4 u5 u41 u42 u43 u44 u45 u46 u47 u48 u49) g_NF_104 rfl nz_xb0 (by decide) hl.1 hP hD hS hA [0, 1, 2] [] rfl (wr := []) rfl (by decide) (by decide) (by decide) rfl rfl (fun _ _ _ => trivial) rfl (Nat.le_of_ble_eq_true rfl) d_NF_canSpeak_2 (by decide) (fun r_1 u H locs h_2 hP hD hS => ?_)
  obtain ⟨h_2_r, rfl⟩ := h_2
  have hP : va_P D nz_cl [(o0, .inr (11, [.ref o1, .int 0, .ref o2, .ref o3, .ref o4, .ref o5, .ref o6, .ref o7, .ref o8, .ref o9, .ref o10])), (o2, .inr (3, [.ref u1, .ref u2, .ref u3, .ref u4, .ref u5])), (u4, .inr (5, [.int 0, .int 0, .ref u41, .ref u42, .ref u43, .ref u44, .ref u45, .ref u46, .ref u47, .ref u48, .ref u49]))] H := hP
  have hD : va_D A [(o0, .inr (11, [.ref o1, .int 0, .ref o2, .ref o3, .ref o4, .ref o5, .ref o6, .ref o7, .ref o8, .ref o9, .ref o10])), (o2, .inr (3, [.ref u1, .ref u2, .ref u3, .ref u4, .ref u5])), (u4, .inr (5, [.int 0, .int 0, .ref u41, .ref u42, .ref u43, .ref u44, .ref u45, .ref u46, .ref u47, .ref u48, .ref u49]))] := hD
  subst h_2_r
  refine lv_if_eq (tgt := 28) hx hb d_NF_canSpeak_5 (by decide) (fun c_3 => ?_) (fun c_3 => absurd (by decide +kernel) c_3)
  refine lv_iconst (v := 0) hx hb d_NF_canSpeak_28 (by decide +kernel) ?_
  exact nz_retz C0 (by decide +kernel) (hP.sub (ws' := [(o0, .inr (11, [.ref o1, .int 0, .ref o2, .ref o3, .ref o4, .ref o5, .ref o6, .ref o7, .ref o8, .ref o9, .ref o10])), (o2, .inr (3, [.ref u1, .ref u2, .ref u3, .ref u4, .ref u5])), (u4, .inr (5, [.int 0, .int 0, .ref u41, .ref u42, .ref u43, .ref u44, .ref u45, .ref u46, .ref u47, .ref u48, .ref u49]))]) [0, 1, 2] rfl) (hD.sub (ws' := [(o0, .inr (11, [.ref o1, .int 0, .ref o2, .ref o3, .ref o4, .ref o5, .ref o6, .ref o7, .ref o8, .ref o9, .ref o10])), (o2, .inr (3, [.ref u1, .ref u2, .ref u3, .ref u4, .ref u5])), (u4, .inr (5, [.int 0, .int 0, .ref u41, .ref u42, .ref u43, .ref u44, .ref u45, .ref u46, .ref u47, .ref u48, .ref u49]))]) [0, 1, 2] (by decide) rfl) hS ⟨rfl, rfl⟩ d_NF_canSpeak_29
set_option maxHeartbeats 4000000 in
set_option maxRecDepth 100000 in
theorem c_NF_die (l : Launch) (D : va_G) (cB cI cJ : ClassId) (o0 : Nat) (p0 : Int32) (p1 : Int32) (o1 : Nat) (o2 : Nat) (o3 : Nat) (o4 : Nat) (o5 : Nat) (o6 : Nat) (o7 : Nat) (o8 : Nat) (o9 : Nat) (o10 : Nat) (u1 : Nat) (u2 : Nat) (u3 : Nat) (u4 : Nat) (u5 : Nat) (u41 : Nat) (u42 : Nat) (u43 : Nat) (u44 : Nat) (u45 : Nat) (u46 : Nat) (u47 : Nat) (u48 : Nat) (u49 : Nat) : nz_Ci l D cB cI cJ nz_x0 y_NF_die b_NF_die 3 (some .int) { frames := 1, cells := 0, slots := 0, locals := 21 } [.ref o0, .int p0, .int p1] [(o0, .inr (11, [.ref o1, .int 0, .ref o2, .ref o3, .ref o4, .ref o5, .ref o6, .ref o7, .ref o8, .ref o9, .ref o10])), (o2, .inr (3, [.ref u1, .ref u2, .ref u3, .ref u4, .ref u5])), (u4, .inr (5, [.int 0, .int 0, .ref u41, .ref u42, .ref u43, .ref u44, .ref u45, .ref u46, .ref u47, .ref u48, .ref u49]))] (fun r w => r = (-1) ∧ w = [(o0, .inr (11, [.ref o1, .int 0, .ref o2, .ref o3, .ref o4, .ref o5, .ref o6, .ref o7, .ref o8, .ref o9, .ref o10])), (o2, .inr (3, [.ref u1, .ref u2, .ref u3, .ref u4, .ref u5])), (u4, .inr (5, [.int 0, .int 0, .ref u41, .ref u42, .ref u43, .ref u44, .ref u45, .ref u46, .ref u47, .ref u48, .ref u49]))]) := by
  refine nz_Ci.mk (by decide) (Nat.le_of_ble_eq_true rfl) ?_
  intro p e s m below meth c A ls C0 hnm hP hD hS hA hX hl
  have C0 : nz_Cx p s m _ meth c b_NF_die 3 (some .int) R_NF D cB cI cJ := C0
  obtain ⟨hx, hb, hr, hml, hown, hts, hlk, hK⟩ := id C0
  have hl : lv_has ls 3 [(0, .ref o0), (1, .int p0), (2, .int p1)] := hl
  refine lv_aload_n hx hb d_NF_die_0 rfl (lv_at hl 0 rfl) ?_
  refine lv_iload_n hx hb d_NF_die_1 rfl (lv_at hl 1 rfl) ?_
  refine nz_calVi (As := [.int p0]) (rest := []) C0 (c_NF_isPerson l D cB cI cJ o0 p0 o1 o2 o3 o4 o5 o6 o7 o8 o9 o10 u1 u2 u3 u4 u5 u41 u42 u43 u44 u45 u46 u47 u48 u49) g_NF_104 rfl nz_xb0 (by decide) hl.1 hP hD hS hA [0, 1, 2] [] rfl (wr := []) rfl (by decide) (by decide) (by decide) rfl rfl (fun _ _ _ => trivial) rfl (Nat.le_of_ble_eq_true rfl) d_NF_die_2 (by decide) (fun r_1 u H locs h_2 hP hD hS => ?_)
  obtain ⟨h_2_r, rfl⟩ := h_2
  have hP : va_P D nz_cl [(o0, .inr (11, [.ref o1, .int 0, .ref o2, .ref o3, .ref o4, .ref o5, .ref o6, .ref o7, .ref o8, .ref o9, .ref o10])), (o2, .inr (3, [.ref u1, .ref u2, .ref u3, .ref u4, .ref u5])), (u4, .inr (5, [.int 0, .int 0, .ref u41, .ref u42, .ref u43, .ref u44, .ref u45, .ref u46, .ref u47, .ref u48, .ref u49]))] H := hP
  have hD : va_D A [(o0, .inr (11, [.ref o1, .int 0, .ref o2, .ref o3, .ref o4, .ref o5, .ref o6, .ref o7, .ref o8, .ref o9, .ref o10])), (o2, .inr (3, [.ref u1, .ref u2, .ref u3, .ref u4, .ref u5])), (u4, .inr (5, [.int 0, .int 0, .ref u41, .ref u42, .ref u43, .ref u44, .ref u45, .ref u46, .ref u47, .ref u48, .ref u49]))] := hD
  subst h_2_r
  refine lv_if_eq (tgt := 31) hx hb d_NF_die_5 (by decide) (fun c_3 => ?_) (fun c_3 => absurd (by decide +kernel) c_3)
  refine lv_iconst (v := (-1)) hx hb d_NF_die_31 (by decide +kernel) ?_
  exact nz_reti C0 (hP.sub (ws' := [(o0, .inr (11, [.ref o1, .int 0, .ref o2, .ref o3, .ref o4, .ref o5, .ref o6, .ref o7, .ref o8, .ref o9, .ref o10])), (o2, .inr (3, [.ref u1, .ref u2, .ref u3, .ref u4, .ref u5])), (u4, .inr (5, [.int 0, .int 0, .ref u41, .ref u42, .ref u43, .ref u44, .ref u45, .ref u46, .ref u47, .ref u48, .ref u49]))]) [0, 1, 2] rfl) (hD.sub (ws' := [(o0, .inr (11, [.ref o1, .int 0, .ref o2, .ref o3, .ref o4, .ref o5, .ref o6, .ref o7, .ref o8, .ref o9, .ref o10])), (o2, .inr (3, [.ref u1, .ref u2, .ref u3, .ref u4, .ref u5])), (u4, .inr (5, [.int 0, .int 0, .ref u41, .ref u42, .ref u43, .ref u44, .ref u45, .ref u46, .ref u47, .ref u48, .ref u49]))]) [0, 1, 2] (by decide) rfl) hS ⟨rfl, rfl⟩ d_NF_die_32
set_option maxHeartbeats 4000000 in
set_option maxRecDepth 100000 in
theorem c_NF_alive (l : Launch) (D : va_G) (cB cI cJ : ClassId) (o0 : Nat) (p0 : Int32) (p1 : Int32) (p2 : Int32) (o1 : Nat) (o2 : Nat) (o3 : Nat) (o4 : Nat) (o5 : Nat) (o6 : Nat) (o7 : Nat) (o8 : Nat) (o9 : Nat) (o10 : Nat) (u1 : Nat) (u2 : Nat) (u3 : Nat) (u4 : Nat) (u5 : Nat) (u41 : Nat) (u42 : Nat) (u43 : Nat) (u44 : Nat) (u45 : Nat) (u46 : Nat) (u47 : Nat) (u48 : Nat) (u49 : Nat) : nz_Ci l D cB cI cJ nz_x0 y_NF_alive b_NF_alive 4 (some .int) { frames := 1, cells := 0, slots := 0, locals := 21 } [.ref o0, .int p0, .int p1, .int p2] [(o0, .inr (11, [.ref o1, .int 0, .ref o2, .ref o3, .ref o4, .ref o5, .ref o6, .ref o7, .ref o8, .ref o9, .ref o10])), (o2, .inr (3, [.ref u1, .ref u2, .ref u3, .ref u4, .ref u5])), (u4, .inr (5, [.int 0, .int 0, .ref u41, .ref u42, .ref u43, .ref u44, .ref u45, .ref u46, .ref u47, .ref u48, .ref u49]))] (fun r w => r = (-1) ∧ w = [(o0, .inr (11, [.ref o1, .int 0, .ref o2, .ref o3, .ref o4, .ref o5, .ref o6, .ref o7, .ref o8, .ref o9, .ref o10])), (o2, .inr (3, [.ref u1, .ref u2, .ref u3, .ref u4, .ref u5])), (u4, .inr (5, [.int 0, .int 0, .ref u41, .ref u42, .ref u43, .ref u44, .ref u45, .ref u46, .ref u47, .ref u48, .ref u49]))]) := by
  refine nz_Ci.mk (by decide) (Nat.le_of_ble_eq_true rfl) ?_
  intro p e s m below meth c A ls C0 hnm hP hD hS hA hX hl
  have C0 : nz_Cx p s m _ meth c b_NF_alive 4 (some .int) R_NF D cB cI cJ := C0
  obtain ⟨hx, hb, hr, hml, hown, hts, hlk, hK⟩ := id C0
  have hl : lv_has ls 4 [(0, .ref o0), (1, .int p0), (2, .int p1), (3, .int p2)] := hl
  refine lv_aload_n hx hb d_NF_alive_0 rfl (lv_at hl 0 rfl) ?_
  refine lv_iload_n hx hb d_NF_alive_1 rfl (lv_at hl 1 rfl) ?_
  refine nz_calVi (As := [.int p0]) (rest := []) C0 (c_NF_isPerson l D cB cI cJ o0 p0 o1 o2 o3 o4 o5 o6 o7 o8 o9 o10 u1 u2 u3 u4 u5 u41 u42 u43 u44 u45 u46 u47 u48 u49) g_NF_104 rfl nz_xb0 (by decide) hl.1 hP hD hS hA [0, 1, 2] [] rfl (wr := []) rfl (by decide) (by decide) (by decide) rfl rfl (fun _ _ _ => trivial) rfl (Nat.le_of_ble_eq_true rfl) d_NF_alive_2 (by decide) (fun r_1 u H locs h_2 hP hD hS => ?_)
  obtain ⟨h_2_r, rfl⟩ := h_2
  have hP : va_P D nz_cl [(o0, .inr (11, [.ref o1, .int 0, .ref o2, .ref o3, .ref o4, .ref o5, .ref o6, .ref o7, .ref o8, .ref o9, .ref o10])), (o2, .inr (3, [.ref u1, .ref u2, .ref u3, .ref u4, .ref u5])), (u4, .inr (5, [.int 0, .int 0, .ref u41, .ref u42, .ref u43, .ref u44, .ref u45, .ref u46, .ref u47, .ref u48, .ref u49]))] H := hP
  have hD : va_D A [(o0, .inr (11, [.ref o1, .int 0, .ref o2, .ref o3, .ref o4, .ref o5, .ref o6, .ref o7, .ref o8, .ref o9, .ref o10])), (o2, .inr (3, [.ref u1, .ref u2, .ref u3, .ref u4, .ref u5])), (u4, .inr (5, [.int 0, .int 0, .ref u41, .ref u42, .ref u43, .ref u44, .ref u45, .ref u46, .ref u47, .ref u48, .ref u49]))] := hD
  subst h_2_r
  refine lv_if_eq (tgt := 15) hx hb d_NF_alive_5 (by decide) (fun c_3 => ?_) (fun c_3 => absurd (by decide +kernel) c_3)
  refine lv_iconst (v := (-1)) hx hb d_NF_alive_15 (by decide +kernel) ?_
  exact nz_reti C0 (hP.sub (ws' := [(o0, .inr (11, [.ref o1, .int 0, .ref o2, .ref o3, .ref o4, .ref o5, .ref o6, .ref o7, .ref o8, .ref o9, .ref o10])), (o2, .inr (3, [.ref u1, .ref u2, .ref u3, .ref u4, .ref u5])), (u4, .inr (5, [.int 0, .int 0, .ref u41, .ref u42, .ref u43, .ref u44, .ref u45, .ref u46, .ref u47, .ref u48, .ref u49]))]) [0, 1, 2] rfl) (hD.sub (ws' := [(o0, .inr (11, [.ref o1, .int 0, .ref o2, .ref o3, .ref o4, .ref o5, .ref o6, .ref o7, .ref o8, .ref o9, .ref o10])), (o2, .inr (3, [.ref u1, .ref u2, .ref u3, .ref u4, .ref u5])), (u4, .inr (5, [.int 0, .int 0, .ref u41, .ref u42, .ref u43, .ref u44, .ref u45, .ref u46, .ref u47, .ref u48, .ref u49]))]) [0, 1, 2] (by decide) rfl) hS ⟨rfl, rfl⟩ d_NF_alive_16
set_option maxHeartbeats 4000000 in
set_option maxRecDepth 100000 in
theorem c_NF_apart (l : Launch) (D : va_G) (cB cI cJ : ClassId) (o0 : Nat) (p0 : Int32) (p1 : Int32) (o1 : Nat) (o2 : Nat) (o3 : Nat) (o4 : Nat) (o5 : Nat) (o6 : Nat) (o7 : Nat) (o8 : Nat) (o9 : Nat) (o10 : Nat) (u1 : Nat) (u2 : Nat) (u3 : Nat) (u4 : Nat) (u5 : Nat) (u31 : Nat) (u32 : Nat) : nz_Ci l D cB cI cJ nz_x0 y_NF_apart b_NF_apart 3 (some .int) { frames := 1, cells := 0, slots := 0, locals := 21 } [.ref o0, .int p0, .int p1] [(o0, .inr (11, [.ref o1, .int 0, .ref o2, .ref o3, .ref o4, .ref o5, .ref o6, .ref o7, .ref o8, .ref o9, .ref o10])), (o2, .inr (3, [.ref u1, .ref u2, .ref u3, .ref u4, .ref u5])), (u3, .inr (10, [.int 0, .ref u31, .ref u32]))] (fun r w => r = (-1) ∧ w = [(o0, .inr (11, [.ref o1, .int 0, .ref o2, .ref o3, .ref o4, .ref o5, .ref o6, .ref o7, .ref o8, .ref o9, .ref o10])), (o2, .inr (3, [.ref u1, .ref u2, .ref u3, .ref u4, .ref u5])), (u3, .inr (10, [.int 0, .ref u31, .ref u32]))]) := by
  refine nz_Ci.mk (by decide) (Nat.le_of_ble_eq_true rfl) ?_
  intro p e s m below meth c A ls C0 hnm hP hD hS hA hX hl
  have C0 : nz_Cx p s m _ meth c b_NF_apart 3 (some .int) R_NF D cB cI cJ := C0
  obtain ⟨hx, hb, hr, hml, hown, hts, hlk, hK⟩ := id C0
  have hl : lv_has ls 3 [(0, .ref o0), (1, .int p0), (2, .int p1)] := hl
  refine lv_aload_n hx hb d_NF_apart_0 rfl (lv_at hl 0 rfl) ?_
  refine lv_iload_n hx hb d_NF_apart_1 rfl (lv_at hl 1 rfl) ?_
  refine nz_calVi (As := [.int p0]) (rest := []) C0 (c_NF_isWord l D cB cI cJ o0 p0 o1 o2 o3 o4 o5 o6 o7 o8 o9 o10 u1 u2 u3 u4 u5 u31 u32) g_NF_138 rfl nz_xb0 (by decide) hl.1 hP hD hS hA [0, 1, 2] [] rfl (wr := []) rfl (by decide) (by decide) (by decide) rfl rfl (fun _ _ _ => trivial) rfl (Nat.le_of_ble_eq_true rfl) d_NF_apart_2 (by decide) (fun r_1 u H locs h_2 hP hD hS => ?_)
  obtain ⟨h_2_r, rfl⟩ := h_2
  have hP : va_P D nz_cl [(o0, .inr (11, [.ref o1, .int 0, .ref o2, .ref o3, .ref o4, .ref o5, .ref o6, .ref o7, .ref o8, .ref o9, .ref o10])), (o2, .inr (3, [.ref u1, .ref u2, .ref u3, .ref u4, .ref u5])), (u3, .inr (10, [.int 0, .ref u31, .ref u32]))] H := hP
  have hD : va_D A [(o0, .inr (11, [.ref o1, .int 0, .ref o2, .ref o3, .ref o4, .ref o5, .ref o6, .ref o7, .ref o8, .ref o9, .ref o10])), (o2, .inr (3, [.ref u1, .ref u2, .ref u3, .ref u4, .ref u5])), (u3, .inr (10, [.int 0, .ref u31, .ref u32]))] := hD
  subst h_2_r
  refine lv_if_eq (tgt := 16) hx hb d_NF_apart_5 (by decide) (fun c_3 => ?_) (fun c_3 => absurd (by decide +kernel) c_3)
  refine lv_iconst (v := (-1)) hx hb d_NF_apart_16 (by decide +kernel) ?_
  exact nz_reti C0 (hP.sub (ws' := [(o0, .inr (11, [.ref o1, .int 0, .ref o2, .ref o3, .ref o4, .ref o5, .ref o6, .ref o7, .ref o8, .ref o9, .ref o10])), (o2, .inr (3, [.ref u1, .ref u2, .ref u3, .ref u4, .ref u5])), (u3, .inr (10, [.int 0, .ref u31, .ref u32]))]) [0, 1, 2] rfl) (hD.sub (ws' := [(o0, .inr (11, [.ref o1, .int 0, .ref o2, .ref o3, .ref o4, .ref o5, .ref o6, .ref o7, .ref o8, .ref o9, .ref o10])), (o2, .inr (3, [.ref u1, .ref u2, .ref u3, .ref u4, .ref u5])), (u3, .inr (10, [.int 0, .ref u31, .ref u32]))]) [0, 1, 2] (by decide) rfl) hS ⟨rfl, rfl⟩ d_NF_apart_17
set_option maxHeartbeats 4000000 in
set_option maxRecDepth 100000 in
theorem c_NF_near (l : Launch) (D : va_G) (cB cI cJ : ClassId) (o0 : Nat) (p0 : Int32) (p1 : Int32) (o1 : Nat) (o2 : Nat) (o3 : Nat) (o4 : Nat) (o5 : Nat) (o6 : Nat) (o7 : Nat) (o8 : Nat) (o9 : Nat) (o10 : Nat) (u1 : Nat) (u2 : Nat) (u3 : Nat) (u4 : Nat) (u5 : Nat) (u41 : Nat) (u42 : Nat) (u43 : Nat) (u44 : Nat) (u45 : Nat) (u46 : Nat) (u47 : Nat) (u48 : Nat) (u49 : Nat) : nz_Ci l D cB cI cJ nz_x0 y_NF_near b_NF_near 3 (some .int) { frames := 1, cells := 0, slots := 0, locals := 21 } [.ref o0, .int p0, .int p1] [(o0, .inr (11, [.ref o1, .int 0, .ref o2, .ref o3, .ref o4, .ref o5, .ref o6, .ref o7, .ref o8, .ref o9, .ref o10])), (o2, .inr (3, [.ref u1, .ref u2, .ref u3, .ref u4, .ref u5])), (u4, .inr (5, [.int 0, .int 0, .ref u41, .ref u42, .ref u43, .ref u44, .ref u45, .ref u46, .ref u47, .ref u48, .ref u49]))] (fun r w => r = (-1) ∧ w = [(o0, .inr (11, [.ref o1, .int 0, .ref o2, .ref o3, .ref o4, .ref o5, .ref o6, .ref o7, .ref o8, .ref o9, .ref o10])), (o2, .inr (3, [.ref u1, .ref u2, .ref u3, .ref u4, .ref u5])), (u4, .inr (5, [.int 0, .int 0, .ref u41, .ref u42, .ref u43, .ref u44, .ref u45, .ref u46, .ref u47, .ref u48, .ref u49]))]) := by
  refine nz_Ci.mk (by decide) (Nat.le_of_ble_eq_true rfl) ?_
  intro p e s m below meth c A ls C0 hnm hP hD hS hA hX hl
  have C0 : nz_Cx p s m _ meth c b_NF_near 3 (some .int) R_NF D cB cI cJ := C0
  obtain ⟨hx, hb, hr, hml, hown, hts, hlk, hK⟩ := id C0
  have hl : lv_has ls 3 [(0, .ref o0), (1, .int p0), (2, .int p1)] := hl
  refine lv_aload_n hx hb d_NF_near_0 rfl (lv_at hl 0 rfl) ?_
  refine lv_iload_n hx hb d_NF_near_1 rfl (lv_at hl 1 rfl) ?_
  refine nz_calVi (As := [.int p0]) (rest := []) C0 (c_NF_isPerson l D cB cI cJ o0 p0 o1 o2 o3 o4 o5 o6 o7 o8 o9 o10 u1 u2 u3 u4 u5 u41 u42 u43 u44 u45 u46 u47 u48 u49) g_NF_104 rfl nz_xb0 (by decide) hl.1 hP hD hS hA [0, 1, 2] [] rfl (wr := []) rfl (by decide) (by decide) (by decide) rfl rfl (fun _ _ _ => trivial) rfl (Nat.le_of_ble_eq_true rfl) d_NF_near_2 (by decide) (fun r_1 u H locs h_2 hP hD hS => ?_)
  obtain ⟨h_2_r, rfl⟩ := h_2
  have hP : va_P D nz_cl [(o0, .inr (11, [.ref o1, .int 0, .ref o2, .ref o3, .ref o4, .ref o5, .ref o6, .ref o7, .ref o8, .ref o9, .ref o10])), (o2, .inr (3, [.ref u1, .ref u2, .ref u3, .ref u4, .ref u5])), (u4, .inr (5, [.int 0, .int 0, .ref u41, .ref u42, .ref u43, .ref u44, .ref u45, .ref u46, .ref u47, .ref u48, .ref u49]))] H := hP
  have hD : va_D A [(o0, .inr (11, [.ref o1, .int 0, .ref o2, .ref o3, .ref o4, .ref o5, .ref o6, .ref o7, .ref o8, .ref o9, .ref o10])), (o2, .inr (3, [.ref u1, .ref u2, .ref u3, .ref u4, .ref u5])), (u4, .inr (5, [.int 0, .int 0, .ref u41, .ref u42, .ref u43, .ref u44, .ref u45, .ref u46, .ref u47, .ref u48, .ref u49]))] := hD
  subst h_2_r
  refine lv_if_eq (tgt := 16) hx hb d_NF_near_5 (by decide) (fun c_3 => ?_) (fun c_3 => absurd (by decide +kernel) c_3)
  refine lv_iconst (v := (-1)) hx hb d_NF_near_16 (by decide +kernel) ?_
  exact nz_reti C0 (hP.sub (ws' := [(o0, .inr (11, [.ref o1, .int 0, .ref o2, .ref o3, .ref o4, .ref o5, .ref o6, .ref o7, .ref o8, .ref o9, .ref o10])), (o2, .inr (3, [.ref u1, .ref u2, .ref u3, .ref u4, .ref u5])), (u4, .inr (5, [.int 0, .int 0, .ref u41, .ref u42, .ref u43, .ref u44, .ref u45, .ref u46, .ref u47, .ref u48, .ref u49]))]) [0, 1, 2] rfl) (hD.sub (ws' := [(o0, .inr (11, [.ref o1, .int 0, .ref o2, .ref o3, .ref o4, .ref o5, .ref o6, .ref o7, .ref o8, .ref o9, .ref o10])), (o2, .inr (3, [.ref u1, .ref u2, .ref u3, .ref u4, .ref u5])), (u4, .inr (5, [.int 0, .int 0, .ref u41, .ref u42, .ref u43, .ref u44, .ref u45, .ref u46, .ref u47, .ref u48, .ref u49]))]) [0, 1, 2] (by decide) rfl) hS ⟨rfl, rfl⟩ d_NF_near_17
set_option maxHeartbeats 4000000 in
set_option maxRecDepth 100000 in
theorem c_NF_may (l : Launch) (D : va_G) (cB cI cJ : ClassId) (o0 : Nat) (p0 : Int32) (p1 : Int32) (p2 : Int32) (p3 : Int32) (p4 : Int32) (o1 : Nat) (o2 : Nat) (o3 : Nat) (o4 : Nat) (o5 : Nat) (o6 : Nat) (o7 : Nat) (o8 : Nat) (o9 : Nat) (o10 : Nat) (u1 : Nat) (u2 : Nat) (u3 : Nat) (u4 : Nat) (u5 : Nat) (u31 : Nat) (u32 : Nat) : nz_Ci l D cB cI cJ nz_x0 y_NF_may b_NF_may 6 (some .int) { frames := 1, cells := 0, slots := 0, locals := 21 } [.ref o0, .int p0, .int p1, .int p2, .int p3, .int p4] [(o0, .inr (11, [.ref o1, .int 0, .ref o2, .ref o3, .ref o4, .ref o5, .ref o6, .ref o7, .ref o8, .ref o9, .ref o10])), (o2, .inr (3, [.ref u1, .ref u2, .ref u3, .ref u4, .ref u5])), (u3, .inr (10, [.int 0, .ref u31, .ref u32]))] (fun r w => r = (-1) ∧ w = [(o0, .inr (11, [.ref o1, .int 0, .ref o2, .ref o3, .ref o4, .ref o5, .ref o6, .ref o7, .ref o8, .ref o9, .ref o10])), (o2, .inr (3, [.ref u1, .ref u2, .ref u3, .ref u4, .ref u5])), (u3, .inr (10, [.int 0, .ref u31, .ref u32]))]) := by
  refine nz_Ci.mk (by decide) (Nat.le_of_ble_eq_true rfl) ?_
  intro p e s m below meth c A ls C0 hnm hP hD hS hA hX hl
  have C0 : nz_Cx p s m _ meth c b_NF_may 6 (some .int) R_NF D cB cI cJ := C0
  obtain ⟨hx, hb, hr, hml, hown, hts, hlk, hK⟩ := id C0
  have hl : lv_has ls 6 [(0, .ref o0), (1, .int p0), (2, .int p1), (3, .int p2), (4, .int p3), (5, .int p4)] := hl
  refine lv_aload_n hx hb d_NF_may_0 rfl (lv_at hl 0 rfl) ?_
  refine lv_iload_n hx hb d_NF_may_1 rfl (lv_at hl 3 rfl) ?_
  refine nz_calVi (As := [.int p2]) (rest := []) C0 (c_NF_isWord l D cB cI cJ o0 p2 o1 o2 o3 o4 o5 o6 o7 o8 o9 o10 u1 u2 u3 u4 u5 u31 u32) g_NF_138 rfl nz_xb0 (by decide) hl.1 hP hD hS hA [0, 1, 2] [] rfl (wr := []) rfl (by decide) (by decide) (by decide) rfl rfl (fun _ _ _ => trivial) rfl (Nat.le_of_ble_eq_true rfl) d_NF_may_2 (by decide) (fun r_1 u H locs h_2 hP hD hS => ?_)
  obtain ⟨h_2_r, rfl⟩ := h_2
  have hP : va_P D nz_cl [(o0, .inr (11, [.ref o1, .int 0, .ref o2, .ref o3, .ref o4, .ref o5, .ref o6, .ref o7, .ref o8, .ref o9, .ref o10])), (o2, .inr (3, [.ref u1, .ref u2, .ref u3, .ref u4, .ref u5])), (u3, .inr (10, [.int 0, .ref u31, .ref u32]))] H := hP
  have hD : va_D A [(o0, .inr (11, [.ref o1, .int 0, .ref o2, .ref o3, .ref o4, .ref o5, .ref o6, .ref o7, .ref o8, .ref o9, .ref o10])), (o2, .inr (3, [.ref u1, .ref u2, .ref u3, .ref u4, .ref u5])), (u3, .inr (10, [.int 0, .ref u31, .ref u32]))] := hD
  subst h_2_r
  refine lv_if_eq (tgt := 21) hx hb d_NF_may_5 (by decide) (fun c_3 => ?_) (fun c_3 => absurd (by decide +kernel) c_3)
  refine lv_iconst (v := (-1)) hx hb d_NF_may_21 (by decide +kernel) ?_
  exact nz_reti C0 (hP.sub (ws' := [(o0, .inr (11, [.ref o1, .int 0, .ref o2, .ref o3, .ref o4, .ref o5, .ref o6, .ref o7, .ref o8, .ref o9, .ref o10])), (o2, .inr (3, [.ref u1, .ref u2, .ref u3, .ref u4, .ref u5])), (u3, .inr (10, [.int 0, .ref u31, .ref u32]))]) [0, 1, 2] rfl) (hD.sub (ws' := [(o0, .inr (11, [.ref o1, .int 0, .ref o2, .ref o3, .ref o4, .ref o5, .ref o6, .ref o7, .ref o8, .ref o9, .ref o10])), (o2, .inr (3, [.ref u1, .ref u2, .ref u3, .ref u4, .ref u5])), (u3, .inr (10, [.int 0, .ref u31, .ref u32]))]) [0, 1, 2] (by decide) rfl) hS ⟨rfl, rfl⟩ d_NF_may_22
set_option maxHeartbeats 4000000 in
set_option maxRecDepth 100000 in
theorem c_NF_instead (l : Launch) (D : va_G) (cB cI cJ : ClassId) (o0 : Nat) (p0 : Int32) (p1 : Int32) (p2 : Int32) (p3 : Int32) (p4 : Int32) (o1 : Nat) (o2 : Nat) (o3 : Nat) (o4 : Nat) (o5 : Nat) (o6 : Nat) (o7 : Nat) (o8 : Nat) (o9 : Nat) (o10 : Nat) (u1 : Nat) (u2 : Nat) (u3 : Nat) (u4 : Nat) (u5 : Nat) (u21 : Nat) (u22 : Nat) (u23 : Nat) (u24 : Nat) : nz_Ci l D cB cI cJ nz_x0 y_NF_instead b_NF_instead 6 (some .int) { frames := 1, cells := 0, slots := 0, locals := 21 } [.ref o0, .int p0, .int p1, .int p2, .int p3, .int p4] [(o0, .inr (11, [.ref o1, .int 0, .ref o2, .ref o3, .ref o4, .ref o5, .ref o6, .ref o7, .ref o8, .ref o9, .ref o10])), (o2, .inr (3, [.ref u1, .ref u2, .ref u3, .ref u4, .ref u5])), (u2, .inr (4, [.int 0, .ref u21, .int 0, .ref u22, .ref u23, .ref u24]))] (fun r w => r = (-1) ∧ w = [(o0, .inr (11, [.ref o1, .int 0, .ref o2, .ref o3, .ref o4, .ref o5, .ref o6, .ref o7, .ref o8, .ref o9, .ref o10])), (o2, .inr (3, [.ref u1, .ref u2, .ref u3, .ref u4, .ref u5])), (u2, .inr (4, [.int 0, .ref u21, .int 0, .ref u22, .ref u23, .ref u24]))]) := by
  refine nz_Ci.mk (by decide) (Nat.le_of_ble_eq_true rfl) ?_
  intro p e s m below meth c A ls C0 hnm hP hD hS hA hX hl
  have C0 : nz_Cx p s m _ meth c b_NF_instead 6 (some .int) R_NF D cB cI cJ := C0
  obtain ⟨hx, hb, hr, hml, hown, hts, hlk, hK⟩ := id C0
  have hl : lv_has ls 6 [(0, .ref o0), (1, .int p0), (2, .int p1), (3, .int p2), (4, .int p3), (5, .int p4)] := hl
  refine lv_aload_n hx hb d_NF_instead_0 rfl (lv_at hl 0 rfl) ?_
  refine lv_iload_n hx hb d_NF_instead_1 rfl (lv_at hl 3 rfl) ?_
  refine nz_calVi (As := [.int p2]) (rest := []) C0 (c_NF_isMeaning l D cB cI cJ o0 p2 o1 o2 o3 o4 o5 o6 o7 o8 o9 o10 u1 u2 u3 u4 u5 u21 u22 u23 u24) g_NF_176 rfl nz_xb0 (by decide) hl.1 hP hD hS hA [0, 1, 2] [] rfl (wr := []) rfl (by decide) (by decide) (by decide) rfl rfl (fun _ _ _ => trivial) rfl (Nat.le_of_ble_eq_true rfl) d_NF_instead_2 (by decide) (fun r_1 u H locs h_2 hP hD hS => ?_)
  obtain ⟨h_2_r, rfl⟩ := h_2
  have hP : va_P D nz_cl [(o0, .inr (11, [.ref o1, .int 0, .ref o2, .ref o3, .ref o4, .ref o5, .ref o6, .ref o7, .ref o8, .ref o9, .ref o10])), (o2, .inr (3, [.ref u1, .ref u2, .ref u3, .ref u4, .ref u5])), (u2, .inr (4, [.int 0, .ref u21, .int 0, .ref u22, .ref u23, .ref u24]))] H := hP
  have hD : va_D A [(o0, .inr (11, [.ref o1, .int 0, .ref o2, .ref o3, .ref o4, .ref o5, .ref o6, .ref o7, .ref o8, .ref o9, .ref o10])), (o2, .inr (3, [.ref u1, .ref u2, .ref u3, .ref u4, .ref u5])), (u2, .inr (4, [.int 0, .ref u21, .int 0, .ref u22, .ref u23, .ref u24]))] := hD
  subst h_2_r
  refine lv_if_eq (tgt := 21) hx hb d_NF_instead_5 (by decide) (fun c_3 => ?_) (fun c_3 => absurd (by decide +kernel) c_3)
  refine lv_iconst (v := (-1)) hx hb d_NF_instead_21 (by decide +kernel) ?_
  exact nz_reti C0 (hP.sub (ws' := [(o0, .inr (11, [.ref o1, .int 0, .ref o2, .ref o3, .ref o4, .ref o5, .ref o6, .ref o7, .ref o8, .ref o9, .ref o10])), (o2, .inr (3, [.ref u1, .ref u2, .ref u3, .ref u4, .ref u5])), (u2, .inr (4, [.int 0, .ref u21, .int 0, .ref u22, .ref u23, .ref u24]))]) [0, 1, 2] rfl) (hD.sub (ws' := [(o0, .inr (11, [.ref o1, .int 0, .ref o2, .ref o3, .ref o4, .ref o5, .ref o6, .ref o7, .ref o8, .ref o9, .ref o10])), (o2, .inr (3, [.ref u1, .ref u2, .ref u3, .ref u4, .ref u5])), (u2, .inr (4, [.int 0, .ref u21, .int 0, .ref u22, .ref u23, .ref u24]))]) [0, 1, 2] (by decide) rfl) hS ⟨rfl, rfl⟩ d_NF_instead_22
set_option maxHeartbeats 4000000 in
set_option maxRecDepth 100000 in
theorem c_NF_cost (l : Launch) (D : va_G) (cB cI cJ : ClassId) (o0 : Nat) (p0 : Int32) (p1 : Int32) (p2 : Int32) (p3 : Int32) (p4 : Int32) (o1 : Nat) (o2 : Nat) (o3 : Nat) (o4 : Nat) (o5 : Nat) (o6 : Nat) (o7 : Nat) (o8 : Nat) (o9 : Nat) (o10 : Nat) (u1 : Nat) (u2 : Nat) (u3 : Nat) (u4 : Nat) (u5 : Nat) (u21 : Nat) (u22 : Nat) (u23 : Nat) (u24 : Nat) : nz_Ci l D cB cI cJ nz_x0 y_NF_cost b_NF_cost 6 (some .int) { frames := 1, cells := 0, slots := 0, locals := 21 } [.ref o0, .int p0, .int p1, .int p2, .int p3, .int p4] [(o0, .inr (11, [.ref o1, .int 0, .ref o2, .ref o3, .ref o4, .ref o5, .ref o6, .ref o7, .ref o8, .ref o9, .ref o10])), (o2, .inr (3, [.ref u1, .ref u2, .ref u3, .ref u4, .ref u5])), (u2, .inr (4, [.int 0, .ref u21, .int 0, .ref u22, .ref u23, .ref u24]))] (fun r w => r = (-1) ∧ w = [(o0, .inr (11, [.ref o1, .int 0, .ref o2, .ref o3, .ref o4, .ref o5, .ref o6, .ref o7, .ref o8, .ref o9, .ref o10])), (o2, .inr (3, [.ref u1, .ref u2, .ref u3, .ref u4, .ref u5])), (u2, .inr (4, [.int 0, .ref u21, .int 0, .ref u22, .ref u23, .ref u24]))]) := by
  refine nz_Ci.mk (by decide) (Nat.le_of_ble_eq_true rfl) ?_
  intro p e s m below meth c A ls C0 hnm hP hD hS hA hX hl
  have C0 : nz_Cx p s m _ meth c b_NF_cost 6 (some .int) R_NF D cB cI cJ := C0
  obtain ⟨hx, hb, hr, hml, hown, hts, hlk, hK⟩ := id C0
  have hl : lv_has ls 6 [(0, .ref o0), (1, .int p0), (2, .int p1), (3, .int p2), (4, .int p3), (5, .int p4)] := hl
  refine lv_aload_n hx hb d_NF_cost_0 rfl (lv_at hl 0 rfl) ?_
  refine lv_iload_n hx hb d_NF_cost_1 rfl (lv_at hl 3 rfl) ?_
  refine nz_calVi (As := [.int p2]) (rest := []) C0 (c_NF_isMeaning l D cB cI cJ o0 p2 o1 o2 o3 o4 o5 o6 o7 o8 o9 o10 u1 u2 u3 u4 u5 u21 u22 u23 u24) g_NF_176 rfl nz_xb0 (by decide) hl.1 hP hD hS hA [0, 1, 2] [] rfl (wr := []) rfl (by decide) (by decide) (by decide) rfl rfl (fun _ _ _ => trivial) rfl (Nat.le_of_ble_eq_true rfl) d_NF_cost_2 (by decide) (fun r_1 u H locs h_2 hP hD hS => ?_)
  obtain ⟨h_2_r, rfl⟩ := h_2
  have hP : va_P D nz_cl [(o0, .inr (11, [.ref o1, .int 0, .ref o2, .ref o3, .ref o4, .ref o5, .ref o6, .ref o7, .ref o8, .ref o9, .ref o10])), (o2, .inr (3, [.ref u1, .ref u2, .ref u3, .ref u4, .ref u5])), (u2, .inr (4, [.int 0, .ref u21, .int 0, .ref u22, .ref u23, .ref u24]))] H := hP
  have hD : va_D A [(o0, .inr (11, [.ref o1, .int 0, .ref o2, .ref o3, .ref o4, .ref o5, .ref o6, .ref o7, .ref o8, .ref o9, .ref o10])), (o2, .inr (3, [.ref u1, .ref u2, .ref u3, .ref u4, .ref u5])), (u2, .inr (4, [.int 0, .ref u21, .int 0, .ref u22, .ref u23, .ref u24]))] := hD
  subst h_2_r
  refine lv_if_eq (tgt := 21) hx hb d_NF_cost_5 (by decide) (fun c_3 => ?_) (fun c_3 => absurd (by decide +kernel) c_3)
  refine lv_iconst (v := (-1)) hx hb d_NF_cost_21 (by decide +kernel) ?_
  exact nz_reti C0 (hP.sub (ws' := [(o0, .inr (11, [.ref o1, .int 0, .ref o2, .ref o3, .ref o4, .ref o5, .ref o6, .ref o7, .ref o8, .ref o9, .ref o10])), (o2, .inr (3, [.ref u1, .ref u2, .ref u3, .ref u4, .ref u5])), (u2, .inr (4, [.int 0, .ref u21, .int 0, .ref u22, .ref u23, .ref u24]))]) [0, 1, 2] rfl) (hD.sub (ws' := [(o0, .inr (11, [.ref o1, .int 0, .ref o2, .ref o3, .ref o4, .ref o5, .ref o6, .ref o7, .ref o8, .ref o9, .ref o10])), (o2, .inr (3, [.ref u1, .ref u2, .ref u3, .ref u4, .ref u5])), (u2, .inr (4, [.int 0, .ref u21, .int 0, .ref u22, .ref u23, .ref u24]))]) [0, 1, 2] (by decide) rfl) hS ⟨rfl, rfl⟩ d_NF_cost_22
set_option maxHeartbeats 4000000 in
set_option maxRecDepth 100000 in
theorem c_NF_grasp (l : Launch) (D : va_G) (cB cI cJ : ClassId) (o0 : Nat) (p0 : Int32) (p1 : Int32) (p2 : Int32) (p3 : Int32) (o1 : Nat) (o2 : Nat) (o3 : Nat) (o4 : Nat) (o5 : Nat) (o6 : Nat) (o7 : Nat) (o8 : Nat) (o9 : Nat) (o10 : Nat) (u1 : Nat) (u2 : Nat) (u3 : Nat) (u4 : Nat) (u5 : Nat) (u41 : Nat) (u42 : Nat) (u43 : Nat) (u44 : Nat) (u45 : Nat) (u46 : Nat) (u47 : Nat) (u48 : Nat) (u49 : Nat) : nz_Ci l D cB cI cJ nz_x0 y_NF_grasp b_NF_grasp 5 (some .int) { frames := 2, cells := 0, slots := 0, locals := 45 } [.ref o0, .int p0, .int p1, .int p2, .int p3] [(o0, .inr (11, [.ref o1, .int 0, .ref o2, .ref o3, .ref o4, .ref o5, .ref o6, .ref o7, .ref o8, .ref o9, .ref o10])), (o2, .inr (3, [.ref u1, .ref u2, .ref u3, .ref u4, .ref u5])), (u4, .inr (5, [.int 0, .int 0, .ref u41, .ref u42, .ref u43, .ref u44, .ref u45, .ref u46, .ref u47, .ref u48, .ref u49]))] (fun r w => r = (-1) ∧ w = [(o0, .inr (11, [.ref o1, .int 0, .ref o2, .ref o3, .ref o4, .ref o5, .ref o6, .ref o7, .ref o8, .ref o9, .ref o10])), (o2, .inr (3, [.ref u1, .ref u2, .ref u3, .ref u4, .ref u5])), (u4, .inr (5, [.int 0, .int 0, .ref u41, .ref u42, .ref u43, .ref u44, .ref u45, .ref u46, .ref u47, .ref u48, .ref u49]))]) := by
  refine nz_Ci.mk (by decide) (Nat.le_of_ble_eq_true rfl) ?_
  intro p e s m below meth c A ls C0 hnm hP hD hS hA hX hl
  have C0 : nz_Cx p s m _ meth c b_NF_grasp 5 (some .int) R_NF D cB cI cJ := C0
  obtain ⟨hx, hb, hr, hml, hown, hts, hlk, hK⟩ := id C0
  have hl : lv_has ls 5 [(0, .ref o0), (1, .int p0), (2, .int p1), (3, .int p2), (4, .int p3)] := hl
  refine lv_aload_n hx hb d_NF_grasp_0 rfl (lv_at hl 0 rfl) ?_
  refine lv_iload_n hx hb d_NF_grasp_1 rfl (lv_at hl 1 rfl) ?_
  refine lv_iload_n hx hb d_NF_grasp_2 rfl (lv_at hl 2 rfl) ?_
  refine lv_iload_n hx hb d_NF_grasp_3 rfl (lv_at hl 3 rfl) ?_
  refine lv_iload hx hb d_NF_grasp_4 (lv_at hl 4 rfl) ?_
  refine nz_calVi (As := [.int p0, .int p1, .int p2, .int p3]) (rest := []) C0 (c_NF_canSpeak l D cB cI cJ o0 p0 p1 p2 p3 o1 o2 o3 o4 o5 o6 o7 o8 o9 o10 u1 u2 u3 u4 u5 u41 u42 u43 u44 u45 u46 u47 u48 u49) g_NF_161 rfl nz_xb0 (by decide) hl.1 hP hD hS hA [0, 1, 2] [] rfl (wr := []) rfl (by decide) (by decide) (by decide) rfl rfl (fun _ _ _ => trivial) rfl (Nat.le_of_ble_eq_true rfl) d_NF_grasp_6 (by decide) (fun r_1 u H locs h_2 hP hD hS => ?_)
  obtain ⟨h_2_r, rfl⟩ := h_2
  have hP : va_P D nz_cl [(o0, .inr (11, [.ref o1, .int 0, .ref o2, .ref o3, .ref o4, .ref o5, .ref o6, .ref o7, .ref o8, .ref o9, .ref o10])), (o2, .inr (3, [.ref u1, .ref u2, .ref u3, .ref u4, .ref u5])), (u4, .inr (5, [.int 0, .int 0, .ref u41, .ref u42, .ref u43, .ref u44, .ref u45, .ref u46, .ref u47, .ref u48, .ref u49]))] H := hP
  have hD : va_D A [(o0, .inr (11, [.ref o1, .int 0, .ref o2, .ref o3, .ref o4, .ref o5, .ref o6, .ref o7, .ref o8, .ref o9, .ref o10])), (o2, .inr (3, [.ref u1, .ref u2, .ref u3, .ref u4, .ref u5])), (u4, .inr (5, [.int 0, .int 0, .ref u41, .ref u42, .ref u43, .ref u44, .ref u45, .ref u46, .ref u47, .ref u48, .ref u49]))] := hD
  subst h_2_r
  refine lv_if_ne (tgt := 14) hx hb d_NF_grasp_9 (by decide) (fun c_3 => absurd c_3 (by decide +kernel)) (fun c_3 => ?_)
  refine lv_iconst (v := (-1)) hx hb d_NF_grasp_12 (by decide +kernel) ?_
  exact nz_reti C0 (hP.sub (ws' := [(o0, .inr (11, [.ref o1, .int 0, .ref o2, .ref o3, .ref o4, .ref o5, .ref o6, .ref o7, .ref o8, .ref o9, .ref o10])), (o2, .inr (3, [.ref u1, .ref u2, .ref u3, .ref u4, .ref u5])), (u4, .inr (5, [.int 0, .int 0, .ref u41, .ref u42, .ref u43, .ref u44, .ref u45, .ref u46, .ref u47, .ref u48, .ref u49]))]) [0, 1, 2] rfl) (hD.sub (ws' := [(o0, .inr (11, [.ref o1, .int 0, .ref o2, .ref o3, .ref o4, .ref o5, .ref o6, .ref o7, .ref o8, .ref o9, .ref o10])), (o2, .inr (3, [.ref u1, .ref u2, .ref u3, .ref u4, .ref u5])), (u4, .inr (5, [.int 0, .int 0, .ref u41, .ref u42, .ref u43, .ref u44, .ref u45, .ref u46, .ref u47, .ref u48, .ref u49]))]) [0, 1, 2] (by decide) rfl) hS ⟨rfl, rfl⟩ d_NF_grasp_13
set_option maxHeartbeats 4000000 in
set_option maxRecDepth 100000 in
theorem c_NF_today (l : Launch) (D : va_G) (cB cI cJ : ClassId) (o0 : Nat) (p0 : Int32) (p1 : Int32) (p2 : Int32) (p3 : Int32) (o1 : Nat) (o2 : Nat) (o3 : Nat) (o4 : Nat) (o5 : Nat) (o6 : Nat) (o7 : Nat) (o8 : Nat) (o9 : Nat) (o10 : Nat) (u1 : Nat) (u2 : Nat) (u3 : Nat) (u4 : Nat) (u5 : Nat) (u11 : Nat) (u12 : Nat) (u13 : Nat) (u14 : Nat) (u15 : Nat) (u16 : Nat) (u17 : Nat) : nz_Ci l D cB cI cJ nz_x0 y_NF_today b_NF_today 5 (some .int) { frames := 1, cells := 0, slots := 0, locals := 21 } [.ref o0, .int p0, .int p1, .int p2, .int p3] [(o0, .inr (11, [.ref o1, .int 0, .ref o2, .ref o3, .ref o4, .ref o5, .ref o6, .ref o7, .ref o8, .ref o9, .ref o10])), (o2, .inr (3, [.ref u1, .ref u2, .ref u3, .ref u4, .ref u5])), (u1, .inr (6, [.int 0, .ref u11, .ref u12, .ref u13, .ref u14, .ref u15, .ref u16, .ref u17]))] (fun r w => r = (-1) ∧ w = [(o0, .inr (11, [.ref o1, .int 0, .ref o2, .ref o3, .ref o4, .ref o5, .ref o6, .ref o7, .ref o8, .ref o9, .ref o10])), (o2, .inr (3, [.ref u1, .ref u2, .ref u3, .ref u4, .ref u5])), (u1, .inr (6, [.int 0, .ref u11, .ref u12, .ref u13, .ref u14, .ref u15, .ref u16, .ref u17]))]) := by
  refine nz_Ci.mk (by decide) (Nat.le_of_ble_eq_true rfl) ?_
  intro p e s m below meth c A ls C0 hnm hP hD hS hA hX hl
  have C0 : nz_Cx p s m _ meth c b_NF_today 5 (some .int) R_NF D cB cI cJ := C0
  obtain ⟨hx, hb, hr, hml, hown, hts, hlk, hK⟩ := id C0
  have hl : lv_has ls 5 [(0, .ref o0), (1, .int p0), (2, .int p1), (3, .int p2), (4, .int p3)] := hl
  refine lv_aload_n hx hb d_NF_today_0 rfl (lv_at hl 0 rfl) ?_
  refine lv_iload_n hx hb d_NF_today_1 rfl (lv_at hl 1 rfl) ?_
  refine nz_calVi (As := [.int p0]) (rest := []) C0 (c_NF_isPlace l D cB cI cJ o0 p0 o1 o2 o3 o4 o5 o6 o7 o8 o9 o10 u1 u2 u3 u4 u5 u11 u12 u13 u14 u15 u16 u17) g_NF_190 rfl nz_xb0 (by decide) hl.1 hP hD hS hA [0, 1, 2] [] rfl (wr := []) rfl (by decide) (by decide) (by decide) rfl rfl (fun _ _ _ => trivial) rfl (Nat.le_of_ble_eq_true rfl) d_NF_today_2 (by decide) (fun r_1 u H locs h_2 hP hD hS => ?_)
  obtain ⟨h_2_r, rfl⟩ := h_2
  have hP : va_P D nz_cl [(o0, .inr (11, [.ref o1, .int 0, .ref o2, .ref o3, .ref o4, .ref o5, .ref o6, .ref o7, .ref o8, .ref o9, .ref o10])), (o2, .inr (3, [.ref u1, .ref u2, .ref u3, .ref u4, .ref u5])), (u1, .inr (6, [.int 0, .ref u11, .ref u12, .ref u13, .ref u14, .ref u15, .ref u16, .ref u17]))] H := hP
  have hD : va_D A [(o0, .inr (11, [.ref o1, .int 0, .ref o2, .ref o3, .ref o4, .ref o5, .ref o6, .ref o7, .ref o8, .ref o9, .ref o10])), (o2, .inr (3, [.ref u1, .ref u2, .ref u3, .ref u4, .ref u5])), (u1, .inr (6, [.int 0, .ref u11, .ref u12, .ref u13, .ref u14, .ref u15, .ref u16, .ref u17]))] := hD
  subst h_2_r
  refine lv_if_eq (tgt := 23) hx hb d_NF_today_5 (by decide) (fun c_3 => ?_) (fun c_3 => absurd (by decide +kernel) c_3)
  refine lv_iconst (v := (-1)) hx hb d_NF_today_23 (by decide +kernel) ?_
  exact nz_reti C0 (hP.sub (ws' := [(o0, .inr (11, [.ref o1, .int 0, .ref o2, .ref o3, .ref o4, .ref o5, .ref o6, .ref o7, .ref o8, .ref o9, .ref o10])), (o2, .inr (3, [.ref u1, .ref u2, .ref u3, .ref u4, .ref u5])), (u1, .inr (6, [.int 0, .ref u11, .ref u12, .ref u13, .ref u14, .ref u15, .ref u16, .ref u17]))]) [0, 1, 2] rfl) (hD.sub (ws' := [(o0, .inr (11, [.ref o1, .int 0, .ref o2, .ref o3, .ref o4, .ref o5, .ref o6, .ref o7, .ref o8, .ref o9, .ref o10])), (o2, .inr (3, [.ref u1, .ref u2, .ref u3, .ref u4, .ref u5])), (u1, .inr (6, [.int 0, .ref u11, .ref u12, .ref u13, .ref u14, .ref u15, .ref u16, .ref u17]))]) [0, 1, 2] (by decide) rfl) hS ⟨rfl, rfl⟩ d_NF_today_24
set_option maxHeartbeats 4000000 in
set_option maxRecDepth 100000 in
theorem c_NF_parted (l : Launch) (D : va_G) (cB cI cJ : ClassId) (o0 : Nat) (p0 : Int32) (p1 : Int32) (p2 : Int32) (p3 : Int32) (o1 : Nat) (o2 : Nat) (o3 : Nat) (o4 : Nat) (o5 : Nat) (o6 : Nat) (o7 : Nat) (o8 : Nat) (o9 : Nat) (o10 : Nat) (u1 : Nat) (u2 : Nat) (u3 : Nat) (u4 : Nat) (u5 : Nat) (u11 : Nat) (u12 : Nat) (u13 : Nat) (u14 : Nat) (u15 : Nat) (u16 : Nat) (u17 : Nat) : nz_Ci l D cB cI cJ nz_x0 y_NF_parted b_NF_parted 11 (some .int) { frames := 1, cells := 0, slots := 0, locals := 21 } [.ref o0, .int p0, .int p1, .int p2, .int p3] [(o0, .inr (11, [.ref o1, .int 0, .ref o2, .ref o3, .ref o4, .ref o5, .ref o6, .ref o7, .ref o8, .ref o9, .ref o10])), (o2, .inr (3, [.ref u1, .ref u2, .ref u3, .ref u4, .ref u5])), (u1, .inr (6, [.int 0, .ref u11, .ref u12, .ref u13, .ref u14, .ref u15, .ref u16, .ref u17]))] (fun r w => r = (-1) ∧ w = [(o0, .inr (11, [.ref o1, .int 0, .ref o2, .ref o3, .ref o4, .ref o5, .ref o6, .ref o7, .ref o8, .ref o9, .ref o10])), (o2, .inr (3, [.ref u1, .ref u2, .ref u3, .ref u4, .ref u5])), (u1, .inr (6, [.int 0, .ref u11, .ref u12, .ref u13, .ref u14, .ref u15, .ref u16, .ref u17]))]) := by
  refine nz_Ci.mk (by decide) (Nat.le_of_ble_eq_true rfl) ?_
  intro p e s m below meth c A ls C0 hnm hP hD hS hA hX hl
  have C0 : nz_Cx p s m _ meth c b_NF_parted 11 (some .int) R_NF D cB cI cJ := C0
  obtain ⟨hx, hb, hr, hml, hown, hts, hlk, hK⟩ := id C0
  have hl : lv_has ls 11 [(0, .ref o0), (1, .int p0), (2, .int p1), (3, .int p2), (4, .int p3)] := hl
  refine lv_aload_n hx hb d_NF_parted_0 rfl (lv_at hl 0 rfl) ?_
  refine lv_iload_n hx hb d_NF_parted_1 rfl (lv_at hl 1 rfl) ?_
  refine nz_calVi (As := [.int p0]) (rest := []) C0 (c_NF_isPlace l D cB cI cJ o0 p0 o1 o2 o3 o4 o5 o6 o7 o8 o9 o10 u1 u2 u3 u4 u5 u11 u12 u13 u14 u15 u16 u17) g_NF_190 rfl nz_xb0 (by decide) hl.1 hP hD hS hA [0, 1, 2] [] rfl (wr := []) rfl (by decide) (by decide) (by decide) rfl rfl (fun _ _ _ => trivial) rfl (Nat.le_of_ble_eq_true rfl) d_NF_parted_2 (by decide) (fun r_1 u H locs h_2 hP hD hS => ?_)
  obtain ⟨h_2_r, rfl⟩ := h_2
  have hP : va_P D nz_cl [(o0, .inr (11, [.ref o1, .int 0, .ref o2, .ref o3, .ref o4, .ref o5, .ref o6, .ref o7, .ref o8, .ref o9, .ref o10])), (o2, .inr (3, [.ref u1, .ref u2, .ref u3, .ref u4, .ref u5])), (u1, .inr (6, [.int 0, .ref u11, .ref u12, .ref u13, .ref u14, .ref u15, .ref u16, .ref u17]))] H := hP
  have hD : va_D A [(o0, .inr (11, [.ref o1, .int 0, .ref o2, .ref o3, .ref o4, .ref o5, .ref o6, .ref o7, .ref o8, .ref o9, .ref o10])), (o2, .inr (3, [.ref u1, .ref u2, .ref u3, .ref u4, .ref u5])), (u1, .inr (6, [.int 0, .ref u11, .ref u12, .ref u13, .ref u14, .ref u15, .ref u16, .ref u17]))] := hD
  subst h_2_r
  refine lv_if_eq (tgt := 23) hx hb d_NF_parted_5 (by decide) (fun c_3 => ?_) (fun c_3 => absurd (by decide +kernel) c_3)
  refine lv_iconst (v := (-1)) hx hb d_NF_parted_23 (by decide +kernel) ?_
  exact nz_reti C0 (hP.sub (ws' := [(o0, .inr (11, [.ref o1, .int 0, .ref o2, .ref o3, .ref o4, .ref o5, .ref o6, .ref o7, .ref o8, .ref o9, .ref o10])), (o2, .inr (3, [.ref u1, .ref u2, .ref u3, .ref u4, .ref u5])), (u1, .inr (6, [.int 0, .ref u11, .ref u12, .ref u13, .ref u14, .ref u15, .ref u16, .ref u17]))]) [0, 1, 2] rfl) (hD.sub (ws' := [(o0, .inr (11, [.ref o1, .int 0, .ref o2, .ref o3, .ref o4, .ref o5, .ref o6, .ref o7, .ref o8, .ref o9, .ref o10])), (o2, .inr (3, [.ref u1, .ref u2, .ref u3, .ref u4, .ref u5])), (u1, .inr (6, [.int 0, .ref u11, .ref u12, .ref u13, .ref u14, .ref u15, .ref u16, .ref u17]))]) [0, 1, 2] (by decide) rfl) hS ⟨rfl, rfl⟩ d_NF_parted_24
set_option maxHeartbeats 4000000 in
set_option maxRecDepth 100000 in
theorem c_NF_changes (l : Launch) (D : va_G) (cB cI cJ : ClassId) (o0 : Nat) (p0 : Int32) (p1 : Int32) (p2 : Int32) (p3 : Int32) (p4 : Int32) (o1 : Nat) (o2 : Nat) (o3 : Nat) (o4 : Nat) (o5 : Nat) (o6 : Nat) (o7 : Nat) (o8 : Nat) (o9 : Nat) (o10 : Nat) (u1 : Nat) (u2 : Nat) (u3 : Nat) (u4 : Nat) (u5 : Nat) (u11 : Nat) (u12 : Nat) (u13 : Nat) (u14 : Nat) (u15 : Nat) (u16 : Nat) (u17 : Nat) : nz_Ci l D cB cI cJ nz_x0 y_NF_changes b_NF_changes 6 (some .int) { frames := 1, cells := 0, slots := 0, locals := 21 } [.ref o0, .int p0, .int p1, .int p2, .int p3, .int p4] [(o0, .inr (11, [.ref o1, .int 0, .ref o2, .ref o3, .ref o4, .ref o5, .ref o6, .ref o7, .ref o8, .ref o9, .ref o10])), (o2, .inr (3, [.ref u1, .ref u2, .ref u3, .ref u4, .ref u5])), (u1, .inr (6, [.int 0, .ref u11, .ref u12, .ref u13, .ref u14, .ref u15, .ref u16, .ref u17]))] (fun r w => r = (-1) ∧ w = [(o0, .inr (11, [.ref o1, .int 0, .ref o2, .ref o3, .ref o4, .ref o5, .ref o6, .ref o7, .ref o8, .ref o9, .ref o10])), (o2, .inr (3, [.ref u1, .ref u2, .ref u3, .ref u4, .ref u5])), (u1, .inr (6, [.int 0, .ref u11, .ref u12, .ref u13, .ref u14, .ref u15, .ref u16, .ref u17]))]) := by
  refine nz_Ci.mk (by decide) (Nat.le_of_ble_eq_true rfl) ?_
  intro p e s m below meth c A ls C0 hnm hP hD hS hA hX hl
  have C0 : nz_Cx p s m _ meth c b_NF_changes 6 (some .int) R_NF D cB cI cJ := C0
  obtain ⟨hx, hb, hr, hml, hown, hts, hlk, hK⟩ := id C0
  have hl : lv_has ls 6 [(0, .ref o0), (1, .int p0), (2, .int p1), (3, .int p2), (4, .int p3), (5, .int p4)] := hl
  refine lv_aload_n hx hb d_NF_changes_0 rfl (lv_at hl 0 rfl) ?_
  refine lv_iload_n hx hb d_NF_changes_1 rfl (lv_at hl 1 rfl) ?_
  refine nz_calVi (As := [.int p0]) (rest := []) C0 (c_NF_isPlace l D cB cI cJ o0 p0 o1 o2 o3 o4 o5 o6 o7 o8 o9 o10 u1 u2 u3 u4 u5 u11 u12 u13 u14 u15 u16 u17) g_NF_190 rfl nz_xb0 (by decide) hl.1 hP hD hS hA [0, 1, 2] [] rfl (wr := []) rfl (by decide) (by decide) (by decide) rfl rfl (fun _ _ _ => trivial) rfl (Nat.le_of_ble_eq_true rfl) d_NF_changes_2 (by decide) (fun r_1 u H locs h_2 hP hD hS => ?_)
  obtain ⟨h_2_r, rfl⟩ := h_2
  have hP : va_P D nz_cl [(o0, .inr (11, [.ref o1, .int 0, .ref o2, .ref o3, .ref o4, .ref o5, .ref o6, .ref o7, .ref o8, .ref o9, .ref o10])), (o2, .inr (3, [.ref u1, .ref u2, .ref u3, .ref u4, .ref u5])), (u1, .inr (6, [.int 0, .ref u11, .ref u12, .ref u13, .ref u14, .ref u15, .ref u16, .ref u17]))] H := hP
  have hD : va_D A [(o0, .inr (11, [.ref o1, .int 0, .ref o2, .ref o3, .ref o4, .ref o5, .ref o6, .ref o7, .ref o8, .ref o9, .ref o10])), (o2, .inr (3, [.ref u1, .ref u2, .ref u3, .ref u4, .ref u5])), (u1, .inr (6, [.int 0, .ref u11, .ref u12, .ref u13, .ref u14, .ref u15, .ref u16, .ref u17]))] := hD
  subst h_2_r
  refine lv_if_eq (tgt := 25) hx hb d_NF_changes_5 (by decide) (fun c_3 => ?_) (fun c_3 => absurd (by decide +kernel) c_3)
  refine lv_iconst (v := (-1)) hx hb d_NF_changes_25 (by decide +kernel) ?_
  exact nz_reti C0 (hP.sub (ws' := [(o0, .inr (11, [.ref o1, .int 0, .ref o2, .ref o3, .ref o4, .ref o5, .ref o6, .ref o7, .ref o8, .ref o9, .ref o10])), (o2, .inr (3, [.ref u1, .ref u2, .ref u3, .ref u4, .ref u5])), (u1, .inr (6, [.int 0, .ref u11, .ref u12, .ref u13, .ref u14, .ref u15, .ref u16, .ref u17]))]) [0, 1, 2] rfl) (hD.sub (ws' := [(o0, .inr (11, [.ref o1, .int 0, .ref o2, .ref o3, .ref o4, .ref o5, .ref o6, .ref o7, .ref o8, .ref o9, .ref o10])), (o2, .inr (3, [.ref u1, .ref u2, .ref u3, .ref u4, .ref u5])), (u1, .inr (6, [.int 0, .ref u11, .ref u12, .ref u13, .ref u14, .ref u15, .ref u16, .ref u17]))]) [0, 1, 2] (by decide) rfl) hS ⟨rfl, rfl⟩ d_NF_changes_26
set_option maxHeartbeats 4000000 in
set_option maxRecDepth 100000 in
theorem c_NF_renewed (l : Launch) (D : va_G) (cB cI cJ : ClassId) (o0 : Nat) (p0 : Int32) (p1 : Int32) (p2 : Int32) (p3 : Int32) (o1 : Nat) (o2 : Nat) (o3 : Nat) (o4 : Nat) (o5 : Nat) (o6 : Nat) (o7 : Nat) (o8 : Nat) (o9 : Nat) (o10 : Nat) (u1 : Nat) (u2 : Nat) (u3 : Nat) (u4 : Nat) (u5 : Nat) (u11 : Nat) (u12 : Nat) (u13 : Nat) (u14 : Nat) (u15 : Nat) (u16 : Nat) (u17 : Nat) : nz_Ci l D cB cI cJ nz_x0 y_NF_renewed b_NF_renewed 8 (some .int) { frames := 1, cells := 0, slots := 0, locals := 21 } [.ref o0, .int p0, .int p1, .int p2, .int p3] [(o0, .inr (11, [.ref o1, .int 0, .ref o2, .ref o3, .ref o4, .ref o5, .ref o6, .ref o7, .ref o8, .ref o9, .ref o10])), (o2, .inr (3, [.ref u1, .ref u2, .ref u3, .ref u4, .ref u5])), (u1, .inr (6, [.int 0, .ref u11, .ref u12, .ref u13, .ref u14, .ref u15, .ref u16, .ref u17]))] (fun r w => r = (-1) ∧ w = [(o0, .inr (11, [.ref o1, .int 0, .ref o2, .ref o3, .ref o4, .ref o5, .ref o6, .ref o7, .ref o8, .ref o9, .ref o10])), (o2, .inr (3, [.ref u1, .ref u2, .ref u3, .ref u4, .ref u5])), (u1, .inr (6, [.int 0, .ref u11, .ref u12, .ref u13, .ref u14, .ref u15, .ref u16, .ref u17]))]) := by
  refine nz_Ci.mk (by decide) (Nat.le_of_ble_eq_true rfl) ?_
  intro p e s m below meth c A ls C0 hnm hP hD hS hA hX hl
  have C0 : nz_Cx p s m _ meth c b_NF_renewed 8 (some .int) R_NF D cB cI cJ := C0
  obtain ⟨hx, hb, hr, hml, hown, hts, hlk, hK⟩ := id C0
  have hl : lv_has ls 8 [(0, .ref o0), (1, .int p0), (2, .int p1), (3, .int p2), (4, .int p3)] := hl
  refine lv_aload_n hx hb d_NF_renewed_0 rfl (lv_at hl 0 rfl) ?_
  refine lv_iload_n hx hb d_NF_renewed_1 rfl (lv_at hl 1 rfl) ?_
  refine nz_calVi (As := [.int p0]) (rest := []) C0 (c_NF_isPlace l D cB cI cJ o0 p0 o1 o2 o3 o4 o5 o6 o7 o8 o9 o10 u1 u2 u3 u4 u5 u11 u12 u13 u14 u15 u16 u17) g_NF_190 rfl nz_xb0 (by decide) hl.1 hP hD hS hA [0, 1, 2] [] rfl (wr := []) rfl (by decide) (by decide) (by decide) rfl rfl (fun _ _ _ => trivial) rfl (Nat.le_of_ble_eq_true rfl) d_NF_renewed_2 (by decide) (fun r_1 u H locs h_2 hP hD hS => ?_)
  obtain ⟨h_2_r, rfl⟩ := h_2
  have hP : va_P D nz_cl [(o0, .inr (11, [.ref o1, .int 0, .ref o2, .ref o3, .ref o4, .ref o5, .ref o6, .ref o7, .ref o8, .ref o9, .ref o10])), (o2, .inr (3, [.ref u1, .ref u2, .ref u3, .ref u4, .ref u5])), (u1, .inr (6, [.int 0, .ref u11, .ref u12, .ref u13, .ref u14, .ref u15, .ref u16, .ref u17]))] H := hP
  have hD : va_D A [(o0, .inr (11, [.ref o1, .int 0, .ref o2, .ref o3, .ref o4, .ref o5, .ref o6, .ref o7, .ref o8, .ref o9, .ref o10])), (o2, .inr (3, [.ref u1, .ref u2, .ref u3, .ref u4, .ref u5])), (u1, .inr (6, [.int 0, .ref u11, .ref u12, .ref u13, .ref u14, .ref u15, .ref u16, .ref u17]))] := hD
  subst h_2_r
  refine lv_if_eq (tgt := 16) hx hb d_NF_renewed_5 (by decide) (fun c_3 => ?_) (fun c_3 => absurd (by decide +kernel) c_3)
  refine lv_iconst (v := (-1)) hx hb d_NF_renewed_16 (by decide +kernel) ?_
  exact nz_reti C0 (hP.sub (ws' := [(o0, .inr (11, [.ref o1, .int 0, .ref o2, .ref o3, .ref o4, .ref o5, .ref o6, .ref o7, .ref o8, .ref o9, .ref o10])), (o2, .inr (3, [.ref u1, .ref u2, .ref u3, .ref u4, .ref u5])), (u1, .inr (6, [.int 0, .ref u11, .ref u12, .ref u13, .ref u14, .ref u15, .ref u16, .ref u17]))]) [0, 1, 2] rfl) (hD.sub (ws' := [(o0, .inr (11, [.ref o1, .int 0, .ref o2, .ref o3, .ref o4, .ref o5, .ref o6, .ref o7, .ref o8, .ref o9, .ref o10])), (o2, .inr (3, [.ref u1, .ref u2, .ref u3, .ref u4, .ref u5])), (u1, .inr (6, [.int 0, .ref u11, .ref u12, .ref u13, .ref u14, .ref u15, .ref u16, .ref u17]))]) [0, 1, 2] (by decide) rfl) hS ⟨rfl, rfl⟩ d_NF_renewed_17
set_option maxHeartbeats 4000000 in
set_option maxRecDepth 100000 in
theorem c_NF_tell (l : Launch) (D : va_G) (cB cI cJ : ClassId) (o0 : Nat) (p0 : Int32) (p1 : Int32) (p2 : Int32) (p3 : Int32) (p4 : Int32) (o1 : Nat) (o2 : Nat) (o3 : Nat) (o4 : Nat) (o5 : Nat) (o6 : Nat) (o7 : Nat) (o8 : Nat) (o9 : Nat) (o10 : Nat) (u1 : Nat) (u2 : Nat) (u3 : Nat) (u4 : Nat) (u5 : Nat) (u21 : Nat) (u22 : Nat) (u23 : Nat) (u24 : Nat) : nz_Ci l D cB cI cJ nz_x0 y_NF_tell b_NF_tell 6 (some .int) { frames := 1, cells := 0, slots := 0, locals := 21 } [.ref o0, .int p0, .int p1, .int p2, .int p3, .int p4] [(o0, .inr (11, [.ref o1, .int 0, .ref o2, .ref o3, .ref o4, .ref o5, .ref o6, .ref o7, .ref o8, .ref o9, .ref o10])), (o2, .inr (3, [.ref u1, .ref u2, .ref u3, .ref u4, .ref u5])), (u2, .inr (4, [.int 0, .ref u21, .int 0, .ref u22, .ref u23, .ref u24]))] (fun r w => r = (-1) ∧ w = [(o0, .inr (11, [.ref o1, .int 0, .ref o2, .ref o3, .ref o4, .ref o5, .ref o6, .ref o7, .ref o8, .ref o9, .ref o10])), (o2, .inr (3, [.ref u1, .ref u2, .ref u3, .ref u4, .ref u5])), (u2, .inr (4, [.int 0, .ref u21, .int 0, .ref u22, .ref u23, .ref u24]))]) := by
  refine nz_Ci.mk (by decide) (Nat.le_of_ble_eq_true rfl) ?_
  intro p e s m below meth c A ls C0 hnm hP hD hS hA hX hl
  have C0 : nz_Cx p s m _ meth c b_NF_tell 6 (some .int) R_NF D cB cI cJ := C0
  obtain ⟨hx, hb, hr, hml, hown, hts, hlk, hK⟩ := id C0
  have hl : lv_has ls 6 [(0, .ref o0), (1, .int p0), (2, .int p1), (3, .int p2), (4, .int p3), (5, .int p4)] := hl
  refine lv_aload_n hx hb d_NF_tell_0 rfl (lv_at hl 0 rfl) ?_
  refine lv_iload_n hx hb d_NF_tell_1 rfl (lv_at hl 3 rfl) ?_
  refine nz_calVi (As := [.int p2]) (rest := []) C0 (c_NF_isMeaning l D cB cI cJ o0 p2 o1 o2 o3 o4 o5 o6 o7 o8 o9 o10 u1 u2 u3 u4 u5 u21 u22 u23 u24) g_NF_176 rfl nz_xb0 (by decide) hl.1 hP hD hS hA [0, 1, 2] [] rfl (wr := []) rfl (by decide) (by decide) (by decide) rfl rfl (fun _ _ _ => trivial) rfl (Nat.le_of_ble_eq_true rfl) d_NF_tell_2 (by decide) (fun r_1 u H locs h_2 hP hD hS => ?_)
  obtain ⟨h_2_r, rfl⟩ := h_2
  have hP : va_P D nz_cl [(o0, .inr (11, [.ref o1, .int 0, .ref o2, .ref o3, .ref o4, .ref o5, .ref o6, .ref o7, .ref o8, .ref o9, .ref o10])), (o2, .inr (3, [.ref u1, .ref u2, .ref u3, .ref u4, .ref u5])), (u2, .inr (4, [.int 0, .ref u21, .int 0, .ref u22, .ref u23, .ref u24]))] H := hP
  have hD : va_D A [(o0, .inr (11, [.ref o1, .int 0, .ref o2, .ref o3, .ref o4, .ref o5, .ref o6, .ref o7, .ref o8, .ref o9, .ref o10])), (o2, .inr (3, [.ref u1, .ref u2, .ref u3, .ref u4, .ref u5])), (u2, .inr (4, [.int 0, .ref u21, .int 0, .ref u22, .ref u23, .ref u24]))] := hD
  subst h_2_r
  refine lv_if_eq (tgt := 21) hx hb d_NF_tell_5 (by decide) (fun c_3 => ?_) (fun c_3 => absurd (by decide +kernel) c_3)
  refine lv_iconst (v := (-1)) hx hb d_NF_tell_21 (by decide +kernel) ?_
  exact nz_reti C0 (hP.sub (ws' := [(o0, .inr (11, [.ref o1, .int 0, .ref o2, .ref o3, .ref o4, .ref o5, .ref o6, .ref o7, .ref o8, .ref o9, .ref o10])), (o2, .inr (3, [.ref u1, .ref u2, .ref u3, .ref u4, .ref u5])), (u2, .inr (4, [.int 0, .ref u21, .int 0, .ref u22, .ref u23, .ref u24]))]) [0, 1, 2] rfl) (hD.sub (ws' := [(o0, .inr (11, [.ref o1, .int 0, .ref o2, .ref o3, .ref o4, .ref o5, .ref o6, .ref o7, .ref o8, .ref o9, .ref o10])), (o2, .inr (3, [.ref u1, .ref u2, .ref u3, .ref u4, .ref u5])), (u2, .inr (4, [.int 0, .ref u21, .int 0, .ref u22, .ref u23, .ref u24]))]) [0, 1, 2] (by decide) rfl) hS ⟨rfl, rfl⟩ d_NF_tell_22
set_option maxHeartbeats 4000000 in
set_option maxRecDepth 100000 in
theorem c_NF_told (l : Launch) (D : va_G) (cB cI cJ : ClassId) (o0 : Nat) (p0 : Int32) (p1 : Int32) (p2 : Int32) (p3 : Int32) (p4 : Int32) (p5 : Int32) (o1 : Nat) (o2 : Nat) (o3 : Nat) (o4 : Nat) (o5 : Nat) (o6 : Nat) (o7 : Nat) (o8 : Nat) (o9 : Nat) (o10 : Nat) (u1 : Nat) (u2 : Nat) (u3 : Nat) (u4 : Nat) (u5 : Nat) (u21 : Nat) (u22 : Nat) (u23 : Nat) (u24 : Nat) : nz_Ci l D cB cI cJ nz_x0 y_NF_told b_NF_told 8 (some .int) { frames := 1, cells := 0, slots := 0, locals := 21 } [.ref o0, .int p0, .int p1, .int p2, .int p3, .int p4, .int p5] [(o0, .inr (11, [.ref o1, .int 0, .ref o2, .ref o3, .ref o4, .ref o5, .ref o6, .ref o7, .ref o8, .ref o9, .ref o10])), (o2, .inr (3, [.ref u1, .ref u2, .ref u3, .ref u4, .ref u5])), (u2, .inr (4, [.int 0, .ref u21, .int 0, .ref u22, .ref u23, .ref u24]))] (fun r w => r = (-1) ∧ w = [(o0, .inr (11, [.ref o1, .int 0, .ref o2, .ref o3, .ref o4, .ref o5, .ref o6, .ref o7, .ref o8, .ref o9, .ref o10])), (o2, .inr (3, [.ref u1, .ref u2, .ref u3, .ref u4, .ref u5])), (u2, .inr (4, [.int 0, .ref u21, .int 0, .ref u22, .ref u23, .ref u24]))]) := by
  refine nz_Ci.mk (by decide) (Nat.le_of_ble_eq_true rfl) ?_
  intro p e s m below meth c A ls C0 hnm hP hD hS hA hX hl
  have C0 : nz_Cx p s m _ meth c b_NF_told 8 (some .int) R_NF D cB cI cJ := C0
  obtain ⟨hx, hb, hr, hml, hown, hts, hlk, hK⟩ := id C0
  have hl : lv_has ls 8 [(0, .ref o0), (1, .int p0), (2, .int p1), (3, .int p2), (4, .int p3), (5, .int p4), (6, .int p5)] := hl
  refine lv_aload_n hx hb d_NF_told_0 rfl (lv_at hl 0 rfl) ?_
  refine lv_iload_n hx hb d_NF_told_1 rfl (lv_at hl 3 rfl) ?_
  refine nz_calVi (As := [.int p2]) (rest := []) C0 (c_NF_isMeaning l D cB cI cJ o0 p2 o1 o2 o3 o4 o5 o6 o7 o8 o9 o10 u1 u2 u3 u4 u5 u21 u22 u23 u24) g_NF_176 rfl nz_xb0 (by decide) hl.1 hP hD hS hA [0, 1, 2] [] rfl (wr := []) rfl (by decide) (by decide) (by decide) rfl rfl (fun _ _ _ => trivial) rfl (Nat.le_of_ble_eq_true rfl) d_NF_told_2 (by decide) (fun r_1 u H locs h_2 hP hD hS => ?_)
  obtain ⟨h_2_r, rfl⟩ := h_2
  have hP : va_P D nz_cl [(o0, .inr (11, [.ref o1, .int 0, .ref o2, .ref o3, .ref o4, .ref o5, .ref o6, .ref o7, .ref o8, .ref o9, .ref o10])), (o2, .inr (3, [.ref u1, .ref u2, .ref u3, .ref u4, .ref u5])), (u2, .inr (4, [.int 0, .ref u21, .int 0, .ref u22, .ref u23, .ref u24]))] H := hP
  have hD : va_D A [(o0, .inr (11, [.ref o1, .int 0, .ref o2, .ref o3, .ref o4, .ref o5, .ref o6, .ref o7, .ref o8, .ref o9, .ref o10])), (o2, .inr (3, [.ref u1, .ref u2, .ref u3, .ref u4, .ref u5])), (u2, .inr (4, [.int 0, .ref u21, .int 0, .ref u22, .ref u23, .ref u24]))] := hD
  subst h_2_r
  refine lv_if_eq (tgt := 21) hx hb d_NF_told_5 (by decide) (fun c_3 => ?_) (fun c_3 => absurd (by decide +kernel) c_3)
  refine lv_iconst (v := (-1)) hx hb d_NF_told_21 (by decide +kernel) ?_
  exact nz_reti C0 (hP.sub (ws' := [(o0, .inr (11, [.ref o1, .int 0, .ref o2, .ref o3, .ref o4, .ref o5, .ref o6, .ref o7, .ref o8, .ref o9, .ref o10])), (o2, .inr (3, [.ref u1, .ref u2, .ref u3, .ref u4, .ref u5])), (u2, .inr (4, [.int 0, .ref u21, .int 0, .ref u22, .ref u23, .ref u24]))]) [0, 1, 2] rfl) (hD.sub (ws' := [(o0, .inr (11, [.ref o1, .int 0, .ref o2, .ref o3, .ref o4, .ref o5, .ref o6, .ref o7, .ref o8, .ref o9, .ref o10])), (o2, .inr (3, [.ref u1, .ref u2, .ref u3, .ref u4, .ref u5])), (u2, .inr (4, [.int 0, .ref u21, .int 0, .ref u22, .ref u23, .ref u24]))]) [0, 1, 2] (by decide) rfl) hS ⟨rfl, rfl⟩ d_NF_told_22
set_option maxHeartbeats 4000000 in
set_option maxRecDepth 100000 in
theorem c_NF_safe (l : Launch) (D : va_G) (cB cI cJ : ClassId) (o0 : Nat) (p0 : Int32) (p1 : Int32) (o1 : Nat) (o2 : Nat) (o3 : Nat) (o4 : Nat) (o5 : Nat) (o6 : Nat) (o7 : Nat) (o8 : Nat) (o9 : Nat) (o10 : Nat) (u1 : Nat) (u2 : Nat) (u3 : Nat) (u4 : Nat) (u5 : Nat) (u11 : Nat) (u12 : Nat) (u13 : Nat) (u14 : Nat) (u15 : Nat) (u16 : Nat) (u17 : Nat) : nz_Ci l D cB cI cJ nz_x0 y_NF_safe b_NF_safe 6 (some .int) { frames := 1, cells := 0, slots := 0, locals := 21 } [.ref o0, .int p0, .int p1] [(o0, .inr (11, [.ref o1, .int 0, .ref o2, .ref o3, .ref o4, .ref o5, .ref o6, .ref o7, .ref o8, .ref o9, .ref o10])), (o2, .inr (3, [.ref u1, .ref u2, .ref u3, .ref u4, .ref u5])), (u1, .inr (6, [.int 0, .ref u11, .ref u12, .ref u13, .ref u14, .ref u15, .ref u16, .ref u17]))] (fun r w => r = (-1) ∧ w = [(o0, .inr (11, [.ref o1, .int 0, .ref o2, .ref o3, .ref o4, .ref o5, .ref o6, .ref o7, .ref o8, .ref o9, .ref o10])), (o2, .inr (3, [.ref u1, .ref u2, .ref u3, .ref u4, .ref u5])), (u1, .inr (6, [.int 0, .ref u11, .ref u12, .ref u13, .ref u14, .ref u15, .ref u16, .ref u17]))]) := by
  refine nz_Ci.mk (by decide) (Nat.le_of_ble_eq_true rfl) ?_
  intro p e s m below meth c A ls C0 hnm hP hD hS hA hX hl
  have C0 : nz_Cx p s m _ meth c b_NF_safe 6 (some .int) R_NF D cB cI cJ := C0
  obtain ⟨hx, hb, hr, hml, hown, hts, hlk, hK⟩ := id C0
  have hl : lv_has ls 6 [(0, .ref o0), (1, .int p0), (2, .int p1)] := hl
  refine lv_aload_n hx hb d_NF_safe_0 rfl (lv_at hl 0 rfl) ?_
  refine lv_iload_n hx hb d_NF_safe_1 rfl (lv_at hl 1 rfl) ?_
  refine nz_calVi (As := [.int p0]) (rest := []) C0 (c_NF_isPlace l D cB cI cJ o0 p0 o1 o2 o3 o4 o5 o6 o7 o8 o9 o10 u1 u2 u3 u4 u5 u11 u12 u13 u14 u15 u16 u17) g_NF_190 rfl nz_xb0 (by decide) hl.1 hP hD hS hA [0, 1, 2] [] rfl (wr := []) rfl (by decide) (by decide) (by decide) rfl rfl (fun _ _ _ => trivial) rfl (Nat.le_of_ble_eq_true rfl) d_NF_safe_2 (by decide) (fun r_1 u H locs h_2 hP hD hS => ?_)
  obtain ⟨h_2_r, rfl⟩ := h_2
  have hP : va_P D nz_cl [(o0, .inr (11, [.ref o1, .int 0, .ref o2, .ref o3, .ref o4, .ref o5, .ref o6, .ref o7, .ref o8, .ref o9, .ref o10])), (o2, .inr (3, [.ref u1, .ref u2, .ref u3, .ref u4, .ref u5])), (u1, .inr (6, [.int 0, .ref u11, .ref u12, .ref u13, .ref u14, .ref u15, .ref u16, .ref u17]))] H := hP
  have hD : va_D A [(o0, .inr (11, [.ref o1, .int 0, .ref o2, .ref o3, .ref o4, .ref o5, .ref o6, .ref o7, .ref o8, .ref o9, .ref o10])), (o2, .inr (3, [.ref u1, .ref u2, .ref u3, .ref u4, .ref u5])), (u1, .inr (6, [.int 0, .ref u11, .ref u12, .ref u13, .ref u14, .ref u15, .ref u16, .ref u17]))] := hD
  subst h_2_r
  refine lv_if_eq (tgt := 16) hx hb d_NF_safe_5 (by decide) (fun c_3 => ?_) (fun c_3 => absurd (by decide +kernel) c_3)
  refine lv_iconst (v := (-1)) hx hb d_NF_safe_16 (by decide +kernel) ?_
  exact nz_reti C0 (hP.sub (ws' := [(o0, .inr (11, [.ref o1, .int 0, .ref o2, .ref o3, .ref o4, .ref o5, .ref o6, .ref o7, .ref o8, .ref o9, .ref o10])), (o2, .inr (3, [.ref u1, .ref u2, .ref u3, .ref u4, .ref u5])), (u1, .inr (6, [.int 0, .ref u11, .ref u12, .ref u13, .ref u14, .ref u15, .ref u16, .ref u17]))]) [0, 1, 2] rfl) (hD.sub (ws' := [(o0, .inr (11, [.ref o1, .int 0, .ref o2, .ref o3, .ref o4, .ref o5, .ref o6, .ref o7, .ref o8, .ref o9, .ref o10])), (o2, .inr (3, [.ref u1, .ref u2, .ref u3, .ref u4, .ref u5])), (u1, .inr (6, [.int 0, .ref u11, .ref u12, .ref u13, .ref u14, .ref u15, .ref u16, .ref u17]))]) [0, 1, 2] (by decide) rfl) hS ⟨rfl, rfl⟩ d_NF_safe_17
set_option maxHeartbeats 4000000 in
set_option maxRecDepth 100000 in
theorem c_NF_hurt (l : Launch) (D : va_G) (cB cI cJ : ClassId) (o0 : Nat) (p0 : Int32) (p1 : Int32) (p2 : Int32) (p3 : Int32) (o1 : Nat) (o2 : Nat) (o3 : Nat) (o4 : Nat) (o5 : Nat) (o6 : Nat) (o7 : Nat) (o8 : Nat) (o9 : Nat) (o10 : Nat) (u1 : Nat) (u2 : Nat) (u3 : Nat) (u4 : Nat) (u5 : Nat) (u11 : Nat) (u12 : Nat) (u13 : Nat) (u14 : Nat) (u15 : Nat) (u16 : Nat) (u17 : Nat) : nz_Ci l D cB cI cJ nz_x0 y_NF_hurt b_NF_hurt 5 (some .int) { frames := 1, cells := 0, slots := 0, locals := 21 } [.ref o0, .int p0, .int p1, .int p2, .int p3] [(o0, .inr (11, [.ref o1, .int 0, .ref o2, .ref o3, .ref o4, .ref o5, .ref o6, .ref o7, .ref o8, .ref o9, .ref o10])), (o2, .inr (3, [.ref u1, .ref u2, .ref u3, .ref u4, .ref u5])), (u1, .inr (6, [.int 0, .ref u11, .ref u12, .ref u13, .ref u14, .ref u15, .ref u16, .ref u17]))] (fun r w => r = (-1000) ∧ w = [(o0, .inr (11, [.ref o1, .int 0, .ref o2, .ref o3, .ref o4, .ref o5, .ref o6, .ref o7, .ref o8, .ref o9, .ref o10])), (o2, .inr (3, [.ref u1, .ref u2, .ref u3, .ref u4, .ref u5])), (u1, .inr (6, [.int 0, .ref u11, .ref u12, .ref u13, .ref u14, .ref u15, .ref u16, .ref u17]))]) := by
  refine nz_Ci.mk (by decide) (Nat.le_of_ble_eq_true rfl) ?_
  intro p e s m below meth c A ls C0 hnm hP hD hS hA hX hl
  have C0 : nz_Cx p s m _ meth c b_NF_hurt 5 (some .int) R_NF D cB cI cJ := C0
  obtain ⟨hx, hb, hr, hml, hown, hts, hlk, hK⟩ := id C0
  have hl : lv_has ls 5 [(0, .ref o0), (1, .int p0), (2, .int p1), (3, .int p2), (4, .int p3)] := hl
  refine lv_aload_n hx hb d_NF_hurt_0 rfl (lv_at hl 0 rfl) ?_
  refine lv_iload_n hx hb d_NF_hurt_1 rfl (lv_at hl 1 rfl) ?_
  refine nz_calVi (As := [.int p0]) (rest := []) C0 (c_NF_isPlace l D cB cI cJ o0 p0 o1 o2 o3 o4 o5 o6 o7 o8 o9 o10 u1 u2 u3 u4 u5 u11 u12 u13 u14 u15 u16 u17) g_NF_190 rfl nz_xb0 (by decide) hl.1 hP hD hS hA [0, 1, 2] [] rfl (wr := []) rfl (by decide) (by decide) (by decide) rfl rfl (fun _ _ _ => trivial) rfl (Nat.le_of_ble_eq_true rfl) d_NF_hurt_2 (by decide) (fun r_1 u H locs h_2 hP hD hS => ?_)
  obtain ⟨h_2_r, rfl⟩ := h_2
  have hP : va_P D nz_cl [(o0, .inr (11, [.ref o1, .int 0, .ref o2, .ref o3, .ref o4, .ref o5, .ref o6, .ref o7, .ref o8, .ref o9, .ref o10])), (o2, .inr (3, [.ref u1, .ref u2, .ref u3, .ref u4, .ref u5])), (u1, .inr (6, [.int 0, .ref u11, .ref u12, .ref u13, .ref u14, .ref u15, .ref u16, .ref u17]))] H := hP
  have hD : va_D A [(o0, .inr (11, [.ref o1, .int 0, .ref o2, .ref o3, .ref o4, .ref o5, .ref o6, .ref o7, .ref o8, .ref o9, .ref o10])), (o2, .inr (3, [.ref u1, .ref u2, .ref u3, .ref u4, .ref u5])), (u1, .inr (6, [.int 0, .ref u11, .ref u12, .ref u13, .ref u14, .ref u15, .ref u16, .ref u17]))] := hD
  subst h_2_r
  refine lv_if_eq (tgt := 23) hx hb d_NF_hurt_5 (by decide) (fun c_3 => ?_) (fun c_3 => absurd (by decide +kernel) c_3)
  refine lv_sipush (v := (-1000)) hx hb d_NF_hurt_23 (by decide +kernel) ?_
  exact nz_reti C0 (hP.sub (ws' := [(o0, .inr (11, [.ref o1, .int 0, .ref o2, .ref o3, .ref o4, .ref o5, .ref o6, .ref o7, .ref o8, .ref o9, .ref o10])), (o2, .inr (3, [.ref u1, .ref u2, .ref u3, .ref u4, .ref u5])), (u1, .inr (6, [.int 0, .ref u11, .ref u12, .ref u13, .ref u14, .ref u15, .ref u16, .ref u17]))]) [0, 1, 2] rfl) (hD.sub (ws' := [(o0, .inr (11, [.ref o1, .int 0, .ref o2, .ref o3, .ref o4, .ref o5, .ref o6, .ref o7, .ref o8, .ref o9, .ref o10])), (o2, .inr (3, [.ref u1, .ref u2, .ref u3, .ref u4, .ref u5])), (u1, .inr (6, [.int 0, .ref u11, .ref u12, .ref u13, .ref u14, .ref u15, .ref u16, .ref u17]))]) [0, 1, 2] (by decide) rfl) hS ⟨rfl, rfl⟩ d_NF_hurt_26
set_option maxHeartbeats 4000000 in
set_option maxRecDepth 100000 in
theorem c_NF_child (l : Launch) (D : va_G) (cB cI cJ : ClassId) (o0 : Nat) (p0 : Int32) (p1 : Int32) (p2 : Int32) (o1 : Nat) (o2 : Nat) (o3 : Nat) (o4 : Nat) (o5 : Nat) (o6 : Nat) (o7 : Nat) (o8 : Nat) (o9 : Nat) (o10 : Nat) (u1 : Nat) (u2 : Nat) (u3 : Nat) (u4 : Nat) (u5 : Nat) (u11 : Nat) (u12 : Nat) (u13 : Nat) (u14 : Nat) (u15 : Nat) (u16 : Nat) (u17 : Nat) : nz_Ci l D cB cI cJ nz_x0 y_NF_child b_NF_child 9 (some .int) { frames := 1, cells := 0, slots := 0, locals := 21 } [.ref o0, .int p0, .int p1, .int p2] [(o0, .inr (11, [.ref o1, .int 0, .ref o2, .ref o3, .ref o4, .ref o5, .ref o6, .ref o7, .ref o8, .ref o9, .ref o10])), (o2, .inr (3, [.ref u1, .ref u2, .ref u3, .ref u4, .ref u5])), (u1, .inr (6, [.int 0, .ref u11, .ref u12, .ref u13, .ref u14, .ref u15, .ref u16, .ref u17]))] (fun r w => r = (-1) ∧ w = [(o0, .inr (11, [.ref o1, .int 0, .ref o2, .ref o3, .ref o4, .ref o5, .ref o6, .ref o7, .ref o8, .ref o9, .ref o10])), (o2, .inr (3, [.ref u1, .ref u2, .ref u3, .ref u4, .ref u5])), (u1, .inr (6, [.int 0, .ref u11, .ref u12, .ref u13, .ref u14, .ref u15, .ref u16, .ref u17]))]) := by
  refine nz_Ci.mk (by decide) (Nat.le_of_ble_eq_true rfl) ?_
  intro p e s m below meth c A ls C0 hnm hP hD hS hA hX hl
  have C0 : nz_Cx p s m _ meth c b_NF_child 9 (some .int) R_NF D cB cI cJ := C0
  obtain ⟨hx, hb, hr, hml, hown, hts, hlk, hK⟩ := id C0
  have hl : lv_has ls 9 [(0, .ref o0), (1, .int p0), (2, .int p1), (3, .int p2)] := hl
  refine lv_aload_n hx hb d_NF_child_0 rfl (lv_at hl 0 rfl) ?_
  refine lv_iload_n hx hb d_NF_child_1 rfl (lv_at hl 1 rfl) ?_
  refine nz_calVi (As := [.int p0]) (rest := []) C0 (c_NF_isPlace l D cB cI cJ o0 p0 o1 o2 o3 o4 o5 o6 o7 o8 o9 o10 u1 u2 u3 u4 u5 u11 u12 u13 u14 u15 u16 u17) g_NF_190 rfl nz_xb0 (by decide) hl.1 hP hD hS hA [0, 1, 2] [] rfl (wr := []) rfl (by decide) (by decide) (by decide) rfl rfl (fun _ _ _ => trivial) rfl (Nat.le_of_ble_eq_true rfl) d_NF_child_2 (by decide) (fun r_1 u H locs h_2 hP hD hS => ?_)
  obtain ⟨h_2_r, rfl⟩ := h_2
  have hP : va_P D nz_cl [(o0, .inr (11, [.ref o1, .int 0, .ref o2, .ref o3, .ref o4, .ref o5, .ref o6, .ref o7, .ref o8, .ref o9, .ref o10])), (o2, .inr (3, [.ref u1, .ref u2, .ref u3, .ref u4, .ref u5])), (u1, .inr (6, [.int 0, .ref u11, .ref u12, .ref u13, .ref u14, .ref u15, .ref u16, .ref u17]))] H := hP
  have hD : va_D A [(o0, .inr (11, [.ref o1, .int 0, .ref o2, .ref o3, .ref o4, .ref o5, .ref o6, .ref o7, .ref o8, .ref o9, .ref o10])), (o2, .inr (3, [.ref u1, .ref u2, .ref u3, .ref u4, .ref u5])), (u1, .inr (6, [.int 0, .ref u11, .ref u12, .ref u13, .ref u14, .ref u15, .ref u16, .ref u17]))] := hD
  subst h_2_r
  refine lv_if_eq (tgt := 15) hx hb d_NF_child_5 (by decide) (fun c_3 => ?_) (fun c_3 => absurd (by decide +kernel) c_3)
  refine lv_iconst (v := (-1)) hx hb d_NF_child_15 (by decide +kernel) ?_
  exact nz_reti C0 (hP.sub (ws' := [(o0, .inr (11, [.ref o1, .int 0, .ref o2, .ref o3, .ref o4, .ref o5, .ref o6, .ref o7, .ref o8, .ref o9, .ref o10])), (o2, .inr (3, [.ref u1, .ref u2, .ref u3, .ref u4, .ref u5])), (u1, .inr (6, [.int 0, .ref u11, .ref u12, .ref u13, .ref u14, .ref u15, .ref u16, .ref u17]))]) [0, 1, 2] rfl) (hD.sub (ws' := [(o0, .inr (11, [.ref o1, .int 0, .ref o2, .ref o3, .ref o4, .ref o5, .ref o6, .ref o7, .ref o8, .ref o9, .ref o10])), (o2, .inr (3, [.ref u1, .ref u2, .ref u3, .ref u4, .ref u5])), (u1, .inr (6, [.int 0, .ref u11, .ref u12, .ref u13, .ref u14, .ref u15, .ref u16, .ref u17]))]) [0, 1, 2] (by decide) rfl) hS ⟨rfl, rfl⟩ d_NF_child_16
set_option maxHeartbeats 4000000 in
set_option maxRecDepth 100000 in
theorem c_NF_wish (l : Launch) (D : va_G) (cB cI cJ : ClassId) (o0 : Nat) (p0 : Int32) (p1 : Int32) (p2 : Int32) (o1 : Nat) (o2 : Nat) (o3 : Nat) (o4 : Nat) (o5 : Nat) (o6 : Nat) (o7 : Nat) (o8 : Nat) (o9 : Nat) (o10 : Nat) (u1 : Nat) (u2 : Nat) (u3 : Nat) (u4 : Nat) (u5 : Nat) (u11 : Nat) (u12 : Nat) (u13 : Nat) (u14 : Nat) (u15 : Nat) (u16 : Nat) (u17 : Nat) : nz_Ci l D cB cI cJ nz_x0 y_NF_wish b_NF_wish 9 (some .int) { frames := 1, cells := 0, slots := 0, locals := 21 } [.ref o0, .int p0, .int p1, .int p2] [(o0, .inr (11, [.ref o1, .int 0, .ref o2, .ref o3, .ref o4, .ref o5, .ref o6, .ref o7, .ref o8, .ref o9, .ref o10])), (o2, .inr (3, [.ref u1, .ref u2, .ref u3, .ref u4, .ref u5])), (u1, .inr (6, [.int 0, .ref u11, .ref u12, .ref u13, .ref u14, .ref u15, .ref u16, .ref u17]))] (fun r w => r = (-1) ∧ w = [(o0, .inr (11, [.ref o1, .int 0, .ref o2, .ref o3, .ref o4, .ref o5, .ref o6, .ref o7, .ref o8, .ref o9, .ref o10])), (o2, .inr (3, [.ref u1, .ref u2, .ref u3, .ref u4, .ref u5])), (u1, .inr (6, [.int 0, .ref u11, .ref u12, .ref u13, .ref u14, .ref u15, .ref u16, .ref u17]))]) := by
  refine nz_Ci.mk (by decide) (Nat.le_of_ble_eq_true rfl) ?_
  intro p e s m below meth c A ls C0 hnm hP hD hS hA hX hl
  have C0 : nz_Cx p s m _ meth c b_NF_wish 9 (some .int) R_NF D cB cI cJ := C0
  obtain ⟨hx, hb, hr, hml, hown, hts, hlk, hK⟩ := id C0
  have hl : lv_has ls 9 [(0, .ref o0), (1, .int p0), (2, .int p1), (3, .int p2)] := hl
  refine lv_aload_n hx hb d_NF_wish_0 rfl (lv_at hl 0 rfl) ?_
  refine lv_iload_n hx hb d_NF_wish_1 rfl (lv_at hl 1 rfl) ?_
  refine nz_calVi (As := [.int p0]) (rest := []) C0 (c_NF_isPlace l D cB cI cJ o0 p0 o1 o2 o3 o4 o5 o6 o7 o8 o9 o10 u1 u2 u3 u4 u5 u11 u12 u13 u14 u15 u16 u17) g_NF_190 rfl nz_xb0 (by decide) hl.1 hP hD hS hA [0, 1, 2] [] rfl (wr := []) rfl (by decide) (by decide) (by decide) rfl rfl (fun _ _ _ => trivial) rfl (Nat.le_of_ble_eq_true rfl) d_NF_wish_2 (by decide) (fun r_1 u H locs h_2 hP hD hS => ?_)
  obtain ⟨h_2_r, rfl⟩ := h_2
  have hP : va_P D nz_cl [(o0, .inr (11, [.ref o1, .int 0, .ref o2, .ref o3, .ref o4, .ref o5, .ref o6, .ref o7, .ref o8, .ref o9, .ref o10])), (o2, .inr (3, [.ref u1, .ref u2, .ref u3, .ref u4, .ref u5])), (u1, .inr (6, [.int 0, .ref u11, .ref u12, .ref u13, .ref u14, .ref u15, .ref u16, .ref u17]))] H := hP
  have hD : va_D A [(o0, .inr (11, [.ref o1, .int 0, .ref o2, .ref o3, .ref o4, .ref o5, .ref o6, .ref o7, .ref o8, .ref o9, .ref o10])), (o2, .inr (3, [.ref u1, .ref u2, .ref u3, .ref u4, .ref u5])), (u1, .inr (6, [.int 0, .ref u11, .ref u12, .ref u13, .ref u14, .ref u15, .ref u16, .ref u17]))] := hD
  subst h_2_r
  refine lv_if_eq (tgt := 15) hx hb d_NF_wish_5 (by decide) (fun c_3 => ?_) (fun c_3 => absurd (by decide +kernel) c_3)
  refine lv_iconst (v := (-1)) hx hb d_NF_wish_15 (by decide +kernel) ?_
  exact nz_reti C0 (hP.sub (ws' := [(o0, .inr (11, [.ref o1, .int 0, .ref o2, .ref o3, .ref o4, .ref o5, .ref o6, .ref o7, .ref o8, .ref o9, .ref o10])), (o2, .inr (3, [.ref u1, .ref u2, .ref u3, .ref u4, .ref u5])), (u1, .inr (6, [.int 0, .ref u11, .ref u12, .ref u13, .ref u14, .ref u15, .ref u16, .ref u17]))]) [0, 1, 2] rfl) (hD.sub (ws' := [(o0, .inr (11, [.ref o1, .int 0, .ref o2, .ref o3, .ref o4, .ref o5, .ref o6, .ref o7, .ref o8, .ref o9, .ref o10])), (o2, .inr (3, [.ref u1, .ref u2, .ref u3, .ref u4, .ref u5])), (u1, .inr (6, [.int 0, .ref u11, .ref u12, .ref u13, .ref u14, .ref u15, .ref u16, .ref u17]))]) [0, 1, 2] (by decide) rfl) hS ⟨rfl, rfl⟩ d_NF_wish_16
set_option maxHeartbeats 4000000 in
set_option maxRecDepth 100000 in
theorem c_NF_old (l : Launch) (D : va_G) (cB cI cJ : ClassId) (o0 : Nat) (p0 : Int32) (p1 : Int32) (o1 : Nat) (o2 : Nat) (o3 : Nat) (o4 : Nat) (o5 : Nat) (o6 : Nat) (o7 : Nat) (o8 : Nat) (o9 : Nat) (o10 : Nat) (u1 : Nat) (u2 : Nat) (u3 : Nat) (u4 : Nat) (u5 : Nat) (u21 : Nat) (u22 : Nat) (u23 : Nat) (u24 : Nat) : nz_Ci l D cB cI cJ nz_x0 y_NF_old b_NF_old 4 (some .int) { frames := 1, cells := 0, slots := 0, locals := 21 } [.ref o0, .int p0, .int p1] [(o0, .inr (11, [.ref o1, .int 0, .ref o2, .ref o3, .ref o4, .ref o5, .ref o6, .ref o7, .ref o8, .ref o9, .ref o10])), (o2, .inr (3, [.ref u1, .ref u2, .ref u3, .ref u4, .ref u5])), (u2, .inr (4, [.int 0, .ref u21, .int 0, .ref u22, .ref u23, .ref u24]))] (fun r w => r = (-1) ∧ w = [(o0, .inr (11, [.ref o1, .int 0, .ref o2, .ref o3, .ref o4, .ref o5, .ref o6, .ref o7, .ref o8, .ref o9, .ref o10])), (o2, .inr (3, [.ref u1, .ref u2, .ref u3, .ref u4, .ref u5])), (u2, .inr (4, [.int 0, .ref u21, .int 0, .ref u22, .ref u23, .ref u24]))]) := by
  refine nz_Ci.mk (by decide) (Nat.le_of_ble_eq_true rfl) ?_
  intro p e s m below meth c A ls C0 hnm hP hD hS hA hX hl
  have C0 : nz_Cx p s m _ meth c b_NF_old 4 (some .int) R_NF D cB cI cJ := C0
  obtain ⟨hx, hb, hr, hml, hown, hts, hlk, hK⟩ := id C0
  have hl : lv_has ls 4 [(0, .ref o0), (1, .int p0), (2, .int p1)] := hl
  refine lv_aload_n hx hb d_NF_old_0 rfl (lv_at hl 0 rfl) ?_
  refine lv_iload_n hx hb d_NF_old_1 rfl (lv_at hl 1 rfl) ?_
  refine nz_calVi (As := [.int p0]) (rest := []) C0 (c_NF_isMeaning l D cB cI cJ o0 p0 o1 o2 o3 o4 o5 o6 o7 o8 o9 o10 u1 u2 u3 u4 u5 u21 u22 u23 u24) g_NF_176 rfl nz_xb0 (by decide) hl.1 hP hD hS hA [0, 1, 2] [] rfl (wr := []) rfl (by decide) (by decide) (by decide) rfl rfl (fun _ _ _ => trivial) rfl (Nat.le_of_ble_eq_true rfl) d_NF_old_2 (by decide) (fun r_1 u H locs h_2 hP hD hS => ?_)
  obtain ⟨h_2_r, rfl⟩ := h_2
  have hP : va_P D nz_cl [(o0, .inr (11, [.ref o1, .int 0, .ref o2, .ref o3, .ref o4, .ref o5, .ref o6, .ref o7, .ref o8, .ref o9, .ref o10])), (o2, .inr (3, [.ref u1, .ref u2, .ref u3, .ref u4, .ref u5])), (u2, .inr (4, [.int 0, .ref u21, .int 0, .ref u22, .ref u23, .ref u24]))] H := hP
  have hD : va_D A [(o0, .inr (11, [.ref o1, .int 0, .ref o2, .ref o3, .ref o4, .ref o5, .ref o6, .ref o7, .ref o8, .ref o9, .ref o10])), (o2, .inr (3, [.ref u1, .ref u2, .ref u3, .ref u4, .ref u5])), (u2, .inr (4, [.int 0, .ref u21, .int 0, .ref u22, .ref u23, .ref u24]))] := hD
  subst h_2_r
  refine lv_if_eq (tgt := 17) hx hb d_NF_old_5 (by decide) (fun c_3 => ?_) (fun c_3 => absurd (by decide +kernel) c_3)
  refine lv_iconst (v := (-1)) hx hb d_NF_old_17 (by decide +kernel) ?_
  exact nz_reti C0 (hP.sub (ws' := [(o0, .inr (11, [.ref o1, .int 0, .ref o2, .ref o3, .ref o4, .ref o5, .ref o6, .ref o7, .ref o8, .ref o9, .ref o10])), (o2, .inr (3, [.ref u1, .ref u2, .ref u3, .ref u4, .ref u5])), (u2, .inr (4, [.int 0, .ref u21, .int 0, .ref u22, .ref u23, .ref u24]))]) [0, 1, 2] rfl) (hD.sub (ws' := [(o0, .inr (11, [.ref o1, .int 0, .ref o2, .ref o3, .ref o4, .ref o5, .ref o6, .ref o7, .ref o8, .ref o9, .ref o10])), (o2, .inr (3, [.ref u1, .ref u2, .ref u3, .ref u4, .ref u5])), (u2, .inr (4, [.int 0, .ref u21, .int 0, .ref u22, .ref u23, .ref u24]))]) [0, 1, 2] (by decide) rfl) hS ⟨rfl, rfl⟩ d_NF_old_18
set_option maxHeartbeats 4000000 in
set_option maxRecDepth 100000 in
theorem c_NF_judge (l : Launch) (D : va_G) (cB cI cJ : ClassId) (o0 : Nat) (p0 : Int32) (p1 : Int32) (p2 : Int32) (p3 : Int32) (p4 : Int32) (o1 : Nat) (o2 : Nat) (o3 : Nat) (o4 : Nat) (o5 : Nat) (o6 : Nat) (o7 : Nat) (o8 : Nat) (o9 : Nat) (o10 : Nat) (u1 : Nat) (u2 : Nat) (u3 : Nat) (u4 : Nat) (u5 : Nat) (u41 : Nat) (u42 : Nat) (u43 : Nat) (u44 : Nat) (u45 : Nat) (u46 : Nat) (u47 : Nat) (u48 : Nat) (u49 : Nat) : nz_Ci l D cB cI cJ nz_x0 y_NF_judge b_NF_judge 6 (some .int) { frames := 2, cells := 0, slots := 0, locals := 45 } [.ref o0, .int p0, .int p1, .int p2, .int p3, .int p4] [(o0, .inr (11, [.ref o1, .int 0, .ref o2, .ref o3, .ref o4, .ref o5, .ref o6, .ref o7, .ref o8, .ref o9, .ref o10])), (o2, .inr (3, [.ref u1, .ref u2, .ref u3, .ref u4, .ref u5])), (u4, .inr (5, [.int 0, .int 0, .ref u41, .ref u42, .ref u43, .ref u44, .ref u45, .ref u46, .ref u47, .ref u48, .ref u49]))] (fun r w => r = (-1) ∧ w = [(o0, .inr (11, [.ref o1, .int 0, .ref o2, .ref o3, .ref o4, .ref o5, .ref o6, .ref o7, .ref o8, .ref o9, .ref o10])), (o2, .inr (3, [.ref u1, .ref u2, .ref u3, .ref u4, .ref u5])), (u4, .inr (5, [.int 0, .int 0, .ref u41, .ref u42, .ref u43, .ref u44, .ref u45, .ref u46, .ref u47, .ref u48, .ref u49]))]) := by
  refine nz_Ci.mk (by decide) (Nat.le_of_ble_eq_true rfl) ?_
  intro p e s m below meth c A ls C0 hnm hP hD hS hA hX hl
  have C0 : nz_Cx p s m _ meth c b_NF_judge 6 (some .int) R_NF D cB cI cJ := C0
  obtain ⟨hx, hb, hr, hml, hown, hts, hlk, hK⟩ := id C0
  have hl : lv_has ls 6 [(0, .ref o0), (1, .int p0), (2, .int p1), (3, .int p2), (4, .int p3), (5, .int p4)] := hl
  refine lv_iload_n hx hb d_NF_judge_0 rfl (lv_at hl 3 rfl) ?_
  refine lv_iconst (v := 1) hx hb d_NF_judge_1 (by decide +kernel) ?_
  refine lv_icmp_lt (tgt := 24) hx hb d_NF_judge_2 (by decide) (fun c_1 => ?_) (fun c_1 => ?_)
  · refine lv_iconst (v := (-1)) hx hb d_NF_judge_24 (by decide +kernel) ?_
    exact nz_reti C0 (hP.sub (ws' := [(o0, .inr (11, [.ref o1, .int 0, .ref o2, .ref o3, .ref o4, .ref o5, .ref o6, .ref o7, .ref o8, .ref o9, .ref o10])), (o2, .inr (3, [.ref u1, .ref u2, .ref u3, .ref u4, .ref u5])), (u4, .inr (5, [.int 0, .int 0, .ref u41, .ref u42, .ref u43, .ref u44, .ref u45, .ref u46, .ref u47, .ref u48, .ref u49]))]) [0, 1, 2] rfl) (hD.sub (ws' := [(o0, .inr (11, [.ref o1, .int 0, .ref o2, .ref o3, .ref o4, .ref o5, .ref o6, .ref o7, .ref o8, .ref o9, .ref o10])), (o2, .inr (3, [.ref u1, .ref u2, .ref u3, .ref u4, .ref u5])), (u4, .inr (5, [.int 0, .int 0, .ref u41, .ref u42, .ref u43, .ref u44, .ref u45, .ref u46, .ref u47, .ref u48, .ref u49]))]) [0, 1, 2] (by decide) rfl) hS ⟨rfl, rfl⟩ d_NF_judge_25
  · refine lv_iload_n hx hb d_NF_judge_5 rfl (lv_at hl 3 rfl) ?_
    refine lv_ldc (v := 33554431) hx hb hown (hts _ k_800) d_NF_judge_6 ?_
    refine lv_icmp_gt (tgt := 24) hx hb d_NF_judge_8 (by decide) (fun c_2 => ?_) (fun c_2 => ?_)
    · refine lv_iconst (v := (-1)) hx hb d_NF_judge_24 (by decide +kernel) ?_
      exact nz_reti C0 (hP.sub (ws' := [(o0, .inr (11, [.ref o1, .int 0, .ref o2, .ref o3, .ref o4, .ref o5, .ref o6, .ref o7, .ref o8, .ref o9, .ref o10])), (o2, .inr (3, [.ref u1, .ref u2, .ref u3, .ref u4, .ref u5])), (u4, .inr (5, [.int 0, .int 0, .ref u41, .ref u42, .ref u43, .ref u44, .ref u45, .ref u46, .ref u47, .ref u48, .ref u49]))]) [0, 1, 2] rfl) (hD.sub (ws' := [(o0, .inr (11, [.ref o1, .int 0, .ref o2, .ref o3, .ref o4, .ref o5, .ref o6, .ref o7, .ref o8, .ref o9, .ref o10])), (o2, .inr (3, [.ref u1, .ref u2, .ref u3, .ref u4, .ref u5])), (u4, .inr (5, [.int 0, .int 0, .ref u41, .ref u42, .ref u43, .ref u44, .ref u45, .ref u46, .ref u47, .ref u48, .ref u49]))]) [0, 1, 2] (by decide) rfl) hS ⟨rfl, rfl⟩ d_NF_judge_25
    · refine lv_aload_n hx hb d_NF_judge_11 rfl (lv_at hl 0 rfl) ?_
      refine lv_iload_n hx hb d_NF_judge_12 rfl (lv_at hl 1 rfl) ?_
      refine lv_iload_n hx hb d_NF_judge_13 rfl (lv_at hl 2 rfl) ?_
      refine lv_iload hx hb d_NF_judge_14 (lv_at hl 4 rfl) ?_
      refine lv_iload hx hb d_NF_judge_16 (lv_at hl 5 rfl) ?_
      refine nz_calVi (As := [.int p0, .int p1, .int p3, .int p4]) (rest := []) C0 (c_NF_canSpeak l D cB cI cJ o0 p0 p1 p3 p4 o1 o2 o3 o4 o5 o6 o7 o8 o9 o10 u1 u2 u3 u4 u5 u41 u42 u43 u44 u45 u46 u47 u48 u49) g_NF_161 rfl nz_xb0 (by decide) hl.1 hP hD hS hA [0, 1, 2] [] rfl (wr := []) rfl (by decide) (by decide) (by decide) rfl rfl (fun _ _ _ => trivial) rfl (Nat.le_of_ble_eq_true rfl) d_NF_judge_18 (by decide) (fun r_3 u H locs h_4 hP hD hS => ?_)
      obtain ⟨h_4_r, rfl⟩ := h_4
      have hP : va_P D nz_cl [(o0, .inr (11, [.ref o1, .int 0, .ref o2, .ref o3, .ref o4, .ref o5, .ref o6, .ref o7, .ref o8, .ref o9, .ref o10])), (o2, .inr (3, [.ref u1, .ref u2, .ref u3, .ref u4, .ref u5])), (u4, .inr (5, [.int 0, .int 0, .ref u41, .ref u42, .ref u43, .ref u44, .ref u45, .ref u46, .ref u47, .ref u48, .ref u49]))] H := hP
      have hD : va_D A [(o0, .inr (11, [.ref o1, .int 0, .ref o2, .ref o3, .ref o4, .ref o5, .ref o6, .ref o7, .ref o8, .ref o9, .ref o10])), (o2, .inr (3, [.ref u1, .ref u2, .ref u3, .ref u4, .ref u5])), (u4, .inr (5, [.int 0, .int 0, .ref u41, .ref u42, .ref u43, .ref u44, .ref u45, .ref u46, .ref u47, .ref u48, .ref u49]))] := hD
      subst h_4_r
      refine lv_if_ne (tgt := 26) hx hb d_NF_judge_21 (by decide) (fun c_5 => absurd c_5 (by decide +kernel)) (fun c_5 => ?_)
      refine lv_iconst (v := (-1)) hx hb d_NF_judge_24 (by decide +kernel) ?_
      exact nz_reti C0 (hP.sub (ws' := [(o0, .inr (11, [.ref o1, .int 0, .ref o2, .ref o3, .ref o4, .ref o5, .ref o6, .ref o7, .ref o8, .ref o9, .ref o10])), (o2, .inr (3, [.ref u1, .ref u2, .ref u3, .ref u4, .ref u5])), (u4, .inr (5, [.int 0, .int 0, .ref u41, .ref u42, .ref u43, .ref u44, .ref u45, .ref u46, .ref u47, .ref u48, .ref u49]))]) [0, 1, 2] rfl) (hD.sub (ws' := [(o0, .inr (11, [.ref o1, .int 0, .ref o2, .ref o3, .ref o4, .ref o5, .ref o6, .ref o7, .ref o8, .ref o9, .ref o10])), (o2, .inr (3, [.ref u1, .ref u2, .ref u3, .ref u4, .ref u5])), (u4, .inr (5, [.int 0, .int 0, .ref u41, .ref u42, .ref u43, .ref u44, .ref u45, .ref u46, .ref u47, .ref u48, .ref u49]))]) [0, 1, 2] (by decide) rfl) hS ⟨rfl, rfl⟩ d_NF_judge_25
set_option maxHeartbeats 4000000 in
set_option maxRecDepth 100000 in
theorem c_NF_mean (l : Launch) (D : va_G) (cB cI cJ : ClassId) (o0 : Nat) (p0 : Int32) (p1 : Int32) (p2 : Int32) (p3 : Int32) (p4 : Int32) (o1 : Nat) (o2 : Nat) (o3 : Nat) (o4 : Nat) (o5 : Nat) (o6 : Nat) (o7 : Nat) (o8 : Nat) (o9 : Nat) (o10 : Nat) (u1 : Nat) (u2 : Nat) (u3 : Nat) (u4 : Nat) (u5 : Nat) (u11 : Nat) (u12 : Nat) (u13 : Nat) (u14 : Nat) (u15 : Nat) (u16 : Nat) (u17 : Nat) : nz_Cl l D cB cI cJ nz_x0 y_NF_mean b_NF_mean 7 (some .long) { frames := 1, cells := 0, slots := 0, locals := 21 } [.ref o0, .int p0, .int p1, .int p2, .int p3, .int p4] [(o0, .inr (11, [.ref o1, .int 0, .ref o2, .ref o3, .ref o4, .ref o5, .ref o6, .ref o7, .ref o8, .ref o9, .ref o10])), (o2, .inr (3, [.ref u1, .ref u2, .ref u3, .ref u4, .ref u5])), (u1, .inr (6, [.int 0, .ref u11, .ref u12, .ref u13, .ref u14, .ref u15, .ref u16, .ref u17]))] (fun r w => r = (-1) ∧ w = [(o0, .inr (11, [.ref o1, .int 0, .ref o2, .ref o3, .ref o4, .ref o5, .ref o6, .ref o7, .ref o8, .ref o9, .ref o10])), (o2, .inr (3, [.ref u1, .ref u2, .ref u3, .ref u4, .ref u5])), (u1, .inr (6, [.int 0, .ref u11, .ref u12, .ref u13, .ref u14, .ref u15, .ref u16, .ref u17]))]) := by
  refine nz_Cl.mk (by decide) (Nat.le_of_ble_eq_true rfl) ?_
  intro p e s m below meth c A ls C0 hnm hP hD hS hA hX hl
  have C0 : nz_Cx p s m _ meth c b_NF_mean 7 (some .long) R_NF D cB cI cJ := C0
  obtain ⟨hx, hb, hr, hml, hown, hts, hlk, hK⟩ := id C0
  have hl : lv_has ls 7 [(0, .ref o0), (1, .int p0), (2, .int p1), (3, .int p2), (4, .int p3), (5, .int p4)] := hl
  refine lv_aload_n hx hb d_NF_mean_0 rfl (lv_at hl 0 rfl) ?_
  refine lv_iload_n hx hb d_NF_mean_1 rfl (lv_at hl 1 rfl) ?_
  refine nz_calVi (As := [.int p0]) (rest := []) C0 (c_NF_isPlace l D cB cI cJ o0 p0 o1 o2 o3 o4 o5 o6 o7 o8 o9 o10 u1 u2 u3 u4 u5 u11 u12 u13 u14 u15 u16 u17) g_NF_190 rfl nz_xb0 (by decide) hl.1 hP hD hS hA [0, 1, 2] [] rfl (wr := []) rfl (by decide) (by decide) (by decide) rfl rfl (fun _ _ _ => trivial) rfl (Nat.le_of_ble_eq_true rfl) d_NF_mean_2 (by decide) (fun r_1 u H locs h_2 hP hD hS => ?_)
  obtain ⟨h_2_r, rfl⟩ := h_2
  have hP : va_P D nz_cl [(o0, .inr (11, [.ref o1, .int 0, .ref o2, .ref o3, .ref o4, .ref o5, .ref o6, .ref o7, .ref o8, .ref o9, .ref o10])), (o2, .inr (3, [.ref u1, .ref u2, .ref u3, .ref u4, .ref u5])), (u1, .inr (6, [.int 0, .ref u11, .ref u12, .ref u13, .ref u14, .ref u15, .ref u16, .ref u17]))] H := hP
  have hD : va_D A [(o0, .inr (11, [.ref o1, .int 0, .ref o2, .ref o3, .ref o4, .ref o5, .ref o6, .ref o7, .ref o8, .ref o9, .ref o10])), (o2, .inr (3, [.ref u1, .ref u2, .ref u3, .ref u4, .ref u5])), (u1, .inr (6, [.int 0, .ref u11, .ref u12, .ref u13, .ref u14, .ref u15, .ref u16, .ref u17]))] := hD
  subst h_2_r
  refine lv_if_eq (tgt := 29) hx hb d_NF_mean_5 (by decide) (fun c_3 => ?_) (fun c_3 => absurd (by decide +kernel) c_3)
  refine lv_iconst (v := 0) hx hb d_NF_mean_29 (by decide +kernel) ?_
  refine lv_istore (lv' := [(6, .int 0), (0, .ref o0), (1, .int p0), (2, .int p1), (3, .int p2), (4, .int p3), (5, .int p4)]) hx hb d_NF_mean_30 hl (by decide) rfl (fun ls hl => ?_)
  refine lv_iload hx hb d_NF_mean_32 (lv_at hl 0 rfl) ?_
  refine lv_if_eq (tgt := 48) hx hb d_NF_mean_34 (by decide) (fun c_4 => ?_) (fun c_4 => absurd (by decide +kernel) c_4)
  refine lv_ldc2 (v := (-1)) hx hb hown (hts _ k_958) d_NF_mean_48 ?_
  exact nz_retl C0 (hP.sub (ws' := [(o0, .inr (11, [.ref o1, .int 0, .ref o2, .ref o3, .ref o4, .ref o5, .ref o6, .ref o7, .ref o8, .ref o9, .ref o10])), (o2, .inr (3, [.ref u1, .ref u2, .ref u3, .ref u4, .ref u5])), (u1, .inr (6, [.int 0, .ref u11, .ref u12, .ref u13, .ref u14, .ref u15, .ref u16, .ref u17]))]) [0, 1, 2] rfl) (hD.sub (ws' := [(o0, .inr (11, [.ref o1, .int 0, .ref o2, .ref o3, .ref o4, .ref o5, .ref o6, .ref o7, .ref o8, .ref o9, .ref o10])), (o2, .inr (3, [.ref u1, .ref u2, .ref u3, .ref u4, .ref u5])), (u1, .inr (6, [.int 0, .ref u11, .ref u12, .ref u13, .ref u14, .ref u15, .ref u16, .ref u17]))]) [0, 1, 2] (by decide) rfl) hS ⟨rfl, rfl⟩ d_NF_mean_51
