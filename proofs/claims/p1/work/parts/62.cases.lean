set_option maxHeartbeats 4000000 in
set_option maxRecDepth 100000 in
theorem nz_law_0 {p : Program} {l : Launch} {e : Env} {s : State} {m : MethodId} {below : List Frame} {meth : Method} {c : Code} {b : Nat} {xs : Nat → Int32} {H : Heap} {locs : List Loc} {ls : Array Slot} (D : va_G) (cB cI cJ : ClassId) (o0 : Nat) (o1 : Nat) (o2 : Nat) (o3 : Nat) (o4 : Nat) (o5 : Nat) (o6 : Nat) (o7 : Nat) (o8 : Nat) (o9 : Nat) (o10 : Nat) (m0_ : Nat) (m0 : Nat) (m1 : Nat) (m11 : Nat) (m12 : Nat) (m13 : Nat) (m14 : Nat) (m15 : Nat) (m16 : Nat) (m17 : Nat) (m18 : Nat) (m19 : Nat) (m20 : Nat) (m21 : Nat) (m22 : Nat) (m23 : Nat) (m24 : Nat) (m25 : Nat) (m26 : Nat) (m27 : Nat) (m28 : Nat) (m29 : Nat) (m30 : Nat) (m31 : Nat) (m32 : Nat) (m33 : Nat) (m34 : Nat) (m35 : Nat) (m36 : Nat) (m37 : Nat) (m38 : Nat) (m41 : Nat) (m42 : Nat) (m43 : Nat) (m44 : Nat) (m47 : Nat) (m48 : Nat) (m49 : Nat) (m50 : Nat) (m51 : Nat) (m52 : Nat) (m53 : Nat) (m54 : Nat) (C0 : nz_Cx p s m #[Value.ref b] meth c code 4 ret R_law D cB cI cJ) (hXs : va_X b 7 xs s s.heap) (hbl : b < s.heap.size) (hP : va_P D nz_cl [(o0, .inr (11, [.ref o1, .int 0, .ref o2, .ref o3, .ref o4, .ref o5, .ref o6, .ref o7, .ref o8, .ref o9, .ref o10])), (o1, .inl (cB, 1600, .inl (fun _ => 0))), (m0_, .inr (12, [.ref m0, .ref m1, .int 0, .int 0, .int 0, .int (-1), .int 0, .int 0, .int 0, .int 0, .long 0, .ref m11, .ref m12, .ref m13, .ref m14, .ref m15, .ref m16, .ref m17, .ref m18, .ref m19, .ref m20, .ref m21, .ref m22, .ref m23, .ref m24, .ref m25, .ref m26, .ref m27, .ref m28, .ref m29, .ref m30, .ref m31, .ref m32, .ref m33, .ref m34, .ref m35, .ref m36, .ref m37, .ref m38, .int 0, .int 0, .ref m41, .ref m42, .ref m43, .ref m44, .int 0, .int 0, .ref m47, .ref m48, .ref m49, .ref m50, .ref m51, .ref m52, .ref m53, .ref m54])), (m0, .inl (cB, 1620, .inl (fun _ => 0)))] H) (hD : va_D (fun q : Nat => s.heap.size ≤ q) [(o0, .inr (11, [.ref o1, .int 0, .ref o2, .ref o3, .ref o4, .ref o5, .ref o6, .ref o7, .ref o8, .ref o9, .ref o10])), (o1, .inl (cB, 1600, .inl (fun _ => 0))), (m0_, .inr (12, [.ref m0, .ref m1, .int 0, .int 0, .int 0, .int (-1), .int 0, .int 0, .int 0, .int 0, .long 0, .ref m11, .ref m12, .ref m13, .ref m14, .ref m15, .ref m16, .ref m17, .ref m18, .ref m19, .ref m20, .ref m21, .ref m22, .ref m23, .ref m24, .ref m25, .ref m26, .ref m27, .ref m28, .ref m29, .ref m30, .ref m31, .ref m32, .ref m33, .ref m34, .ref m35, .ref m36, .ref m37, .ref m38, .int 0, .int 0, .ref m41, .ref m42, .ref m43, .ref m44, .int 0, .int 0, .ref m47, .ref m48, .ref m49, .ref m50, .ref m51, .ref m52, .ref m53, .ref m54])), (m0, .inl (cB, 1620, .inl (fun _ => 0)))]) (hS : va_S (fun q : Nat => s.heap.size ≤ q) s.heap H locs) (hl : lv_has ls 4 [(3, .int 0), (2, .ref m0_), (1, .ref o0), (0, .ref b)]) : W p l e room_1 s m #[Value.ref b] below meth c H locs 124 7401 (lw_Z below #[Value.ref b] s) (F0 m 160 ls []) := by
  obtain ⟨hx, hb, hr, hml, hown, hts, hlk, hK⟩ := id C0
  generalize hAe : (fun q : Nat => s.heap.size ≤ q) = A at hD hS
  have hA : ∀ q : Nat, s.heap.size ≤ q → A q := fun q h => by rw [← hAe]; exact h
  have hbA : ¬ A b := by rw [← hAe]; exact Nat.not_le.mpr hbl
  refine lv_aload_n hx hb d_law_law_160 rfl (lv_at hl 2 rfl) ?_
  refine lv_aload_n hx hb d_law_law_161 rfl (lv_at hl 3 rfl) ?_
  refine lv_iload_n hx hb d_law_law_162 rfl (lv_at hl 0 rfl) ?_
  refine lv_iconst (v := 1) hx hb d_law_law_163 (by decide +kernel) ?_
  refine lv_iadd hx hb d_law_law_164 ?_
  refine nz_ctopi (v := 1) (by decide +kernel) ?_
  refine va_sld hx hb hXs hbl hbA hS (nz_vin (by decide +kernel)) d_law_law_165 ?_
  refine nz_ctopi (v := xs 1) rfl ?_
  refine lv_aload_n hx hb d_law_law_166 rfl (lv_at hl 3 rfl) ?_
  refine lv_iload_n hx hb d_law_law_167 rfl (lv_at hl 0 rfl) ?_
  refine lv_iconst (v := 2) hx hb d_law_law_168 (by decide +kernel) ?_
  refine lv_iadd hx hb d_law_law_169 ?_
  refine nz_ctopi (v := 2) (by decide +kernel) ?_
  refine va_sld hx hb hXs hbl hbA hS (nz_vin (by decide +kernel)) d_law_law_170 ?_
  refine nz_ctopi (v := xs 2) rfl ?_
  refine lv_aload_n hx hb d_law_law_171 rfl (lv_at hl 3 rfl) ?_
  refine lv_iload_n hx hb d_law_law_172 rfl (lv_at hl 0 rfl) ?_
  refine lv_iconst (v := 3) hx hb d_law_law_173 (by decide +kernel) ?_
  refine lv_iadd hx hb d_law_law_174 ?_
  refine nz_ctopi (v := 3) (by decide +kernel) ?_
  refine va_sld hx hb hXs hbl hbA hS (nz_vin (by decide +kernel)) d_law_law_175 ?_
  refine nz_ctopi (v := xs 3) rfl ?_
  refine lv_aload_n hx hb d_law_law_176 rfl (lv_at hl 3 rfl) ?_
  refine lv_iload_n hx hb d_law_law_177 rfl (lv_at hl 0 rfl) ?_
  refine lv_iconst (v := 4) hx hb d_law_law_178 (by decide +kernel) ?_
  refine lv_iadd hx hb d_law_law_179 ?_
  refine nz_ctopi (v := 4) (by decide +kernel) ?_
  refine va_sld hx hb hXs hbl hbA hS (nz_vin (by decide +kernel)) d_law_law_180 ?_
  refine nz_ctopi (v := xs 4) rfl ?_
  refine lv_aload_n hx hb d_law_law_181 rfl (lv_at hl 3 rfl) ?_
  refine lv_iload_n hx hb d_law_law_182 rfl (lv_at hl 0 rfl) ?_
  refine lv_iconst (v := 5) hx hb d_law_law_183 (by decide +kernel) ?_
  refine lv_iadd hx hb d_law_law_184 ?_
  refine nz_ctopi (v := 5) (by decide +kernel) ?_
  refine va_sld hx hb hXs hbl hbA hS (nz_vin (by decide +kernel)) d_law_law_185 ?_
  refine nz_ctopi (v := xs 5) rfl ?_
  refine nz_calVi (As := [.int (xs 1), .int (xs 2), .int (xs 3), .int (xs 4), .int (xs 5)]) (rest := []) C0 (c_NF_feed l D cB cI cJ o0 (xs 1) (xs 2) (xs 3) (xs 4) (xs 5) o1 o2 o3 o4 o5 o6 o7 o8 o9 o10 (fun _ => 0)) g_law_13 rfl nz_xb0 (by decide) hl.1 hP hD hS hA [0, 1] [2, 3] rfl (wr := [(m0_, .inr (12, [.ref m0, .ref m1, .int 0, .int 0, .int 0, .int (-1), .int 0, .int 0, .int 0, .int 0, .long 0, .ref m11, .ref m12, .ref m13, .ref m14, .ref m15, .ref m16, .ref m17, .ref m18, .ref m19, .ref m20, .ref m21, .ref m22, .ref m23, .ref m24, .ref m25, .ref m26, .ref m27, .ref m28, .ref m29, .ref m30, .ref m31, .ref m32, .ref m33, .ref m34, .ref m35, .ref m36, .ref m37, .ref m38, .int 0, .int 0, .ref m41, .ref m42, .ref m43, .ref m44, .int 0, .int 0, .ref m47, .ref m48, .ref m49, .ref m50, .ref m51, .ref m52, .ref m53, .ref m54])), (m0, .inl (cB, 1620, .inl (fun _ => 0)))]) rfl (by decide) (by decide) (by decide) rfl rfl (fun _ _ _ => trivial) rfl (Nat.le_of_ble_eq_true rfl) d_law_law_186 (by decide) (fun r_1 u H locs h_3 hP hD hS => ?_)
  obtain ⟨z_2, h_3_r, rfl⟩ := h_3
  have hP : va_P D nz_cl [(m0_, .inr (12, [.ref m0, .ref m1, .int 0, .int 0, .int 0, .int (-1), .int 0, .int 0, .int 0, .int 0, .long 0, .ref m11, .ref m12, .ref m13, .ref m14, .ref m15, .ref m16, .ref m17, .ref m18, .ref m19, .ref m20, .ref m21, .ref m22, .ref m23, .ref m24, .ref m25, .ref m26, .ref m27, .ref m28, .ref m29, .ref m30, .ref m31, .ref m32, .ref m33, .ref m34, .ref m35, .ref m36, .ref m37, .ref m38, .int 0, .int 0, .ref m41, .ref m42, .ref m43, .ref m44, .int 0, .int 0, .ref m47, .ref m48, .ref m49, .ref m50, .ref m51, .ref m52, .ref m53, .ref m54])), (m0, .inl (cB, 1620, .inl (fun _ => 0))), (o0, .inr (11, [.ref o1, .int 20, .ref o2, .ref o3, .ref o4, .ref o5, .ref o6, .ref o7, .ref o8, .ref o9, .ref o10])), (o1, .inl (cB, 1600, .inl z_2))] H := hP
  have hD : va_D A [(m0_, .inr (12, [.ref m0, .ref m1, .int 0, .int 0, .int 0, .int (-1), .int 0, .int 0, .int 0, .int 0, .long 0, .ref m11, .ref m12, .ref m13, .ref m14, .ref m15, .ref m16, .ref m17, .ref m18, .ref m19, .ref m20, .ref m21, .ref m22, .ref m23, .ref m24, .ref m25, .ref m26, .ref m27, .ref m28, .ref m29, .ref m30, .ref m31, .ref m32, .ref m33, .ref m34, .ref m35, .ref m36, .ref m37, .ref m38, .int 0, .int 0, .ref m41, .ref m42, .ref m43, .ref m44, .int 0, .int 0, .ref m47, .ref m48, .ref m49, .ref m50, .ref m51, .ref m52, .ref m53, .ref m54])), (m0, .inl (cB, 1620, .inl (fun _ => 0))), (o0, .inr (11, [.ref o1, .int 20, .ref o2, .ref o3, .ref o4, .ref o5, .ref o6, .ref o7, .ref o8, .ref o9, .ref o10])), (o1, .inl (cB, 1600, .inl z_2))] := hD
  subst h_3_r
  refine lv_aload_n hx hb d_law_law_189 rfl (lv_at hl 1 rfl) ?_
  refine lv_aload_n hx hb d_law_law_190 rfl (lv_at hl 3 rfl) ?_
  refine lv_iload_n hx hb d_law_law_191 rfl (lv_at hl 0 rfl) ?_
  refine lv_iconst (v := 1) hx hb d_law_law_192 (by decide +kernel) ?_
  refine lv_iadd hx hb d_law_law_193 ?_
  refine nz_ctopi (v := 1) (by decide +kernel) ?_
  refine va_sld hx hb hXs hbl hbA hS (nz_vin (by decide +kernel)) d_law_law_194 ?_
  refine nz_ctopi (v := xs 1) rfl ?_
  refine lv_aload_n hx hb d_law_law_195 rfl (lv_at hl 3 rfl) ?_
  refine lv_iload_n hx hb d_law_law_196 rfl (lv_at hl 0 rfl) ?_
  refine lv_iconst (v := 2) hx hb d_law_law_197 (by decide +kernel) ?_
  refine lv_iadd hx hb d_law_law_198 ?_
  refine nz_ctopi (v := 2) (by decide +kernel) ?_
  refine va_sld hx hb hXs hbl hbA hS (nz_vin (by decide +kernel)) d_law_law_199 ?_
  refine nz_ctopi (v := xs 2) rfl ?_
  refine lv_aload_n hx hb d_law_law_200 rfl (lv_at hl 3 rfl) ?_
  refine lv_iload_n hx hb d_law_law_201 rfl (lv_at hl 0 rfl) ?_
  refine lv_iconst (v := 3) hx hb d_law_law_202 (by decide +kernel) ?_
  refine lv_iadd hx hb d_law_law_203 ?_
  refine nz_ctopi (v := 3) (by decide +kernel) ?_
  refine va_sld hx hb hXs hbl hbA hS (nz_vin (by decide +kernel)) d_law_law_204 ?_
  refine nz_ctopi (v := xs 3) rfl ?_
  refine lv_aload_n hx hb d_law_law_205 rfl (lv_at hl 3 rfl) ?_
  refine lv_iload_n hx hb d_law_law_206 rfl (lv_at hl 0 rfl) ?_
  refine lv_iconst (v := 4) hx hb d_law_law_207 (by decide +kernel) ?_
  refine lv_iadd hx hb d_law_law_208 ?_
  refine nz_ctopi (v := 4) (by decide +kernel) ?_
  refine va_sld hx hb hXs hbl hbA hS (nz_vin (by decide +kernel)) d_law_law_209 ?_
  refine nz_ctopi (v := xs 4) rfl ?_
  refine lv_aload_n hx hb d_law_law_210 rfl (lv_at hl 3 rfl) ?_
  refine lv_iload_n hx hb d_law_law_211 rfl (lv_at hl 0 rfl) ?_
  refine lv_iconst (v := 5) hx hb d_law_law_212 (by decide +kernel) ?_
  refine lv_iadd hx hb d_law_law_213 ?_
  refine nz_ctopi (v := 5) (by decide +kernel) ?_
  refine va_sld hx hb hXs hbl hbA hS (nz_vin (by decide +kernel)) d_law_law_214 ?_
  refine nz_ctopi (v := xs 5) rfl ?_
  refine nz_calVi (As := [.int (xs 1), .int (xs 2), .int (xs 3), .int (xs 4), .int (xs 5)]) (rest := [.int 20]) C0 (c_Mo_feed l D cB cI cJ m0_ (xs 1) (xs 2) (xs 3) (xs 4) (xs 5) m0 m1 m11 m12 m13 m14 m15 m16 m17 m18 m19 m20 m21 m22 m23 m24 m25 m26 m27 m28 m29 m30 m31 m32 m33 m34 m35 m36 m37 m38 m41 m42 m43 m44 m47 m48 m49 m50 m51 m52 m53 m54 (fun _ => 0)) g_law_17 rfl nz_xb0 (by decide) hl.1 hP hD hS hA [0, 1] [2, 3] rfl (wr := [(o0, .inr (11, [.ref o1, .int 20, .ref o2, .ref o3, .ref o4, .ref o5, .ref o6, .ref o7, .ref o8, .ref o9, .ref o10])), (o1, .inl (cB, 1600, .inl z_2))]) rfl (by decide) (by decide) (by decide) rfl rfl (fun _ _ _ => trivial) rfl (Nat.le_of_ble_eq_true rfl) d_law_law_215 (by decide) (fun r_4 u H locs h_6 hP hD hS => ?_)
  obtain ⟨z_5, h_6_r, rfl⟩ := h_6
  have hP : va_P D nz_cl [(o0, .inr (11, [.ref o1, .int 20, .ref o2, .ref o3, .ref o4, .ref o5, .ref o6, .ref o7, .ref o8, .ref o9, .ref o10])), (o1, .inl (cB, 1600, .inl z_2)), (m0_, .inr (12, [.ref m0, .ref m1, .int 20, .int 0, .int 0, .int (-1), .int 0, .int 0, .int 0, .int 0, .long 0, .ref m11, .ref m12, .ref m13, .ref m14, .ref m15, .ref m16, .ref m17, .ref m18, .ref m19, .ref m20, .ref m21, .ref m22, .ref m23, .ref m24, .ref m25, .ref m26, .ref m27, .ref m28, .ref m29, .ref m30, .ref m31, .ref m32, .ref m33, .ref m34, .ref m35, .ref m36, .ref m37, .ref m38, .int 0, .int 0, .ref m41, .ref m42, .ref m43, .ref m44, .int 0, .int 0, .ref m47, .ref m48, .ref m49, .ref m50, .ref m51, .ref m52, .ref m53, .ref m54])), (m0, .inl (cB, 1620, .inl z_5))] H := hP
  have hD : va_D A [(o0, .inr (11, [.ref o1, .int 20, .ref o2, .ref o3, .ref o4, .ref o5, .ref o6, .ref o7, .ref o8, .ref o9, .ref o10])), (o1, .inl (cB, 1600, .inl z_2)), (m0_, .inr (12, [.ref m0, .ref m1, .int 20, .int 0, .int 0, .int (-1), .int 0, .int 0, .int 0, .int 0, .long 0, .ref m11, .ref m12, .ref m13, .ref m14, .ref m15, .ref m16, .ref m17, .ref m18, .ref m19, .ref m20, .ref m21, .ref m22, .ref m23, .ref m24, .ref m25, .ref m26, .ref m27, .ref m28, .ref m29, .ref m30, .ref m31, .ref m32, .ref m33, .ref m34, .ref m35, .ref m36, .ref m37, .ref m38, .int 0, .int 0, .ref m41, .ref m42, .ref m43, .ref m44, .int 0, .int 0, .ref m47, .ref m48, .ref m49, .ref m50, .ref m51, .ref m52, .ref m53, .ref m54])), (m0, .inl (cB, 1620, .inl z_5))] := hD
  subst h_6_r
  refine lv_icmp_eq (tgt := 1427) hx hb d_law_law_218 (by decide) (fun c_7 => ?_) (fun c_7 => absurd (by decide +kernel) c_7)
  exact nz_ltail C0 hXs hbl (by rw [hAe]; exact hS) hl
set_option maxHeartbeats 4000000 in
set_option maxRecDepth 100000 in
theorem nz_law_1 {p : Program} {l : Launch} {e : Env} {s : State} {m : MethodId} {below : List Frame} {meth : Method} {c : Code} {b : Nat} {xs : Nat → Int32} {H : Heap} {locs : List Loc} {ls : Array Slot} (D : va_G) (cB cI cJ : ClassId) (o0 : Nat) (o1 : Nat) (o2 : Nat) (o3 : Nat) (o4 : Nat) (o5 : Nat) (o6 : Nat) (o7 : Nat) (o8 : Nat) (o9 : Nat) (o10 : Nat) (m0_ : Nat) (m0 : Nat) (m1 : Nat) (m11 : Nat) (m12 : Nat) (m13 : Nat) (m14 : Nat) (m15 : Nat) (m16 : Nat) (m17 : Nat) (m18 : Nat) (m19 : Nat) (m20 : Nat) (m21 : Nat) (m22 : Nat) (m23 : Nat) (m24 : Nat) (m25 : Nat) (m26 : Nat) (m27 : Nat) (m28 : Nat) (m29 : Nat) (m30 : Nat) (m31 : Nat) (m32 : Nat) (m33 : Nat) (m34 : Nat) (m35 : Nat) (m36 : Nat) (m37 : Nat) (m38 : Nat) (m41 : Nat) (m42 : Nat) (m43 : Nat) (m44 : Nat) (m47 : Nat) (m48 : Nat) (m49 : Nat) (m50 : Nat) (m51 : Nat) (m52 : Nat) (m53 : Nat) (m54 : Nat) (C0 : nz_Cx p s m #[Value.ref b] meth c code 4 ret R_law D cB cI cJ) (hXs : va_X b 7 xs s s.heap) (hbl : b < s.heap.size) (hP : va_P D nz_cl [(o0, .inr (11, [.ref o1, .int 0, .ref o2, .ref o3, .ref o4, .ref o5, .ref o6, .ref o7, .ref o8, .ref o9, .ref o10])), (m0_, .inr (12, [.ref m0, .ref m1, .int 0, .int 0, .int 0, .int (-1), .int 0, .int 0, .int 0, .int 0, .long 0, .ref m11, .ref m12, .ref m13, .ref m14, .ref m15, .ref m16, .ref m17, .ref m18, .ref m19, .ref m20, .ref m21, .ref m22, .ref m23, .ref m24, .ref m25, .ref m26, .ref m27, .ref m28, .ref m29, .ref m30, .ref m31, .ref m32, .ref m33, .ref m34, .ref m35, .ref m36, .ref m37, .ref m38, .int 0, .int 0, .ref m41, .ref m42, .ref m43, .ref m44, .int 0, .int 0, .ref m47, .ref m48, .ref m49, .ref m50, .ref m51, .ref m52, .ref m53, .ref m54]))] H) (hD : va_D (fun q : Nat => s.heap.size ≤ q) [(o0, .inr (11, [.ref o1, .int 0, .ref o2, .ref o3, .ref o4, .ref o5, .ref o6, .ref o7, .ref o8, .ref o9, .ref o10])), (m0_, .inr (12, [.ref m0, .ref m1, .int 0, .int 0, .int 0, .int (-1), .int 0, .int 0, .int 0, .int 0, .long 0, .ref m11, .ref m12, .ref m13, .ref m14, .ref m15, .ref m16, .ref m17, .ref m18, .ref m19, .ref m20, .ref m21, .ref m22, .ref m23, .ref m24, .ref m25, .ref m26, .ref m27, .ref m28, .ref m29, .ref m30, .ref m31, .ref m32, .ref m33, .ref m34, .ref m35, .ref m36, .ref m37, .ref m38, .int 0, .int 0, .ref m41, .ref m42, .ref m43, .ref m44, .int 0, .int 0, .ref m47, .ref m48, .ref m49, .ref m50, .ref m51, .ref m52, .ref m53, .ref m54]))]) (hS : va_S (fun q : Nat => s.heap.size ≤ q) s.heap H locs) (hl : lv_has ls 4 [(3, .int 0), (2, .ref m0_), (1, .ref o0), (0, .ref b)]) : W p l e room_1 s m #[Value.ref b] below meth c H locs 124 7401 (lw_Z below #[Value.ref b] s) (F0 m 223 ls []) := by
  obtain ⟨hx, hb, hr, hml, hown, hts, hlk, hK⟩ := id C0
  generalize hAe : (fun q : Nat => s.heap.size ≤ q) = A at hD hS
  have hA : ∀ q : Nat, s.heap.size ≤ q → A q := fun q h => by rw [← hAe]; exact h
  have hbA : ¬ A b := by rw [← hAe]; exact Nat.not_le.mpr hbl
  refine lv_aload_n hx hb d_law_law_223 rfl (lv_at hl 2 rfl) ?_
  refine lv_aload_n hx hb d_law_law_224 rfl (lv_at hl 3 rfl) ?_
  refine lv_iload_n hx hb d_law_law_225 rfl (lv_at hl 0 rfl) ?_
  refine lv_iconst (v := 1) hx hb d_law_law_226 (by decide +kernel) ?_
  refine lv_iadd hx hb d_law_law_227 ?_
  refine nz_ctopi (v := 1) (by decide +kernel) ?_
  refine va_sld hx hb hXs hbl hbA hS (nz_vin (by decide +kernel)) d_law_law_228 ?_
  refine nz_ctopi (v := xs 1) rfl ?_
  refine nz_calVi (As := [.int (xs 1)]) (rest := []) C0 (c_NF_end l D cB cI cJ o0 (xs 1) o1 o2 o3 o4 o5 o6 o7 o8 o9 o10) g_law_18 rfl nz_xb0 (by decide) hl.1 hP hD hS hA [0] [1] rfl (wr := [(m0_, .inr (12, [.ref m0, .ref m1, .int 0, .int 0, .int 0, .int (-1), .int 0, .int 0, .int 0, .int 0, .long 0, .ref m11, .ref m12, .ref m13, .ref m14, .ref m15, .ref m16, .ref m17, .ref m18, .ref m19, .ref m20, .ref m21, .ref m22, .ref m23, .ref m24, .ref m25, .ref m26, .ref m27, .ref m28, .ref m29, .ref m30, .ref m31, .ref m32, .ref m33, .ref m34, .ref m35, .ref m36, .ref m37, .ref m38, .int 0, .int 0, .ref m41, .ref m42, .ref m43, .ref m44, .int 0, .int 0, .ref m47, .ref m48, .ref m49, .ref m50, .ref m51, .ref m52, .ref m53, .ref m54]))]) rfl (by decide) (by decide) (by decide) rfl rfl (fun _ _ _ => trivial) rfl (Nat.le_of_ble_eq_true rfl) d_law_law_229 (by decide) (fun r_1 u H locs h_3 hP hD hS => ?_)
  obtain ⟨z_2, h_3_r, rfl⟩ := h_3
  have hP : va_P D nz_cl [(m0_, .inr (12, [.ref m0, .ref m1, .int 0, .int 0, .int 0, .int (-1), .int 0, .int 0, .int 0, .int 0, .long 0, .ref m11, .ref m12, .ref m13, .ref m14, .ref m15, .ref m16, .ref m17, .ref m18, .ref m19, .ref m20, .ref m21, .ref m22, .ref m23, .ref m24, .ref m25, .ref m26, .ref m27, .ref m28, .ref m29, .ref m30, .ref m31, .ref m32, .ref m33, .ref m34, .ref m35, .ref m36, .ref m37, .ref m38, .int 0, .int 0, .ref m41, .ref m42, .ref m43, .ref m44, .int 0, .int 0, .ref m47, .ref m48, .ref m49, .ref m50, .ref m51, .ref m52, .ref m53, .ref m54])), (o0, .inr (11, [.ref o1, .int z_2, .ref o2, .ref o3, .ref o4, .ref o5, .ref o6, .ref o7, .ref o8, .ref o9, .ref o10]))] H := hP
  have hD : va_D A [(m0_, .inr (12, [.ref m0, .ref m1, .int 0, .int 0, .int 0, .int (-1), .int 0, .int 0, .int 0, .int 0, .long 0, .ref m11, .ref m12, .ref m13, .ref m14, .ref m15, .ref m16, .ref m17, .ref m18, .ref m19, .ref m20, .ref m21, .ref m22, .ref m23, .ref m24, .ref m25, .ref m26, .ref m27, .ref m28, .ref m29, .ref m30, .ref m31, .ref m32, .ref m33, .ref m34, .ref m35, .ref m36, .ref m37, .ref m38, .int 0, .int 0, .ref m41, .ref m42, .ref m43, .ref m44, .int 0, .int 0, .ref m47, .ref m48, .ref m49, .ref m50, .ref m51, .ref m52, .ref m53, .ref m54])), (o0, .inr (11, [.ref o1, .int z_2, .ref o2, .ref o3, .ref o4, .ref o5, .ref o6, .ref o7, .ref o8, .ref o9, .ref o10]))] := hD
  subst h_3_r
  refine lv_aload_n hx hb d_law_law_232 rfl (lv_at hl 1 rfl) ?_
  refine lv_aload_n hx hb d_law_law_233 rfl (lv_at hl 3 rfl) ?_
  refine lv_iload_n hx hb d_law_law_234 rfl (lv_at hl 0 rfl) ?_
  refine lv_iconst (v := 1) hx hb d_law_law_235 (by decide +kernel) ?_
  refine lv_iadd hx hb d_law_law_236 ?_
  refine nz_ctopi (v := 1) (by decide +kernel) ?_
  refine va_sld hx hb hXs hbl hbA hS (nz_vin (by decide +kernel)) d_law_law_237 ?_
  refine nz_ctopi (v := xs 1) rfl ?_
  refine nz_calVi (As := [.int (xs 1)]) (rest := [.int (nz_en (xs 1))]) C0 (c_Mo_end l D cB cI cJ m0_ (xs 1) m0 m1 m11 m12 m13 m14 m15 m16 m17 m18 m19 m20 m21 m22 m23 m24 m25 m26 m27 m28 m29 m30 m31 m32 m33 m34 m35 m36 m37 m38 m41 m42 m43 m44 m47 m48 m49 m50 m51 m52 m53 m54) g_law_22 rfl nz_xb0 (by decide) hl.1 hP hD hS hA [0] [1] rfl (wr := [(o0, .inr (11, [.ref o1, .int z_2, .ref o2, .ref o3, .ref o4, .ref o5, .ref o6, .ref o7, .ref o8, .ref o9, .ref o10]))]) rfl (by decide) (by decide) (by decide) rfl rfl (fun _ _ _ => trivial) rfl (Nat.le_of_ble_eq_true rfl) d_law_law_238 (by decide) (fun r_4 u H locs h_6 hP hD hS => ?_)
  obtain ⟨z_5, h_6_r, rfl⟩ := h_6
  have hP : va_P D nz_cl [(o0, .inr (11, [.ref o1, .int z_2, .ref o2, .ref o3, .ref o4, .ref o5, .ref o6, .ref o7, .ref o8, .ref o9, .ref o10])), (m0_, .inr (12, [.ref m0, .ref m1, .int z_5, .int 0, .int 0, .int (-1), .int 0, .int 0, .int 0, .int 0, .long 0, .ref m11, .ref m12, .ref m13, .ref m14, .ref m15, .ref m16, .ref m17, .ref m18, .ref m19, .ref m20, .ref m21, .ref m22, .ref m23, .ref m24, .ref m25, .ref m26, .ref m27, .ref m28, .ref m29, .ref m30, .ref m31, .ref m32, .ref m33, .ref m34, .ref m35, .ref m36, .ref m37, .ref m38, .int 0, .int 0, .ref m41, .ref m42, .ref m43, .ref m44, .int 0, .int 0, .ref m47, .ref m48, .ref m49, .ref m50, .ref m51, .ref m52, .ref m53, .ref m54]))] H := hP
  have hD : va_D A [(o0, .inr (11, [.ref o1, .int z_2, .ref o2, .ref o3, .ref o4, .ref o5, .ref o6, .ref o7, .ref o8, .ref o9, .ref o10])), (m0_, .inr (12, [.ref m0, .ref m1, .int z_5, .int 0, .int 0, .int (-1), .int 0, .int 0, .int 0, .int 0, .long 0, .ref m11, .ref m12, .ref m13, .ref m14, .ref m15, .ref m16, .ref m17, .ref m18, .ref m19, .ref m20, .ref m21, .ref m22, .ref m23, .ref m24, .ref m25, .ref m26, .ref m27, .ref m28, .ref m29, .ref m30, .ref m31, .ref m32, .ref m33, .ref m34, .ref m35, .ref m36, .ref m37, .ref m38, .int 0, .int 0, .ref m41, .ref m42, .ref m43, .ref m44, .int 0, .int 0, .ref m47, .ref m48, .ref m49, .ref m50, .ref m51, .ref m52, .ref m53, .ref m54]))] := hD
  subst h_6_r
  refine lv_icmp_eq (tgt := 1427) hx hb d_law_law_241 (by decide) (fun c_7 => ?_) (fun c_7 => absurd rfl c_7)
  exact nz_ltail C0 hXs hbl (by rw [hAe]; exact hS) hl
set_option maxHeartbeats 4000000 in
set_option maxRecDepth 100000 in
theorem nz_law_2 {p : Program} {l : Launch} {e : Env} {s : State} {m : MethodId} {below : List Frame} {meth : Method} {c : Code} {b : Nat} {xs : Nat → Int32} {H : Heap} {locs : List Loc} {ls : Array Slot} (D : va_G) (cB cI cJ : ClassId) (o0 : Nat) (o1 : Nat) (o2 : Nat) (o3 : Nat) (o4 : Nat) (o5 : Nat) (o6 : Nat) (o7 : Nat) (o8 : Nat) (o9 : Nat) (o10 : Nat) (s0 : Nat) (s1 : Nat) (v1 : Nat) (v2 : Nat) (v3 : Nat) (v4 : Nat) (v5 : Nat) (v11 : Nat) (v12 : Nat) (v13 : Nat) (v14 : Nat) (v15 : Nat) (v16 : Nat) (v17 : Nat) (v21 : Nat) (v22 : Nat) (v23 : Nat) (v24 : Nat) (v31 : Nat) (v32 : Nat) (v41 : Nat) (v42 : Nat) (v43 : Nat) (v44 : Nat) (v45 : Nat) (v46 : Nat) (v47 : Nat) (v48 : Nat) (v49 : Nat) (d1 : Nat) (d2 : Nat) (d3 : Nat) (d4 : Nat) (m0_ : Nat) (m0 : Nat) (m1 : Nat) (m11 : Nat) (m12 : Nat) (m13 : Nat) (m14 : Nat) (m15 : Nat) (m16 : Nat) (m17 : Nat) (m18 : Nat) (m19 : Nat) (m20 : Nat) (m21 : Nat) (m22 : Nat) (m23 : Nat) (m24 : Nat) (m25 : Nat) (m26 : Nat) (m27 : Nat) (m28 : Nat) (m29 : Nat) (m30 : Nat) (m31 : Nat) (m32 : Nat) (m33 : Nat) (m34 : Nat) (m35 : Nat) (m36 : Nat) (m37 : Nat) (m38 : Nat) (m41 : Nat) (m42 : Nat) (m43 : Nat) (m44 : Nat) (m47 : Nat) (m48 : Nat) (m49 : Nat) (m50 : Nat) (m51 : Nat) (m52 : Nat) (m53 : Nat) (m54 : Nat) (C0 : nz_Cx p s m #[Value.ref b] meth c code 4 ret R_law D cB cI cJ) (hXs : va_X b 7 xs s s.heap) (hbl : b < s.heap.size) (hP : va_P D nz_cl [(o0, .inr (11, [.ref o1, .int 0, .ref o2, .ref o3, .ref o4, .ref o5, .ref o6, .ref o7, .ref o8, .ref o9, .ref o10])), (o4, .inr (7, [.int 0, .int (-1), .ref s0, .long 0, .int 0])), (s0, .inr (8, [.int 0, .int 0, .long 0, .int 0, .int 0, .ref o1, .ref s1, .int 0, .int 0])), (o1, .inl (cB, 1600, .inl (fun _ => 0))), (o3, .inr (3, [.ref v1, .ref v2, .ref v3, .ref v4, .ref v5])), (v1, .inr (6, [.int 0, .ref v11, .ref v12, .ref v13, .ref v14, .ref v15, .ref v16, .ref v17])), (v2, .inr (4, [.int 0, .ref v21, .int 0, .ref v22, .ref v23, .ref v24])), (v3, .inr (10, [.int 0, .ref v31, .ref v32])), (v4, .inr (5, [.int 0, .int 0, .ref v41, .ref v42, .ref v43, .ref v44, .ref v45, .ref v46, .ref v47, .ref v48, .ref v49])), (v17, .inl (cI, 32, .inl (fun _ => 0))), (v47, .inl (cI, 12, .inl (fun _ => 0))), (o5, .inr (1, [.int 0, .int 0, .ref d1, .ref d2, .ref d3, .ref d4])), (m0_, .inr (12, [.ref m0, .ref m1, .int 0, .int 0, .int 0, .int (-1), .int 0, .int 0, .int 0, .int 0, .long 0, .ref m11, .ref m12, .ref m13, .ref m14, .ref m15, .ref m16, .ref m17, .ref m18, .ref m19, .ref m20, .ref m21, .ref m22, .ref m23, .ref m24, .ref m25, .ref m26, .ref m27, .ref m28, .ref m29, .ref m30, .ref m31, .ref m32, .ref m33, .ref m34, .ref m35, .ref m36, .ref m37, .ref m38, .int 0, .int 0, .ref m41, .ref m42, .ref m43, .ref m44, .int 0, .int 0, .ref m47, .ref m48, .ref m49, .ref m50, .ref m51, .ref m52, .ref m53, .ref m54])), (m11, .inl (cI, 2, .inl (fun _ => 0))), (m12, .inl (cI, 2, .inl (fun _ => 0))), (m13, .inl (cI, 2, .inl (fun _ => 0))), (m14, .inl (cI, 2, .inl (fun _ => 0))), (m15, .inl (cI, 2, .inl (fun _ => 0))), (m16, .inl (cI, 2, .inl (fun _ => 0))), (m17, .inl (cI, 2, .inl (fun _ => 0)))] H) (hD : va_D (fun q : Nat => s.heap.size ≤ q) [(o0, .inr (11, [.ref o1, .int 0, .ref o2, .ref o3, .ref o4, .ref o5, .ref o6, .ref o7, .ref o8, .ref o9, .ref o10])), (o4, .inr (7, [.int 0, .int (-1), .ref s0, .long 0, .int 0])), (s0, .inr (8, [.int 0, .int 0, .long 0, .int 0, .int 0, .ref o1, .ref s1, .int 0, .int 0])), (o1, .inl (cB, 1600, .inl (fun _ => 0))), (o3, .inr (3, [.ref v1, .ref v2, .ref v3, .ref v4, .ref v5])), (v1, .inr (6, [.int 0, .ref v11, .ref v12, .ref v13, .ref v14, .ref v15, .ref v16, .ref v17])), (v2, .inr (4, [.int 0, .ref v21, .int 0, .ref v22, .ref v23, .ref v24])), (v3, .inr (10, [.int 0, .ref v31, .ref v32])), (v4, .inr (5, [.int 0, .int 0, .ref v41, .ref v42, .ref v43, .ref v44, .ref v45, .ref v46, .ref v47, .ref v48, .ref v49])), (v17, .inl (cI, 32, .inl (fun _ => 0))), (v47, .inl (cI, 12, .inl (fun _ => 0))), (o5, .inr (1, [.int 0, .int 0, .ref d1, .ref d2, .ref d3, .ref d4])), (m0_, .inr (12, [.ref m0, .ref m1, .int 0, .int 0, .int 0, .int (-1), .int 0, .int 0, .int 0, .int 0, .long 0, .ref m11, .ref m12, .ref m13, .ref m14, .ref m15, .ref m16, .ref m17, .ref m18, .ref m19, .ref m20, .ref m21, .ref m22, .ref m23, .ref m24, .ref m25, .ref m26, .ref m27, .ref m28, .ref m29, .ref m30, .ref m31, .ref m32, .ref m33, .ref m34, .ref m35, .ref m36, .ref m37, .ref m38, .int 0, .int 0, .ref m41, .ref m42, .ref m43, .ref m44, .int 0, .int 0, .ref m47, .ref m48, .ref m49, .ref m50, .ref m51, .ref m52, .ref m53, .ref m54])), (m11, .inl (cI, 2, .inl (fun _ => 0))), (m12, .inl (cI, 2, .inl (fun _ => 0))), (m13, .inl (cI, 2, .inl (fun _ => 0))), (m14, .inl (cI, 2, .inl (fun _ => 0))), (m15, .inl (cI, 2, .inl (fun _ => 0))), (m16, .inl (cI, 2, .inl (fun _ => 0))), (m17, .inl (cI, 2, .inl (fun _ => 0)))]) (hS : va_S (fun q : Nat => s.heap.size ≤ q) s.heap H locs) (hl : lv_has ls 4 [(3, .int 0), (2, .ref m0_), (1, .ref o0), (0, .ref b)]) : W p l e room_1 s m #[Value.ref b] below meth c H locs 124 7401 (lw_Z below #[Value.ref b] s) (F0 m 246 ls []) := by
  obtain ⟨hx, hb, hr, hml, hown, hts, hlk, hK⟩ := id C0
  generalize hAe : (fun q : Nat => s.heap.size ≤ q) = A at hD hS
  have hA : ∀ q : Nat, s.heap.size ≤ q → A q := fun q h => by rw [← hAe]; exact h
  have hbA : ¬ A b := by rw [← hAe]; exact Nat.not_le.mpr hbl
  refine lv_aload_n hx hb d_law_law_246 rfl (lv_at hl 2 rfl) ?_
  refine nz_calVi (As := []) (rest := []) C0 (c_NF_land l D cB cI cJ o0 o1 o2 o3 o4 o5 o6 o7 o8 o9 o10 s0 s1 (fun _ => 0) v1 v2 v3 v4 v5 v11 v12 v13 v14 v15 v16 v17 v21 v22 v23 v24 v31 v32 v41 v42 v43 v44 v45 v46 v47 v48 v49 d1 d2 d3 d4) g_law_23 rfl nz_xb0 (by decide) hl.1 hP hD hS hA [0, 1, 2, 3, 4, 5, 6, 7, 8, 9, 10, 11] [12, 13, 14, 15, 16, 17, 18, 19] rfl (wr := [(m0_, .inr (12, [.ref m0, .ref m1, .int 0, .int 0, .int 0, .int (-1), .int 0, .int 0, .int 0, .int 0, .long 0, .ref m11, .ref m12, .ref m13, .ref m14, .ref m15, .ref m16, .ref m17, .ref m18, .ref m19, .ref m20, .ref m21, .ref m22, .ref m23, .ref m24, .ref m25, .ref m26, .ref m27, .ref m28, .ref m29, .ref m30, .ref m31, .ref m32, .ref m33, .ref m34, .ref m35, .ref m36, .ref m37, .ref m38, .int 0, .int 0, .ref m41, .ref m42, .ref m43, .ref m44, .int 0, .int 0, .ref m47, .ref m48, .ref m49, .ref m50, .ref m51, .ref m52, .ref m53, .ref m54])), (m11, .inl (cI, 2, .inl (fun _ => 0))), (m12, .inl (cI, 2, .inl (fun _ => 0))), (m13, .inl (cI, 2, .inl (fun _ => 0))), (m14, .inl (cI, 2, .inl (fun _ => 0))), (m15, .inl (cI, 2, .inl (fun _ => 0))), (m16, .inl (cI, 2, .inl (fun _ => 0))), (m17, .inl (cI, 2, .inl (fun _ => 0)))]) rfl (by decide) (by decide) (by decide) rfl rfl (fun _ _ _ => trivial) rfl (Nat.le_of_ble_eq_true rfl) d_law_law_247 (by decide) (fun r_1 u H locs h_2 hP hD hS => ?_)
  obtain ⟨h_2_r, rfl⟩ := h_2
  have hP : va_P D nz_cl [(m0_, .inr (12, [.ref m0, .ref m1, .int 0, .int 0, .int 0, .int (-1), .int 0, .int 0, .int 0, .int 0, .long 0, .ref m11, .ref m12, .ref m13, .ref m14, .ref m15, .ref m16, .ref m17, .ref m18, .ref m19, .ref m20, .ref m21, .ref m22, .ref m23, .ref m24, .ref m25, .ref m26, .ref m27, .ref m28, .ref m29, .ref m30, .ref m31, .ref m32, .ref m33, .ref m34, .ref m35, .ref m36, .ref m37, .ref m38, .int 0, .int 0, .ref m41, .ref m42, .ref m43, .ref m44, .int 0, .int 0, .ref m47, .ref m48, .ref m49, .ref m50, .ref m51, .ref m52, .ref m53, .ref m54])), (m11, .inl (cI, 2, .inl (fun _ => 0))), (m12, .inl (cI, 2, .inl (fun _ => 0))), (m13, .inl (cI, 2, .inl (fun _ => 0))), (m14, .inl (cI, 2, .inl (fun _ => 0))), (m15, .inl (cI, 2, .inl (fun _ => 0))), (m16, .inl (cI, 2, .inl (fun _ => 0))), (m17, .inl (cI, 2, .inl (fun _ => 0))), (o0, .inr (11, [.ref o1, .int 0, .ref o3, .ref o2, .ref o4, .ref o5, .ref o6, .ref o7, .ref o8, .ref o9, .ref o10])), (o4, .inr (7, [.int 0, .int (-1), .ref s0, .long 0, .int 0])), (s0, .inr (8, [.int 5, .int 0, .long 0, .int 0, .int 0, .ref o1, .ref s1, .int 0, .int 0])), (o1, .inl (cB, 1600, .inl (fun _ => 0))), (o3, .inr (3, [.ref v1, .ref v2, .ref v3, .ref v4, .ref v5])), (v1, .inr (6, [.int 0, .ref v11, .ref v12, .ref v13, .ref v14, .ref v15, .ref v16, .ref v17])), (v2, .inr (4, [.int 0, .ref v21, .int 0, .ref v22, .ref v23, .ref v24])), (v3, .inr (10, [.int 0, .ref v31, .ref v32])), (v4, .inr (5, [.int 0, .int 0, .ref v41, .ref v42, .ref v43, .ref v44, .ref v45, .ref v46, .ref v47, .ref v48, .ref v49])), (v17, .inl (cI, 32, .inl (fun _ => 0))), (v47, .inl (cI, 12, .inl (fun _ => 0))), (o5, .inr (1, [.int 0, .int 0, .ref d1, .ref d2, .ref d3, .ref d4]))] H := hP
  have hD : va_D A [(m0_, .inr (12, [.ref m0, .ref m1, .int 0, .int 0, .int 0, .int (-1), .int 0, .int 0, .int 0, .int 0, .long 0, .ref m11, .ref m12, .ref m13, .ref m14, .ref m15, .ref m16, .ref m17, .ref m18, .ref m19, .ref m20, .ref m21, .ref m22, .ref m23, .ref m24, .ref m25, .ref m26, .ref m27, .ref m28, .ref m29, .ref m30, .ref m31, .ref m32, .ref m33, .ref m34, .ref m35, .ref m36, .ref m37, .ref m38, .int 0, .int 0, .ref m41, .ref m42, .ref m43, .ref m44, .int 0, .int 0, .ref m47, .ref m48, .ref m49, .ref m50, .ref m51, .ref m52, .ref m53, .ref m54])), (m11, .inl (cI, 2, .inl (fun _ => 0))), (m12, .inl (cI, 2, .inl (fun _ => 0))), (m13, .inl (cI, 2, .inl (fun _ => 0))), (m14, .inl (cI, 2, .inl (fun _ => 0))), (m15, .inl (cI, 2, .inl (fun _ => 0))), (m16, .inl (cI, 2, .inl (fun _ => 0))), (m17, .inl (cI, 2, .inl (fun _ => 0))), (o0, .inr (11, [.ref o1, .int 0, .ref o3, .ref o2, .ref o4, .ref o5, .ref o6, .ref o7, .ref o8, .ref o9, .ref o10])), (o4, .inr (7, [.int 0, .int (-1), .ref s0, .long 0, .int 0])), (s0, .inr (8, [.int 5, .int 0, .long 0, .int 0, .int 0, .ref o1, .ref s1, .int 0, .int 0])), (o1, .inl (cB, 1600, .inl (fun _ => 0))), (o3, .inr (3, [.ref v1, .ref v2, .ref v3, .ref v4, .ref v5])), (v1, .inr (6, [.int 0, .ref v11, .ref v12, .ref v13, .ref v14, .ref v15, .ref v16, .ref v17])), (v2, .inr (4, [.int 0, .ref v21, .int 0, .ref v22, .ref v23, .ref v24])), (v3, .inr (10, [.int 0, .ref v31, .ref v32])), (v4, .inr (5, [.int 0, .int 0, .ref v41, .ref v42, .ref v43, .ref v44, .ref v45, .ref v46, .ref v47, .ref v48, .ref v49])), (v17, .inl (cI, 32, .inl (fun _ => 0))), (v47, .inl (cI, 12, .inl (fun _ => 0))), (o5, .inr (1, [.int 0, .int 0, .ref d1, .ref d2, .ref d3, .ref d4]))] := hD
  subst h_2_r
  refine lv_aload_n hx hb d_law_law_250 rfl (lv_at hl 1 rfl) ?_
  refine nz_calVi (As := []) (rest := [.int 0]) C0 (c_Mo_land l D cB cI cJ m0_ m0 m1 m11 m12 m13 m14 m15 m16 m17 m18 m19 m20 m21 m22 m23 m24 m25 m26 m27 m28 m29 m30 m31 m32 m33 m34 m35 m36 m37 m38 m41 m42 m43 m44 m47 m48 m49 m50 m51 m52 m53 m54) g_law_27 rfl nz_xb0 (by decide) hl.1 hP hD hS hA [0, 1, 2, 3, 4, 5, 6, 7] [8, 9, 10, 11, 12, 13, 14, 15, 16, 17, 18, 19] rfl (wr := [(o0, .inr (11, [.ref o1, .int 0, .ref o3, .ref o2, .ref o4, .ref o5, .ref o6, .ref o7, .ref o8, .ref o9, .ref o10])), (o4, .inr (7, [.int 0, .int (-1), .ref s0, .long 0, .int 0])), (s0, .inr (8, [.int 5, .int 0, .long 0, .int 0, .int 0, .ref o1, .ref s1, .int 0, .int 0])), (o1, .inl (cB, 1600, .inl (fun _ => 0))), (o3, .inr (3, [.ref v1, .ref v2, .ref v3, .ref v4, .ref v5])), (v1, .inr (6, [.int 0, .ref v11, .ref v12, .ref v13, .ref v14, .ref v15, .ref v16, .ref v17])), (v2, .inr (4, [.int 0, .ref v21, .int 0, .ref v22, .ref v23, .ref v24])), (v3, .inr (10, [.int 0, .ref v31, .ref v32])), (v4, .inr (5, [.int 0, .int 0, .ref v41, .ref v42, .ref v43, .ref v44, .ref v45, .ref v46, .ref v47, .ref v48, .ref v49])), (v17, .inl (cI, 32, .inl (fun _ => 0))), (v47, .inl (cI, 12, .inl (fun _ => 0))), (o5, .inr (1, [.int 0, .int 0, .ref d1, .ref d2, .ref d3, .ref d4]))]) rfl (by decide) (by decide) (by decide) rfl rfl (fun _ _ _ => trivial) rfl (Nat.le_of_ble_eq_true rfl) d_law_law_251 (by decide) (fun r_3 u H locs h_4 hP hD hS => ?_)
  obtain ⟨h_4_r, rfl⟩ := h_4
  have hP : va_P D nz_cl [(o0, .inr (11, [.ref o1, .int 0, .ref o3, .ref o2, .ref o4, .ref o5, .ref o6, .ref o7, .ref o8, .ref o9, .ref o10])), (o4, .inr (7, [.int 0, .int (-1), .ref s0, .long 0, .int 0])), (s0, .inr (8, [.int 5, .int 0, .long 0, .int 0, .int 0, .ref o1, .ref s1, .int 0, .int 0])), (o1, .inl (cB, 1600, .inl (fun _ => 0))), (o3, .inr (3, [.ref v1, .ref v2, .ref v3, .ref v4, .ref v5])), (v1, .inr (6, [.int 0, .ref v11, .ref v12, .ref v13, .ref v14, .ref v15, .ref v16, .ref v17])), (v2, .inr (4, [.int 0, .ref v21, .int 0, .ref v22, .ref v23, .ref v24])), (v3, .inr (10, [.int 0, .ref v31, .ref v32])), (v4, .inr (5, [.int 0, .int 0, .ref v41, .ref v42, .ref v43, .ref v44, .ref v45, .ref v46, .ref v47, .ref v48, .ref v49])), (v17, .inl (cI, 32, .inl (fun _ => 0))), (v47, .inl (cI, 12, .inl (fun _ => 0))), (o5, .inr (1, [.int 0, .int 0, .ref d1, .ref d2, .ref d3, .ref d4])), (m0_, .inr (12, [.ref m0, .ref m1, .int 0, .int 0, .int 0, .int (-1), .int 0, .int 0, .int 0, .int 0, .long 0, .ref m11, .ref m12, .ref m13, .ref m14, .ref m15, .ref m16, .ref m17, .ref m18, .ref m19, .ref m20, .ref m21, .ref m22, .ref m23, .ref m24, .ref m25, .ref m26, .ref m27, .ref m28, .ref m29, .ref m30, .ref m31, .ref m32, .ref m33, .ref m34, .ref m35, .ref m36, .ref m37, .ref m38, .int 1, .int 1, .ref m41, .ref m42, .ref m43, .ref m44, .int 0, .int 0, .ref m47, .ref m48, .ref m49, .ref m50, .ref m51, .ref m52, .ref m53, .ref m54])), (m11, .inl (cI, 2, .inl (fun _ => 0))), (m12, .inl (cI, 2, .inl (fun _ => 0))), (m13, .inl (cI, 2, .inl (fun _ => 0))), (m14, .inl (cI, 2, .inl (fun _ => 0))), (m15, .inl (cI, 2, .inl (fun _ => 0))), (m16, .inl (cI, 2, .inl (fun _ => 0))), (m17, .inl (cI, 2, .inl (fun _ => 0)))] H := hP
  have hD : va_D A [(o0, .inr (11, [.ref o1, .int 0, .ref o3, .ref o2, .ref o4, .ref o5, .ref o6, .ref o7, .ref o8, .ref o9, .ref o10])), (o4, .inr (7, [.int 0, .int (-1), .ref s0, .long 0, .int 0])), (s0, .inr (8, [.int 5, .int 0, .long 0, .int 0, .int 0, .ref o1, .ref s1, .int 0, .int 0])), (o1, .inl (cB, 1600, .inl (fun _ => 0))), (o3, .inr (3, [.ref v1, .ref v2, .ref v3, .ref v4, .ref v5])), (v1, .inr (6, [.int 0, .ref v11, .ref v12, .ref v13, .ref v14, .ref v15, .ref v16, .ref v17])), (v2, .inr (4, [.int 0, .ref v21, .int 0, .ref v22, .ref v23, .ref v24])), (v3, .inr (10, [.int 0, .ref v31, .ref v32])), (v4, .inr (5, [.int 0, .int 0, .ref v41, .ref v42, .ref v43, .ref v44, .ref v45, .ref v46, .ref v47, .ref v48, .ref v49])), (v17, .inl (cI, 32, .inl (fun _ => 0))), (v47, .inl (cI, 12, .inl (fun _ => 0))), (o5, .inr (1, [.int 0, .int 0, .ref d1, .ref d2, .ref d3, .ref d4])), (m0_, .inr (12, [.ref m0, .ref m1, .int 0, .int 0, .int 0, .int (-1), .int 0, .int 0, .int 0, .int 0, .long 0, .ref m11, .ref m12, .ref m13, .ref m14, .ref m15, .ref m16, .ref m17, .ref m18, .ref m19, .ref m20, .ref m21, .ref m22, .ref m23, .ref m24, .ref m25, .ref m26, .ref m27, .ref m28, .ref m29, .ref m30, .ref m31, .ref m32, .ref m33, .ref m34, .ref m35, .ref m36, .ref m37, .ref m38, .int 1, .int 1, .ref m41, .ref m42, .ref m43, .ref m44, .int 0, .int 0, .ref m47, .ref m48, .ref m49, .ref m50, .ref m51, .ref m52, .ref m53, .ref m54])), (m11, .inl (cI, 2, .inl (fun _ => 0))), (m12, .inl (cI, 2, .inl (fun _ => 0))), (m13, .inl (cI, 2, .inl (fun _ => 0))), (m14, .inl (cI, 2, .inl (fun _ => 0))), (m15, .inl (cI, 2, .inl (fun _ => 0))), (m16, .inl (cI, 2, .inl (fun _ => 0))), (m17, .inl (cI, 2, .inl (fun _ => 0)))] := hD
  subst h_4_r
  refine lv_icmp_eq (tgt := 1427) hx hb d_law_law_254 (by decide) (fun c_5 => ?_) (fun c_5 => absurd (by decide +kernel) c_5)
  exact nz_ltail C0 hXs hbl (by rw [hAe]; exact hS) hl
set_option maxHeartbeats 4000000 in
set_option maxRecDepth 100000 in
theorem nz_law_3 {p : Program} {l : Launch} {e : Env} {s : State} {m : MethodId} {below : List Frame} {meth : Method} {c : Code} {b : Nat} {xs : Nat → Int32} {H : Heap} {locs : List Loc} {ls : Array Slot} (D : va_G) (cB cI cJ : ClassId) (o0 : Nat) (o1 : Nat) (o2 : Nat) (o3 : Nat) (o4 : Nat) (o5 : Nat) (o6 : Nat) (o7 : Nat) (o8 : Nat) (o9 : Nat) (o10 : Nat) (s0 : Nat) (m0_ : Nat) (m0 : Nat) (m1 : Nat) (m11 : Nat) (m12 : Nat) (m13 : Nat) (m14 : Nat) (m15 : Nat) (m16 : Nat) (m17 : Nat) (m18 : Nat) (m19 : Nat) (m20 : Nat) (m21 : Nat) (m22 : Nat) (m23 : Nat) (m24 : Nat) (m25 : Nat) (m26 : Nat) (m27 : Nat) (m28 : Nat) (m29 : Nat) (m30 : Nat) (m31 : Nat) (m32 : Nat) (m33 : Nat) (m34 : Nat) (m35 : Nat) (m36 : Nat) (m37 : Nat) (m38 : Nat) (m41 : Nat) (m42 : Nat) (m43 : Nat) (m44 : Nat) (m47 : Nat) (m48 : Nat) (m49 : Nat) (m50 : Nat) (m51 : Nat) (m52 : Nat) (m53 : Nat) (m54 : Nat) (C0 : nz_Cx p s m #[Value.ref b] meth c code 4 ret R_law D cB cI cJ) (hXs : va_X b 7 xs s s.heap) (hbl : b < s.heap.size) (hP : va_P D nz_cl [(o0, .inr (11, [.ref o1, .int 0, .ref o2, .ref o3, .ref o4, .ref o5, .ref o6, .ref o7, .ref o8, .ref o9, .ref o10])), (o4, .inr (7, [.int 0, .int (-1), .ref s0, .long 0, .int 0])), (m0_, .inr (12, [.ref m0, .ref m1, .int 0, .int 0, .int 0, .int (-1), .int 0, .int 0, .int 0, .int 0, .long 0, .ref m11, .ref m12, .ref m13, .ref m14, .ref m15, .ref m16, .ref m17, .ref m18, .ref m19, .ref m20, .ref m21, .ref m22, .ref m23, .ref m24, .ref m25, .ref m26, .ref m27, .ref m28, .ref m29, .ref m30, .ref m31, .ref m32, .ref m33, .ref m34, .ref m35, .ref m36, .ref m37, .ref m38, .int 0, .int 0, .ref m41, .ref m42, .ref m43, .ref m44, .int 0, .int 0, .ref m47, .ref m48, .ref m49, .ref m50, .ref m51, .ref m52, .ref m53, .ref m54]))] H) (hD : va_D (fun q : Nat => s.heap.size ≤ q) [(o0, .inr (11, [.ref o1, .int 0, .ref o2, .ref o3, .ref o4, .ref o5, .ref o6, .ref o7, .ref o8, .ref o9, .ref o10])), (o4, .inr (7, [.int 0, .int (-1), .ref s0, .long 0, .int 0])), (m0_, .inr (12, [.ref m0, .ref m1, .int 0, .int 0, .int 0, .int (-1), .int 0, .int 0, .int 0, .int 0, .long 0, .ref m11, .ref m12, .ref m13, .ref m14, .ref m15, .ref m16, .ref m17, .ref m18, .ref m19, .ref m20, .ref m21, .ref m22, .ref m23, .ref m24, .ref m25, .ref m26, .ref m27, .ref m28, .ref m29, .ref m30, .ref m31, .ref m32, .ref m33, .ref m34, .ref m35, .ref m36, .ref m37, .ref m38, .int 0, .int 0, .ref m41, .ref m42, .ref m43, .ref m44, .int 0, .int 0, .ref m47, .ref m48, .ref m49, .ref m50, .ref m51, .ref m52, .ref m53, .ref m54]))]) (hS : va_S (fun q : Nat => s.heap.size ≤ q) s.heap H locs) (hl : lv_has ls 4 [(3, .int 0), (2, .ref m0_), (1, .ref o0), (0, .ref b)]) : W p l e room_1 s m #[Value.ref b] below meth c H locs 124 7401 (lw_Z below #[Value.ref b] s) (F0 m 259 ls []) := by
  obtain ⟨hx, hb, hr, hml, hown, hts, hlk, hK⟩ := id C0
  generalize hAe : (fun q : Nat => s.heap.size ≤ q) = A at hD hS
  have hA : ∀ q : Nat, s.heap.size ≤ q → A q := fun q h => by rw [← hAe]; exact h
  have hbA : ¬ A b := by rw [← hAe]; exact Nat.not_le.mpr hbl
  refine lv_aload_n hx hb d_law_law_259 rfl (lv_at hl 2 rfl) ?_
  refine lv_aload_n hx hb d_law_law_260 rfl (lv_at hl 3 rfl) ?_
  refine lv_iload_n hx hb d_law_law_261 rfl (lv_at hl 0 rfl) ?_
  refine lv_iconst (v := 1) hx hb d_law_law_262 (by decide +kernel) ?_
  refine lv_iadd hx hb d_law_law_263 ?_
  refine nz_ctopi (v := 1) (by decide +kernel) ?_
  refine va_sld hx hb hXs hbl hbA hS (nz_vin (by decide +kernel)) d_law_law_264 ?_
  refine nz_ctopi (v := xs 1) rfl ?_
  refine nz_calVi (As := [.int (xs 1)]) (rest := []) C0 (c_NF_fault l D cB cI cJ o0 (xs 1) o1 o2 o3 o4 o5 o6 o7 o8 o9 o10 s0) g_law_28 rfl nz_xb0 (by decide) hl.1 hP hD hS hA [0, 1] [2] rfl (wr := [(m0_, .inr (12, [.ref m0, .ref m1, .int 0, .int 0, .int 0, .int (-1), .int 0, .int 0, .int 0, .int 0, .long 0, .ref m11, .ref m12, .ref m13, .ref m14, .ref m15, .ref m16, .ref m17, .ref m18, .ref m19, .ref m20, .ref m21, .ref m22, .ref m23, .ref m24, .ref m25, .ref m26, .ref m27, .ref m28, .ref m29, .ref m30, .ref m31, .ref m32, .ref m33, .ref m34, .ref m35, .ref m36, .ref m37, .ref m38, .int 0, .int 0, .ref m41, .ref m42, .ref m43, .ref m44, .int 0, .int 0, .ref m47, .ref m48, .ref m49, .ref m50, .ref m51, .ref m52, .ref m53, .ref m54]))]) rfl (by decide) (by decide) (by decide) rfl rfl (fun _ _ _ => trivial) rfl (Nat.le_of_ble_eq_true rfl) d_law_law_265 (by decide) (fun r_1 u H locs h_2 hP hD hS => ?_)
  obtain ⟨h_2_r, rfl⟩ := h_2
  have hP : va_P D nz_cl [(m0_, .inr (12, [.ref m0, .ref m1, .int 0, .int 0, .int 0, .int (-1), .int 0, .int 0, .int 0, .int 0, .long 0, .ref m11, .ref m12, .ref m13, .ref m14, .ref m15, .ref m16, .ref m17, .ref m18, .ref m19, .ref m20, .ref m21, .ref m22, .ref m23, .ref m24, .ref m25, .ref m26, .ref m27, .ref m28, .ref m29, .ref m30, .ref m31, .ref m32, .ref m33, .ref m34, .ref m35, .ref m36, .ref m37, .ref m38, .int 0, .int 0, .ref m41, .ref m42, .ref m43, .ref m44, .int 0, .int 0, .ref m47, .ref m48, .ref m49, .ref m50, .ref m51, .ref m52, .ref m53, .ref m54])), (o0, .inr (11, [.ref o1, .int 0, .ref o2, .ref o3, .ref o4, .ref o5, .ref o6, .ref o7, .ref o8, .ref o9, .ref o10])), (o4, .inr (7, [.int 0, .int (-1), .ref s0, .long 0, .int 0]))] H := hP
  have hD : va_D A [(m0_, .inr (12, [.ref m0, .ref m1, .int 0, .int 0, .int 0, .int (-1), .int 0, .int 0, .int 0, .int 0, .long 0, .ref m11, .ref m12, .ref m13, .ref m14, .ref m15, .ref m16, .ref m17, .ref m18, .ref m19, .ref m20, .ref m21, .ref m22, .ref m23, .ref m24, .ref m25, .ref m26, .ref m27, .ref m28, .ref m29, .ref m30, .ref m31, .ref m32, .ref m33, .ref m34, .ref m35, .ref m36, .ref m37, .ref m38, .int 0, .int 0, .ref m41, .ref m42, .ref m43, .ref m44, .int 0, .int 0, .ref m47, .ref m48, .ref m49, .ref m50, .ref m51, .ref m52, .ref m53, .ref m54])), (o0, .inr (11, [.ref o1, .int 0, .ref o2, .ref o3, .ref o4, .ref o5, .ref o6, .ref o7, .ref o8, .ref o9, .ref o10])), (o4, .inr (7, [.int 0, .int (-1), .ref s0, .long 0, .int 0]))] := hD
  subst h_2_r
  refine lv_aload_n hx hb d_law_law_268 rfl (lv_at hl 1 rfl) ?_
  refine lv_aload_n hx hb d_law_law_269 rfl (lv_at hl 3 rfl) ?_
  refine lv_iload_n hx hb d_law_law_270 rfl (lv_at hl 0 rfl) ?_
  refine lv_iconst (v := 1) hx hb d_law_law_271 (by decide +kernel) ?_
  refine lv_iadd hx hb d_law_law_272 ?_
  refine nz_ctopi (v := 1) (by decide +kernel) ?_
  refine va_sld hx hb hXs hbl hbA hS (nz_vin (by decide +kernel)) d_law_law_273 ?_
  refine nz_ctopi (v := xs 1) rfl ?_
  refine nz_calVi (As := [.int (xs 1)]) (rest := [.int (nz_fl (xs 1))]) C0 (c_Mo_fault l D cB cI cJ m0_ (xs 1) m0 m1 m11 m12 m13 m14 m15 m16 m17 m18 m19 m20 m21 m22 m23 m24 m25 m26 m27 m28 m29 m30 m31 m32 m33 m34 m35 m36 m37 m38 m41 m42 m43 m44 m47 m48 m49 m50 m51 m52 m53 m54) g_law_31 rfl nz_xb0 (by decide) hl.1 hP hD hS hA [0] [1, 2] rfl (wr := [(o0, .inr (11, [.ref o1, .int 0, .ref o2, .ref o3, .ref o4, .ref o5, .ref o6, .ref o7, .ref o8, .ref o9, .ref o10])), (o4, .inr (7, [.int 0, .int (-1), .ref s0, .long 0, .int 0]))]) rfl (by decide) (by decide) (by decide) rfl rfl (fun _ _ _ => trivial) rfl (Nat.le_of_ble_eq_true rfl) d_law_law_274 (by decide) (fun r_3 u H locs h_4 hP hD hS => ?_)
  obtain ⟨h_4_r, rfl⟩ := h_4
  have hP : va_P D nz_cl [(o0, .inr (11, [.ref o1, .int 0, .ref o2, .ref o3, .ref o4, .ref o5, .ref o6, .ref o7, .ref o8, .ref o9, .ref o10])), (o4, .inr (7, [.int 0, .int (-1), .ref s0, .long 0, .int 0])), (m0_, .inr (12, [.ref m0, .ref m1, .int 0, .int 0, .int 0, .int (-1), .int 0, .int 0, .int 0, .int 0, .long 0, .ref m11, .ref m12, .ref m13, .ref m14, .ref m15, .ref m16, .ref m17, .ref m18, .ref m19, .ref m20, .ref m21, .ref m22, .ref m23, .ref m24, .ref m25, .ref m26, .ref m27, .ref m28, .ref m29, .ref m30, .ref m31, .ref m32, .ref m33, .ref m34, .ref m35, .ref m36, .ref m37, .ref m38, .int 0, .int 0, .ref m41, .ref m42, .ref m43, .ref m44, .int 0, .int 0, .ref m47, .ref m48, .ref m49, .ref m50, .ref m51, .ref m52, .ref m53, .ref m54]))] H := hP
  have hD : va_D A [(o0, .inr (11, [.ref o1, .int 0, .ref o2, .ref o3, .ref o4, .ref o5, .ref o6, .ref o7, .ref o8, .ref o9, .ref o10])), (o4, .inr (7, [.int 0, .int (-1), .ref s0, .long 0, .int 0])), (m0_, .inr (12, [.ref m0, .ref m1, .int 0, .int 0, .int 0, .int (-1), .int 0, .int 0, .int 0, .int 0, .long 0, .ref m11, .ref m12, .ref m13, .ref m14, .ref m15, .ref m16, .ref m17, .ref m18, .ref m19, .ref m20, .ref m21, .ref m22, .ref m23, .ref m24, .ref m25, .ref m26, .ref m27, .ref m28, .ref m29, .ref m30, .ref m31, .ref m32, .ref m33, .ref m34, .ref m35, .ref m36, .ref m37, .ref m38, .int 0, .int 0, .ref m41, .ref m42, .ref m43, .ref m44, .int 0, .int 0, .ref m47, .ref m48, .ref m49, .ref m50, .ref m51, .ref m52, .ref m53, .ref m54]))] := hD
  subst h_4_r
  refine lv_icmp_eq (tgt := 1427) hx hb d_law_law_277 (by decide) (fun c_5 => ?_) (fun c_5 => absurd rfl c_5)
  exact nz_ltail C0 hXs hbl (by rw [hAe]; exact hS) hl
set_option maxHeartbeats 4000000 in
set_option maxRecDepth 100000 in
theorem nz_law_4 {p : Program} {l : Launch} {e : Env} {s : State} {m : MethodId} {below : List Frame} {meth : Method} {c : Code} {b : Nat} {xs : Nat → Int32} {H : Heap} {locs : List Loc} {ls : Array Slot} (D : va_G) (cB cI cJ : ClassId) (o0 : Nat) (o1 : Nat) (o2 : Nat) (o3 : Nat) (o4 : Nat) (o5 : Nat) (o6 : Nat) (o7 : Nat) (o8 : Nat) (o9 : Nat) (o10 : Nat) (u1 : Nat) (u2 : Nat) (u3 : Nat) (u4 : Nat) (u5 : Nat) (u41 : Nat) (u42 : Nat) (u43 : Nat) (u44 : Nat) (u45 : Nat) (u46 : Nat) (u47 : Nat) (u48 : Nat) (u49 : Nat) (m0_ : Nat) (m0 : Nat) (m1 : Nat) (m11 : Nat) (m12 : Nat) (m13 : Nat) (m14 : Nat) (m15 : Nat) (m16 : Nat) (m17 : Nat) (m18 : Nat) (m19 : Nat) (m20 : Nat) (m21 : Nat) (m22 : Nat) (m23 : Nat) (m24 : Nat) (m25 : Nat) (m26 : Nat) (m27 : Nat) (m28 : Nat) (m29 : Nat) (m30 : Nat) (m31 : Nat) (m32 : Nat) (m33 : Nat) (m34 : Nat) (m35 : Nat) (m36 : Nat) (m37 : Nat) (m38 : Nat) (m41 : Nat) (m42 : Nat) (m43 : Nat) (m44 : Nat) (m47 : Nat) (m48 : Nat) (m49 : Nat) (m50 : Nat) (m51 : Nat) (m52 : Nat) (m53 : Nat) (m54 : Nat) (C0 : nz_Cx p s m #[Value.ref b] meth c code 4 ret R_law D cB cI cJ) (hXs : va_X b 7 xs s s.heap) (hbl : b < s.heap.size) (hP : va_P D nz_cl [(o0, .inr (11, [.ref o1, .int 0, .ref o2, .ref o3, .ref o4, .ref o5, .ref o6, .ref o7, .ref o8, .ref o9, .ref o10])), (o2, .inr (3, [.ref u1, .ref u2, .ref u3, .ref u4, .ref u5])), (u4, .inr (5, [.int 0, .int 0, .ref u41, .ref u42, .ref u43, .ref u44, .ref u45, .ref u46, .ref u47, .ref u48, .ref u49])), (m0_, .inr (12, [.ref m0, .ref m1, .int 0, .int 0, .int 0, .int (-1), .int 0, .int 0, .int 0, .int 0, .long 0, .ref m11, .ref m12, .ref m13, .ref m14, .ref m15, .ref m16, .ref m17, .ref m18, .ref m19, .ref m20, .ref m21, .ref m22, .ref m23, .ref m24, .ref m25, .ref m26, .ref m27, .ref m28, .ref m29, .ref m30, .ref m31, .ref m32, .ref m33, .ref m34, .ref m35, .ref m36, .ref m37, .ref m38, .int 0, .int 0, .ref m41, .ref m42, .ref m43, .ref m44, .int 0, .int 0, .ref m47, .ref m48, .ref m49, .ref m50, .ref m51, .ref m52, .ref m53, .ref m54])), (m15, .inl (cI, 2, .inl (fun _ => 0)))] H) (hD : va_D (fun q : Nat => s.heap.size ≤ q) [(o0, .inr (11, [.ref o1, .int 0, .ref o2, .ref o3, .ref o4, .ref o5, .ref o6, .ref o7, .ref o8, .ref o9, .ref o10])), (o2, .inr (3, [.ref u1, .ref u2, .ref u3, .ref u4, .ref u5])), (u4, .inr (5, [.int 0, .int 0, .ref u41, .ref u42, .ref u43, .ref u44, .ref u45, .ref u46, .ref u47, .ref u48, .ref u49])), (m0_, .inr (12, [.ref m0, .ref m1, .int 0, .int 0, .int 0, .int (-1), .int 0, .int 0, .int 0, .int 0, .long 0, .ref m11, .ref m12, .ref m13, .ref m14, .ref m15, .ref m16, .ref m17, .ref m18, .ref m19, .ref m20, .ref m21, .ref m22, .ref m23, .ref m24, .ref m25, .ref m26, .ref m27, .ref m28, .ref m29, .ref m30, .ref m31, .ref m32, .ref m33, .ref m34, .ref m35, .ref m36, .ref m37, .ref m38, .int 0, .int 0, .ref m41, .ref m42, .ref m43, .ref m44, .int 0, .int 0, .ref m47, .ref m48, .ref m49, .ref m50, .ref m51, .ref m52, .ref m53, .ref m54])), (m15, .inl (cI, 2, .inl (fun _ => 0)))]) (hS : va_S (fun q : Nat => s.heap.size ≤ q) s.heap H locs) (hl : lv_has ls 4 [(3, .int 0), (2, .ref m0_), (1, .ref o0), (0, .ref b)]) : W p l e room_1 s m #[Value.ref b] below meth c H locs 124 7401 (lw_Z below #[Value.ref b] s) (F0 m 282 ls []) := by
  obtain ⟨hx, hb, hr, hml, hown, hts, hlk, hK⟩ := id C0
  generalize hAe : (fun q : Nat => s.heap.size ≤ q) = A at hD hS
  have hA : ∀ q : Nat, s.heap.size ≤ q → A q := fun q h => by rw [← hAe]; exact h
  have hbA : ¬ A b := by rw [← hAe]; exact Nat.not_le.mpr hbl
  refine lv_aload_n hx hb d_law_law_282 rfl (lv_at hl 2 rfl) ?_
  refine lv_aload_n hx hb d_law_law_283 rfl (lv_at hl 3 rfl) ?_
  refine lv_iload_n hx hb d_law_law_284 rfl (lv_at hl 0 rfl) ?_
  refine lv_iconst (v := 1) hx hb d_law_law_285 (by decide +kernel) ?_
  refine lv_iadd hx hb d_law_law_286 ?_
  refine nz_ctopi (v := 1) (by decide +kernel) ?_
  refine va_sld hx hb hXs hbl hbA hS (nz_vin (by decide +kernel)) d_law_law_287 ?_
  refine nz_ctopi (v := xs 1) rfl ?_
  refine lv_aload_n hx hb d_law_law_288 rfl (lv_at hl 3 rfl) ?_
  refine lv_iload_n hx hb d_law_law_289 rfl (lv_at hl 0 rfl) ?_
  refine lv_iconst (v := 2) hx hb d_law_law_290 (by decide +kernel) ?_
  refine lv_iadd hx hb d_law_law_291 ?_
  refine nz_ctopi (v := 2) (by decide +kernel) ?_
  refine va_sld hx hb hXs hbl hbA hS (nz_vin (by decide +kernel)) d_law_law_292 ?_
  refine nz_ctopi (v := xs 2) rfl ?_
  refine nz_calVi (As := [.int (xs 1), .int (xs 2)]) (rest := []) C0 (c_NF_die l D cB cI cJ o0 (xs 1) (xs 2) o1 o2 o3 o4 o5 o6 o7 o8 o9 o10 u1 u2 u3 u4 u5 u41 u42 u43 u44 u45 u46 u47 u48 u49) g_law_32 rfl nz_xb0 (by decide) hl.1 hP hD hS hA [0, 1, 2] [3, 4] rfl (wr := [(m0_, .inr (12, [.ref m0, .ref m1, .int 0, .int 0, .int 0, .int (-1), .int 0, .int 0, .int 0, .int 0, .long 0, .ref m11, .ref m12, .ref m13, .ref m14, .ref m15, .ref m16, .ref m17, .ref m18, .ref m19, .ref m20, .ref m21, .ref m22, .ref m23, .ref m24, .ref m25, .ref m26, .ref m27, .ref m28, .ref m29, .ref m30, .ref m31, .ref m32, .ref m33, .ref m34, .ref m35, .ref m36, .ref m37, .ref m38, .int 0, .int 0, .ref m41, .ref m42, .ref m43, .ref m44, .int 0, .int 0, .ref m47, .ref m48, .ref m49, .ref m50, .ref m51, .ref m52, .ref m53, .ref m54])), (m15, .inl (cI, 2, .inl (fun _ => 0)))]) rfl (by decide) (by decide) (by decide) rfl rfl (fun _ _ _ => trivial) rfl (Nat.le_of_ble_eq_true rfl) d_law_law_293 (by decide) (fun r_1 u H locs h_2 hP hD hS => ?_)
  obtain ⟨h_2_r, rfl⟩ := h_2
  have hP : va_P D nz_cl [(m0_, .inr (12, [.ref m0, .ref m1, .int 0, .int 0, .int 0, .int (-1), .int 0, .int 0, .int 0, .int 0, .long 0, .ref m11, .ref m12, .ref m13, .ref m14, .ref m15, .ref m16, .ref m17, .ref m18, .ref m19, .ref m20, .ref m21, .ref m22, .ref m23, .ref m24, .ref m25, .ref m26, .ref m27, .ref m28, .ref m29, .ref m30, .ref m31, .ref m32, .ref m33, .ref m34, .ref m35, .ref m36, .ref m37, .ref m38, .int 0, .int 0, .ref m41, .ref m42, .ref m43, .ref m44, .int 0, .int 0, .ref m47, .ref m48, .ref m49, .ref m50, .ref m51, .ref m52, .ref m53, .ref m54])), (m15, .inl (cI, 2, .inl (fun _ => 0))), (o0, .inr (11, [.ref o1, .int 0, .ref o2, .ref o3, .ref o4, .ref o5, .ref o6, .ref o7, .ref o8, .ref o9, .ref o10])), (o2, .inr (3, [.ref u1, .ref u2, .ref u3, .ref u4, .ref u5])), (u4, .inr (5, [.int 0, .int 0, .ref u41, .ref u42, .ref u43, .ref u44, .ref u45, .ref u46, .ref u47, .ref u48, .ref u49]))] H := hP
  have hD : va_D A [(m0_, .inr (12, [.ref m0, .ref m1, .int 0, .int 0, .int 0, .int (-1), .int 0, .int 0, .int 0, .int 0, .long 0, .ref m11, .ref m12, .ref m13, .ref m14, .ref m15, .ref m16, .ref m17, .ref m18, .ref m19, .ref m20, .ref m21, .ref m22, .ref m23, .ref m24, .ref m25, .ref m26, .ref m27, .ref m28, .ref m29, .ref m30, .ref m31, .ref m32, .ref m33, .ref m34, .ref m35, .ref m36, .ref m37, .ref m38, .int 0, .int 0, .ref m41, .ref m42, .ref m43, .ref m44, .int 0, .int 0, .ref m47, .ref m48, .ref m49, .ref m50, .ref m51, .ref m52, .ref m53, .ref m54])), (m15, .inl (cI, 2, .inl (fun _ => 0))), (o0, .inr (11, [.ref o1, .int 0, .ref o2, .ref o3, .ref o4, .ref o5, .ref o6, .ref o7, .ref o8, .ref o9, .ref o10])), (o2, .inr (3, [.ref u1, .ref u2, .ref u3, .ref u4, .ref u5])), (u4, .inr (5, [.int 0, .int 0, .ref u41, .ref u42, .ref u43, .ref u44, .ref u45, .ref u46, .ref u47, .ref u48, .ref u49]))] := hD
  subst h_2_r
  refine lv_aload_n hx hb d_law_law_296 rfl (lv_at hl 1 rfl) ?_
  refine lv_aload_n hx hb d_law_law_297 rfl (lv_at hl 3 rfl) ?_
  refine lv_iload_n hx hb d_law_law_298 rfl (lv_at hl 0 rfl) ?_
  refine lv_iconst (v := 1) hx hb d_law_law_299 (by decide +kernel) ?_
  refine lv_iadd hx hb d_law_law_300 ?_
  refine nz_ctopi (v := 1) (by decide +kernel) ?_
  refine va_sld hx hb hXs hbl hbA hS (nz_vin (by decide +kernel)) d_law_law_301 ?_
  refine nz_ctopi (v := xs 1) rfl ?_
  refine lv_aload_n hx hb d_law_law_302 rfl (lv_at hl 3 rfl) ?_
  refine lv_iload_n hx hb d_law_law_303 rfl (lv_at hl 0 rfl) ?_
  refine lv_iconst (v := 2) hx hb d_law_law_304 (by decide +kernel) ?_
  refine lv_iadd hx hb d_law_law_305 ?_
  refine nz_ctopi (v := 2) (by decide +kernel) ?_
  refine va_sld hx hb hXs hbl hbA hS (nz_vin (by decide +kernel)) d_law_law_306 ?_
  refine nz_ctopi (v := xs 2) rfl ?_
  refine nz_calVi (As := [.int (xs 1), .int (xs 2)]) (rest := [.int (-1)]) C0 (c_Mo_die l D cB cI cJ m0_ (xs 1) (xs 2) m0 m1 m11 m12 m13 m14 m15 m16 m17 m18 m19 m20 m21 m22 m23 m24 m25 m26 m27 m28 m29 m30 m31 m32 m33 m34 m35 m36 m37 m38 m41 m42 m43 m44 m47 m48 m49 m50 m51 m52 m53 m54) g_law_36 rfl nz_xb0 (by decide) hl.1 hP hD hS hA [0, 1] [2, 3, 4] rfl (wr := [(o0, .inr (11, [.ref o1, .int 0, .ref o2, .ref o3, .ref o4, .ref o5, .ref o6, .ref o7, .ref o8, .ref o9, .ref o10])), (o2, .inr (3, [.ref u1, .ref u2, .ref u3, .ref u4, .ref u5])), (u4, .inr (5, [.int 0, .int 0, .ref u41, .ref u42, .ref u43, .ref u44, .ref u45, .ref u46, .ref u47, .ref u48, .ref u49]))]) rfl (by decide) (by decide) (by decide) rfl rfl (fun _ _ _ => trivial) rfl (Nat.le_of_ble_eq_true rfl) d_law_law_307 (by decide) (fun r_3 u H locs h_4 hP hD hS => ?_)
  obtain ⟨h_4_r, rfl⟩ := h_4
  have hP : va_P D nz_cl [(o0, .inr (11, [.ref o1, .int 0, .ref o2, .ref o3, .ref o4, .ref o5, .ref o6, .ref o7, .ref o8, .ref o9, .ref o10])), (o2, .inr (3, [.ref u1, .ref u2, .ref u3, .ref u4, .ref u5])), (u4, .inr (5, [.int 0, .int 0, .ref u41, .ref u42, .ref u43, .ref u44, .ref u45, .ref u46, .ref u47, .ref u48, .ref u49])), (m0_, .inr (12, [.ref m0, .ref m1, .int 0, .int 0, .int 0, .int (-1), .int 0, .int 0, .int 0, .int 0, .long 0, .ref m11, .ref m12, .ref m13, .ref m14, .ref m15, .ref m16, .ref m17, .ref m18, .ref m19, .ref m20, .ref m21, .ref m22, .ref m23, .ref m24, .ref m25, .ref m26, .ref m27, .ref m28, .ref m29, .ref m30, .ref m31, .ref m32, .ref m33, .ref m34, .ref m35, .ref m36, .ref m37, .ref m38, .int 0, .int 0, .ref m41, .ref m42, .ref m43, .ref m44, .int 0, .int 0, .ref m47, .ref m48, .ref m49, .ref m50, .ref m51, .ref m52, .ref m53, .ref m54])), (m15, .inl (cI, 2, .inl (fun _ => 0)))] H := hP
  have hD : va_D A [(o0, .inr (11, [.ref o1, .int 0, .ref o2, .ref o3, .ref o4, .ref o5, .ref o6, .ref o7, .ref o8, .ref o9, .ref o10])), (o2, .inr (3, [.ref u1, .ref u2, .ref u3, .ref u4, .ref u5])), (u4, .inr (5, [.int 0, .int 0, .ref u41, .ref u42, .ref u43, .ref u44, .ref u45, .ref u46, .ref u47, .ref u48, .ref u49])), (m0_, .inr (12, [.ref m0, .ref m1, .int 0, .int 0, .int 0, .int (-1), .int 0, .int 0, .int 0, .int 0, .long 0, .ref m11, .ref m12, .ref m13, .ref m14, .ref m15, .ref m16, .ref m17, .ref m18, .ref m19, .ref m20, .ref m21, .ref m22, .ref m23, .ref m24, .ref m25, .ref m26, .ref m27, .ref m28, .ref m29, .ref m30, .ref m31, .ref m32, .ref m33, .ref m34, .ref m35, .ref m36, .ref m37, .ref m38, .int 0, .int 0, .ref m41, .ref m42, .ref m43, .ref m44, .int 0, .int 0, .ref m47, .ref m48, .ref m49, .ref m50, .ref m51, .ref m52, .ref m53, .ref m54])), (m15, .inl (cI, 2, .inl (fun _ => 0)))] := hD
  subst h_4_r
  refine lv_icmp_eq (tgt := 1427) hx hb d_law_law_310 (by decide) (fun c_5 => ?_) (fun c_5 => absurd (by decide +kernel) c_5)
  exact nz_ltail C0 hXs hbl (by rw [hAe]; exact hS) hl
set_option maxHeartbeats 4000000 in
set_option maxRecDepth 100000 in
theorem nz_law_5 {p : Program} {l : Launch} {e : Env} {s : State} {m : MethodId} {below : List Frame} {meth : Method} {c : Code} {b : Nat} {xs : Nat → Int32} {H : Heap} {locs : List Loc} {ls : Array Slot} (D : va_G) (cB cI cJ : ClassId) (o0 : Nat) (o1 : Nat) (o2 : Nat) (o3 : Nat) (o4 : Nat) (o5 : Nat) (o6 : Nat) (o7 : Nat) (o8 : Nat) (o9 : Nat) (o10 : Nat) (d1 : Nat) (d2 : Nat) (d3 : Nat) (d4 : Nat) (m0_ : Nat) (m0 : Nat) (m1 : Nat) (m11 : Nat) (m12 : Nat) (m13 : Nat) (m14 : Nat) (m15 : Nat) (m16 : Nat) (m17 : Nat) (m18 : Nat) (m19 : Nat) (m20 : Nat) (m21 : Nat) (m22 : Nat) (m23 : Nat) (m24 : Nat) (m25 : Nat) (m26 : Nat) (m27 : Nat) (m28 : Nat) (m29 : Nat) (m30 : Nat) (m31 : Nat) (m32 : Nat) (m33 : Nat) (m34 : Nat) (m35 : Nat) (m36 : Nat) (m37 : Nat) (m38 : Nat) (m41 : Nat) (m42 : Nat) (m43 : Nat) (m44 : Nat) (m47 : Nat) (m48 : Nat) (m49 : Nat) (m50 : Nat) (m51 : Nat) (m52 : Nat) (m53 : Nat) (m54 : Nat) (C0 : nz_Cx p s m #[Value.ref b] meth c code 4 ret R_law D cB cI cJ) (hXs : va_X b 7 xs s s.heap) (hbl : b < s.heap.size) (hP : va_P D nz_cl [(o0, .inr (11, [.ref o1, .int 0, .ref o2, .ref o3, .ref o4, .ref o5, .ref o6, .ref o7, .ref o8, .ref o9, .ref o10])), (o5, .inr (1, [.int 0, .int 0, .ref d1, .ref d2, .ref d3, .ref d4])), (m0_, .inr (12, [.ref m0, .ref m1, .int 0, .int 0, .int 0, .int (-1), .int 0, .int 0, .int 0, .int 0, .long 0, .ref m11, .ref m12, .ref m13, .ref m14, .ref m15, .ref m16, .ref m17, .ref m18, .ref m19, .ref m20, .ref m21, .ref m22, .ref m23, .ref m24, .ref m25, .ref m26, .ref m27, .ref m28, .ref m29, .ref m30, .ref m31, .ref m32, .ref m33, .ref m34, .ref m35, .ref m36, .ref m37, .ref m38, .int 0, .int 0, .ref m41, .ref m42, .ref m43, .ref m44, .int 0, .int 0, .ref m47, .ref m48, .ref m49, .ref m50, .ref m51, .ref m52, .ref m53, .ref m54]))] H) (hD : va_D (fun q : Nat => s.heap.size ≤ q) [(o0, .inr (11, [.ref o1, .int 0, .ref o2, .ref o3, .ref o4, .ref o5, .ref o6, .ref o7, .ref o8, .ref o9, .ref o10])), (o5, .inr (1, [.int 0, .int 0, .ref d1, .ref d2, .ref d3, .ref d4])), (m0_, .inr (12, [.ref m0, .ref m1, .int 0, .int 0, .int 0, .int (-1), .int 0, .int 0, .int 0, .int 0, .long 0, .ref m11, .ref m12, .ref m13, .ref m14, .ref m15, .ref m16, .ref m17, .ref m18, .ref m19, .ref m20, .ref m21, .ref m22, .ref m23, .ref m24, .ref m25, .ref m26, .ref m27, .ref m28, .ref m29, .ref m30, .ref m31, .ref m32, .ref m33, .ref m34, .ref m35, .ref m36, .ref m37, .ref m38, .int 0, .int 0, .ref m41, .ref m42, .ref m43, .ref m44, .int 0, .int 0, .ref m47, .ref m48, .ref m49, .ref m50, .ref m51, .ref m52, .ref m53, .ref m54]))]) (hS : va_S (fun q : Nat => s.heap.size ≤ q) s.heap H locs) (hl : lv_has ls 4 [(3, .int 0), (2, .ref m0_), (1, .ref o0), (0, .ref b)]) : W p l e room_1 s m #[Value.ref b] below meth c H locs 124 7401 (lw_Z below #[Value.ref b] s) (F0 m 315 ls []) := by
  obtain ⟨hx, hb, hr, hml, hown, hts, hlk, hK⟩ := id C0
  generalize hAe : (fun q : Nat => s.heap.size ≤ q) = A at hD hS
  have hA : ∀ q : Nat, s.heap.size ≤ q → A q := fun q h => by rw [← hAe]; exact h
  have hbA : ¬ A b := by rw [← hAe]; exact Nat.not_le.mpr hbl
  refine lv_aload_n hx hb d_law_law_315 rfl (lv_at hl 2 rfl) ?_
  refine lv_aload_n hx hb d_law_law_316 rfl (lv_at hl 3 rfl) ?_
  refine lv_iload_n hx hb d_law_law_317 rfl (lv_at hl 0 rfl) ?_
  refine lv_iconst (v := 1) hx hb d_law_law_318 (by decide +kernel) ?_
  refine lv_iadd hx hb d_law_law_319 ?_
  refine nz_ctopi (v := 1) (by decide +kernel) ?_
  refine va_sld hx hb hXs hbl hbA hS (nz_vin (by decide +kernel)) d_law_law_320 ?_
  refine nz_ctopi (v := xs 1) rfl ?_
  refine nz_calVi (As := [.int (xs 1)]) (rest := []) C0 (c_NF_untell l D cB cI cJ o0 (xs 1) o1 o2 o3 o4 o5 o6 o7 o8 o9 o10 d1 d2 d3 d4) g_law_37 rfl nz_xb0 (by decide) hl.1 hP hD hS hA [0, 1] [2] rfl (wr := [(m0_, .inr (12, [.ref m0, .ref m1, .int 0, .int 0, .int 0, .int (-1), .int 0, .int 0, .int 0, .int 0, .long 0, .ref m11, .ref m12, .ref m13, .ref m14, .ref m15, .ref m16, .ref m17, .ref m18, .ref m19, .ref m20, .ref m21, .ref m22, .ref m23, .ref m24, .ref m25, .ref m26, .ref m27, .ref m28, .ref m29, .ref m30, .ref m31, .ref m32, .ref m33, .ref m34, .ref m35, .ref m36, .ref m37, .ref m38, .int 0, .int 0, .ref m41, .ref m42, .ref m43, .ref m44, .int 0, .int 0, .ref m47, .ref m48, .ref m49, .ref m50, .ref m51, .ref m52, .ref m53, .ref m54]))]) rfl (by decide) (by decide) (by decide) rfl rfl (fun _ _ _ => trivial) rfl (Nat.le_of_ble_eq_true rfl) d_law_law_321 (by decide) (fun r_1 u H locs h_2 hP hD hS => ?_)
  obtain ⟨h_2_r, rfl⟩ := h_2
  have hP : va_P D nz_cl [(m0_, .inr (12, [.ref m0, .ref m1, .int 0, .int 0, .int 0, .int (-1), .int 0, .int 0, .int 0, .int 0, .long 0, .ref m11, .ref m12, .ref m13, .ref m14, .ref m15, .ref m16, .ref m17, .ref m18, .ref m19, .ref m20, .ref m21, .ref m22, .ref m23, .ref m24, .ref m25, .ref m26, .ref m27, .ref m28, .ref m29, .ref m30, .ref m31, .ref m32, .ref m33, .ref m34, .ref m35, .ref m36, .ref m37, .ref m38, .int 0, .int 0, .ref m41, .ref m42, .ref m43, .ref m44, .int 0, .int 0, .ref m47, .ref m48, .ref m49, .ref m50, .ref m51, .ref m52, .ref m53, .ref m54])), (o0, .inr (11, [.ref o1, .int 0, .ref o2, .ref o3, .ref o4, .ref o5, .ref o6, .ref o7, .ref o8, .ref o9, .ref o10])), (o5, .inr (1, [.int 0, .int 0, .ref d1, .ref d2, .ref d3, .ref d4]))] H := hP
  have hD : va_D A [(m0_, .inr (12, [.ref m0, .ref m1, .int 0, .int 0, .int 0, .int (-1), .int 0, .int 0, .int 0, .int 0, .long 0, .ref m11, .ref m12, .ref m13, .ref m14, .ref m15, .ref m16, .ref m17, .ref m18, .ref m19, .ref m20, .ref m21, .ref m22, .ref m23, .ref m24, .ref m25, .ref m26, .ref m27, .ref m28, .ref m29, .ref m30, .ref m31, .ref m32, .ref m33, .ref m34, .ref m35, .ref m36, .ref m37, .ref m38, .int 0, .int 0, .ref m41, .ref m42, .ref m43, .ref m44, .int 0, .int 0, .ref m47, .ref m48, .ref m49, .ref m50, .ref m51, .ref m52, .ref m53, .ref m54])), (o0, .inr (11, [.ref o1, .int 0, .ref o2, .ref o3, .ref o4, .ref o5, .ref o6, .ref o7, .ref o8, .ref o9, .ref o10])), (o5, .inr (1, [.int 0, .int 0, .ref d1, .ref d2, .ref d3, .ref d4]))] := hD
  subst h_2_r
  refine lv_aload_n hx hb d_law_law_324 rfl (lv_at hl 1 rfl) ?_
  refine lv_aload_n hx hb d_law_law_325 rfl (lv_at hl 3 rfl) ?_
  refine lv_iload_n hx hb d_law_law_326 rfl (lv_at hl 0 rfl) ?_
  refine lv_iconst (v := 1) hx hb d_law_law_327 (by decide +kernel) ?_
  refine lv_iadd hx hb d_law_law_328 ?_
  refine nz_ctopi (v := 1) (by decide +kernel) ?_
  refine va_sld hx hb hXs hbl hbA hS (nz_vin (by decide +kernel)) d_law_law_329 ?_
  refine nz_ctopi (v := xs 1) rfl ?_
  refine nz_calVi (As := [.int (xs 1)]) (rest := [.int 0]) C0 (c_Mo_untell l D cB cI cJ m0_ (xs 1) m0 m1 m11 m12 m13 m14 m15 m16 m17 m18 m19 m20 m21 m22 m23 m24 m25 m26 m27 m28 m29 m30 m31 m32 m33 m34 m35 m36 m37 m38 m41 m42 m43 m44 m47 m48 m49 m50 m51 m52 m53 m54) g_law_41 rfl nz_xb0 (by decide) hl.1 hP hD hS hA [0] [1, 2] rfl (wr := [(o0, .inr (11, [.ref o1, .int 0, .ref o2, .ref o3, .ref o4, .ref o5, .ref o6, .ref o7, .ref o8, .ref o9, .ref o10])), (o5, .inr (1, [.int 0, .int 0, .ref d1, .ref d2, .ref d3, .ref d4]))]) rfl (by decide) (by decide) (by decide) rfl rfl (fun _ _ _ => trivial) rfl (Nat.le_of_ble_eq_true rfl) d_law_law_330 (by decide) (fun r_3 u H locs h_4 hP hD hS => ?_)
  obtain ⟨h_4_r, rfl⟩ := h_4
  have hP : va_P D nz_cl [(o0, .inr (11, [.ref o1, .int 0, .ref o2, .ref o3, .ref o4, .ref o5, .ref o6, .ref o7, .ref o8, .ref o9, .ref o10])), (o5, .inr (1, [.int 0, .int 0, .ref d1, .ref d2, .ref d3, .ref d4])), (m0_, .inr (12, [.ref m0, .ref m1, .int 0, .int 0, .int 0, .int (-1), .int 0, .int 0, .int 0, .int 0, .long 0, .ref m11, .ref m12, .ref m13, .ref m14, .ref m15, .ref m16, .ref m17, .ref m18, .ref m19, .ref m20, .ref m21, .ref m22, .ref m23, .ref m24, .ref m25, .ref m26, .ref m27, .ref m28, .ref m29, .ref m30, .ref m31, .ref m32, .ref m33, .ref m34, .ref m35, .ref m36, .ref m37, .ref m38, .int 0, .int 0, .ref m41, .ref m42, .ref m43, .ref m44, .int 0, .int 0, .ref m47, .ref m48, .ref m49, .ref m50, .ref m51, .ref m52, .ref m53, .ref m54]))] H := hP
  have hD : va_D A [(o0, .inr (11, [.ref o1, .int 0, .ref o2, .ref o3, .ref o4, .ref o5, .ref o6, .ref o7, .ref o8, .ref o9, .ref o10])), (o5, .inr (1, [.int 0, .int 0, .ref d1, .ref d2, .ref d3, .ref d4])), (m0_, .inr (12, [.ref m0, .ref m1, .int 0, .int 0, .int 0, .int (-1), .int 0, .int 0, .int 0, .int 0, .long 0, .ref m11, .ref m12, .ref m13, .ref m14, .ref m15, .ref m16, .ref m17, .ref m18, .ref m19, .ref m20, .ref m21, .ref m22, .ref m23, .ref m24, .ref m25, .ref m26, .ref m27, .ref m28, .ref m29, .ref m30, .ref m31, .ref m32, .ref m33, .ref m34, .ref m35, .ref m36, .ref m37, .ref m38, .int 0, .int 0, .ref m41, .ref m42, .ref m43, .ref m44, .int 0, .int 0, .ref m47, .ref m48, .ref m49, .ref m50, .ref m51, .ref m52, .ref m53, .ref m54]))] := hD
  subst h_4_r
  refine lv_icmp_eq (tgt := 1427) hx hb d_law_law_333 (by decide) (fun c_5 => ?_) (fun c_5 => absurd (by decide +kernel) c_5)
  exact nz_ltail C0 hXs hbl (by rw [hAe]; exact hS) hl
set_option maxHeartbeats 4000000 in
set_option maxRecDepth 100000 in
theorem nz_law_6 {p : Program} {l : Launch} {e : Env} {s : State} {m : MethodId} {below : List Frame} {meth : Method} {c : Code} {b : Nat} {xs : Nat → Int32} {H : Heap} {locs : List Loc} {ls : Array Slot} (D : va_G) (cB cI cJ : ClassId) (o0 : Nat) (o1 : Nat) (o2 : Nat) (o3 : Nat) (o4 : Nat) (o5 : Nat) (o6 : Nat) (o7 : Nat) (o8 : Nat) (o9 : Nat) (o10 : Nat) (d1 : Nat) (d2 : Nat) (d3 : Nat) (d4 : Nat) (m0_ : Nat) (m0 : Nat) (m1 : Nat) (m11 : Nat) (m12 : Nat) (m13 : Nat) (m14 : Nat) (m15 : Nat) (m16 : Nat) (m17 : Nat) (m18 : Nat) (m19 : Nat) (m20 : Nat) (m21 : Nat) (m22 : Nat) (m23 : Nat) (m24 : Nat) (m25 : Nat) (m26 : Nat) (m27 : Nat) (m28 : Nat) (m29 : Nat) (m30 : Nat) (m31 : Nat) (m32 : Nat) (m33 : Nat) (m34 : Nat) (m35 : Nat) (m36 : Nat) (m37 : Nat) (m38 : Nat) (m41 : Nat) (m42 : Nat) (m43 : Nat) (m44 : Nat) (m47 : Nat) (m48 : Nat) (m49 : Nat) (m50 : Nat) (m51 : Nat) (m52 : Nat) (m53 : Nat) (m54 : Nat) (C0 : nz_Cx p s m #[Value.ref b] meth c code 4 ret R_law D cB cI cJ) (hXs : va_X b 7 xs s s.heap) (hbl : b < s.heap.size) (hP : va_P D nz_cl [(o0, .inr (11, [.ref o1, .int 0, .ref o2, .ref o3, .ref o4, .ref o5, .ref o6, .ref o7, .ref o8, .ref o9, .ref o10])), (o5, .inr (1, [.int 0, .int 0, .ref d1, .ref d2, .ref d3, .ref d4])), (m0_, .inr (12, [.ref m0, .ref m1, .int 0, .int 0, .int 0, .int (-1), .int 0, .int 0, .int 0, .int 0, .long 0, .ref m11, .ref m12, .ref m13, .ref m14, .ref m15, .ref m16, .ref m17, .ref m18, .ref m19, .ref m20, .ref m21, .ref m22, .ref m23, .ref m24, .ref m25, .ref m26, .ref m27, .ref m28, .ref m29, .ref m30, .ref m31, .ref m32, .ref m33, .ref m34, .ref m35, .ref m36, .ref m37, .ref m38, .int 0, .int 0, .ref m41, .ref m42, .ref m43, .ref m44, .int 0, .int 0, .ref m47, .ref m48, .ref m49, .ref m50, .ref m51, .ref m52, .ref m53, .ref m54]))] H) (hD : va_D (fun q : Nat => s.heap.size ≤ q) [(o0, .inr (11, [.ref o1, .int 0, .ref o2, .ref o3, .ref o4, .ref o5, .ref o6, .ref o7, .ref o8, .ref o9, .ref o10])), (o5, .inr (1, [.int 0, .int 0, .ref d1, .ref d2, .ref d3, .ref d4])), (m0_, .inr (12, [.ref m0, .ref m1, .int 0, .int 0, .int 0, .int (-1), .int 0, .int 0, .int 0, .int 0, .long 0, .ref m11, .ref m12, .ref m13, .ref m14, .ref m15, .ref m16, .ref m17, .ref m18, .ref m19, .ref m20, .ref m21, .ref m22, .ref m23, .ref m24, .ref m25, .ref m26, .ref m27, .ref m28, .ref m29, .ref m30, .ref m31, .ref m32, .ref m33, .ref m34, .ref m35, .ref m36, .ref m37, .ref m38, .int 0, .int 0, .ref m41, .ref m42, .ref m43, .ref m44, .int 0, .int 0, .ref m47, .ref m48, .ref m49, .ref m50, .ref m51, .ref m52, .ref m53, .ref m54]))]) (hS : va_S (fun q : Nat => s.heap.size ≤ q) s.heap H locs) (hl : lv_has ls 4 [(3, .int 0), (2, .ref m0_), (1, .ref o0), (0, .ref b)]) : W p l e room_1 s m #[Value.ref b] below meth c H locs 124 7401 (lw_Z below #[Value.ref b] s) (F0 m 338 ls []) := by
  obtain ⟨hx, hb, hr, hml, hown, hts, hlk, hK⟩ := id C0
  generalize hAe : (fun q : Nat => s.heap.size ≤ q) = A at hD hS
  have hA : ∀ q : Nat, s.heap.size ≤ q → A q := fun q h => by rw [← hAe]; exact h
  have hbA : ¬ A b := by rw [← hAe]; exact Nat.not_le.mpr hbl
  refine lv_aload_n hx hb d_law_law_338 rfl (lv_at hl 2 rfl) ?_
  refine lv_aload_n hx hb d_law_law_339 rfl (lv_at hl 3 rfl) ?_
  refine lv_iload_n hx hb d_law_law_340 rfl (lv_at hl 0 rfl) ?_
  refine lv_iconst (v := 1) hx hb d_law_law_341 (by decide +kernel) ?_
  refine lv_iadd hx hb d_law_law_342 ?_
  refine nz_ctopi (v := 1) (by decide +kernel) ?_
  refine va_sld hx hb hXs hbl hbA hS (nz_vin (by decide +kernel)) d_law_law_343 ?_
  refine nz_ctopi (v := xs 1) rfl ?_
  refine nz_calVi (As := [.int (xs 1)]) (rest := []) C0 (c_NF_later l D cB cI cJ o0 (xs 1) o1 o2 o3 o4 o5 o6 o7 o8 o9 o10 d1 d2 d3 d4) g_law_42 rfl nz_xb0 (by decide) hl.1 hP hD hS hA [0, 1] [2] rfl (wr := [(m0_, .inr (12, [.ref m0, .ref m1, .int 0, .int 0, .int 0, .int (-1), .int 0, .int 0, .int 0, .int 0, .long 0, .ref m11, .ref m12, .ref m13, .ref m14, .ref m15, .ref m16, .ref m17, .ref m18, .ref m19, .ref m20, .ref m21, .ref m22, .ref m23, .ref m24, .ref m25, .ref m26, .ref m27, .ref m28, .ref m29, .ref m30, .ref m31, .ref m32, .ref m33, .ref m34, .ref m35, .ref m36, .ref m37, .ref m38, .int 0, .int 0, .ref m41, .ref m42, .ref m43, .ref m44, .int 0, .int 0, .ref m47, .ref m48, .ref m49, .ref m50, .ref m51, .ref m52, .ref m53, .ref m54]))]) rfl (by decide) (by decide) (by decide) rfl rfl (fun _ _ _ => trivial) rfl (Nat.le_of_ble_eq_true rfl) d_law_law_344 (by decide) (fun r_1 u H locs h_3 hP hD hS => ?_)
  obtain ⟨z_2, h_3_r, rfl⟩ := h_3
  have hP : va_P D nz_cl [(m0_, .inr (12, [.ref m0, .ref m1, .int 0, .int 0, .int 0, .int (-1), .int 0, .int 0, .int 0, .int 0, .long 0, .ref m11, .ref m12, .ref m13, .ref m14, .ref m15, .ref m16, .ref m17, .ref m18, .ref m19, .ref m20, .ref m21, .ref m22, .ref m23, .ref m24, .ref m25, .ref m26, .ref m27, .ref m28, .ref m29, .ref m30, .ref m31, .ref m32, .ref m33, .ref m34, .ref m35, .ref m36, .ref m37, .ref m38, .int 0, .int 0, .ref m41, .ref m42, .ref m43, .ref m44, .int 0, .int 0, .ref m47, .ref m48, .ref m49, .ref m50, .ref m51, .ref m52, .ref m53, .ref m54])), (o0, .inr (11, [.ref o1, .int 0, .ref o2, .ref o3, .ref o4, .ref o5, .ref o6, .ref o7, .ref o8, .ref o9, .ref o10])), (o5, .inr (1, [.int 0, .int z_2, .ref d1, .ref d2, .ref d3, .ref d4]))] H := hP
  have hD : va_D A [(m0_, .inr (12, [.ref m0, .ref m1, .int 0, .int 0, .int 0, .int (-1), .int 0, .int 0, .int 0, .int 0, .long 0, .ref m11, .ref m12, .ref m13, .ref m14, .ref m15, .ref m16, .ref m17, .ref m18, .ref m19, .ref m20, .ref m21, .ref m22, .ref m23, .ref m24, .ref m25, .ref m26, .ref m27, .ref m28, .ref m29, .ref m30, .ref m31, .ref m32, .ref m33, .ref m34, .ref m35, .ref m36, .ref m37, .ref m38, .int 0, .int 0, .ref m41, .ref m42, .ref m43, .ref m44, .int 0, .int 0, .ref m47, .ref m48, .ref m49, .ref m50, .ref m51, .ref m52, .ref m53, .ref m54])), (o0, .inr (11, [.ref o1, .int 0, .ref o2, .ref o3, .ref o4, .ref o5, .ref o6, .ref o7, .ref o8, .ref o9, .ref o10])), (o5, .inr (1, [.int 0, .int z_2, .ref d1, .ref d2, .ref d3, .ref d4]))] := hD
  subst h_3_r
  refine lv_aload_n hx hb d_law_law_347 rfl (lv_at hl 1 rfl) ?_
  refine lv_aload_n hx hb d_law_law_348 rfl (lv_at hl 3 rfl) ?_
  refine lv_iload_n hx hb d_law_law_349 rfl (lv_at hl 0 rfl) ?_
  refine lv_iconst (v := 1) hx hb d_law_law_350 (by decide +kernel) ?_
  refine lv_iadd hx hb d_law_law_351 ?_
  refine nz_ctopi (v := 1) (by decide +kernel) ?_
  refine va_sld hx hb hXs hbl hbA hS (nz_vin (by decide +kernel)) d_law_law_352 ?_
  refine nz_ctopi (v := xs 1) rfl ?_
  refine nz_calVi (As := [.int (xs 1)]) (rest := [.int (nz_lf (xs 1))]) C0 (c_Mo_later l D cB cI cJ m0_ (xs 1) m0 m1 m11 m12 m13 m14 m15 m16 m17 m18 m19 m20 m21 m22 m23 m24 m25 m26 m27 m28 m29 m30 m31 m32 m33 m34 m35 m36 m37 m38 m41 m42 m43 m44 m47 m48 m49 m50 m51 m52 m53 m54) g_law_45 rfl nz_xb0 (by decide) hl.1 hP hD hS hA [0] [1, 2] rfl (wr := [(o0, .inr (11, [.ref o1, .int 0, .ref o2, .ref o3, .ref o4, .ref o5, .ref o6, .ref o7, .ref o8, .ref o9, .ref o10])), (o5, .inr (1, [.int 0, .int z_2, .ref d1, .ref d2, .ref d3, .ref d4]))]) rfl (by decide) (by decide) (by decide) rfl rfl (fun _ _ _ => trivial) rfl (Nat.le_of_ble_eq_true rfl) d_law_law_353 (by decide) (fun r_4 u H locs h_6 hP hD hS => ?_)
  obtain ⟨z_5, h_6_r, rfl⟩ := h_6
  have hP : va_P D nz_cl [(o0, .inr (11, [.ref o1, .int 0, .ref o2, .ref o3, .ref o4, .ref o5, .ref o6, .ref o7, .ref o8, .ref o9, .ref o10])), (o5, .inr (1, [.int 0, .int z_2, .ref d1, .ref d2, .ref d3, .ref d4])), (m0_, .inr (12, [.ref m0, .ref m1, .int 0, .int 0, .int 0, .int (-1), .int 0, .int 0, .int 0, .int 0, .long 0, .ref m11, .ref m12, .ref m13, .ref m14, .ref m15, .ref m16, .ref m17, .ref m18, .ref m19, .ref m20, .ref m21, .ref m22, .ref m23, .ref m24, .ref m25, .ref m26, .ref m27, .ref m28, .ref m29, .ref m30, .ref m31, .ref m32, .ref m33, .ref m34, .ref m35, .ref m36, .ref m37, .ref m38, .int 0, .int 0, .ref m41, .ref m42, .ref m43, .ref m44, .int 0, .int z_5, .ref m47, .ref m48, .ref m49, .ref m50, .ref m51, .ref m52, .ref m53, .ref m54]))] H := hP
  have hD : va_D A [(o0, .inr (11, [.ref o1, .int 0, .ref o2, .ref o3, .ref o4, .ref o5, .ref o6, .ref o7, .ref o8, .ref o9, .ref o10])), (o5, .inr (1, [.int 0, .int z_2, .ref d1, .ref d2, .ref d3, .ref d4])), (m0_, .inr (12, [.ref m0, .ref m1, .int 0, .int 0, .int 0, .int (-1), .int 0, .int 0, .int 0, .int 0, .long 0, .ref m11, .ref m12, .ref m13, .ref m14, .ref m15, .ref m16, .ref m17, .ref m18, .ref m19, .ref m20, .ref m21, .ref m22, .ref m23, .ref m24, .ref m25, .ref m26, .ref m27, .ref m28, .ref m29, .ref m30, .ref m31, .ref m32, .ref m33, .ref m34, .ref m35, .ref m36, .ref m37, .ref m38, .int 0, .int 0, .ref m41, .ref m42, .ref m43, .ref m44, .int 0, .int z_5, .ref m47, .ref m48, .ref m49, .ref m50, .ref m51, .ref m52, .ref m53, .ref m54]))] := hD
  subst h_6_r
  refine lv_icmp_eq (tgt := 1427) hx hb d_law_law_356 (by decide) (fun c_7 => ?_) (fun c_7 => absurd rfl c_7)
  exact nz_ltail C0 hXs hbl (by rw [hAe]; exact hS) hl
set_option maxHeartbeats 4000000 in
set_option maxRecDepth 100000 in
theorem nz_law_7 {p : Program} {l : Launch} {e : Env} {s : State} {m : MethodId} {below : List Frame} {meth : Method} {c : Code} {b : Nat} {xs : Nat → Int32} {H : Heap} {locs : List Loc} {ls : Array Slot} (D : va_G) (cB cI cJ : ClassId) (o0 : Nat) (o1 : Nat) (o2 : Nat) (o3 : Nat) (o4 : Nat) (o5 : Nat) (o6 : Nat) (o7 : Nat) (o8 : Nat) (o9 : Nat) (o10 : Nat) (u1 : Nat) (u2 : Nat) (u3 : Nat) (u4 : Nat) (u5 : Nat) (u41 : Nat) (u42 : Nat) (u43 : Nat) (u44 : Nat) (u45 : Nat) (u46 : Nat) (u47 : Nat) (u48 : Nat) (u49 : Nat) (m0_ : Nat) (m0 : Nat) (m1 : Nat) (m11 : Nat) (m12 : Nat) (m13 : Nat) (m14 : Nat) (m15 : Nat) (m16 : Nat) (m17 : Nat) (m18 : Nat) (m19 : Nat) (m20 : Nat) (m21 : Nat) (m22 : Nat) (m23 : Nat) (m24 : Nat) (m25 : Nat) (m26 : Nat) (m27 : Nat) (m28 : Nat) (m29 : Nat) (m30 : Nat) (m31 : Nat) (m32 : Nat) (m33 : Nat) (m34 : Nat) (m35 : Nat) (m36 : Nat) (m37 : Nat) (m38 : Nat) (m41 : Nat) (m42 : Nat) (m43 : Nat) (m44 : Nat) (m47 : Nat) (m48 : Nat) (m49 : Nat) (m50 : Nat) (m51 : Nat) (m52 : Nat) (m53 : Nat) (m54 : Nat) (C0 : nz_Cx p s m #[Value.ref b] meth c code 4 ret R_law D cB cI cJ) (hXs : va_X b 7 xs s s.heap) (hbl : b < s.heap.size) (hP : va_P D nz_cl [(o0, .inr (11, [.ref o1, .int 0, .ref o2, .ref o3, .ref o4, .ref o5, .ref o6, .ref o7, .ref o8, .ref o9, .ref o10])), (o2, .inr (3, [.ref u1, .ref u2, .ref u3, .ref u4, .ref u5])), (u4, .inr (5, [.int 0, .int 0, .ref u41, .ref u42, .ref u43, .ref u44, .ref u45, .ref u46, .ref u47, .ref u48, .ref u49])), (m0_, .inr (12, [.ref m0, .ref m1, .int 0, .int 0, .int 0, .int (-1), .int 0, .int 0, .int 0, .int 0, .long 0, .ref m11, .ref m12, .ref m13, .ref m14, .ref m15, .ref m16, .ref m17, .ref m18, .ref m19, .ref m20, .ref m21, .ref m22, .ref m23, .ref m24, .ref m25, .ref m26, .ref m27, .ref m28, .ref m29, .ref m30, .ref m31, .ref m32, .ref m33, .ref m34, .ref m35, .ref m36, .ref m37, .ref m38, .int 0, .int 0, .ref m41, .ref m42, .ref m43, .ref m44, .int 0, .int 0, .ref m47, .ref m48, .ref m49, .ref m50, .ref m51, .ref m52, .ref m53, .ref m54])), (m15, .inl (cI, 2, .inl (fun _ => 0)))] H) (hD : va_D (fun q : Nat => s.heap.size ≤ q) [(o0, .inr (11, [.ref o1, .int 0, .ref o2, .ref o3, .ref o4, .ref o5, .ref o6, .ref o7, .ref o8, .ref o9, .ref o10])), (o2, .inr (3, [.ref u1, .ref u2, .ref u3, .ref u4, .ref u5])), (u4, .inr (5, [.int 0, .int 0, .ref u41, .ref u42, .ref u43, .ref u44, .ref u45, .ref u46, .ref u47, .ref u48, .ref u49])), (m0_, .inr (12, [.ref m0, .ref m1, .int 0, .int 0, .int 0, .int (-1), .int 0, .int 0, .int 0, .int 0, .long 0, .ref m11, .ref m12, .ref m13, .ref m14, .ref m15, .ref m16, .ref m17, .ref m18, .ref m19, .ref m20, .ref m21, .ref m22, .ref m23, .ref m24, .ref m25, .ref m26, .ref m27, .ref m28, .ref m29, .ref m30, .ref m31, .ref m32, .ref m33, .ref m34, .ref m35, .ref m36, .ref m37, .ref m38, .int 0, .int 0, .ref m41, .ref m42, .ref m43, .ref m44, .int 0, .int 0, .ref m47, .ref m48, .ref m49, .ref m50, .ref m51, .ref m52, .ref m53, .ref m54])), (m15, .inl (cI, 2, .inl (fun _ => 0)))]) (hS : va_S (fun q : Nat => s.heap.size ≤ q) s.heap H locs) (hl : lv_has ls 4 [(3, .int 0), (2, .ref m0_), (1, .ref o0), (0, .ref b)]) : W p l e room_1 s m #[Value.ref b] below meth c H locs 124 7401 (lw_Z below #[Value.ref b] s) (F0 m 361 ls []) := by
  obtain ⟨hx, hb, hr, hml, hown, hts, hlk, hK⟩ := id C0
  generalize hAe : (fun q : Nat => s.heap.size ≤ q) = A at hD hS
  have hA : ∀ q : Nat, s.heap.size ≤ q → A q := fun q h => by rw [← hAe]; exact h
  have hbA : ¬ A b := by rw [← hAe]; exact Nat.not_le.mpr hbl
  refine lv_aload_n hx hb d_law_law_361 rfl (lv_at hl 2 rfl) ?_
  refine lv_aload_n hx hb d_law_law_362 rfl (lv_at hl 3 rfl) ?_
  refine lv_iload_n hx hb d_law_law_363 rfl (lv_at hl 0 rfl) ?_
  refine lv_iconst (v := 1) hx hb d_law_law_364 (by decide +kernel) ?_
  refine lv_iadd hx hb d_law_law_365 ?_
  refine nz_ctopi (v := 1) (by decide +kernel) ?_
  refine va_sld hx hb hXs hbl hbA hS (nz_vin (by decide +kernel)) d_law_law_366 ?_
  refine nz_ctopi (v := xs 1) rfl ?_
  refine lv_aload_n hx hb d_law_law_367 rfl (lv_at hl 3 rfl) ?_
  refine lv_iload_n hx hb d_law_law_368 rfl (lv_at hl 0 rfl) ?_
  refine lv_iconst (v := 2) hx hb d_law_law_369 (by decide +kernel) ?_
  refine lv_iadd hx hb d_law_law_370 ?_
  refine nz_ctopi (v := 2) (by decide +kernel) ?_
  refine va_sld hx hb hXs hbl hbA hS (nz_vin (by decide +kernel)) d_law_law_371 ?_
  refine nz_ctopi (v := xs 2) rfl ?_
  refine lv_aload_n hx hb d_law_law_372 rfl (lv_at hl 3 rfl) ?_
  refine lv_iload_n hx hb d_law_law_373 rfl (lv_at hl 0 rfl) ?_
  refine lv_iconst (v := 3) hx hb d_law_law_374 (by decide +kernel) ?_
  refine lv_iadd hx hb d_law_law_375 ?_
  refine nz_ctopi (v := 3) (by decide +kernel) ?_
  refine va_sld hx hb hXs hbl hbA hS (nz_vin (by decide +kernel)) d_law_law_376 ?_
  refine nz_ctopi (v := xs 3) rfl ?_
  refine nz_calVi (As := [.int (xs 1), .int (xs 2), .int (xs 3)]) (rest := []) C0 (c_NF_alive l D cB cI cJ o0 (xs 1) (xs 2) (xs 3) o1 o2 o3 o4 o5 o6 o7 o8 o9 o10 u1 u2 u3 u4 u5 u41 u42 u43 u44 u45 u46 u47 u48 u49) g_law_46 rfl nz_xb0 (by decide) hl.1 hP hD hS hA [0, 1, 2] [3, 4] rfl (wr := [(m0_, .inr (12, [.ref m0, .ref m1, .int 0, .int 0, .int 0, .int (-1), .int 0, .int 0, .int 0, .int 0, .long 0, .ref m11, .ref m12, .ref m13, .ref m14, .ref m15, .ref m16, .ref m17, .ref m18, .ref m19, .ref m20, .ref m21, .ref m22, .ref m23, .ref m24, .ref m25, .ref m26, .ref m27, .ref m28, .ref m29, .ref m30, .ref m31, .ref m32, .ref m33, .ref m34, .ref m35, .ref m36, .ref m37, .ref m38, .int 0, .int 0, .ref m41, .ref m42, .ref m43, .ref m44, .int 0, .int 0, .ref m47, .ref m48, .ref m49, .ref m50, .ref m51, .ref m52, .ref m53, .ref m54])), (m15, .inl (cI, 2, .inl (fun _ => 0)))]) rfl (by decide) (by decide) (by decide) rfl rfl (fun _ _ _ => trivial) rfl (Nat.le_of_ble_eq_true rfl) d_law_law_377 (by decide) (fun r_1 u H locs h_2 hP hD hS => ?_)
  obtain ⟨h_2_r, rfl⟩ := h_2
  have hP : va_P D nz_cl [(m0_, .inr (12, [.ref m0, .ref m1, .int 0, .int 0, .int 0, .int (-1), .int 0, .int 0, .int 0, .int 0, .long 0, .ref m11, .ref m12, .ref m13, .ref m14, .ref m15, .ref m16, .ref m17, .ref m18, .ref m19, .ref m20, .ref m21, .ref m22, .ref m23, .ref m24, .ref m25, .ref m26, .ref m27, .ref m28, .ref m29, .ref m30, .ref m31, .ref m32, .ref m33, .ref m34, .ref m35, .ref m36, .ref m37, .ref m38, .int 0, .int 0, .ref m41, .ref m42, .ref m43, .ref m44, .int 0, .int 0, .ref m47, .ref m48, .ref m49, .ref m50, .ref m51, .ref m52, .ref m53, .ref m54])), (m15, .inl (cI, 2, .inl (fun _ => 0))), (o0, .inr (11, [.ref o1, .int 0, .ref o2, .ref o3, .ref o4, .ref o5, .ref o6, .ref o7, .ref o8, .ref o9, .ref o10])), (o2, .inr (3, [.ref u1, .ref u2, .ref u3, .ref u4, .ref u5])), (u4, .inr (5, [.int 0, .int 0, .ref u41, .ref u42, .ref u43, .ref u44, .ref u45, .ref u46, .ref u47, .ref u48, .ref u49]))] H := hP
  have hD : va_D A [(m0_, .inr (12, [.ref m0, .ref m1, .int 0, .int 0, .int 0, .int (-1), .int 0, .int 0, .int 0, .int 0, .long 0, .ref m11, .ref m12, .ref m13, .ref m14, .ref m15, .ref m16, .ref m17, .ref m18, .ref m19, .ref m20, .ref m21, .ref m22, .ref m23, .ref m24, .ref m25, .ref m26, .ref m27, .ref m28, .ref m29, .ref m30, .ref m31, .ref m32, .ref m33, .ref m34, .ref m35, .ref m36, .ref m37, .ref m38, .int 0, .int 0, .ref m41, .ref m42, .ref m43, .ref m44, .int 0, .int 0, .ref m47, .ref m48, .ref m49, .ref m50, .ref m51, .ref m52, .ref m53, .ref m54])), (m15, .inl (cI, 2, .inl (fun _ => 0))), (o0, .inr (11, [.ref o1, .int 0, .ref o2, .ref o3, .ref o4, .ref o5, .ref o6, .ref o7, .ref o8, .ref o9, .ref o10])), (o2, .inr (3, [.ref u1, .ref u2, .ref u3, .ref u4, .ref u5])), (u4, .inr (5, [.int 0, .int 0, .ref u41, .ref u42, .ref u43, .ref u44, .ref u45, .ref u46, .ref u47, .ref u48, .ref u49]))] := hD
  subst h_2_r
  refine lv_aload_n hx hb d_law_law_380 rfl (lv_at hl 1 rfl) ?_
  refine lv_aload_n hx hb d_law_law_381 rfl (lv_at hl 3 rfl) ?_
  refine lv_iload_n hx hb d_law_law_382 rfl (lv_at hl 0 rfl) ?_
  refine lv_iconst (v := 1) hx hb d_law_law_383 (by decide +kernel) ?_
  refine lv_iadd hx hb d_law_law_384 ?_
  refine nz_ctopi (v := 1) (by decide +kernel) ?_
  refine va_sld hx hb hXs hbl hbA hS (nz_vin (by decide +kernel)) d_law_law_385 ?_
  refine nz_ctopi (v := xs 1) rfl ?_
  refine lv_aload_n hx hb d_law_law_386 rfl (lv_at hl 3 rfl) ?_
  refine lv_iload_n hx hb d_law_law_387 rfl (lv_at hl 0 rfl) ?_
  refine lv_iconst (v := 2) hx hb d_law_law_388 (by decide +kernel) ?_
  refine lv_iadd hx hb d_law_law_389 ?_
  refine nz_ctopi (v := 2) (by decide +kernel) ?_
  refine va_sld hx hb hXs hbl hbA hS (nz_vin (by decide +kernel)) d_law_law_390 ?_
  refine nz_ctopi (v := xs 2) rfl ?_
  refine lv_aload_n hx hb d_law_law_391 rfl (lv_at hl 3 rfl) ?_
  refine lv_iload_n hx hb d_law_law_392 rfl (lv_at hl 0 rfl) ?_
  refine lv_iconst (v := 3) hx hb d_law_law_393 (by decide +kernel) ?_
  refine lv_iadd hx hb d_law_law_394 ?_
  refine nz_ctopi (v := 3) (by decide +kernel) ?_
  refine va_sld hx hb hXs hbl hbA hS (nz_vin (by decide +kernel)) d_law_law_395 ?_
  refine nz_ctopi (v := xs 3) rfl ?_
  refine nz_calVi (As := [.int (xs 1), .int (xs 2), .int (xs 3)]) (rest := [.int (-1)]) C0 (c_Mo_alive l D cB cI cJ m0_ (xs 1) (xs 2) (xs 3) m0 m1 m11 m12 m13 m14 m15 m16 m17 m18 m19 m20 m21 m22 m23 m24 m25 m26 m27 m28 m29 m30 m31 m32 m33 m34 m35 m36 m37 m38 m41 m42 m43 m44 m47 m48 m49 m50 m51 m52 m53 m54) g_law_50 rfl nz_xb0 (by decide) hl.1 hP hD hS hA [0, 1] [2, 3, 4] rfl (wr := [(o0, .inr (11, [.ref o1, .int 0, .ref o2, .ref o3, .ref o4, .ref o5, .ref o6, .ref o7, .ref o8, .ref o9, .ref o10])), (o2, .inr (3, [.ref u1, .ref u2, .ref u3, .ref u4, .ref u5])), (u4, .inr (5, [.int 0, .int 0, .ref u41, .ref u42, .ref u43, .ref u44, .ref u45, .ref u46, .ref u47, .ref u48, .ref u49]))]) rfl (by decide) (by decide) (by decide) rfl rfl (fun _ _ _ => trivial) rfl (Nat.le_of_ble_eq_true rfl) d_law_law_396 (by decide) (fun r_3 u H locs h_4 hP hD hS => ?_)
  obtain ⟨h_4_r, rfl⟩ := h_4
  have hP : va_P D nz_cl [(o0, .inr (11, [.ref o1, .int 0, .ref o2, .ref o3, .ref o4, .ref o5, .ref o6, .ref o7, .ref o8, .ref o9, .ref o10])), (o2, .inr (3, [.ref u1, .ref u2, .ref u3, .ref u4, .ref u5])), (u4, .inr (5, [.int 0, .int 0, .ref u41, .ref u42, .ref u43, .ref u44, .ref u45, .ref u46, .ref u47, .ref u48, .ref u49])), (m0_, .inr (12, [.ref m0, .ref m1, .int 0, .int 0, .int 0, .int (-1), .int 0, .int 0, .int 0, .int 0, .long 0, .ref m11, .ref m12, .ref m13, .ref m14, .ref m15, .ref m16, .ref m17, .ref m18, .ref m19, .ref m20, .ref m21, .ref m22, .ref m23, .ref m24, .ref m25, .ref m26, .ref m27, .ref m28, .ref m29, .ref m30, .ref m31, .ref m32, .ref m33, .ref m34, .ref m35, .ref m36, .ref m37, .ref m38, .int 0, .int 0, .ref m41, .ref m42, .ref m43, .ref m44, .int 0, .int 0, .ref m47, .ref m48, .ref m49, .ref m50, .ref m51, .ref m52, .ref m53, .ref m54])), (m15, .inl (cI, 2, .inl (fun _ => 0)))] H := hP
  have hD : va_D A [(o0, .inr (11, [.ref o1, .int 0, .ref o2, .ref o3, .ref o4, .ref o5, .ref o6, .ref o7, .ref o8, .ref o9, .ref o10])), (o2, .inr (3, [.ref u1, .ref u2, .ref u3, .ref u4, .ref u5])), (u4, .inr (5, [.int 0, .int 0, .ref u41, .ref u42, .ref u43, .ref u44, .ref u45, .ref u46, .ref u47, .ref u48, .ref u49])), (m0_, .inr (12, [.ref m0, .ref m1, .int 0, .int 0, .int 0, .int (-1), .int 0, .int 0, .int 0, .int 0, .long 0, .ref m11, .ref m12, .ref m13, .ref m14, .ref m15, .ref m16, .ref m17, .ref m18, .ref m19, .ref m20, .ref m21, .ref m22, .ref m23, .ref m24, .ref m25, .ref m26, .ref m27, .ref m28, .ref m29, .ref m30, .ref m31, .ref m32, .ref m33, .ref m34, .ref m35, .ref m36, .ref m37, .ref m38, .int 0, .int 0, .ref m41, .ref m42, .ref m43, .ref m44, .int 0, .int 0, .ref m47, .ref m48, .ref m49, .ref m50, .ref m51, .ref m52, .ref m53, .ref m54])), (m15, .inl (cI, 2, .inl (fun _ => 0)))] := hD
  subst h_4_r
  refine lv_icmp_eq (tgt := 1427) hx hb d_law_law_399 (by decide) (fun c_5 => ?_) (fun c_5 => absurd (by decide +kernel) c_5)
  exact nz_ltail C0 hXs hbl (by rw [hAe]; exact hS) hl
set_option maxHeartbeats 4000000 in
set_option maxRecDepth 100000 in
theorem nz_law_8 {p : Program} {l : Launch} {e : Env} {s : State} {m : MethodId} {below : List Frame} {meth : Method} {c : Code} {b : Nat} {xs : Nat → Int32} {H : Heap} {locs : List Loc} {ls : Array Slot} (D : va_G) (cB cI cJ : ClassId) (o0 : Nat) (o1 : Nat) (o2 : Nat) (o3 : Nat) (o4 : Nat) (o5 : Nat) (o6 : Nat) (o7 : Nat) (o8 : Nat) (o9 : Nat) (o10 : Nat) (u1 : Nat) (u2 : Nat) (u3 : Nat) (u4 : Nat) (u5 : Nat) (u31 : Nat) (u32 : Nat) (m0_ : Nat) (m0 : Nat) (m1 : Nat) (m11 : Nat) (m12 : Nat) (m13 : Nat) (m14 : Nat) (m15 : Nat) (m16 : Nat) (m17 : Nat) (m18 : Nat) (m19 : Nat) (m20 : Nat) (m21 : Nat) (m22 : Nat) (m23 : Nat) (m24 : Nat) (m25 : Nat) (m26 : Nat) (m27 : Nat) (m28 : Nat) (m29 : Nat) (m30 : Nat) (m31 : Nat) (m32 : Nat) (m33 : Nat) (m34 : Nat) (m35 : Nat) (m36 : Nat) (m37 : Nat) (m38 : Nat) (m41 : Nat) (m42 : Nat) (m43 : Nat) (m44 : Nat) (m47 : Nat) (m48 : Nat) (m49 : Nat) (m50 : Nat) (m51 : Nat) (m52 : Nat) (m53 : Nat) (m54 : Nat) (C0 : nz_Cx p s m #[Value.ref b] meth c code 4 ret R_law D cB cI cJ) (hXs : va_X b 7 xs s s.heap) (hbl : b < s.heap.size) (hP : va_P D nz_cl [(o0, .inr (11, [.ref o1, .int 0, .ref o2, .ref o3, .ref o4, .ref o5, .ref o6, .ref o7, .ref o8, .ref o9, .ref o10])), (o2, .inr (3, [.ref u1, .ref u2, .ref u3, .ref u4, .ref u5])), (u3, .inr (10, [.int 0, .ref u31, .ref u32])), (m0_, .inr (12, [.ref m0, .ref m1, .int 0, .int 0, .int 0, .int (-1), .int 0, .int 0, .int 0, .int 0, .long 0, .ref m11, .ref m12, .ref m13, .ref m14, .ref m15, .ref m16, .ref m17, .ref m18, .ref m19, .ref m20, .ref m21, .ref m22, .ref m23, .ref m24, .ref m25, .ref m26, .ref m27, .ref m28, .ref m29, .ref m30, .ref m31, .ref m32, .ref m33, .ref m34, .ref m35, .ref m36, .ref m37, .ref m38, .int 0, .int 0, .ref m41, .ref m42, .ref m43, .ref m44, .int 0, .int 0, .ref m47, .ref m48, .ref m49, .ref m50, .ref m51, .ref m52, .ref m53, .ref m54])), (m13, .inl (cI, 2, .inl (fun _ => 0)))] H) (hD : va_D (fun q : Nat => s.heap.size ≤ q) [(o0, .inr (11, [.ref o1, .int 0, .ref o2, .ref o3, .ref o4, .ref o5, .ref o6, .ref o7, .ref o8, .ref o9, .ref o10])), (o2, .inr (3, [.ref u1, .ref u2, .ref u3, .ref u4, .ref u5])), (u3, .inr (10, [.int 0, .ref u31, .ref u32])), (m0_, .inr (12, [.ref m0, .ref m1, .int 0, .int 0, .int 0, .int (-1), .int 0, .int 0, .int 0, .int 0, .long 0, .ref m11, .ref m12, .ref m13, .ref m14, .ref m15, .ref m16, .ref m17, .ref m18, .ref m19, .ref m20, .ref m21, .ref m22, .ref m23, .ref m24, .ref m25, .ref m26, .ref m27, .ref m28, .ref m29, .ref m30, .ref m31, .ref m32, .ref m33, .ref m34, .ref m35, .ref m36, .ref m37, .ref m38, .int 0, .int 0, .ref m41, .ref m42, .ref m43, .ref m44, .int 0, .int 0, .ref m47, .ref m48, .ref m49, .ref m50, .ref m51, .ref m52, .ref m53, .ref m54])), (m13, .inl (cI, 2, .inl (fun _ => 0)))]) (hS : va_S (fun q : Nat => s.heap.size ≤ q) s.heap H locs) (hl : lv_has ls 4 [(3, .int 0), (2, .ref m0_), (1, .ref o0), (0, .ref b)]) : W p l e room_1 s m #[Value.ref b] below meth c H locs 124 7401 (lw_Z below #[Value.ref b] s) (F0 m 404 ls []) := by
  obtain ⟨hx, hb, hr, hml, hown, hts, hlk, hK⟩ := id C0
  generalize hAe : (fun q : Nat => s.heap.size ≤ q) = A at hD hS
  have hA : ∀ q : Nat, s.heap.size ≤ q → A q := fun q h => by rw [← hAe]; exact h
  have hbA : ¬ A b := by rw [← hAe]; exact Nat.not_le.mpr hbl
  refine lv_aload_n hx hb d_law_law_404 rfl (lv_at hl 2 rfl) ?_
  refine lv_aload_n hx hb d_law_law_405 rfl (lv_at hl 3 rfl) ?_
  refine lv_iload_n hx hb d_law_law_406 rfl (lv_at hl 0 rfl) ?_
  refine lv_iconst (v := 1) hx hb d_law_law_407 (by decide +kernel) ?_
  refine lv_iadd hx hb d_law_law_408 ?_
  refine nz_ctopi (v := 1) (by decide +kernel) ?_
  refine va_sld hx hb hXs hbl hbA hS (nz_vin (by decide +kernel)) d_law_law_409 ?_
  refine nz_ctopi (v := xs 1) rfl ?_
  refine lv_aload_n hx hb d_law_law_410 rfl (lv_at hl 3 rfl) ?_
  refine lv_iload_n hx hb d_law_law_411 rfl (lv_at hl 0 rfl) ?_
  refine lv_iconst (v := 2) hx hb d_law_law_412 (by decide +kernel) ?_
  refine lv_iadd hx hb d_law_law_413 ?_
  refine nz_ctopi (v := 2) (by decide +kernel) ?_
  refine va_sld hx hb hXs hbl hbA hS (nz_vin (by decide +kernel)) d_law_law_414 ?_
  refine nz_ctopi (v := xs 2) rfl ?_
  refine nz_calVi (As := [.int (xs 1), .int (xs 2)]) (rest := []) C0 (c_NF_apart l D cB cI cJ o0 (xs 1) (xs 2) o1 o2 o3 o4 o5 o6 o7 o8 o9 o10 u1 u2 u3 u4 u5 u31 u32) g_law_51 rfl nz_xb0 (by decide) hl.1 hP hD hS hA [0, 1, 2] [3, 4] rfl (wr := [(m0_, .inr (12, [.ref m0, .ref m1, .int 0, .int 0, .int 0, .int (-1), .int 0, .int 0, .int 0, .int 0, .long 0, .ref m11, .ref m12, .ref m13, .ref m14, .ref m15, .ref m16, .ref m17, .ref m18, .ref m19, .ref m20, .ref m21, .ref m22, .ref m23, .ref m24, .ref m25, .ref m26, .ref m27, .ref m28, .ref m29, .ref m30, .ref m31, .ref m32, .ref m33, .ref m34, .ref m35, .ref m36, .ref m37, .ref m38, .int 0, .int 0, .ref m41, .ref m42, .ref m43, .ref m44, .int 0, .int 0, .ref m47, .ref m48, .ref m49, .ref m50, .ref m51, .ref m52, .ref m53, .ref m54])), (m13, .inl (cI, 2, .inl (fun _ => 0)))]) rfl (by decide) (by decide) (by decide) rfl rfl (fun _ _ _ => trivial) rfl (Nat.le_of_ble_eq_true rfl) d_law_law_415 (by decide) (fun r_1 u H locs h_2 hP hD hS => ?_)
  obtain ⟨h_2_r, rfl⟩ := h_2
  have hP : va_P D nz_cl [(m0_, .inr (12, [.ref m0, .ref m1, .int 0, .int 0, .int 0, .int (-1), .int 0, .int 0, .int 0, .int 0, .long 0, .ref m11, .ref m12, .ref m13, .ref m14, .ref m15, .ref m16, .ref m17, .ref m18, .ref m19, .ref m20, .ref m21, .ref m22, .ref m23, .ref m24, .ref m25, .ref m26, .ref m27, .ref m28, .ref m29, .ref m30, .ref m31, .ref m32, .ref m33, .ref m34, .ref m35, .ref m36, .ref m37, .ref m38, .int 0, .int 0, .ref m41, .ref m42, .ref m43, .ref m44, .int 0, .int 0, .ref m47, .ref m48, .ref m49, .ref m50, .ref m51, .ref m52, .ref m53, .ref m54])), (m13, .inl (cI, 2, .inl (fun _ => 0))), (o0, .inr (11, [.ref o1, .int 0, .ref o2, .ref o3, .ref o4, .ref o5, .ref o6, .ref o7, .ref o8, .ref o9, .ref o10])), (o2, .inr (3, [.ref u1, .ref u2, .ref u3, .ref u4, .ref u5])), (u3, .inr (10, [.int 0, .ref u31, .ref u32]))] H := hP
  have hD : va_D A [(m0_, .inr (12, [.ref m0, .ref m1, .int 0, .int 0, .int 0, .int (-1), .int 0, .int 0, .int 0, .int 0, .long 0, .ref m11, .ref m12, .ref m13, .ref m14, .ref m15, .ref m16, .ref m17, .ref m18, .ref m19, .ref m20, .ref m21, .ref m22, .ref m23, .ref m24, .ref m25, .ref m26, .ref m27, .ref m28, .ref m29, .ref m30, .ref m31, .ref m32, .ref m33, .ref m34, .ref m35, .ref m36, .ref m37, .ref m38, .int 0, .int 0, .ref m41, .ref m42, .ref m43, .ref m44, .int 0, .int 0, .ref m47, .ref m48, .ref m49, .ref m50, .ref m51, .ref m52, .ref m53, .ref m54])), (m13, .inl (cI, 2, .inl (fun _ => 0))), (o0, .inr (11, [.ref o1, .int 0, .ref o2, .ref o3, .ref o4, .ref o5, .ref o6, .ref o7, .ref o8, .ref o9, .ref o10])), (o2, .inr (3, [.ref u1, .ref u2, .ref u3, .ref u4, .ref u5])), (u3, .inr (10, [.int 0, .ref u31, .ref u32]))] := hD
  subst h_2_r
  refine lv_aload_n hx hb d_law_law_418 rfl (lv_at hl 1 rfl) ?_
  refine lv_aload_n hx hb d_law_law_419 rfl (lv_at hl 3 rfl) ?_
  refine lv_iload_n hx hb d_law_law_420 rfl (lv_at hl 0 rfl) ?_
  refine lv_iconst (v := 1) hx hb d_law_law_421 (by decide +kernel) ?_
  refine lv_iadd hx hb d_law_law_422 ?_
  refine nz_ctopi (v := 1) (by decide +kernel) ?_
  refine va_sld hx hb hXs hbl hbA hS (nz_vin (by decide +kernel)) d_law_law_423 ?_
  refine nz_ctopi (v := xs 1) rfl ?_
  refine lv_aload_n hx hb d_law_law_424 rfl (lv_at hl 3 rfl) ?_
  refine lv_iload_n hx hb d_law_law_425 rfl (lv_at hl 0 rfl) ?_
  refine lv_iconst (v := 2) hx hb d_law_law_426 (by decide +kernel) ?_
  refine lv_iadd hx hb d_law_law_427 ?_
  refine nz_ctopi (v := 2) (by decide +kernel) ?_
  refine va_sld hx hb hXs hbl hbA hS (nz_vin (by decide +kernel)) d_law_law_428 ?_
  refine nz_ctopi (v := xs 2) rfl ?_
  refine nz_calVi (As := [.int (xs 1), .int (xs 2)]) (rest := [.int (-1)]) C0 (c_Mo_apart l D cB cI cJ m0_ (xs 1) (xs 2) m0 m1 m11 m12 m13 m14 m15 m16 m17 m18 m19 m20 m21 m22 m23 m24 m25 m26 m27 m28 m29 m30 m31 m32 m33 m34 m35 m36 m37 m38 m41 m42 m43 m44 m47 m48 m49 m50 m51 m52 m53 m54) g_law_54 rfl nz_xb0 (by decide) hl.1 hP hD hS hA [0, 1] [2, 3, 4] rfl (wr := [(o0, .inr (11, [.ref o1, .int 0, .ref o2, .ref o3, .ref o4, .ref o5, .ref o6, .ref o7, .ref o8, .ref o9, .ref o10])), (o2, .inr (3, [.ref u1, .ref u2, .ref u3, .ref u4, .ref u5])), (u3, .inr (10, [.int 0, .ref u31, .ref u32]))]) rfl (by decide) (by decide) (by decide) rfl rfl (fun _ _ _ => trivial) rfl (Nat.le_of_ble_eq_true rfl) d_law_law_429 (by decide) (fun r_3 u H locs h_4 hP hD hS => ?_)
  obtain ⟨h_4_r, rfl⟩ := h_4
  have hP : va_P D nz_cl [(o0, .inr (11, [.ref o1, .int 0, .ref o2, .ref o3, .ref o4, .ref o5, .ref o6, .ref o7, .ref o8, .ref o9, .ref o10])), (o2, .inr (3, [.ref u1, .ref u2, .ref u3, .ref u4, .ref u5])), (u3, .inr (10, [.int 0, .ref u31, .ref u32])), (m0_, .inr (12, [.ref m0, .ref m1, .int 0, .int 0, .int 0, .int (-1), .int 0, .int 0, .int 0, .int 0, .long 0, .ref m11, .ref m12, .ref m13, .ref m14, .ref m15, .ref m16, .ref m17, .ref m18, .ref m19, .ref m20, .ref m21, .ref m22, .ref m23, .ref m24, .ref m25, .ref m26, .ref m27, .ref m28, .ref m29, .ref m30, .ref m31, .ref m32, .ref m33, .ref m34, .ref m35, .ref m36, .ref m37, .ref m38, .int 0, .int 0, .ref m41, .ref m42, .ref m43, .ref m44, .int 0, .int 0, .ref m47, .ref m48, .ref m49, .ref m50, .ref m51, .ref m52, .ref m53, .ref m54])), (m13, .inl (cI, 2, .inl (fun _ => 0)))] H := hP
  have hD : va_D A [(o0, .inr (11, [.ref o1, .int 0, .ref o2, .ref o3, .ref o4, .ref o5, .ref o6, .ref o7, .ref o8, .ref o9, .ref o10])), (o2, .inr (3, [.ref u1, .ref u2, .ref u3, .ref u4, .ref u5])), (u3, .inr (10, [.int 0, .ref u31, .ref u32])), (m0_, .inr (12, [.ref m0, .ref m1, .int 0, .int 0, .int 0, .int (-1), .int 0, .int 0, .int 0, .int 0, .long 0, .ref m11, .ref m12, .ref m13, .ref m14, .ref m15, .ref m16, .ref m17, .ref m18, .ref m19, .ref m20, .ref m21, .ref m22, .ref m23, .ref m24, .ref m25, .ref m26, .ref m27, .ref m28, .ref m29, .ref m30, .ref m31, .ref m32, .ref m33, .ref m34, .ref m35, .ref m36, .ref m37, .ref m38, .int 0, .int 0, .ref m41, .ref m42, .ref m43, .ref m44, .int 0, .int 0, .ref m47, .ref m48, .ref m49, .ref m50, .ref m51, .ref m52, .ref m53, .ref m54])), (m13, .inl (cI, 2, .inl (fun _ => 0)))] := hD
  subst h_4_r
  refine lv_icmp_eq (tgt := 1427) hx hb d_law_law_432 (by decide) (fun c_5 => ?_) (fun c_5 => absurd (by decide +kernel) c_5)
  exact nz_ltail C0 hXs hbl (by rw [hAe]; exact hS) hl
set_option maxHeartbeats 4000000 in
set_option maxRecDepth 100000 in
theorem nz_law_9 {p : Program} {l : Launch} {e : Env} {s : State} {m : MethodId} {below : List Frame} {meth : Method} {c : Code} {b : Nat} {xs : Nat → Int32} {H : Heap} {locs : List Loc} {ls : Array Slot} (D : va_G) (cB cI cJ : ClassId) (o0 : Nat) (o1 : Nat) (o2 : Nat) (o3 : Nat) (o4 : Nat) (o5 : Nat) (o6 : Nat) (o7 : Nat) (o8 : Nat) (o9 : Nat) (o10 : Nat) (u1 : Nat) (u2 : Nat) (u3 : Nat) (u4 : Nat) (u5 : Nat) (u41 : Nat) (u42 : Nat) (u43 : Nat) (u44 : Nat) (u45 : Nat) (u46 : Nat) (u47 : Nat) (u48 : Nat) (u49 : Nat) (m0_ : Nat) (m0 : Nat) (m1 : Nat) (m11 : Nat) (m12 : Nat) (m13 : Nat) (m14 : Nat) (m15 : Nat) (m16 : Nat) (m17 : Nat) (m18 : Nat) (m19 : Nat) (m20 : Nat) (m21 : Nat) (m22 : Nat) (m23 : Nat) (m24 : Nat) (m25 : Nat) (m26 : Nat) (m27 : Nat) (m28 : Nat) (m29 : Nat) (m30 : Nat) (m31 : Nat) (m32 : Nat) (m33 : Nat) (m34 : Nat) (m35 : Nat) (m36 : Nat) (m37 : Nat) (m38 : Nat) (m41 : Nat) (m42 : Nat) (m43 : Nat) (m44 : Nat) (m47 : Nat) (m48 : Nat) (m49 : Nat) (m50 : Nat) (m51 : Nat) (m52 : Nat) (m53 : Nat) (m54 : Nat) (C0 : nz_Cx p s m #[Value.ref b] meth c code 4 ret R_law D cB cI cJ) (hXs : va_X b 7 xs s s.heap) (hbl : b < s.heap.size) (hP : va_P D nz_cl [(o0, .inr (11, [.ref o1, .int 0, .ref o2, .ref o3, .ref o4, .ref o5, .ref o6, .ref o7, .ref o8, .ref o9, .ref o10])), (o2, .inr (3, [.ref u1, .ref u2, .ref u3, .ref u4, .ref u5])), (u4, .inr (5, [.int 0, .int 0, .ref u41, .ref u42, .ref u43, .ref u44, .ref u45, .ref u46, .ref u47, .ref u48, .ref u49])), (m0_, .inr (12, [.ref m0, .ref m1, .int 0, .int 0, .int 0, .int (-1), .int 0, .int 0, .int 0, .int 0, .long 0, .ref m11, .ref m12, .ref m13, .ref m14, .ref m15, .ref m16, .ref m17, .ref m18, .ref m19, .ref m20, .ref m21, .ref m22, .ref m23, .ref m24, .ref m25, .ref m26, .ref m27, .ref m28, .ref m29, .ref m30, .ref m31, .ref m32, .ref m33, .ref m34, .ref m35, .ref m36, .ref m37, .ref m38, .int 0, .int 0, .ref m41, .ref m42, .ref m43, .ref m44, .int 0, .int 0, .ref m47, .ref m48, .ref m49, .ref m50, .ref m51, .ref m52, .ref m53, .ref m54])), (m15, .inl (cI, 2, .inl (fun _ => 0)))] H) (hD : va_D (fun q : Nat => s.heap.size ≤ q) [(o0, .inr (11, [.ref o1, .int 0, .ref o2, .ref o3, .ref o4, .ref o5, .ref o6, .ref o7, .ref o8, .ref o9, .ref o10])), (o2, .inr (3, [.ref u1, .ref u2, .ref u3, .ref u4, .ref u5])), (u4, .inr (5, [.int 0, .int 0, .ref u41, .ref u42, .ref u43, .ref u44, .ref u45, .ref u46, .ref u47, .ref u48, .ref u49])), (m0_, .inr (12, [.ref m0, .ref m1, .int 0, .int 0, .int 0, .int (-1), .int 0, .int 0, .int 0, .int 0, .long 0, .ref m11, .ref m12, .ref m13, .ref m14, .ref m15, .ref m16, .ref m17, .ref m18, .ref m19, .ref m20, .ref m21, .ref m22, .ref m23, .ref m24, .ref m25, .ref m26, .ref m27, .ref m28, .ref m29, .ref m30, .ref m31, .ref m32, .ref m33, .ref m34, .ref m35, .ref m36, .ref m37, .ref m38, .int 0, .int 0, .ref m41, .ref m42, .ref m43, .ref m44, .int 0, .int 0, .ref m47, .ref m48, .ref m49, .ref m50, .ref m51, .ref m52, .ref m53, .ref m54])), (m15, .inl (cI, 2, .inl (fun _ => 0)))]) (hS : va_S (fun q : Nat => s.heap.size ≤ q) s.heap H locs) (hl : lv_has ls 4 [(3, .int 0), (2, .ref m0_), (1, .ref o0), (0, .ref b)]) : W p l e room_1 s m #[Value.ref b] below meth c H locs 124 7401 (lw_Z below #[Value.ref b] s) (F0 m 437 ls []) := by
  obtain ⟨hx, hb, hr, hml, hown, hts, hlk, hK⟩ := id C0
  generalize hAe : (fun q : Nat => s.heap.size ≤ q) = A at hD hS
  have hA : ∀ q : Nat, s.heap.size ≤ q → A q := fun q h => by rw [← hAe]; exact h
  have hbA : ¬ A b := by rw [← hAe]; exact Nat.not_le.mpr hbl
  refine lv_aload_n hx hb d_law_law_437 rfl (lv_at hl 2 rfl) ?_
  refine lv_aload_n hx hb d_law_law_438 rfl (lv_at hl 3 rfl) ?_
  refine lv_iload_n hx hb d_law_law_439 rfl (lv_at hl 0 rfl) ?_
  refine lv_iconst (v := 1) hx hb d_law_law_440 (by decide +kernel) ?_
  refine lv_iadd hx hb d_law_law_441 ?_
  refine nz_ctopi (v := 1) (by decide +kernel) ?_
  refine va_sld hx hb hXs hbl hbA hS (nz_vin (by decide +kernel)) d_law_law_442 ?_
  refine nz_ctopi (v := xs 1) rfl ?_
  refine lv_aload_n hx hb d_law_law_443 rfl (lv_at hl 3 rfl) ?_
  refine lv_iload_n hx hb d_law_law_444 rfl (lv_at hl 0 rfl) ?_
  refine lv_iconst (v := 2) hx hb d_law_law_445 (by decide +kernel) ?_
  refine lv_iadd hx hb d_law_law_446 ?_
  refine nz_ctopi (v := 2) (by decide +kernel) ?_
  refine va_sld hx hb hXs hbl hbA hS (nz_vin (by decide +kernel)) d_law_law_447 ?_
  refine nz_ctopi (v := xs 2) rfl ?_
  refine nz_calVi (As := [.int (xs 1), .int (xs 2)]) (rest := []) C0 (c_NF_near l D cB cI cJ o0 (xs 1) (xs 2) o1 o2 o3 o4 o5 o6 o7 o8 o9 o10 u1 u2 u3 u4 u5 u41 u42 u43 u44 u45 u46 u47 u48 u49) g_law_55 rfl nz_xb0 (by decide) hl.1 hP hD hS hA [0, 1, 2] [3, 4] rfl (wr := [(m0_, .inr (12, [.ref m0, .ref m1, .int 0, .int 0, .int 0, .int (-1), .int 0, .int 0, .int 0, .int 0, .long 0, .ref m11, .ref m12, .ref m13, .ref m14, .ref m15, .ref m16, .ref m17, .ref m18, .ref m19, .ref m20, .ref m21, .ref m22, .ref m23, .ref m24, .ref m25, .ref m26, .ref m27, .ref m28, .ref m29, .ref m30, .ref m31, .ref m32, .ref m33, .ref m34, .ref m35, .ref m36, .ref m37, .ref m38, .int 0, .int 0, .ref m41, .ref m42, .ref m43, .ref m44, .int 0, .int 0, .ref m47, .ref m48, .ref m49, .ref m50, .ref m51, .ref m52, .ref m53, .ref m54])), (m15, .inl (cI, 2, .inl (fun _ => 0)))]) rfl (by decide) (by decide) (by decide) rfl rfl (fun _ _ _ => trivial) rfl (Nat.le_of_ble_eq_true rfl) d_law_law_448 (by decide) (fun r_1 u H locs h_2 hP hD hS => ?_)
  obtain ⟨h_2_r, rfl⟩ := h_2
  have hP : va_P D nz_cl [(m0_, .inr (12, [.ref m0, .ref m1, .int 0, .int 0, .int 0, .int (-1), .int 0, .int 0, .int 0, .int 0, .long 0, .ref m11, .ref m12, .ref m13, .ref m14, .ref m15, .ref m16, .ref m17, .ref m18, .ref m19, .ref m20, .ref m21, .ref m22, .ref m23, .ref m24, .ref m25, .ref m26, .ref m27, .ref m28, .ref m29, .ref m30, .ref m31, .ref m32, .ref m33, .ref m34, .ref m35, .ref m36, .ref m37, .ref m38, .int 0, .int 0, .ref m41, .ref m42, .ref m43, .ref m44, .int 0, .int 0, .ref m47, .ref m48, .ref m49, .ref m50, .ref m51, .ref m52, .ref m53, .ref m54])), (m15, .inl (cI, 2, .inl (fun _ => 0))), (o0, .inr (11, [.ref o1, .int 0, .ref o2, .ref o3, .ref o4, .ref o5, .ref o6, .ref o7, .ref o8, .ref o9, .ref o10])), (o2, .inr (3, [.ref u1, .ref u2, .ref u3, .ref u4, .ref u5])), (u4, .inr (5, [.int 0, .int 0, .ref u41, .ref u42, .ref u43, .ref u44, .ref u45, .ref u46, .ref u47, .ref u48, .ref u49]))] H := hP
  have hD : va_D A [(m0_, .inr (12, [.ref m0, .ref m1, .int 0, .int 0, .int 0, .int (-1), .int 0, .int 0, .int 0, .int 0, .long 0, .ref m11, .ref m12, .ref m13, .ref m14, .ref m15, .ref m16, .ref m17, .ref m18, .ref m19, .ref m20, .ref m21, .ref m22, .ref m23, .ref m24, .ref m25, .ref m26, .ref m27, .ref m28, .ref m29, .ref m30, .ref m31, .ref m32, .ref m33, .ref m34, .ref m35, .ref m36, .ref m37, .ref m38, .int 0, .int 0, .ref m41, .ref m42, .ref m43, .ref m44, .int 0, .int 0, .ref m47, .ref m48, .ref m49, .ref m50, .ref m51, .ref m52, .ref m53, .ref m54])), (m15, .inl (cI, 2, .inl (fun _ => 0))), (o0, .inr (11, [.ref o1, .int 0, .ref o2, .ref o3, .ref o4, .ref o5, .ref o6, .ref o7, .ref o8, .ref o9, .ref o10])), (o2, .inr (3, [.ref u1, .ref u2, .ref u3, .ref u4, .ref u5])), (u4, .inr (5, [.int 0, .int 0, .ref u41, .ref u42, .ref u43, .ref u44, .ref u45, .ref u46, .ref u47, .ref u48, .ref u49]))] := hD
  subst h_2_r
  refine lv_aload_n hx hb d_law_law_451 rfl (lv_at hl 1 rfl) ?_
  refine lv_aload_n hx hb d_law_law_452 rfl (lv_at hl 3 rfl) ?_
  refine lv_iload_n hx hb d_law_law_453 rfl (lv_at hl 0 rfl) ?_
  refine lv_iconst (v := 1) hx hb d_law_law_454 (by decide +kernel) ?_
  refine lv_iadd hx hb d_law_law_455 ?_
  refine nz_ctopi (v := 1) (by decide +kernel) ?_
  refine va_sld hx hb hXs hbl hbA hS (nz_vin (by decide +kernel)) d_law_law_456 ?_
  refine nz_ctopi (v := xs 1) rfl ?_
  refine lv_aload_n hx hb d_law_law_457 rfl (lv_at hl 3 rfl) ?_
  refine lv_iload_n hx hb d_law_law_458 rfl (lv_at hl 0 rfl) ?_
  refine lv_iconst (v := 2) hx hb d_law_law_459 (by decide +kernel) ?_
  refine lv_iadd hx hb d_law_law_460 ?_
  refine nz_ctopi (v := 2) (by decide +kernel) ?_
  refine va_sld hx hb hXs hbl hbA hS (nz_vin (by decide +kernel)) d_law_law_461 ?_
  refine nz_ctopi (v := xs 2) rfl ?_
  refine nz_calVi (As := [.int (xs 1), .int (xs 2)]) (rest := [.int (-1)]) C0 (c_Mo_near l D cB cI cJ m0_ (xs 1) (xs 2) m0 m1 m11 m12 m13 m14 m15 m16 m17 m18 m19 m20 m21 m22 m23 m24 m25 m26 m27 m28 m29 m30 m31 m32 m33 m34 m35 m36 m37 m38 m41 m42 m43 m44 m47 m48 m49 m50 m51 m52 m53 m54) g_law_58 rfl nz_xb0 (by decide) hl.1 hP hD hS hA [0, 1] [2, 3, 4] rfl (wr := [(o0, .inr (11, [.ref o1, .int 0, .ref o2, .ref o3, .ref o4, .ref o5, .ref o6, .ref o7, .ref o8, .ref o9, .ref o10])), (o2, .inr (3, [.ref u1, .ref u2, .ref u3, .ref u4, .ref u5])), (u4, .inr (5, [.int 0, .int 0, .ref u41, .ref u42, .ref u43, .ref u44, .ref u45, .ref u46, .ref u47, .ref u48, .ref u49]))]) rfl (by decide) (by decide) (by decide) rfl rfl (fun _ _ _ => trivial) rfl (Nat.le_of_ble_eq_true rfl) d_law_law_462 (by decide) (fun r_3 u H locs h_4 hP hD hS => ?_)
  obtain ⟨h_4_r, rfl⟩ := h_4
  have hP : va_P D nz_cl [(o0, .inr (11, [.ref o1, .int 0, .ref o2, .ref o3, .ref o4, .ref o5, .ref o6, .ref o7, .ref o8, .ref o9, .ref o10])), (o2, .inr (3, [.ref u1, .ref u2, .ref u3, .ref u4, .ref u5])), (u4, .inr (5, [.int 0, .int 0, .ref u41, .ref u42, .ref u43, .ref u44, .ref u45, .ref u46, .ref u47, .ref u48, .ref u49])), (m0_, .inr (12, [.ref m0, .ref m1, .int 0, .int 0, .int 0, .int (-1), .int 0, .int 0, .int 0, .int 0, .long 0, .ref m11, .ref m12, .ref m13, .ref m14, .ref m15, .ref m16, .ref m17, .ref m18, .ref m19, .ref m20, .ref m21, .ref m22, .ref m23, .ref m24, .ref m25, .ref m26, .ref m27, .ref m28, .ref m29, .ref m30, .ref m31, .ref m32, .ref m33, .ref m34, .ref m35, .ref m36, .ref m37, .ref m38, .int 0, .int 0, .ref m41, .ref m42, .ref m43, .ref m44, .int 0, .int 0, .ref m47, .ref m48, .ref m49, .ref m50, .ref m51, .ref m52, .ref m53, .ref m54])), (m15, .inl (cI, 2, .inl (fun _ => 0)))] H := hP
  have hD : va_D A [(o0, .inr (11, [.ref o1, .int 0, .ref o2, .ref o3, .ref o4, .ref o5, .ref o6, .ref o7, .ref o8, .ref o9, .ref o10])), (o2, .inr (3, [.ref u1, .ref u2, .ref u3, .ref u4, .ref u5])), (u4, .inr (5, [.int 0, .int 0, .ref u41, .ref u42, .ref u43, .ref u44, .ref u45, .ref u46, .ref u47, .ref u48, .ref u49])), (m0_, .inr (12, [.ref m0, .ref m1, .int 0, .int 0, .int 0, .int (-1), .int 0, .int 0, .int 0, .int 0, .long 0, .ref m11, .ref m12, .ref m13, .ref m14, .ref m15, .ref m16, .ref m17, .ref m18, .ref m19, .ref m20, .ref m21, .ref m22, .ref m23, .ref m24, .ref m25, .ref m26, .ref m27, .ref m28, .ref m29, .ref m30, .ref m31, .ref m32, .ref m33, .ref m34, .ref m35, .ref m36, .ref m37, .ref m38, .int 0, .int 0, .ref m41, .ref m42, .ref m43, .ref m44, .int 0, .int 0, .ref m47, .ref m48, .ref m49, .ref m50, .ref m51, .ref m52, .ref m53, .ref m54])), (m15, .inl (cI, 2, .inl (fun _ => 0)))] := hD
  subst h_4_r
  refine lv_icmp_eq (tgt := 1427) hx hb d_law_law_465 (by decide) (fun c_5 => ?_) (fun c_5 => absurd (by decide +kernel) c_5)
  exact nz_ltail C0 hXs hbl (by rw [hAe]; exact hS) hl
set_option maxHeartbeats 4000000 in
set_option maxRecDepth 100000 in
theorem nz_law_10 {p : Program} {l : Launch} {e : Env} {s : State} {m : MethodId} {below : List Frame} {meth : Method} {c : Code} {b : Nat} {xs : Nat → Int32} {H : Heap} {locs : List Loc} {ls : Array Slot} (D : va_G) (cB cI cJ : ClassId) (o0 : Nat) (o1 : Nat) (o2 : Nat) (o3 : Nat) (o4 : Nat) (o5 : Nat) (o6 : Nat) (o7 : Nat) (o8 : Nat) (o9 : Nat) (o10 : Nat) (u1 : Nat) (u2 : Nat) (u3 : Nat) (u4 : Nat) (u5 : Nat) (u31 : Nat) (u32 : Nat) (m0_ : Nat) (m0 : Nat) (m1 : Nat) (m11 : Nat) (m12 : Nat) (m13 : Nat) (m14 : Nat) (m15 : Nat) (m16 : Nat) (m17 : Nat) (m18 : Nat) (m19 : Nat) (m20 : Nat) (m21 : Nat) (m22 : Nat) (m23 : Nat) (m24 : Nat) (m25 : Nat) (m26 : Nat) (m27 : Nat) (m28 : Nat) (m29 : Nat) (m30 : Nat) (m31 : Nat) (m32 : Nat) (m33 : Nat) (m34 : Nat) (m35 : Nat) (m36 : Nat) (m37 : Nat) (m38 : Nat) (m41 : Nat) (m42 : Nat) (m43 : Nat) (m44 : Nat) (m47 : Nat) (m48 : Nat) (m49 : Nat) (m50 : Nat) (m51 : Nat) (m52 : Nat) (m53 : Nat) (m54 : Nat) (C0 : nz_Cx p s m #[Value.ref b] meth c code 4 ret R_law D cB cI cJ) (hXs : va_X b 7 xs s s.heap) (hbl : b < s.heap.size) (hP : va_P D nz_cl [(o0, .inr (11, [.ref o1, .int 0, .ref o2, .ref o3, .ref o4, .ref o5, .ref o6, .ref o7, .ref o8, .ref o9, .ref o10])), (o2, .inr (3, [.ref u1, .ref u2, .ref u3, .ref u4, .ref u5])), (u3, .inr (10, [.int 0, .ref u31, .ref u32])), (m0_, .inr (12, [.ref m0, .ref m1, .int 0, .int 0, .int 0, .int (-1), .int 0, .int 0, .int 0, .int 0, .long 0, .ref m11, .ref m12, .ref m13, .ref m14, .ref m15, .ref m16, .ref m17, .ref m18, .ref m19, .ref m20, .ref m21, .ref m22, .ref m23, .ref m24, .ref m25, .ref m26, .ref m27, .ref m28, .ref m29, .ref m30, .ref m31, .ref m32, .ref m33, .ref m34, .ref m35, .ref m36, .ref m37, .ref m38, .int 0, .int 0, .ref m41, .ref m42, .ref m43, .ref m44, .int 0, .int 0, .ref m47, .ref m48, .ref m49, .ref m50, .ref m51, .ref m52, .ref m53, .ref m54])), (m13, .inl (cI, 2, .inl (fun _ => 0)))] H) (hD : va_D (fun q : Nat => s.heap.size ≤ q) [(o0, .inr (11, [.ref o1, .int 0, .ref o2, .ref o3, .ref o4, .ref o5, .ref o6, .ref o7, .ref o8, .ref o9, .ref o10])), (o2, .inr (3, [.ref u1, .ref u2, .ref u3, .ref u4, .ref u5])), (u3, .inr (10, [.int 0, .ref u31, .ref u32])), (m0_, .inr (12, [.ref m0, .ref m1, .int 0, .int 0, .int 0, .int (-1), .int 0, .int 0, .int 0, .int 0, .long 0, .ref m11, .ref m12, .ref m13, .ref m14, .ref m15, .ref m16, .ref m17, .ref m18, .ref m19, .ref m20, .ref m21, .ref m22, .ref m23, .ref m24, .ref m25, .ref m26, .ref m27, .ref m28, .ref m29, .ref m30, .ref m31, .ref m32, .ref m33, .ref m34, .ref m35, .ref m36, .ref m37, .ref m38, .int 0, .int 0, .ref m41, .ref m42, .ref m43, .ref m44, .int 0, .int 0, .ref m47, .ref m48, .ref m49, .ref m50, .ref m51, .ref m52, .ref m53, .ref m54])), (m13, .inl (cI, 2, .inl (fun _ => 0)))]) (hS : va_S (fun q : Nat => s.heap.size ≤ q) s.heap H locs) (hl : lv_has ls 4 [(3, .int 0), (2, .ref m0_), (1, .ref o0), (0, .ref b)]) : W p l e room_1 s m #[Value.ref b] below meth c H locs 124 7401 (lw_Z below #[Value.ref b] s) (F0 m 470 ls []) := by
  obtain ⟨hx, hb, hr, hml, hown, hts, hlk, hK⟩ := id C0
  generalize hAe : (fun q : Nat => s.heap.size ≤ q) = A at hD hS
  have hA : ∀ q : Nat, s.heap.size ≤ q → A q := fun q h => by rw [← hAe]; exact h
  have hbA : ¬ A b := by rw [← hAe]; exact Nat.not_le.mpr hbl
  refine lv_aload_n hx hb d_law_law_470 rfl (lv_at hl 2 rfl) ?_
  refine lv_aload_n hx hb d_law_law_471 rfl (lv_at hl 3 rfl) ?_
  refine lv_iload_n hx hb d_law_law_472 rfl (lv_at hl 0 rfl) ?_
  refine lv_iconst (v := 1) hx hb d_law_law_473 (by decide +kernel) ?_
  refine lv_iadd hx hb d_law_law_474 ?_
  refine nz_ctopi (v := 1) (by decide +kernel) ?_
  refine va_sld hx hb hXs hbl hbA hS (nz_vin (by decide +kernel)) d_law_law_475 ?_
  refine nz_ctopi (v := xs 1) rfl ?_
  refine lv_aload_n hx hb d_law_law_476 rfl (lv_at hl 3 rfl) ?_
  refine lv_iload_n hx hb d_law_law_477 rfl (lv_at hl 0 rfl) ?_
  refine lv_iconst (v := 2) hx hb d_law_law_478 (by decide +kernel) ?_
  refine lv_iadd hx hb d_law_law_479 ?_
  refine nz_ctopi (v := 2) (by decide +kernel) ?_
  refine va_sld hx hb hXs hbl hbA hS (nz_vin (by decide +kernel)) d_law_law_480 ?_
  refine nz_ctopi (v := xs 2) rfl ?_
  refine lv_aload_n hx hb d_law_law_481 rfl (lv_at hl 3 rfl) ?_
  refine lv_iload_n hx hb d_law_law_482 rfl (lv_at hl 0 rfl) ?_
  refine lv_iconst (v := 3) hx hb d_law_law_483 (by decide +kernel) ?_
  refine lv_iadd hx hb d_law_law_484 ?_
  refine nz_ctopi (v := 3) (by decide +kernel) ?_
  refine va_sld hx hb hXs hbl hbA hS (nz_vin (by decide +kernel)) d_law_law_485 ?_
  refine nz_ctopi (v := xs 3) rfl ?_
  refine lv_aload_n hx hb d_law_law_486 rfl (lv_at hl 3 rfl) ?_
  refine lv_iload_n hx hb d_law_law_487 rfl (lv_at hl 0 rfl) ?_
  refine lv_iconst (v := 4) hx hb d_law_law_488 (by decide +kernel) ?_
  refine lv_iadd hx hb d_law_law_489 ?_
  refine nz_ctopi (v := 4) (by decide +kernel) ?_
  refine va_sld hx hb hXs hbl hbA hS (nz_vin (by decide +kernel)) d_law_law_490 ?_
  refine nz_ctopi (v := xs 4) rfl ?_
  refine lv_aload_n hx hb d_law_law_491 rfl (lv_at hl 3 rfl) ?_
  refine lv_iload_n hx hb d_law_law_492 rfl (lv_at hl 0 rfl) ?_
  refine lv_iconst (v := 5) hx hb d_law_law_493 (by decide +kernel) ?_
  refine lv_iadd hx hb d_law_law_494 ?_
  refine nz_ctopi (v := 5) (by decide +kernel) ?_
  refine va_sld hx hb hXs hbl hbA hS (nz_vin (by decide +kernel)) d_law_law_495 ?_
  refine nz_ctopi (v := xs 5) rfl ?_
  refine nz_calVi (As := [.int (xs 1), .int (xs 2), .int (xs 3), .int (xs 4), .int (xs 5)]) (rest := []) C0 (c_NF_may l D cB cI cJ o0 (xs 1) (xs 2) (xs 3) (xs 4) (xs 5) o1 o2 o3 o4 o5 o6 o7 o8 o9 o10 u1 u2 u3 u4 u5 u31 u32) g_law_59 rfl nz_xb0 (by decide) hl.1 hP hD hS hA [0, 1, 2] [3, 4] rfl (wr := [(m0_, .inr (12, [.ref m0, .ref m1, .int 0, .int 0, .int 0, .int (-1), .int 0, .int 0, .int 0, .int 0, .long 0, .ref m11, .ref m12, .ref m13, .ref m14, .ref m15, .ref m16, .ref m17, .ref m18, .ref m19, .ref m20, .ref m21, .ref m22, .ref m23, .ref m24, .ref m25, .ref m26, .ref m27, .ref m28, .ref m29, .ref m30, .ref m31, .ref m32, .ref m33, .ref m34, .ref m35, .ref m36, .ref m37, .ref m38, .int 0, .int 0, .ref m41, .ref m42, .ref m43, .ref m44, .int 0, .int 0, .ref m47, .ref m48, .ref m49, .ref m50, .ref m51, .ref m52, .ref m53, .ref m54])), (m13, .inl (cI, 2, .inl (fun _ => 0)))]) rfl (by decide) (by decide) (by decide) rfl rfl (fun _ _ _ => trivial) rfl (Nat.le_of_ble_eq_true rfl) d_law_law_496 (by decide) (fun r_1 u H locs h_2 hP hD hS => ?_)
  obtain ⟨h_2_r, rfl⟩ := h_2
  have hP : va_P D nz_cl [(m0_, .inr (12, [.ref m0, .ref m1, .int 0, .int 0, .int 0, .int (-1), .int 0, .int 0, .int 0, .int 0, .long 0, .ref m11, .ref m12, .ref m13, .ref m14, .ref m15, .ref m16, .ref m17, .ref m18, .ref m19, .ref m20, .ref m21, .ref m22, .ref m23, .ref m24, .ref m25, .ref m26, .ref m27, .ref m28, .ref m29, .ref m30, .ref m31, .ref m32, .ref m33, .ref m34, .ref m35, .ref m36, .ref m37, .ref m38, .int 0, .int 0, .ref m41, .ref m42, .ref m43, .ref m44, .int 0, .int 0, .ref m47, .ref m48, .ref m49, .ref m50, .ref m51, .ref m52, .ref m53, .ref m54])), (m13, .inl (cI, 2, .inl (fun _ => 0))), (o0, .inr (11, [.ref o1, .int 0, .ref o2, .ref o3, .ref o4, .ref o5, .ref o6, .ref o7, .ref o8, .ref o9, .ref o10])), (o2, .inr (3, [.ref u1, .ref u2, .ref u3, .ref u4, .ref u5])), (u3, .inr (10, [.int 0, .ref u31, .ref u32]))] H := hP
  have hD : va_D A [(m0_, .inr (12, [.ref m0, .ref m1, .int 0, .int 0, .int 0, .int (-1), .int 0, .int 0, .int 0, .int 0, .long 0, .ref m11, .ref m12, .ref m13, .ref m14, .ref m15, .ref m16, .ref m17, .ref m18, .ref m19, .ref m20, .ref m21, .ref m22, .ref m23, .ref m24, .ref m25, .ref m26, .ref m27, .ref m28, .ref m29, .ref m30, .ref m31, .ref m32, .ref m33, .ref m34, .ref m35, .ref m36, .ref m37, .ref m38, .int 0, .int 0, .ref m41, .ref m42, .ref m43, .ref m44, .int 0, .int 0, .ref m47, .ref m48, .ref m49, .ref m50, .ref m51, .ref m52, .ref m53, .ref m54])), (m13, .inl (cI, 2, .inl (fun _ => 0))), (o0, .inr (11, [.ref o1, .int 0, .ref o2, .ref o3, .ref o4, .ref o5, .ref o6, .ref o7, .ref o8, .ref o9, .ref o10])), (o2, .inr (3, [.ref u1, .ref u2, .ref u3, .ref u4, .ref u5])), (u3, .inr (10, [.int 0, .ref u31, .ref u32]))] := hD
  subst h_2_r
  refine lv_aload_n hx hb d_law_law_499 rfl (lv_at hl 1 rfl) ?_
  refine lv_aload_n hx hb d_law_law_500 rfl (lv_at hl 3 rfl) ?_
  refine lv_iload_n hx hb d_law_law_501 rfl (lv_at hl 0 rfl) ?_
  refine lv_iconst (v := 1) hx hb d_law_law_502 (by decide +kernel) ?_
  refine lv_iadd hx hb d_law_law_503 ?_
  refine nz_ctopi (v := 1) (by decide +kernel) ?_
  refine va_sld hx hb hXs hbl hbA hS (nz_vin (by decide +kernel)) d_law_law_504 ?_
  refine nz_ctopi (v := xs 1) rfl ?_
  refine lv_aload_n hx hb d_law_law_505 rfl (lv_at hl 3 rfl) ?_
  refine lv_iload_n hx hb d_law_law_506 rfl (lv_at hl 0 rfl) ?_
  refine lv_iconst (v := 2) hx hb d_law_law_507 (by decide +kernel) ?_
  refine lv_iadd hx hb d_law_law_508 ?_
  refine nz_ctopi (v := 2) (by decide +kernel) ?_
  refine va_sld hx hb hXs hbl hbA hS (nz_vin (by decide +kernel)) d_law_law_509 ?_
  refine nz_ctopi (v := xs 2) rfl ?_
  refine lv_aload_n hx hb d_law_law_510 rfl (lv_at hl 3 rfl) ?_
  refine lv_iload_n hx hb d_law_law_511 rfl (lv_at hl 0 rfl) ?_
  refine lv_iconst (v := 3) hx hb d_law_law_512 (by decide +kernel) ?_
  refine lv_iadd hx hb d_law_law_513 ?_
  refine nz_ctopi (v := 3) (by decide +kernel) ?_
  refine va_sld hx hb hXs hbl hbA hS (nz_vin (by decide +kernel)) d_law_law_514 ?_
  refine nz_ctopi (v := xs 3) rfl ?_
  refine lv_aload_n hx hb d_law_law_515 rfl (lv_at hl 3 rfl) ?_
  refine lv_iload_n hx hb d_law_law_516 rfl (lv_at hl 0 rfl) ?_
  refine lv_iconst (v := 4) hx hb d_law_law_517 (by decide +kernel) ?_
  refine lv_iadd hx hb d_law_law_518 ?_
  refine nz_ctopi (v := 4) (by decide +kernel) ?_
  refine va_sld hx hb hXs hbl hbA hS (nz_vin (by decide +kernel)) d_law_law_519 ?_
  refine nz_ctopi (v := xs 4) rfl ?_
  refine lv_aload_n hx hb d_law_law_520 rfl (lv_at hl 3 rfl) ?_
  refine lv_iload_n hx hb d_law_law_521 rfl (lv_at hl 0 rfl) ?_
  refine lv_iconst (v := 5) hx hb d_law_law_522 (by decide +kernel) ?_
  refine lv_iadd hx hb d_law_law_523 ?_
  refine nz_ctopi (v := 5) (by decide +kernel) ?_
  refine va_sld hx hb hXs hbl hbA hS (nz_vin (by decide +kernel)) d_law_law_524 ?_
  refine nz_ctopi (v := xs 5) rfl ?_
  refine nz_calVi (As := [.int (xs 1), .int (xs 2), .int (xs 3), .int (xs 4), .int (xs 5)]) (rest := [.int (-1)]) C0 (c_Mo_may l D cB cI cJ m0_ (xs 1) (xs 2) (xs 3) (xs 4) (xs 5) m0 m1 m11 m12 m13 m14 m15 m16 m17 m18 m19 m20 m21 m22 m23 m24 m25 m26 m27 m28 m29 m30 m31 m32 m33 m34 m35 m36 m37 m38 m41 m42 m43 m44 m47 m48 m49 m50 m51 m52 m53 m54) g_law_62 rfl nz_xb0 (by decide) hl.1 hP hD hS hA [0, 1] [2, 3, 4] rfl (wr := [(o0, .inr (11, [.ref o1, .int 0, .ref o2, .ref o3, .ref o4, .ref o5, .ref o6, .ref o7, .ref o8, .ref o9, .ref o10])), (o2, .inr (3, [.ref u1, .ref u2, .ref u3, .ref u4, .ref u5])), (u3, .inr (10, [.int 0, .ref u31, .ref u32]))]) rfl (by decide) (by decide) (by decide) rfl rfl (fun _ _ _ => trivial) rfl (Nat.le_of_ble_eq_true rfl) d_law_law_525 (by decide) (fun r_3 u H locs h_4 hP hD hS => ?_)
  obtain ⟨h_4_r, rfl⟩ := h_4
  have hP : va_P D nz_cl [(o0, .inr (11, [.ref o1, .int 0, .ref o2, .ref o3, .ref o4, .ref o5, .ref o6, .ref o7, .ref o8, .ref o9, .ref o10])), (o2, .inr (3, [.ref u1, .ref u2, .ref u3, .ref u4, .ref u5])), (u3, .inr (10, [.int 0, .ref u31, .ref u32])), (m0_, .inr (12, [.ref m0, .ref m1, .int 0, .int 0, .int 0, .int (-1), .int 0, .int 0, .int 0, .int 0, .long 0, .ref m11, .ref m12, .ref m13, .ref m14, .ref m15, .ref m16, .ref m17, .ref m18, .ref m19, .ref m20, .ref m21, .ref m22, .ref m23, .ref m24, .ref m25, .ref m26, .ref m27, .ref m28, .ref m29, .ref m30, .ref m31, .ref m32, .ref m33, .ref m34, .ref m35, .ref m36, .ref m37, .ref m38, .int 0, .int 0, .ref m41, .ref m42, .ref m43, .ref m44, .int 0, .int 0, .ref m47, .ref m48, .ref m49, .ref m50, .ref m51, .ref m52, .ref m53, .ref m54])), (m13, .inl (cI, 2, .inl (fun _ => 0)))] H := hP
  have hD : va_D A [(o0, .inr (11, [.ref o1, .int 0, .ref o2, .ref o3, .ref o4, .ref o5, .ref o6, .ref o7, .ref o8, .ref o9, .ref o10])), (o2, .inr (3, [.ref u1, .ref u2, .ref u3, .ref u4, .ref u5])), (u3, .inr (10, [.int 0, .ref u31, .ref u32])), (m0_, .inr (12, [.ref m0, .ref m1, .int 0, .int 0, .int 0, .int (-1), .int 0, .int 0, .int 0, .int 0, .long 0, .ref m11, .ref m12, .ref m13, .ref m14, .ref m15, .ref m16, .ref m17, .ref m18, .ref m19, .ref m20, .ref m21, .ref m22, .ref m23, .ref m24, .ref m25, .ref m26, .ref m27, .ref m28, .ref m29, .ref m30, .ref m31, .ref m32, .ref m33, .ref m34, .ref m35, .ref m36, .ref m37, .ref m38, .int 0, .int 0, .ref m41, .ref m42, .ref m43, .ref m44, .int 0, .int 0, .ref m47, .ref m48, .ref m49, .ref m50, .ref m51, .ref m52, .ref m53, .ref m54])), (m13, .inl (cI, 2, .inl (fun _ => 0)))] := hD
  subst h_4_r
  refine lv_icmp_eq (tgt := 1427) hx hb d_law_law_528 (by decide) (fun c_5 => ?_) (fun c_5 => absurd (by decide +kernel) c_5)
  exact nz_ltail C0 hXs hbl (by rw [hAe]; exact hS) hl
set_option maxHeartbeats 4000000 in
set_option maxRecDepth 100000 in
theorem nz_law_11 {p : Program} {l : Launch} {e : Env} {s : State} {m : MethodId} {below : List Frame} {meth : Method} {c : Code} {b : Nat} {xs : Nat → Int32} {H : Heap} {locs : List Loc} {ls : Array Slot} (D : va_G) (cB cI cJ : ClassId) (o0 : Nat) (o1 : Nat) (o2 : Nat) (o3 : Nat) (o4 : Nat) (o5 : Nat) (o6 : Nat) (o7 : Nat) (o8 : Nat) (o9 : Nat) (o10 : Nat) (u1 : Nat) (u2 : Nat) (u3 : Nat) (u4 : Nat) (u5 : Nat) (u41 : Nat) (u42 : Nat) (u43 : Nat) (u44 : Nat) (u45 : Nat) (u46 : Nat) (u47 : Nat) (u48 : Nat) (u49 : Nat) (m0_ : Nat) (m0 : Nat) (m1 : Nat) (m11 : Nat) (m12 : Nat) (m13 : Nat) (m14 : Nat) (m15 : Nat) (m16 : Nat) (m17 : Nat) (m18 : Nat) (m19 : Nat) (m20 : Nat) (m21 : Nat) (m22 : Nat) (m23 : Nat) (m24 : Nat) (m25 : Nat) (m26 : Nat) (m27 : Nat) (m28 : Nat) (m29 : Nat) (m30 : Nat) (m31 : Nat) (m32 : Nat) (m33 : Nat) (m34 : Nat) (m35 : Nat) (m36 : Nat) (m37 : Nat) (m38 : Nat) (m41 : Nat) (m42 : Nat) (m43 : Nat) (m44 : Nat) (m47 : Nat) (m48 : Nat) (m49 : Nat) (m50 : Nat) (m51 : Nat) (m52 : Nat) (m53 : Nat) (m54 : Nat) (C0 : nz_Cx p s m #[Value.ref b] meth c code 4 ret R_law D cB cI cJ) (hXs : va_X b 7 xs s s.heap) (hbl : b < s.heap.size) (hP : va_P D nz_cl [(o0, .inr (11, [.ref o1, .int 0, .ref o2, .ref o3, .ref o4, .ref o5, .ref o6, .ref o7, .ref o8, .ref o9, .ref o10])), (o2, .inr (3, [.ref u1, .ref u2, .ref u3, .ref u4, .ref u5])), (u4, .inr (5, [.int 0, .int 0, .ref u41, .ref u42, .ref u43, .ref u44, .ref u45, .ref u46, .ref u47, .ref u48, .ref u49])), (m0_, .inr (12, [.ref m0, .ref m1, .int 0, .int 0, .int 0, .int (-1), .int 0, .int 0, .int 0, .int 0, .long 0, .ref m11, .ref m12, .ref m13, .ref m14, .ref m15, .ref m16, .ref m17, .ref m18, .ref m19, .ref m20, .ref m21, .ref m22, .ref m23, .ref m24, .ref m25, .ref m26, .ref m27, .ref m28, .ref m29, .ref m30, .ref m31, .ref m32, .ref m33, .ref m34, .ref m35, .ref m36, .ref m37, .ref m38, .int 0, .int 0, .ref m41, .ref m42, .ref m43, .ref m44, .int 0, .int 0, .ref m47, .ref m48, .ref m49, .ref m50, .ref m51, .ref m52, .ref m53, .ref m54])), (m13, .inl (cI, 2, .inl (fun _ => 0))), (m15, .inl (cI, 2, .inl (fun _ => 0)))] H) (hD : va_D (fun q : Nat => s.heap.size ≤ q) [(o0, .inr (11, [.ref o1, .int 0, .ref o2, .ref o3, .ref o4, .ref o5, .ref o6, .ref o7, .ref o8, .ref o9, .ref o10])), (o2, .inr (3, [.ref u1, .ref u2, .ref u3, .ref u4, .ref u5])), (u4, .inr (5, [.int 0, .int 0, .ref u41, .ref u42, .ref u43, .ref u44, .ref u45, .ref u46, .ref u47, .ref u48, .ref u49])), (m0_, .inr (12, [.ref m0, .ref m1, .int 0, .int 0, .int 0, .int (-1), .int 0, .int 0, .int 0, .int 0, .long 0, .ref m11, .ref m12, .ref m13, .ref m14, .ref m15, .ref m16, .ref m17, .ref m18, .ref m19, .ref m20, .ref m21, .ref m22, .ref m23, .ref m24, .ref m25, .ref m26, .ref m27, .ref m28, .ref m29, .ref m30, .ref m31, .ref m32, .ref m33, .ref m34, .ref m35, .ref m36, .ref m37, .ref m38, .int 0, .int 0, .ref m41, .ref m42, .ref m43, .ref m44, .int 0, .int 0, .ref m47, .ref m48, .ref m49, .ref m50, .ref m51, .ref m52, .ref m53, .ref m54])), (m13, .inl (cI, 2, .inl (fun _ => 0))), (m15, .inl (cI, 2, .inl (fun _ => 0)))]) (hS : va_S (fun q : Nat => s.heap.size ≤ q) s.heap H locs) (hl : lv_has ls 4 [(3, .int 0), (2, .ref m0_), (1, .ref o0), (0, .ref b)]) : W p l e room_1 s m #[Value.ref b] below meth c H locs 124 7401 (lw_Z below #[Value.ref b] s) (F0 m 533 ls []) := by
  obtain ⟨hx, hb, hr, hml, hown, hts, hlk, hK⟩ := id C0
  generalize hAe : (fun q : Nat => s.heap.size ≤ q) = A at hD hS
  have hA : ∀ q : Nat, s.heap.size ≤ q → A q := fun q h => by rw [← hAe]; exact h
  have hbA : ¬ A b := by rw [← hAe]; exact Nat.not_le.mpr hbl
  refine lv_aload_n hx hb d_law_law_533 rfl (lv_at hl 2 rfl) ?_
  refine lv_aload_n hx hb d_law_law_534 rfl (lv_at hl 3 rfl) ?_
  refine lv_iload_n hx hb d_law_law_535 rfl (lv_at hl 0 rfl) ?_
  refine lv_iconst (v := 1) hx hb d_law_law_536 (by decide +kernel) ?_
  refine lv_iadd hx hb d_law_law_537 ?_
  refine nz_ctopi (v := 1) (by decide +kernel) ?_
  refine va_sld hx hb hXs hbl hbA hS (nz_vin (by decide +kernel)) d_law_law_538 ?_
  refine nz_ctopi (v := xs 1) rfl ?_
  refine lv_aload_n hx hb d_law_law_539 rfl (lv_at hl 3 rfl) ?_
  refine lv_iload_n hx hb d_law_law_540 rfl (lv_at hl 0 rfl) ?_
  refine lv_iconst (v := 2) hx hb d_law_law_541 (by decide +kernel) ?_
  refine lv_iadd hx hb d_law_law_542 ?_
  refine nz_ctopi (v := 2) (by decide +kernel) ?_
  refine va_sld hx hb hXs hbl hbA hS (nz_vin (by decide +kernel)) d_law_law_543 ?_
  refine nz_ctopi (v := xs 2) rfl ?_
  refine lv_aload_n hx hb d_law_law_544 rfl (lv_at hl 3 rfl) ?_
  refine lv_iload_n hx hb d_law_law_545 rfl (lv_at hl 0 rfl) ?_
  refine lv_iconst (v := 3) hx hb d_law_law_546 (by decide +kernel) ?_
  refine lv_iadd hx hb d_law_law_547 ?_
  refine nz_ctopi (v := 3) (by decide +kernel) ?_
  refine va_sld hx hb hXs hbl hbA hS (nz_vin (by decide +kernel)) d_law_law_548 ?_
  refine nz_ctopi (v := xs 3) rfl ?_
  refine lv_aload_n hx hb d_law_law_549 rfl (lv_at hl 3 rfl) ?_
  refine lv_iload_n hx hb d_law_law_550 rfl (lv_at hl 0 rfl) ?_
  refine lv_iconst (v := 4) hx hb d_law_law_551 (by decide +kernel) ?_
  refine lv_iadd hx hb d_law_law_552 ?_
  refine nz_ctopi (v := 4) (by decide +kernel) ?_
  refine va_sld hx hb hXs hbl hbA hS (nz_vin (by decide +kernel)) d_law_law_553 ?_
  refine nz_ctopi (v := xs 4) rfl ?_
  refine lv_aload_n hx hb d_law_law_554 rfl (lv_at hl 3 rfl) ?_
  refine lv_iload_n hx hb d_law_law_555 rfl (lv_at hl 0 rfl) ?_
  refine lv_iconst (v := 5) hx hb d_law_law_556 (by decide +kernel) ?_
  refine lv_iadd hx hb d_law_law_557 ?_
  refine nz_ctopi (v := 5) (by decide +kernel) ?_
  refine va_sld hx hb hXs hbl hbA hS (nz_vin (by decide +kernel)) d_law_law_558 ?_
  refine nz_ctopi (v := xs 5) rfl ?_
  refine nz_calVi (As := [.int (xs 1), .int (xs 2), .int (xs 3), .int (xs 4), .int (xs 5)]) (rest := []) C0 (c_NF_judge l D cB cI cJ o0 (xs 1) (xs 2) (xs 3) (xs 4) (xs 5) o1 o2 o3 o4 o5 o6 o7 o8 o9 o10 u1 u2 u3 u4 u5 u41 u42 u43 u44 u45 u46 u47 u48 u49) g_law_63 rfl nz_xb0 (by decide) hl.1 hP hD hS hA [0, 1, 2] [3, 4, 5] rfl (wr := [(m0_, .inr (12, [.ref m0, .ref m1, .int 0, .int 0, .int 0, .int (-1), .int 0, .int 0, .int 0, .int 0, .long 0, .ref m11, .ref m12, .ref m13, .ref m14, .ref m15, .ref m16, .ref m17, .ref m18, .ref m19, .ref m20, .ref m21, .ref m22, .ref m23, .ref m24, .ref m25, .ref m26, .ref m27, .ref m28, .ref m29, .ref m30, .ref m31, .ref m32, .ref m33, .ref m34, .ref m35, .ref m36, .ref m37, .ref m38, .int 0, .int 0, .ref m41, .ref m42, .ref m43, .ref m44, .int 0, .int 0, .ref m47, .ref m48, .ref m49, .ref m50, .ref m51, .ref m52, .ref m53, .ref m54])), (m13, .inl (cI, 2, .inl (fun _ => 0))), (m15, .inl (cI, 2, .inl (fun _ => 0)))]) rfl (by decide) (by decide) (by decide) rfl rfl (fun _ _ _ => trivial) rfl (Nat.le_of_ble_eq_true rfl) d_law_law_559 (by decide) (fun r_1 u H locs h_2 hP hD hS => ?_)
  obtain ⟨h_2_r, rfl⟩ := h_2
  have hP : va_P D nz_cl [(m0_, .inr (12, [.ref m0, .ref m1, .int 0, .int 0, .int 0, .int (-1), .int 0, .int 0, .int 0, .int 0, .long 0, .ref m11, .ref m12, .ref m13, .ref m14, .ref m15, .ref m16, .ref m17, .ref m18, .ref m19, .ref m20, .ref m21, .ref m22, .ref m23, .ref m24, .ref m25, .ref m26, .ref m27, .ref m28, .ref m29, .ref m30, .ref m31, .ref m32, .ref m33, .ref m34, .ref m35, .ref m36, .ref m37, .ref m38, .int 0, .int 0, .ref m41, .ref m42, .ref m43, .ref m44, .int 0, .int 0, .ref m47, .ref m48, .ref m49, .ref m50, .ref m51, .ref m52, .ref m53, .ref m54])), (m13, .inl (cI, 2, .inl (fun _ => 0))), (m15, .inl (cI, 2, .inl (fun _ => 0))), (o0, .inr (11, [.ref o1, .int 0, .ref o2, .ref o3, .ref o4, .ref o5, .ref o6, .ref o7, .ref o8, .ref o9, .ref o10])), (o2, .inr (3, [.ref u1, .ref u2, .ref u3, .ref u4, .ref u5])), (u4, .inr (5, [.int 0, .int 0, .ref u41, .ref u42, .ref u43, .ref u44, .ref u45, .ref u46, .ref u47, .ref u48, .ref u49]))] H := hP
  have hD : va_D A [(m0_, .inr (12, [.ref m0, .ref m1, .int 0, .int 0, .int 0, .int (-1), .int 0, .int 0, .int 0, .int 0, .long 0, .ref m11, .ref m12, .ref m13, .ref m14, .ref m15, .ref m16, .ref m17, .ref m18, .ref m19, .ref m20, .ref m21, .ref m22, .ref m23, .ref m24, .ref m25, .ref m26, .ref m27, .ref m28, .ref m29, .ref m30, .ref m31, .ref m32, .ref m33, .ref m34, .ref m35, .ref m36, .ref m37, .ref m38, .int 0, .int 0, .ref m41, .ref m42, .ref m43, .ref m44, .int 0, .int 0, .ref m47, .ref m48, .ref m49, .ref m50, .ref m51, .ref m52, .ref m53, .ref m54])), (m13, .inl (cI, 2, .inl (fun _ => 0))), (m15, .inl (cI, 2, .inl (fun _ => 0))), (o0, .inr (11, [.ref o1, .int 0, .ref o2, .ref o3, .ref o4, .ref o5, .ref o6, .ref o7, .ref o8, .ref o9, .ref o10])), (o2, .inr (3, [.ref u1, .ref u2, .ref u3, .ref u4, .ref u5])), (u4, .inr (5, [.int 0, .int 0, .ref u41, .ref u42, .ref u43, .ref u44, .ref u45, .ref u46, .ref u47, .ref u48, .ref u49]))] := hD
  subst h_2_r
  refine lv_aload_n hx hb d_law_law_562 rfl (lv_at hl 1 rfl) ?_
  refine lv_aload_n hx hb d_law_law_563 rfl (lv_at hl 3 rfl) ?_
  refine lv_iload_n hx hb d_law_law_564 rfl (lv_at hl 0 rfl) ?_
  refine lv_iconst (v := 1) hx hb d_law_law_565 (by decide +kernel) ?_
  refine lv_iadd hx hb d_law_law_566 ?_
  refine nz_ctopi (v := 1) (by decide +kernel) ?_
  refine va_sld hx hb hXs hbl hbA hS (nz_vin (by decide +kernel)) d_law_law_567 ?_
  refine nz_ctopi (v := xs 1) rfl ?_
  refine lv_aload_n hx hb d_law_law_568 rfl (lv_at hl 3 rfl) ?_
  refine lv_iload_n hx hb d_law_law_569 rfl (lv_at hl 0 rfl) ?_
  refine lv_iconst (v := 2) hx hb d_law_law_570 (by decide +kernel) ?_
  refine lv_iadd hx hb d_law_law_571 ?_
  refine nz_ctopi (v := 2) (by decide +kernel) ?_
  refine va_sld hx hb hXs hbl hbA hS (nz_vin (by decide +kernel)) d_law_law_572 ?_
  refine nz_ctopi (v := xs 2) rfl ?_
  refine lv_aload_n hx hb d_law_law_573 rfl (lv_at hl 3 rfl) ?_
  refine lv_iload_n hx hb d_law_law_574 rfl (lv_at hl 0 rfl) ?_
  refine lv_iconst (v := 3) hx hb d_law_law_575 (by decide +kernel) ?_
  refine lv_iadd hx hb d_law_law_576 ?_
  refine nz_ctopi (v := 3) (by decide +kernel) ?_
  refine va_sld hx hb hXs hbl hbA hS (nz_vin (by decide +kernel)) d_law_law_577 ?_
  refine nz_ctopi (v := xs 3) rfl ?_
  refine lv_aload_n hx hb d_law_law_578 rfl (lv_at hl 3 rfl) ?_
  refine lv_iload_n hx hb d_law_law_579 rfl (lv_at hl 0 rfl) ?_
  refine lv_iconst (v := 4) hx hb d_law_law_580 (by decide +kernel) ?_
  refine lv_iadd hx hb d_law_law_581 ?_
  refine nz_ctopi (v := 4) (by decide +kernel) ?_
  refine va_sld hx hb hXs hbl hbA hS (nz_vin (by decide +kernel)) d_law_law_582 ?_
  refine nz_ctopi (v := xs 4) rfl ?_
  refine lv_aload_n hx hb d_law_law_583 rfl (lv_at hl 3 rfl) ?_
  refine lv_iload_n hx hb d_law_law_584 rfl (lv_at hl 0 rfl) ?_
  refine lv_iconst (v := 5) hx hb d_law_law_585 (by decide +kernel) ?_
  refine lv_iadd hx hb d_law_law_586 ?_
  refine nz_ctopi (v := 5) (by decide +kernel) ?_
  refine va_sld hx hb hXs hbl hbA hS (nz_vin (by decide +kernel)) d_law_law_587 ?_
  refine nz_ctopi (v := xs 5) rfl ?_
  refine nz_calVi (As := [.int (xs 1), .int (xs 2), .int (xs 3), .int (xs 4), .int (xs 5)]) (rest := [.int (-1)]) C0 (c_Mo_judge l D cB cI cJ m0_ (xs 1) (xs 2) (xs 3) (xs 4) (xs 5) m0 m1 m11 m12 m13 m14 m15 m16 m17 m18 m19 m20 m21 m22 m23 m24 m25 m26 m27 m28 m29 m30 m31 m32 m33 m34 m35 m36 m37 m38 m41 m42 m43 m44 m47 m48 m49 m50 m51 m52 m53 m54) g_law_66 rfl nz_xb0 (by decide) hl.1 hP hD hS hA [0, 1, 2] [3, 4, 5] rfl (wr := [(o0, .inr (11, [.ref o1, .int 0, .ref o2, .ref o3, .ref o4, .ref o5, .ref o6, .ref o7, .ref o8, .ref o9, .ref o10])), (o2, .inr (3, [.ref u1, .ref u2, .ref u3, .ref u4, .ref u5])), (u4, .inr (5, [.int 0, .int 0, .ref u41, .ref u42, .ref u43, .ref u44, .ref u45, .ref u46, .ref u47, .ref u48, .ref u49]))]) rfl (by decide) (by decide) (by decide) rfl rfl (fun _ _ _ => trivial) rfl (Nat.le_of_ble_eq_true rfl) d_law_law_588 (by decide) (fun r_3 u H locs h_4 hP hD hS => ?_)
  obtain ⟨h_4_r, rfl⟩ := h_4
  have hP : va_P D nz_cl [(o0, .inr (11, [.ref o1, .int 0, .ref o2, .ref o3, .ref o4, .ref o5, .ref o6, .ref o7, .ref o8, .ref o9, .ref o10])), (o2, .inr (3, [.ref u1, .ref u2, .ref u3, .ref u4, .ref u5])), (u4, .inr (5, [.int 0, .int 0, .ref u41, .ref u42, .ref u43, .ref u44, .ref u45, .ref u46, .ref u47, .ref u48, .ref u49])), (m0_, .inr (12, [.ref m0, .ref m1, .int 0, .int 0, .int 0, .int (-1), .int 0, .int 0, .int 0, .int 0, .long 0, .ref m11, .ref m12, .ref m13, .ref m14, .ref m15, .ref m16, .ref m17, .ref m18, .ref m19, .ref m20, .ref m21, .ref m22, .ref m23, .ref m24, .ref m25, .ref m26, .ref m27, .ref m28, .ref m29, .ref m30, .ref m31, .ref m32, .ref m33, .ref m34, .ref m35, .ref m36, .ref m37, .ref m38, .int 0, .int 0, .ref m41, .ref m42, .ref m43, .ref m44, .int 0, .int 0, .ref m47, .ref m48, .ref m49, .ref m50, .ref m51, .ref m52, .ref m53, .ref m54])), (m13, .inl (cI, 2, .inl (fun _ => 0))), (m15, .inl (cI, 2, .inl (fun _ => 0)))] H := hP
  have hD : va_D A [(o0, .inr (11, [.ref o1, .int 0, .ref o2, .ref o3, .ref o4, .ref o5, .ref o6, .ref o7, .ref o8, .ref o9, .ref o10])), (o2, .inr (3, [.ref u1, .ref u2, .ref u3, .ref u4, .ref u5])), (u4, .inr (5, [.int 0, .int 0, .ref u41, .ref u42, .ref u43, .ref u44, .ref u45, .ref u46, .ref u47, .ref u48, .ref u49])), (m0_, .inr (12, [.ref m0, .ref m1, .int 0, .int 0, .int 0, .int (-1), .int 0, .int 0, .int 0, .int 0, .long 0, .ref m11, .ref m12, .ref m13, .ref m14, .ref m15, .ref m16, .ref m17, .ref m18, .ref m19, .ref m20, .ref m21, .ref m22, .ref m23, .ref m24, .ref m25, .ref m26, .ref m27, .ref m28, .ref m29, .ref m30, .ref m31, .ref m32, .ref m33, .ref m34, .ref m35, .ref m36, .ref m37, .ref m38, .int 0, .int 0, .ref m41, .ref m42, .ref m43, .ref m44, .int 0, .int 0, .ref m47, .ref m48, .ref m49, .ref m50, .ref m51, .ref m52, .ref m53, .ref m54])), (m13, .inl (cI, 2, .inl (fun _ => 0))), (m15, .inl (cI, 2, .inl (fun _ => 0)))] := hD
  subst h_4_r
  refine lv_icmp_eq (tgt := 1427) hx hb d_law_law_591 (by decide) (fun c_5 => ?_) (fun c_5 => absurd (by decide +kernel) c_5)
  exact nz_ltail C0 hXs hbl (by rw [hAe]; exact hS) hl
set_option maxHeartbeats 4000000 in
set_option maxRecDepth 100000 in
theorem nz_law_12 {p : Program} {l : Launch} {e : Env} {s : State} {m : MethodId} {below : List Frame} {meth : Method} {c : Code} {b : Nat} {xs : Nat → Int32} {H : Heap} {locs : List Loc} {ls : Array Slot} (D : va_G) (cB cI cJ : ClassId) (o0 : Nat) (o1 : Nat) (o2 : Nat) (o3 : Nat) (o4 : Nat) (o5 : Nat) (o6 : Nat) (o7 : Nat) (o8 : Nat) (o9 : Nat) (o10 : Nat) (u1 : Nat) (u2 : Nat) (u3 : Nat) (u4 : Nat) (u5 : Nat) (u21 : Nat) (u22 : Nat) (u23 : Nat) (u24 : Nat) (m0_ : Nat) (m0 : Nat) (m1 : Nat) (m11 : Nat) (m12 : Nat) (m13 : Nat) (m14 : Nat) (m15 : Nat) (m16 : Nat) (m17 : Nat) (m18 : Nat) (m19 : Nat) (m20 : Nat) (m21 : Nat) (m22 : Nat) (m23 : Nat) (m24 : Nat) (m25 : Nat) (m26 : Nat) (m27 : Nat) (m28 : Nat) (m29 : Nat) (m30 : Nat) (m31 : Nat) (m32 : Nat) (m33 : Nat) (m34 : Nat) (m35 : Nat) (m36 : Nat) (m37 : Nat) (m38 : Nat) (m41 : Nat) (m42 : Nat) (m43 : Nat) (m44 : Nat) (m47 : Nat) (m48 : Nat) (m49 : Nat) (m50 : Nat) (m51 : Nat) (m52 : Nat) (m53 : Nat) (m54 : Nat) (C0 : nz_Cx p s m #[Value.ref b] meth c code 4 ret R_law D cB cI cJ) (hXs : va_X b 7 xs s s.heap) (hbl : b < s.heap.size) (hP : va_P D nz_cl [(o0, .inr (11, [.ref o1, .int 0, .ref o2, .ref o3, .ref o4, .ref o5, .ref o6, .ref o7, .ref o8, .ref o9, .ref o10])), (o2, .inr (3, [.ref u1, .ref u2, .ref u3, .ref u4, .ref u5])), (u2, .inr (4, [.int 0, .ref u21, .int 0, .ref u22, .ref u23, .ref u24])), (m0_, .inr (12, [.ref m0, .ref m1, .int 0, .int 0, .int 0, .int (-1), .int 0, .int 0, .int 0, .int 0, .long 0, .ref m11, .ref m12, .ref m13, .ref m14, .ref m15, .ref m16, .ref m17, .ref m18, .ref m19, .ref m20, .ref m21, .ref m22, .ref m23, .ref m24, .ref m25, .ref m26, .ref m27, .ref m28, .ref m29, .ref m30, .ref m31, .ref m32, .ref m33, .ref m34, .ref m35, .ref m36, .ref m37, .ref m38, .int 0, .int 0, .ref m41, .ref m42, .ref m43, .ref m44, .int 0, .int 0, .ref m47, .ref m48, .ref m49, .ref m50, .ref m51, .ref m52, .ref m53, .ref m54])), (m12, .inl (cI, 2, .inl (fun _ => 0)))] H) (hD : va_D (fun q : Nat => s.heap.size ≤ q) [(o0, .inr (11, [.ref o1, .int 0, .ref o2, .ref o3, .ref o4, .ref o5, .ref o6, .ref o7, .ref o8, .ref o9, .ref o10])), (o2, .inr (3, [.ref u1, .ref u2, .ref u3, .ref u4, .ref u5])), (u2, .inr (4, [.int 0, .ref u21, .int 0, .ref u22, .ref u23, .ref u24])), (m0_, .inr (12, [.ref m0, .ref m1, .int 0, .int 0, .int 0, .int (-1), .int 0, .int 0, .int 0, .int 0, .long 0, .ref m11, .ref m12, .ref m13, .ref m14, .ref m15, .ref m16, .ref m17, .ref m18, .ref m19, .ref m20, .ref m21, .ref m22, .ref m23, .ref m24, .ref m25, .ref m26, .ref m27, .ref m28, .ref m29, .ref m30, .ref m31, .ref m32, .ref m33, .ref m34, .ref m35, .ref m36, .ref m37, .ref m38, .int 0, .int 0, .ref m41, .ref m42, .ref m43, .ref m44, .int 0, .int 0, .ref m47, .ref m48, .ref m49, .ref m50, .ref m51, .ref m52, .ref m53, .ref m54])), (m12, .inl (cI, 2, .inl (fun _ => 0)))]) (hS : va_S (fun q : Nat => s.heap.size ≤ q) s.heap H locs) (hl : lv_has ls 4 [(3, .int 0), (2, .ref m0_), (1, .ref o0), (0, .ref b)]) : W p l e room_1 s m #[Value.ref b] below meth c H locs 124 7401 (lw_Z below #[Value.ref b] s) (F0 m 596 ls []) := by
  obtain ⟨hx, hb, hr, hml, hown, hts, hlk, hK⟩ := id C0
  generalize hAe : (fun q : Nat => s.heap.size ≤ q) = A at hD hS
  have hA : ∀ q : Nat, s.heap.size ≤ q → A q := fun q h => by rw [← hAe]; exact h
  have hbA : ¬ A b := by rw [← hAe]; exact Nat.not_le.mpr hbl
  refine lv_aload_n hx hb d_law_law_596 rfl (lv_at hl 2 rfl) ?_
  refine lv_aload_n hx hb d_law_law_597 rfl (lv_at hl 3 rfl) ?_
  refine lv_iload_n hx hb d_law_law_598 rfl (lv_at hl 0 rfl) ?_
  refine lv_iconst (v := 1) hx hb d_law_law_599 (by decide +kernel) ?_
  refine lv_iadd hx hb d_law_law_600 ?_
  refine nz_ctopi (v := 1) (by decide +kernel) ?_
  refine va_sld hx hb hXs hbl hbA hS (nz_vin (by decide +kernel)) d_law_law_601 ?_
  refine nz_ctopi (v := xs 1) rfl ?_
  refine lv_aload_n hx hb d_law_law_602 rfl (lv_at hl 3 rfl) ?_
  refine lv_iload_n hx hb d_law_law_603 rfl (lv_at hl 0 rfl) ?_
  refine lv_iconst (v := 2) hx hb d_law_law_604 (by decide +kernel) ?_
  refine lv_iadd hx hb d_law_law_605 ?_
  refine nz_ctopi (v := 2) (by decide +kernel) ?_
  refine va_sld hx hb hXs hbl hbA hS (nz_vin (by decide +kernel)) d_law_law_606 ?_
  refine nz_ctopi (v := xs 2) rfl ?_
  refine lv_aload_n hx hb d_law_law_607 rfl (lv_at hl 3 rfl) ?_
  refine lv_iload_n hx hb d_law_law_608 rfl (lv_at hl 0 rfl) ?_
  refine lv_iconst (v := 3) hx hb d_law_law_609 (by decide +kernel) ?_
  refine lv_iadd hx hb d_law_law_610 ?_
  refine nz_ctopi (v := 3) (by decide +kernel) ?_
  refine va_sld hx hb hXs hbl hbA hS (nz_vin (by decide +kernel)) d_law_law_611 ?_
  refine nz_ctopi (v := xs 3) rfl ?_
  refine lv_aload_n hx hb d_law_law_612 rfl (lv_at hl 3 rfl) ?_
  refine lv_iload_n hx hb d_law_law_613 rfl (lv_at hl 0 rfl) ?_
  refine lv_iconst (v := 4) hx hb d_law_law_614 (by decide +kernel) ?_
  refine lv_iadd hx hb d_law_law_615 ?_
  refine nz_ctopi (v := 4) (by decide +kernel) ?_
  refine va_sld hx hb hXs hbl hbA hS (nz_vin (by decide +kernel)) d_law_law_616 ?_
  refine nz_ctopi (v := xs 4) rfl ?_
  refine lv_aload_n hx hb d_law_law_617 rfl (lv_at hl 3 rfl) ?_
  refine lv_iload_n hx hb d_law_law_618 rfl (lv_at hl 0 rfl) ?_
  refine lv_iconst (v := 5) hx hb d_law_law_619 (by decide +kernel) ?_
  refine lv_iadd hx hb d_law_law_620 ?_
  refine nz_ctopi (v := 5) (by decide +kernel) ?_
  refine va_sld hx hb hXs hbl hbA hS (nz_vin (by decide +kernel)) d_law_law_621 ?_
  refine nz_ctopi (v := xs 5) rfl ?_
  refine nz_calVi (As := [.int (xs 1), .int (xs 2), .int (xs 3), .int (xs 4), .int (xs 5)]) (rest := []) C0 (c_NF_instead l D cB cI cJ o0 (xs 1) (xs 2) (xs 3) (xs 4) (xs 5) o1 o2 o3 o4 o5 o6 o7 o8 o9 o10 u1 u2 u3 u4 u5 u21 u22 u23 u24) g_law_67 rfl nz_xb0 (by decide) hl.1 hP hD hS hA [0, 1, 2] [3, 4] rfl (wr := [(m0_, .inr (12, [.ref m0, .ref m1, .int 0, .int 0, .int 0, .int (-1), .int 0, .int 0, .int 0, .int 0, .long 0, .ref m11, .ref m12, .ref m13, .ref m14, .ref m15, .ref m16, .ref m17, .ref m18, .ref m19, .ref m20, .ref m21, .ref m22, .ref m23, .ref m24, .ref m25, .ref m26, .ref m27, .ref m28, .ref m29, .ref m30, .ref m31, .ref m32, .ref m33, .ref m34, .ref m35, .ref m36, .ref m37, .ref m38, .int 0, .int 0, .ref m41, .ref m42, .ref m43, .ref m44, .int 0, .int 0, .ref m47, .ref m48, .ref m49, .ref m50, .ref m51, .ref m52, .ref m53, .ref m54])), (m12, .inl (cI, 2, .inl (fun _ => 0)))]) rfl (by decide) (by decide) (by decide) rfl rfl (fun _ _ _ => trivial) rfl (Nat.le_of_ble_eq_true rfl) d_law_law_622 (by decide) (fun r_1 u H locs h_2 hP hD hS => ?_)
  obtain ⟨h_2_r, rfl⟩ := h_2
  have hP : va_P D nz_cl [(m0_, .inr (12, [.ref m0, .ref m1, .int 0, .int 0, .int 0, .int (-1), .int 0, .int 0, .int 0, .int 0, .long 0, .ref m11, .ref m12, .ref m13, .ref m14, .ref m15, .ref m16, .ref m17, .ref m18, .ref m19, .ref m20, .ref m21, .ref m22, .ref m23, .ref m24, .ref m25, .ref m26, .ref m27, .ref m28, .ref m29, .ref m30, .ref m31, .ref m32, .ref m33, .ref m34, .ref m35, .ref m36, .ref m37, .ref m38, .int 0, .int 0, .ref m41, .ref m42, .ref m43, .ref m44, .int 0, .int 0, .ref m47, .ref m48, .ref m49, .ref m50, .ref m51, .ref m52, .ref m53, .ref m54])), (m12, .inl (cI, 2, .inl (fun _ => 0))), (o0, .inr (11, [.ref o1, .int 0, .ref o2, .ref o3, .ref o4, .ref o5, .ref o6, .ref o7, .ref o8, .ref o9, .ref o10])), (o2, .inr (3, [.ref u1, .ref u2, .ref u3, .ref u4, .ref u5])), (u2, .inr (4, [.int 0, .ref u21, .int 0, .ref u22, .ref u23, .ref u24]))] H := hP
  have hD : va_D A [(m0_, .inr (12, [.ref m0, .ref m1, .int 0, .int 0, .int 0, .int (-1), .int 0, .int 0, .int 0, .int 0, .long 0, .ref m11, .ref m12, .ref m13, .ref m14, .ref m15, .ref m16, .ref m17, .ref m18, .ref m19, .ref m20, .ref m21, .ref m22, .ref m23, .ref m24, .ref m25, .ref m26, .ref m27, .ref m28, .ref m29, .ref m30, .ref m31, .ref m32, .ref m33, .ref m34, .ref m35, .ref m36, .ref m37, .ref m38, .int 0, .int 0, .ref m41, .ref m42, .ref m43, .ref m44, .int 0, .int 0, .ref m47, .ref m48, .ref m49, .ref m50, .ref m51, .ref m52, .ref m53, .ref m54])), (m12, .inl (cI, 2, .inl (fun _ => 0))), (o0, .inr (11, [.ref o1, .int 0, .ref o2, .ref o3, .ref o4, .ref o5, .ref o6, .ref o7, .ref o8, .ref o9, .ref o10])), (o2, .inr (3, [.ref u1, .ref u2, .ref u3, .ref u4, .ref u5])), (u2, .inr (4, [.int 0, .ref u21, .int 0, .ref u22, .ref u23, .ref u24]))] := hD
  subst h_2_r
  refine lv_aload_n hx hb d_law_law_625 rfl (lv_at hl 1 rfl) ?_
  refine lv_aload_n hx hb d_law_law_626 rfl (lv_at hl 3 rfl) ?_
  refine lv_iload_n hx hb d_law_law_627 rfl (lv_at hl 0 rfl) ?_
  refine lv_iconst (v := 1) hx hb d_law_law_628 (by decide +kernel) ?_
  refine lv_iadd hx hb d_law_law_629 ?_
  refine nz_ctopi (v := 1) (by decide +kernel) ?_
  refine va_sld hx hb hXs hbl hbA hS (nz_vin (by decide +kernel)) d_law_law_630 ?_
  refine nz_ctopi (v := xs 1) rfl ?_
  refine lv_aload_n hx hb d_law_law_631 rfl (lv_at hl 3 rfl) ?_
  refine lv_iload_n hx hb d_law_law_632 rfl (lv_at hl 0 rfl) ?_
  refine lv_iconst (v := 2) hx hb d_law_law_633 (by decide +kernel) ?_
  refine lv_iadd hx hb d_law_law_634 ?_
  refine nz_ctopi (v := 2) (by decide +kernel) ?_
  refine va_sld hx hb hXs hbl hbA hS (nz_vin (by decide +kernel)) d_law_law_635 ?_
  refine nz_ctopi (v := xs 2) rfl ?_
  refine lv_aload_n hx hb d_law_law_636 rfl (lv_at hl 3 rfl) ?_
  refine lv_iload_n hx hb d_law_law_637 rfl (lv_at hl 0 rfl) ?_
  refine lv_iconst (v := 3) hx hb d_law_law_638 (by decide +kernel) ?_
  refine lv_iadd hx hb d_law_law_639 ?_
  refine nz_ctopi (v := 3) (by decide +kernel) ?_
  refine va_sld hx hb hXs hbl hbA hS (nz_vin (by decide +kernel)) d_law_law_640 ?_
  refine nz_ctopi (v := xs 3) rfl ?_
  refine lv_aload_n hx hb d_law_law_641 rfl (lv_at hl 3 rfl) ?_
  refine lv_iload_n hx hb d_law_law_642 rfl (lv_at hl 0 rfl) ?_
  refine lv_iconst (v := 4) hx hb d_law_law_643 (by decide +kernel) ?_
  refine lv_iadd hx hb d_law_law_644 ?_
  refine nz_ctopi (v := 4) (by decide +kernel) ?_
  refine va_sld hx hb hXs hbl hbA hS (nz_vin (by decide +kernel)) d_law_law_645 ?_
  refine nz_ctopi (v := xs 4) rfl ?_
  refine lv_aload_n hx hb d_law_law_646 rfl (lv_at hl 3 rfl) ?_
  refine lv_iload_n hx hb d_law_law_647 rfl (lv_at hl 0 rfl) ?_
  refine lv_iconst (v := 5) hx hb d_law_law_648 (by decide +kernel) ?_
  refine lv_iadd hx hb d_law_law_649 ?_
  refine nz_ctopi (v := 5) (by decide +kernel) ?_
  refine va_sld hx hb hXs hbl hbA hS (nz_vin (by decide +kernel)) d_law_law_650 ?_
  refine nz_ctopi (v := xs 5) rfl ?_
  refine nz_calVi (As := [.int (xs 1), .int (xs 2), .int (xs 3), .int (xs 4), .int (xs 5)]) (rest := [.int (-1)]) C0 (c_Mo_instead l D cB cI cJ m0_ (xs 1) (xs 2) (xs 3) (xs 4) (xs 5) m0 m1 m11 m12 m13 m14 m15 m16 m17 m18 m19 m20 m21 m22 m23 m24 m25 m26 m27 m28 m29 m30 m31 m32 m33 m34 m35 m36 m37 m38 m41 m42 m43 m44 m47 m48 m49 m50 m51 m52 m53 m54) g_law_70 rfl nz_xb0 (by decide) hl.1 hP hD hS hA [0, 1] [2, 3, 4] rfl (wr := [(o0, .inr (11, [.ref o1, .int 0, .ref o2, .ref o3, .ref o4, .ref o5, .ref o6, .ref o7, .ref o8, .ref o9, .ref o10])), (o2, .inr (3, [.ref u1, .ref u2, .ref u3, .ref u4, .ref u5])), (u2, .inr (4, [.int 0, .ref u21, .int 0, .ref u22, .ref u23, .ref u24]))]) rfl (by decide) (by decide) (by decide) rfl rfl (fun _ _ _ => trivial) rfl (Nat.le_of_ble_eq_true rfl) d_law_law_651 (by decide) (fun r_3 u H locs h_4 hP hD hS => ?_)
  obtain ⟨h_4_r, rfl⟩ := h_4
  have hP : va_P D nz_cl [(o0, .inr (11, [.ref o1, .int 0, .ref o2, .ref o3, .ref o4, .ref o5, .ref o6, .ref o7, .ref o8, .ref o9, .ref o10])), (o2, .inr (3, [.ref u1, .ref u2, .ref u3, .ref u4, .ref u5])), (u2, .inr (4, [.int 0, .ref u21, .int 0, .ref u22, .ref u23, .ref u24])), (m0_, .inr (12, [.ref m0, .ref m1, .int 0, .int 0, .int 0, .int (-1), .int 0, .int 0, .int 0, .int 0, .long 0, .ref m11, .ref m12, .ref m13, .ref m14, .ref m15, .ref m16, .ref m17, .ref m18, .ref m19, .ref m20, .ref m21, .ref m22, .ref m23, .ref m24, .ref m25, .ref m26, .ref m27, .ref m28, .ref m29, .ref m30, .ref m31, .ref m32, .ref m33, .ref m34, .ref m35, .ref m36, .ref m37, .ref m38, .int 0, .int 0, .ref m41, .ref m42, .ref m43, .ref m44, .int 0, .int 0, .ref m47, .ref m48, .ref m49, .ref m50, .ref m51, .ref m52, .ref m53, .ref m54])), (m12, .inl (cI, 2, .inl (fun _ => 0)))] H := hP
  have hD : va_D A [(o0, .inr (11, [.ref o1, .int 0, .ref o2, .ref o3, .ref o4, .ref o5, .ref o6, .ref o7, .ref o8, .ref o9, .ref o10])), (o2, .inr (3, [.ref u1, .ref u2, .ref u3, .ref u4, .ref u5])), (u2, .inr (4, [.int 0, .ref u21, .int 0, .ref u22, .ref u23, .ref u24])), (m0_, .inr (12, [.ref m0, .ref m1, .int 0, .int 0, .int 0, .int (-1), .int 0, .int 0, .int 0, .int 0, .long 0, .ref m11, .ref m12, .ref m13, .ref m14, .ref m15, .ref m16, .ref m17, .ref m18, .ref m19, .ref m20, .ref m21, .ref m22, .ref m23, .ref m24, .ref m25, .ref m26, .ref m27, .ref m28, .ref m29, .ref m30, .ref m31, .ref m32, .ref m33, .ref m34, .ref m35, .ref m36, .ref m37, .ref m38, .int 0, .int 0, .ref m41, .ref m42, .ref m43, .ref m44, .int 0, .int 0, .ref m47, .ref m48, .ref m49, .ref m50, .ref m51, .ref m52, .ref m53, .ref m54])), (m12, .inl (cI, 2, .inl (fun _ => 0)))] := hD
  subst h_4_r
  refine lv_icmp_eq (tgt := 1427) hx hb d_law_law_654 (by decide) (fun c_5 => ?_) (fun c_5 => absurd (by decide +kernel) c_5)
  exact nz_ltail C0 hXs hbl (by rw [hAe]; exact hS) hl
set_option maxHeartbeats 4000000 in
set_option maxRecDepth 100000 in
theorem nz_law_13 {p : Program} {l : Launch} {e : Env} {s : State} {m : MethodId} {below : List Frame} {meth : Method} {c : Code} {b : Nat} {xs : Nat → Int32} {H : Heap} {locs : List Loc} {ls : Array Slot} (D : va_G) (cB cI cJ : ClassId) (o0 : Nat) (o1 : Nat) (o2 : Nat) (o3 : Nat) (o4 : Nat) (o5 : Nat) (o6 : Nat) (o7 : Nat) (o8 : Nat) (o9 : Nat) (o10 : Nat) (u1 : Nat) (u2 : Nat) (u3 : Nat) (u4 : Nat) (u5 : Nat) (u21 : Nat) (u22 : Nat) (u23 : Nat) (u24 : Nat) (m0_ : Nat) (m0 : Nat) (m1 : Nat) (m11 : Nat) (m12 : Nat) (m13 : Nat) (m14 : Nat) (m15 : Nat) (m16 : Nat) (m17 : Nat) (m18 : Nat) (m19 : Nat) (m20 : Nat) (m21 : Nat) (m22 : Nat) (m23 : Nat) (m24 : Nat) (m25 : Nat) (m26 : Nat) (m27 : Nat) (m28 : Nat) (m29 : Nat) (m30 : Nat) (m31 : Nat) (m32 : Nat) (m33 : Nat) (m34 : Nat) (m35 : Nat) (m36 : Nat) (m37 : Nat) (m38 : Nat) (m41 : Nat) (m42 : Nat) (m43 : Nat) (m44 : Nat) (m47 : Nat) (m48 : Nat) (m49 : Nat) (m50 : Nat) (m51 : Nat) (m52 : Nat) (m53 : Nat) (m54 : Nat) (C0 : nz_Cx p s m #[Value.ref b] meth c code 4 ret R_law D cB cI cJ) (hXs : va_X b 7 xs s s.heap) (hbl : b < s.heap.size) (hP : va_P D nz_cl [(o0, .inr (11, [.ref o1, .int 0, .ref o2, .ref o3, .ref o4, .ref o5, .ref o6, .ref o7, .ref o8, .ref o9, .ref o10])), (o2, .inr (3, [.ref u1, .ref u2, .ref u3, .ref u4, .ref u5])), (u2, .inr (4, [.int 0, .ref u21, .int 0, .ref u22, .ref u23, .ref u24])), (m0_, .inr (12, [.ref m0, .ref m1, .int 0, .int 0, .int 0, .int (-1), .int 0, .int 0, .int 0, .int 0, .long 0, .ref m11, .ref m12, .ref m13, .ref m14, .ref m15, .ref m16, .ref m17, .ref m18, .ref m19, .ref m20, .ref m21, .ref m22, .ref m23, .ref m24, .ref m25, .ref m26, .ref m27, .ref m28, .ref m29, .ref m30, .ref m31, .ref m32, .ref m33, .ref m34, .ref m35, .ref m36, .ref m37, .ref m38, .int 0, .int 0, .ref m41, .ref m42, .ref m43, .ref m44, .int 0, .int 0, .ref m47, .ref m48, .ref m49, .ref m50, .ref m51, .ref m52, .ref m53, .ref m54])), (m12, .inl (cI, 2, .inl (fun _ => 0)))] H) (hD : va_D (fun q : Nat => s.heap.size ≤ q) [(o0, .inr (11, [.ref o1, .int 0, .ref o2, .ref o3, .ref o4, .ref o5, .ref o6, .ref o7, .ref o8, .ref o9, .ref o10])), (o2, .inr (3, [.ref u1, .ref u2, .ref u3, .ref u4, .ref u5])), (u2, .inr (4, [.int 0, .ref u21, .int 0, .ref u22, .ref u23, .ref u24])), (m0_, .inr (12, [.ref m0, .ref m1, .int 0, .int 0, .int 0, .int (-1), .int 0, .int 0, .int 0, .int 0, .long 0, .ref m11, .ref m12, .ref m13, .ref m14, .ref m15, .ref m16, .ref m17, .ref m18, .ref m19, .ref m20, .ref m21, .ref m22, .ref m23, .ref m24, .ref m25, .ref m26, .ref m27, .ref m28, .ref m29, .ref m30, .ref m31, .ref m32, .ref m33, .ref m34, .ref m35, .ref m36, .ref m37, .ref m38, .int 0, .int 0, .ref m41, .ref m42, .ref m43, .ref m44, .int 0, .int 0, .ref m47, .ref m48, .ref m49, .ref m50, .ref m51, .ref m52, .ref m53, .ref m54])), (m12, .inl (cI, 2, .inl (fun _ => 0)))]) (hS : va_S (fun q : Nat => s.heap.size ≤ q) s.heap H locs) (hl : lv_has ls 4 [(3, .int 0), (2, .ref m0_), (1, .ref o0), (0, .ref b)]) : W p l e room_1 s m #[Value.ref b] below meth c H locs 124 7401 (lw_Z below #[Value.ref b] s) (F0 m 659 ls []) := by
  obtain ⟨hx, hb, hr, hml, hown, hts, hlk, hK⟩ := id C0
  generalize hAe : (fun q : Nat => s.heap.size ≤ q) = A at hD hS
  have hA : ∀ q : Nat, s.heap.size ≤ q → A q := fun q h => by rw [← hAe]; exact h
  have hbA : ¬ A b := by rw [← hAe]; exact Nat.not_le.mpr hbl
  refine lv_aload_n hx hb d_law_law_659 rfl (lv_at hl 2 rfl) ?_
  refine lv_aload_n hx hb d_law_law_660 rfl (lv_at hl 3 rfl) ?_
  refine lv_iload_n hx hb d_law_law_661 rfl (lv_at hl 0 rfl) ?_
  refine lv_iconst (v := 1) hx hb d_law_law_662 (by decide +kernel) ?_
  refine lv_iadd hx hb d_law_law_663 ?_
  refine nz_ctopi (v := 1) (by decide +kernel) ?_
  refine va_sld hx hb hXs hbl hbA hS (nz_vin (by decide +kernel)) d_law_law_664 ?_
  refine nz_ctopi (v := xs 1) rfl ?_
  refine lv_aload_n hx hb d_law_law_665 rfl (lv_at hl 3 rfl) ?_
  refine lv_iload_n hx hb d_law_law_666 rfl (lv_at hl 0 rfl) ?_
  refine lv_iconst (v := 2) hx hb d_law_law_667 (by decide +kernel) ?_
  refine lv_iadd hx hb d_law_law_668 ?_
  refine nz_ctopi (v := 2) (by decide +kernel) ?_
  refine va_sld hx hb hXs hbl hbA hS (nz_vin (by decide +kernel)) d_law_law_669 ?_
  refine nz_ctopi (v := xs 2) rfl ?_
  refine lv_aload_n hx hb d_law_law_670 rfl (lv_at hl 3 rfl) ?_
  refine lv_iload_n hx hb d_law_law_671 rfl (lv_at hl 0 rfl) ?_
  refine lv_iconst (v := 3) hx hb d_law_law_672 (by decide +kernel) ?_
  refine lv_iadd hx hb d_law_law_673 ?_
  refine nz_ctopi (v := 3) (by decide +kernel) ?_
  refine va_sld hx hb hXs hbl hbA hS (nz_vin (by decide +kernel)) d_law_law_674 ?_
  refine nz_ctopi (v := xs 3) rfl ?_
  refine lv_aload_n hx hb d_law_law_675 rfl (lv_at hl 3 rfl) ?_
  refine lv_iload_n hx hb d_law_law_676 rfl (lv_at hl 0 rfl) ?_
  refine lv_iconst (v := 4) hx hb d_law_law_677 (by decide +kernel) ?_
  refine lv_iadd hx hb d_law_law_678 ?_
  refine nz_ctopi (v := 4) (by decide +kernel) ?_
  refine va_sld hx hb hXs hbl hbA hS (nz_vin (by decide +kernel)) d_law_law_679 ?_
  refine nz_ctopi (v := xs 4) rfl ?_
  refine lv_aload_n hx hb d_law_law_680 rfl (lv_at hl 3 rfl) ?_
  refine lv_iload_n hx hb d_law_law_681 rfl (lv_at hl 0 rfl) ?_
  refine lv_iconst (v := 5) hx hb d_law_law_682 (by decide +kernel) ?_
  refine lv_iadd hx hb d_law_law_683 ?_
  refine nz_ctopi (v := 5) (by decide +kernel) ?_
  refine va_sld hx hb hXs hbl hbA hS (nz_vin (by decide +kernel)) d_law_law_684 ?_
  refine nz_ctopi (v := xs 5) rfl ?_
  refine nz_calVi (As := [.int (xs 1), .int (xs 2), .int (xs 3), .int (xs 4), .int (xs 5)]) (rest := []) C0 (c_NF_cost l D cB cI cJ o0 (xs 1) (xs 2) (xs 3) (xs 4) (xs 5) o1 o2 o3 o4 o5 o6 o7 o8 o9 o10 u1 u2 u3 u4 u5 u21 u22 u23 u24) g_law_71 rfl nz_xb0 (by decide) hl.1 hP hD hS hA [0, 1, 2] [3, 4] rfl (wr := [(m0_, .inr (12, [.ref m0, .ref m1, .int 0, .int 0, .int 0, .int (-1), .int 0, .int 0, .int 0, .int 0, .long 0, .ref m11, .ref m12, .ref m13, .ref m14, .ref m15, .ref m16, .ref m17, .ref m18, .ref m19, .ref m20, .ref m21, .ref m22, .ref m23, .ref m24, .ref m25, .ref m26, .ref m27, .ref m28, .ref m29, .ref m30, .ref m31, .ref m32, .ref m33, .ref m34, .ref m35, .ref m36, .ref m37, .ref m38, .int 0, .int 0, .ref m41, .ref m42, .ref m43, .ref m44, .int 0, .int 0, .ref m47, .ref m48, .ref m49, .ref m50, .ref m51, .ref m52, .ref m53, .ref m54])), (m12, .inl (cI, 2, .inl (fun _ => 0)))]) rfl (by decide) (by decide) (by decide) rfl rfl (fun _ _ _ => trivial) rfl (Nat.le_of_ble_eq_true rfl) d_law_law_685 (by decide) (fun r_1 u H locs h_2 hP hD hS => ?_)
  obtain ⟨h_2_r, rfl⟩ := h_2
  have hP : va_P D nz_cl [(m0_, .inr (12, [.ref m0, .ref m1, .int 0, .int 0, .int 0, .int (-1), .int 0, .int 0, .int 0, .int 0, .long 0, .ref m11, .ref m12, .ref m13, .ref m14, .ref m15, .ref m16, .ref m17, .ref m18, .ref m19, .ref m20, .ref m21, .ref m22, .ref m23, .ref m24, .ref m25, .ref m26, .ref m27, .ref m28, .ref m29, .ref m30, .ref m31, .ref m32, .ref m33, .ref m34, .ref m35, .ref m36, .ref m37, .ref m38, .int 0, .int 0, .ref m41, .ref m42, .ref m43, .ref m44, .int 0, .int 0, .ref m47, .ref m48, .ref m49, .ref m50, .ref m51, .ref m52, .ref m53, .ref m54])), (m12, .inl (cI, 2, .inl (fun _ => 0))), (o0, .inr (11, [.ref o1, .int 0, .ref o2, .ref o3, .ref o4, .ref o5, .ref o6, .ref o7, .ref o8, .ref o9, .ref o10])), (o2, .inr (3, [.ref u1, .ref u2, .ref u3, .ref u4, .ref u5])), (u2, .inr (4, [.int 0, .ref u21, .int 0, .ref u22, .ref u23, .ref u24]))] H := hP
  have hD : va_D A [(m0_, .inr (12, [.ref m0, .ref m1, .int 0, .int 0, .int 0, .int (-1), .int 0, .int 0, .int 0, .int 0, .long 0, .ref m11, .ref m12, .ref m13, .ref m14, .ref m15, .ref m16, .ref m17, .ref m18, .ref m19, .ref m20, .ref m21, .ref m22, .ref m23, .ref m24, .ref m25, .ref m26, .ref m27, .ref m28, .ref m29, .ref m30, .ref m31, .ref m32, .ref m33, .ref m34, .ref m35, .ref m36, .ref m37, .ref m38, .int 0, .int 0, .ref m41, .ref m42, .ref m43, .ref m44, .int 0, .int 0, .ref m47, .ref m48, .ref m49, .ref m50, .ref m51, .ref m52, .ref m53, .ref m54])), (m12, .inl (cI, 2, .inl (fun _ => 0))), (o0, .inr (11, [.ref o1, .int 0, .ref o2, .ref o3, .ref o4, .ref o5, .ref o6, .ref o7, .ref o8, .ref o9, .ref o10])), (o2, .inr (3, [.ref u1, .ref u2, .ref u3, .ref u4, .ref u5])), (u2, .inr (4, [.int 0, .ref u21, .int 0, .ref u22, .ref u23, .ref u24]))] := hD
  subst h_2_r
  refine lv_aload_n hx hb d_law_law_688 rfl (lv_at hl 1 rfl) ?_
  refine lv_aload_n hx hb d_law_law_689 rfl (lv_at hl 3 rfl) ?_
  refine lv_iload_n hx hb d_law_law_690 rfl (lv_at hl 0 rfl) ?_
  refine lv_iconst (v := 1) hx hb d_law_law_691 (by decide +kernel) ?_
  refine lv_iadd hx hb d_law_law_692 ?_
  refine nz_ctopi (v := 1) (by decide +kernel) ?_
  refine va_sld hx hb hXs hbl hbA hS (nz_vin (by decide +kernel)) d_law_law_693 ?_
  refine nz_ctopi (v := xs 1) rfl ?_
  refine lv_aload_n hx hb d_law_law_694 rfl (lv_at hl 3 rfl) ?_
  refine lv_iload_n hx hb d_law_law_695 rfl (lv_at hl 0 rfl) ?_
  refine lv_iconst (v := 2) hx hb d_law_law_696 (by decide +kernel) ?_
  refine lv_iadd hx hb d_law_law_697 ?_
  refine nz_ctopi (v := 2) (by decide +kernel) ?_
  refine va_sld hx hb hXs hbl hbA hS (nz_vin (by decide +kernel)) d_law_law_698 ?_
  refine nz_ctopi (v := xs 2) rfl ?_
  refine lv_aload_n hx hb d_law_law_699 rfl (lv_at hl 3 rfl) ?_
  refine lv_iload_n hx hb d_law_law_700 rfl (lv_at hl 0 rfl) ?_
  refine lv_iconst (v := 3) hx hb d_law_law_701 (by decide +kernel) ?_
  refine lv_iadd hx hb d_law_law_702 ?_
  refine nz_ctopi (v := 3) (by decide +kernel) ?_
  refine va_sld hx hb hXs hbl hbA hS (nz_vin (by decide +kernel)) d_law_law_703 ?_
  refine nz_ctopi (v := xs 3) rfl ?_
  refine lv_aload_n hx hb d_law_law_704 rfl (lv_at hl 3 rfl) ?_
  refine lv_iload_n hx hb d_law_law_705 rfl (lv_at hl 0 rfl) ?_
  refine lv_iconst (v := 4) hx hb d_law_law_706 (by decide +kernel) ?_
  refine lv_iadd hx hb d_law_law_707 ?_
  refine nz_ctopi (v := 4) (by decide +kernel) ?_
  refine va_sld hx hb hXs hbl hbA hS (nz_vin (by decide +kernel)) d_law_law_708 ?_
  refine nz_ctopi (v := xs 4) rfl ?_
  refine lv_aload_n hx hb d_law_law_709 rfl (lv_at hl 3 rfl) ?_
  refine lv_iload_n hx hb d_law_law_710 rfl (lv_at hl 0 rfl) ?_
  refine lv_iconst (v := 5) hx hb d_law_law_711 (by decide +kernel) ?_
  refine lv_iadd hx hb d_law_law_712 ?_
  refine nz_ctopi (v := 5) (by decide +kernel) ?_
  refine va_sld hx hb hXs hbl hbA hS (nz_vin (by decide +kernel)) d_law_law_713 ?_
  refine nz_ctopi (v := xs 5) rfl ?_
  refine nz_calVi (As := [.int (xs 1), .int (xs 2), .int (xs 3), .int (xs 4), .int (xs 5)]) (rest := [.int (-1)]) C0 (c_Mo_cost l D cB cI cJ m0_ (xs 1) (xs 2) (xs 3) (xs 4) (xs 5) m0 m1 m11 m12 m13 m14 m15 m16 m17 m18 m19 m20 m21 m22 m23 m24 m25 m26 m27 m28 m29 m30 m31 m32 m33 m34 m35 m36 m37 m38 m41 m42 m43 m44 m47 m48 m49 m50 m51 m52 m53 m54) g_law_74 rfl nz_xb0 (by decide) hl.1 hP hD hS hA [0, 1] [2, 3, 4] rfl (wr := [(o0, .inr (11, [.ref o1, .int 0, .ref o2, .ref o3, .ref o4, .ref o5, .ref o6, .ref o7, .ref o8, .ref o9, .ref o10])), (o2, .inr (3, [.ref u1, .ref u2, .ref u3, .ref u4, .ref u5])), (u2, .inr (4, [.int 0, .ref u21, .int 0, .ref u22, .ref u23, .ref u24]))]) rfl (by decide) (by decide) (by decide) rfl rfl (fun _ _ _ => trivial) rfl (Nat.le_of_ble_eq_true rfl) d_law_law_714 (by decide) (fun r_3 u H locs h_4 hP hD hS => ?_)
  obtain ⟨h_4_r, rfl⟩ := h_4
  have hP : va_P D nz_cl [(o0, .inr (11, [.ref o1, .int 0, .ref o2, .ref o3, .ref o4, .ref o5, .ref o6, .ref o7, .ref o8, .ref o9, .ref o10])), (o2, .inr (3, [.ref u1, .ref u2, .ref u3, .ref u4, .ref u5])), (u2, .inr (4, [.int 0, .ref u21, .int 0, .ref u22, .ref u23, .ref u24])), (m0_, .inr (12, [.ref m0, .ref m1, .int 0, .int 0, .int 0, .int (-1), .int 0, .int 0, .int 0, .int 0, .long 0, .ref m11, .ref m12, .ref m13, .ref m14, .ref m15, .ref m16, .ref m17, .ref m18, .ref m19, .ref m20, .ref m21, .ref m22, .ref m23, .ref m24, .ref m25, .ref m26, .ref m27, .ref m28, .ref m29, .ref m30, .ref m31, .ref m32, .ref m33, .ref m34, .ref m35, .ref m36, .ref m37, .ref m38, .int 0, .int 0, .ref m41, .ref m42, .ref m43, .ref m44, .int 0, .int 0, .ref m47, .ref m48, .ref m49, .ref m50, .ref m51, .ref m52, .ref m53, .ref m54])), (m12, .inl (cI, 2, .inl (fun _ => 0)))] H := hP
  have hD : va_D A [(o0, .inr (11, [.ref o1, .int 0, .ref o2, .ref o3, .ref o4, .ref o5, .ref o6, .ref o7, .ref o8, .ref o9, .ref o10])), (o2, .inr (3, [.ref u1, .ref u2, .ref u3, .ref u4, .ref u5])), (u2, .inr (4, [.int 0, .ref u21, .int 0, .ref u22, .ref u23, .ref u24])), (m0_, .inr (12, [.ref m0, .ref m1, .int 0, .int 0, .int 0, .int (-1), .int 0, .int 0, .int 0, .int 0, .long 0, .ref m11, .ref m12, .ref m13, .ref m14, .ref m15, .ref m16, .ref m17, .ref m18, .ref m19, .ref m20, .ref m21, .ref m22, .ref m23, .ref m24, .ref m25, .ref m26, .ref m27, .ref m28, .ref m29, .ref m30, .ref m31, .ref m32, .ref m33, .ref m34, .ref m35, .ref m36, .ref m37, .ref m38, .int 0, .int 0, .ref m41, .ref m42, .ref m43, .ref m44, .int 0, .int 0, .ref m47, .ref m48, .ref m49, .ref m50, .ref m51, .ref m52, .ref m53, .ref m54])), (m12, .inl (cI, 2, .inl (fun _ => 0)))] := hD
  subst h_4_r
  refine lv_icmp_eq (tgt := 1427) hx hb d_law_law_717 (by decide) (fun c_5 => ?_) (fun c_5 => absurd (by decide +kernel) c_5)
  exact nz_ltail C0 hXs hbl (by rw [hAe]; exact hS) hl
