set_option maxHeartbeats 4000000 in
set_option maxRecDepth 100000 in
theorem nz_law_14 {p : Program} {l : Launch} {e : Env} {s : State} {m : MethodId} {below : List Frame} {meth : Method} {c : Code} {b : Nat} {xs : Nat → Int32} {H : Heap} {locs : List Loc} {ls : Array Slot} (D : va_G) (cB cI cJ : ClassId) (o0 : Nat) (o1 : Nat) (o2 : Nat) (o3 : Nat) (o4 : Nat) (o5 : Nat) (o6 : Nat) (o7 : Nat) (o8 : Nat) (o9 : Nat) (o10 : Nat) (u1 : Nat) (u2 : Nat) (u3 : Nat) (u4 : Nat) (u5 : Nat) (u41 : Nat) (u42 : Nat) (u43 : Nat) (u44 : Nat) (u45 : Nat) (u46 : Nat) (u47 : Nat) (u48 : Nat) (u49 : Nat) (m0_ : Nat) (m0 : Nat) (m1 : Nat) (m11 : Nat) (m12 : Nat) (m13 : Nat) (m14 : Nat) (m15 : Nat) (m16 : Nat) (m17 : Nat) (m18 : Nat) (m19 : Nat) (m20 : Nat) (m21 : Nat) (m22 : Nat) (m23 : Nat) (m24 : Nat) (m25 : Nat) (m26 : Nat) (m27 : Nat) (m28 : Nat) (m29 : Nat) (m30 : Nat) (m31 : Nat) (m32 : Nat) (m33 : Nat) (m34 : Nat) (m35 : Nat) (m36 : Nat) (m37 : Nat) (m38 : Nat) (m41 : Nat) (m42 : Nat) (m43 : Nat) (m44 : Nat) (m47 : Nat) (m48 : Nat) (m49 : Nat) (m50 : Nat) (m51 : Nat) (m52 : Nat) (m53 : Nat) (m54 : Nat) (C0 : nz_Cx p s m #[Value.ref b] meth c code 4 ret R_law D cB cI cJ) (hXs : va_X b 7 xs s s.heap) (hbl : b < s.heap.size) (hP : va_P D nz_cl [(o0, .inr (11, [.ref o1, .int 0, .ref o2, .ref o3, .ref o4, .ref o5, .ref o6, .ref o7, .ref o8, .ref o9, .ref o10])), (o2, .inr (3, [.ref u1, .ref u2, .ref u3, .ref u4, .ref u5])), (u4, .inr (5, [.int 0, .int 0, .ref u41, .ref u42, .ref u43, .ref u44, .ref u45, .ref u46, .ref u47, .ref u48, .ref u49])), (m0_, .inr (12, [.ref m0, .ref m1, .int 0, .int 0, .int 0, .int (-1), .int 0, .int 0, .int 0, .int 0, .long 0, .ref m11, .ref m12, .ref m13, .ref m14, .ref m15, .ref m16, .ref m17, .ref m18, .ref m19, .ref m20, .ref m21, .ref m22, .ref m23, .ref m24, .ref m25, .ref m26, .ref m27, .ref m28, .ref m29, .ref m30, .ref m31, .ref m32, .ref m33, .ref m34, .ref m35, .ref m36, .ref m37, .ref m38, .int 0, .int 0, .ref m41, .ref m42, .ref m43, .ref m44, .int 0, .int 0, .ref m47, .ref m48, .ref m49, .ref m50, .ref m51, .ref m52, .ref m53, .ref m54])), (m15, .inl (cI, 2, .inl (fun _ => 0)))] H) (hD : va_D (fun q : Nat => s.heap.size ≤ q) [(o0, .inr (11, [.ref o1, .int 0, .ref o2, .ref o3, .ref o4, .ref o5, .ref o6, .ref o7, .ref o8, .ref o9, .ref o10])), (o2, .inr (3, [.ref u1, .ref u2, .ref u3, .ref u4, .ref u5])), (u4, .inr (5, [.int 0, .int 0, .ref u41, .ref u42, .ref u43, .ref u44, .ref u45, .ref u46, .ref u47, .ref u48, .ref u49])), (m0_, .inr (12, [.ref m0, .ref m1, .int 0, .int 0, .int 0, .int (-1), .int 0, .int 0, .int 0, .int 0, .long 0, .ref m11, .ref m12, .ref m13, .ref m14, .ref m15, .ref m16, .ref m17, .ref m18, .ref m19, .ref m20, .ref m21, .ref m22, .ref m23, .ref m24, .ref m25, .ref m26, .ref m27, .ref m28, .ref m29, .ref m30, .ref m31, .ref m32, .ref m33, .ref m34, .ref m35, .ref m36, .ref m37, .ref m38, .int 0, .int 0, .ref m41, .ref m42, .ref m43, .ref m44, .int 0, .int 0, .ref m47, .ref m48, .ref m49, .ref m50, .ref m51, .ref m52, .ref m53, .ref m54])), (m15, .inl (cI, 2, .inl (fun _ => 0)))]) (hS : va_S (fun q : Nat => s.heap.size ≤ q) s.heap H locs) (hl : lv_has ls 4 [(3, .int 0), (2, .ref m0_), (1, .ref o0), (0, .ref b)]) : W p l e room_1 s m #[Value.ref b] below meth c H locs 124 7401 (lw_Z below #[Value.ref b] s) (F0 m 722 ls []) := by
  obtain ⟨hx, hb, hr, hml, hown, hts, hlk, hK⟩ := id C0
  generalize hAe : (fun q : Nat => s.heap.size ≤ q) = A at hD hS
  have hA : ∀ q : Nat, s.heap.size ≤ q → A q := fun q h => by rw [← hAe]; exact h
  have hbA : ¬ A b := by rw [← hAe]; exact Nat.not_le.mpr hbl
  refine lv_aload_n hx hb d_law_law_722 rfl (lv_at hl 2 rfl) ?_
  refine lv_aload_n hx hb d_law_law_723 rfl (lv_at hl 3 rfl) ?_
  refine lv_iload_n hx hb d_law_law_724 rfl (lv_at hl 0 rfl) ?_
  refine lv_iconst (v := 1) hx hb d_law_law_725 (by decide +kernel) ?_
  refine lv_iadd hx hb d_law_law_726 ?_
  refine nz_ctopi (v := 1) (by decide +kernel) ?_
  refine va_sld hx hb hXs hbl hbA hS (nz_vin (by decide +kernel)) d_law_law_727 ?_
  refine nz_ctopi (v := xs 1) rfl ?_
  refine lv_aload_n hx hb d_law_law_728 rfl (lv_at hl 3 rfl) ?_
  refine lv_iload_n hx hb d_law_law_729 rfl (lv_at hl 0 rfl) ?_
  refine lv_iconst (v := 2) hx hb d_law_law_730 (by decide +kernel) ?_
  refine lv_iadd hx hb d_law_law_731 ?_
  refine nz_ctopi (v := 2) (by decide +kernel) ?_
  refine va_sld hx hb hXs hbl hbA hS (nz_vin (by decide +kernel)) d_law_law_732 ?_
  refine nz_ctopi (v := xs 2) rfl ?_
  refine lv_aload_n hx hb d_law_law_733 rfl (lv_at hl 3 rfl) ?_
  refine lv_iload_n hx hb d_law_law_734 rfl (lv_at hl 0 rfl) ?_
  refine lv_iconst (v := 3) hx hb d_law_law_735 (by decide +kernel) ?_
  refine lv_iadd hx hb d_law_law_736 ?_
  refine nz_ctopi (v := 3) (by decide +kernel) ?_
  refine va_sld hx hb hXs hbl hbA hS (nz_vin (by decide +kernel)) d_law_law_737 ?_
  refine nz_ctopi (v := xs 3) rfl ?_
  refine lv_aload_n hx hb d_law_law_738 rfl (lv_at hl 3 rfl) ?_
  refine lv_iload_n hx hb d_law_law_739 rfl (lv_at hl 0 rfl) ?_
  refine lv_iconst (v := 4) hx hb d_law_law_740 (by decide +kernel) ?_
  refine lv_iadd hx hb d_law_law_741 ?_
  refine nz_ctopi (v := 4) (by decide +kernel) ?_
  refine va_sld hx hb hXs hbl hbA hS (nz_vin (by decide +kernel)) d_law_law_742 ?_
  refine nz_ctopi (v := xs 4) rfl ?_
  refine nz_calVi (As := [.int (xs 1), .int (xs 2), .int (xs 3), .int (xs 4)]) (rest := []) C0 (c_NF_grasp l D cB cI cJ o0 (xs 1) (xs 2) (xs 3) (xs 4) o1 o2 o3 o4 o5 o6 o7 o8 o9 o10 u1 u2 u3 u4 u5 u41 u42 u43 u44 u45 u46 u47 u48 u49) g_law_75 rfl nz_xb0 (by decide) hl.1 hP hD hS hA [0, 1, 2] [3, 4] rfl (wr := [(m0_, .inr (12, [.ref m0, .ref m1, .int 0, .int 0, .int 0, .int (-1), .int 0, .int 0, .int 0, .int 0, .long 0, .ref m11, .ref m12, .ref m13, .ref m14, .ref m15, .ref m16, .ref m17, .ref m18, .ref m19, .ref m20, .ref m21, .ref m22, .ref m23, .ref m24, .ref m25, .ref m26, .ref m27, .ref m28, .ref m29, .ref m30, .ref m31, .ref m32, .ref m33, .ref m34, .ref m35, .ref m36, .ref m37, .ref m38, .int 0, .int 0, .ref m41, .ref m42, .ref m43, .ref m44, .int 0, .int 0, .ref m47, .ref m48, .ref m49, .ref m50, .ref m51, .ref m52, .ref m53, .ref m54])), (m15, .inl (cI, 2, .inl (fun _ => 0)))]) rfl (by decide) (by decide) (by decide) rfl rfl (fun _ _ _ => trivial) rfl (Nat.le_of_ble_eq_true rfl) d_law_law_743 (by decide) (fun r_1 u H locs h_2 hP hD hS => ?_)
  obtain ⟨h_2_r, rfl⟩ := h_2
  have hP : va_P D nz_cl [(m0_, .inr (12, [.ref m0, .ref m1, .int 0, .int 0, .int 0, .int (-1), .int 0, .int 0, .int 0, .int 0, .long 0, .ref m11, .ref m12, .ref m13, .ref m14, .ref m15, .ref m16, .ref m17, .ref m18, .ref m19, .ref m20, .ref m21, .ref m22, .ref m23, .ref m24, .ref m25, .ref m26, .ref m27, .ref m28, .ref m29, .ref m30, .ref m31, .ref m32, .ref m33, .ref m34, .ref m35, .ref m36, .ref m37, .ref m38, .int 0, .int 0, .ref m41, .ref m42, .ref m43, .ref m44, .int 0, .int 0, .ref m47, .ref m48, .ref m49, .ref m50, .ref m51, .ref m52, .ref m53, .ref m54])), (m15, .inl (cI, 2, .inl (fun _ => 0))), (o0, .inr (11, [.ref o1, .int 0, .ref o2, .ref o3, .ref o4, .ref o5, .ref o6, .ref o7, .ref o8, .ref o9, .ref o10])), (o2, .inr (3, [.ref u1, .ref u2, .ref u3, .ref u4, .ref u5])), (u4, .inr (5, [.int 0, .int 0, .ref u41, .ref u42, .ref u43, .ref u44, .ref u45, .ref u46, .ref u47, .ref u48, .ref u49]))] H := hP
  have hD : va_D A [(m0_, .inr (12, [.ref m0, .ref m1, .int 0, .int 0, .int 0, .int (-1), .int 0, .int 0, .int 0, .int 0, .long 0, .ref m11, .ref m12, .ref m13, .ref m14, .ref m15, .ref m16, .ref m17, .ref m18, .ref m19, .ref m20, .ref m21, .ref m22, .ref m23, .ref m24, .ref m25, .ref m26, .ref m27, .ref m28, .ref m29, .ref m30, .ref m31, .ref m32, .ref m33, .ref m34, .ref m35, .ref m36, .ref m37, .ref m38, .int 0, .int 0, .ref m41, .ref m42, .ref m43, .ref m44, .int 0, .int 0, .ref m47, .ref m48, .ref m49, .ref m50, .ref m51, .ref m52, .ref m53, .ref m54])), (m15, .inl (cI, 2, .inl (fun _ => 0))), (o0, .inr (11, [.ref o1, .int 0, .ref o2, .ref o3, .ref o4, .ref o5, .ref o6, .ref o7, .ref o8, .ref o9, .ref o10])), (o2, .inr (3, [.ref u1, .ref u2, .ref u3, .ref u4, .ref u5])), (u4, .inr (5, [.int 0, .int 0, .ref u41, .ref u42, .ref u43, .ref u44, .ref u45, .ref u46, .ref u47, .ref u48, .ref u49]))] := hD
  subst h_2_r
  refine lv_aload_n hx hb d_law_law_746 rfl (lv_at hl 1 rfl) ?_
  refine lv_aload_n hx hb d_law_law_747 rfl (lv_at hl 3 rfl) ?_
  refine lv_iload_n hx hb d_law_law_748 rfl (lv_at hl 0 rfl) ?_
  refine lv_iconst (v := 1) hx hb d_law_law_749 (by decide +kernel) ?_
  refine lv_iadd hx hb d_law_law_750 ?_
  refine nz_ctopi (v := 1) (by decide +kernel) ?_
  refine va_sld hx hb hXs hbl hbA hS (nz_vin (by decide +kernel)) d_law_law_751 ?_
  refine nz_ctopi (v := xs 1) rfl ?_
  refine lv_aload_n hx hb d_law_law_752 rfl (lv_at hl 3 rfl) ?_
  refine lv_iload_n hx hb d_law_law_753 rfl (lv_at hl 0 rfl) ?_
  refine lv_iconst (v := 2) hx hb d_law_law_754 (by decide +kernel) ?_
  refine lv_iadd hx hb d_law_law_755 ?_
  refine nz_ctopi (v := 2) (by decide +kernel) ?_
  refine va_sld hx hb hXs hbl hbA hS (nz_vin (by decide +kernel)) d_law_law_756 ?_
  refine nz_ctopi (v := xs 2) rfl ?_
  refine lv_aload_n hx hb d_law_law_757 rfl (lv_at hl 3 rfl) ?_
  refine lv_iload_n hx hb d_law_law_758 rfl (lv_at hl 0 rfl) ?_
  refine lv_iconst (v := 3) hx hb d_law_law_759 (by decide +kernel) ?_
  refine lv_iadd hx hb d_law_law_760 ?_
  refine nz_ctopi (v := 3) (by decide +kernel) ?_
  refine va_sld hx hb hXs hbl hbA hS (nz_vin (by decide +kernel)) d_law_law_761 ?_
  refine nz_ctopi (v := xs 3) rfl ?_
  refine lv_aload_n hx hb d_law_law_762 rfl (lv_at hl 3 rfl) ?_
  refine lv_iload_n hx hb d_law_law_763 rfl (lv_at hl 0 rfl) ?_
  refine lv_iconst (v := 4) hx hb d_law_law_764 (by decide +kernel) ?_
  refine lv_iadd hx hb d_law_law_765 ?_
  refine nz_ctopi (v := 4) (by decide +kernel) ?_
  refine va_sld hx hb hXs hbl hbA hS (nz_vin (by decide +kernel)) d_law_law_766 ?_
  refine nz_ctopi (v := xs 4) rfl ?_
  refine nz_calVi (As := [.int (xs 1), .int (xs 2), .int (xs 3), .int (xs 4)]) (rest := [.int (-1)]) C0 (c_Mo_grasp l D cB cI cJ m0_ (xs 1) (xs 2) (xs 3) (xs 4) m0 m1 m11 m12 m13 m14 m15 m16 m17 m18 m19 m20 m21 m22 m23 m24 m25 m26 m27 m28 m29 m30 m31 m32 m33 m34 m35 m36 m37 m38 m41 m42 m43 m44 m47 m48 m49 m50 m51 m52 m53 m54) g_law_79 rfl nz_xb0 (by decide) hl.1 hP hD hS hA [0, 1] [2, 3, 4] rfl (wr := [(o0, .inr (11, [.ref o1, .int 0, .ref o2, .ref o3, .ref o4, .ref o5, .ref o6, .ref o7, .ref o8, .ref o9, .ref o10])), (o2, .inr (3, [.ref u1, .ref u2, .ref u3, .ref u4, .ref u5])), (u4, .inr (5, [.int 0, .int 0, .ref u41, .ref u42, .ref u43, .ref u44, .ref u45, .ref u46, .ref u47, .ref u48, .ref u49]))]) rfl (by decide) (by decide) (by decide) rfl rfl (fun _ _ _ => trivial) rfl (Nat.le_of_ble_eq_true rfl) d_law_law_767 (by decide) (fun r_3 u H locs h_4 hP hD hS => ?_)
  obtain ⟨h_4_r, rfl⟩ := h_4
  have hP : va_P D nz_cl [(o0, .inr (11, [.ref o1, .int 0, .ref o2, .ref o3, .ref o4, .ref o5, .ref o6, .ref o7, .ref o8, .ref o9, .ref o10])), (o2, .inr (3, [.ref u1, .ref u2, .ref u3, .ref u4, .ref u5])), (u4, .inr (5, [.int 0, .int 0, .ref u41, .ref u42, .ref u43, .ref u44, .ref u45, .ref u46, .ref u47, .ref u48, .ref u49])), (m0_, .inr (12, [.ref m0, .ref m1, .int 0, .int 0, .int 0, .int (-1), .int 0, .int 0, .int 0, .int 0, .long 0, .ref m11, .ref m12, .ref m13, .ref m14, .ref m15, .ref m16, .ref m17, .ref m18, .ref m19, .ref m20, .ref m21, .ref m22, .ref m23, .ref m24, .ref m25, .ref m26, .ref m27, .ref m28, .ref m29, .ref m30, .ref m31, .ref m32, .ref m33, .ref m34, .ref m35, .ref m36, .ref m37, .ref m38, .int 0, .int 0, .ref m41, .ref m42, .ref m43, .ref m44, .int 0, .int 0, .ref m47, .ref m48, .ref m49, .ref m50, .ref m51, .ref m52, .ref m53, .ref m54])), (m15, .inl (cI, 2, .inl (fun _ => 0)))] H := hP
  have hD : va_D A [(o0, .inr (11, [.ref o1, .int 0, .ref o2, .ref o3, .ref o4, .ref o5, .ref o6, .ref o7, .ref o8, .ref o9, .ref o10])), (o2, .inr (3, [.ref u1, .ref u2, .ref u3, .ref u4, .ref u5])), (u4, .inr (5, [.int 0, .int 0, .ref u41, .ref u42, .ref u43, .ref u44, .ref u45, .ref u46, .ref u47, .ref u48, .ref u49])), (m0_, .inr (12, [.ref m0, .ref m1, .int 0, .int 0, .int 0, .int (-1), .int 0, .int 0, .int 0, .int 0, .long 0, .ref m11, .ref m12, .ref m13, .ref m14, .ref m15, .ref m16, .ref m17, .ref m18, .ref m19, .ref m20, .ref m21, .ref m22, .ref m23, .ref m24, .ref m25, .ref m26, .ref m27, .ref m28, .ref m29, .ref m30, .ref m31, .ref m32, .ref m33, .ref m34, .ref m35, .ref m36, .ref m37, .ref m38, .int 0, .int 0, .ref m41, .ref m42, .ref m43, .ref m44, .int 0, .int 0, .ref m47, .ref m48, .ref m49, .ref m50, .ref m51, .ref m52, .ref m53, .ref m54])), (m15, .inl (cI, 2, .inl (fun _ => 0)))] := hD
  subst h_4_r
  refine lv_icmp_eq (tgt := 1427) hx hb d_law_law_770 (by decide) (fun c_5 => ?_) (fun c_5 => absurd (by decide +kernel) c_5)
  exact nz_ltail C0 hXs hbl (by rw [hAe]; exact hS) hl
set_option maxHeartbeats 4000000 in
set_option maxRecDepth 100000 in
theorem nz_law_15 {p : Program} {l : Launch} {e : Env} {s : State} {m : MethodId} {below : List Frame} {meth : Method} {c : Code} {b : Nat} {xs : Nat → Int32} {H : Heap} {locs : List Loc} {ls : Array Slot} (D : va_G) (cB cI cJ : ClassId) (o0 : Nat) (o1 : Nat) (o2 : Nat) (o3 : Nat) (o4 : Nat) (o5 : Nat) (o6 : Nat) (o7 : Nat) (o8 : Nat) (o9 : Nat) (o10 : Nat) (u1 : Nat) (u2 : Nat) (u3 : Nat) (u4 : Nat) (u5 : Nat) (u11 : Nat) (u12 : Nat) (u13 : Nat) (u14 : Nat) (u15 : Nat) (u16 : Nat) (u17 : Nat) (m0_ : Nat) (m0 : Nat) (m1 : Nat) (m11 : Nat) (m12 : Nat) (m13 : Nat) (m14 : Nat) (m15 : Nat) (m16 : Nat) (m17 : Nat) (m18 : Nat) (m19 : Nat) (m20 : Nat) (m21 : Nat) (m22 : Nat) (m23 : Nat) (m24 : Nat) (m25 : Nat) (m26 : Nat) (m27 : Nat) (m28 : Nat) (m29 : Nat) (m30 : Nat) (m31 : Nat) (m32 : Nat) (m33 : Nat) (m34 : Nat) (m35 : Nat) (m36 : Nat) (m37 : Nat) (m38 : Nat) (m41 : Nat) (m42 : Nat) (m43 : Nat) (m44 : Nat) (m47 : Nat) (m48 : Nat) (m49 : Nat) (m50 : Nat) (m51 : Nat) (m52 : Nat) (m53 : Nat) (m54 : Nat) (C0 : nz_Cx p s m #[Value.ref b] meth c code 4 ret R_law D cB cI cJ) (hXs : va_X b 7 xs s s.heap) (hbl : b < s.heap.size) (hP : va_P D nz_cl [(o0, .inr (11, [.ref o1, .int 0, .ref o2, .ref o3, .ref o4, .ref o5, .ref o6, .ref o7, .ref o8, .ref o9, .ref o10])), (o2, .inr (3, [.ref u1, .ref u2, .ref u3, .ref u4, .ref u5])), (u1, .inr (6, [.int 0, .ref u11, .ref u12, .ref u13, .ref u14, .ref u15, .ref u16, .ref u17])), (m0_, .inr (12, [.ref m0, .ref m1, .int 0, .int 0, .int 0, .int (-1), .int 0, .int 0, .int 0, .int 0, .long 0, .ref m11, .ref m12, .ref m13, .ref m14, .ref m15, .ref m16, .ref m17, .ref m18, .ref m19, .ref m20, .ref m21, .ref m22, .ref m23, .ref m24, .ref m25, .ref m26, .ref m27, .ref m28, .ref m29, .ref m30, .ref m31, .ref m32, .ref m33, .ref m34, .ref m35, .ref m36, .ref m37, .ref m38, .int 0, .int 0, .ref m41, .ref m42, .ref m43, .ref m44, .int 0, .int 0, .ref m47, .ref m48, .ref m49, .ref m50, .ref m51, .ref m52, .ref m53, .ref m54])), (m11, .inl (cI, 2, .inl (fun _ => 0)))] H) (hD : va_D (fun q : Nat => s.heap.size ≤ q) [(o0, .inr (11, [.ref o1, .int 0, .ref o2, .ref o3, .ref o4, .ref o5, .ref o6, .ref o7, .ref o8, .ref o9, .ref o10])), (o2, .inr (3, [.ref u1, .ref u2, .ref u3, .ref u4, .ref u5])), (u1, .inr (6, [.int 0, .ref u11, .ref u12, .ref u13, .ref u14, .ref u15, .ref u16, .ref u17])), (m0_, .inr (12, [.ref m0, .ref m1, .int 0, .int 0, .int 0, .int (-1), .int 0, .int 0, .int 0, .int 0, .long 0, .ref m11, .ref m12, .ref m13, .ref m14, .ref m15, .ref m16, .ref m17, .ref m18, .ref m19, .ref m20, .ref m21, .ref m22, .ref m23, .ref m24, .ref m25, .ref m26, .ref m27, .ref m28, .ref m29, .ref m30, .ref m31, .ref m32, .ref m33, .ref m34, .ref m35, .ref m36, .ref m37, .ref m38, .int 0, .int 0, .ref m41, .ref m42, .ref m43, .ref m44, .int 0, .int 0, .ref m47, .ref m48, .ref m49, .ref m50, .ref m51, .ref m52, .ref m53, .ref m54])), (m11, .inl (cI, 2, .inl (fun _ => 0)))]) (hS : va_S (fun q : Nat => s.heap.size ≤ q) s.heap H locs) (hl : lv_has ls 4 [(3, .int 0), (2, .ref m0_), (1, .ref o0), (0, .ref b)]) : W p l e room_1 s m #[Value.ref b] below meth c H locs 124 7401 (lw_Z below #[Value.ref b] s) (F0 m 775 ls []) := by
  obtain ⟨hx, hb, hr, hml, hown, hts, hlk, hK⟩ := id C0
  generalize hAe : (fun q : Nat => s.heap.size ≤ q) = A at hD hS
  have hA : ∀ q : Nat, s.heap.size ≤ q → A q := fun q h => by rw [← hAe]; exact h
  have hbA : ¬ A b := by rw [← hAe]; exact Nat.not_le.mpr hbl
  refine lv_aload_n hx hb d_law_law_775 rfl (lv_at hl 2 rfl) ?_
  refine lv_aload_n hx hb d_law_law_776 rfl (lv_at hl 3 rfl) ?_
  refine lv_iload_n hx hb d_law_law_777 rfl (lv_at hl 0 rfl) ?_
  refine lv_iconst (v := 1) hx hb d_law_law_778 (by decide +kernel) ?_
  refine lv_iadd hx hb d_law_law_779 ?_
  refine nz_ctopi (v := 1) (by decide +kernel) ?_
  refine va_sld hx hb hXs hbl hbA hS (nz_vin (by decide +kernel)) d_law_law_780 ?_
  refine nz_ctopi (v := xs 1) rfl ?_
  refine lv_aload_n hx hb d_law_law_781 rfl (lv_at hl 3 rfl) ?_
  refine lv_iload_n hx hb d_law_law_782 rfl (lv_at hl 0 rfl) ?_
  refine lv_iconst (v := 2) hx hb d_law_law_783 (by decide +kernel) ?_
  refine lv_iadd hx hb d_law_law_784 ?_
  refine nz_ctopi (v := 2) (by decide +kernel) ?_
  refine va_sld hx hb hXs hbl hbA hS (nz_vin (by decide +kernel)) d_law_law_785 ?_
  refine nz_ctopi (v := xs 2) rfl ?_
  refine lv_aload_n hx hb d_law_law_786 rfl (lv_at hl 3 rfl) ?_
  refine lv_iload_n hx hb d_law_law_787 rfl (lv_at hl 0 rfl) ?_
  refine lv_iconst (v := 3) hx hb d_law_law_788 (by decide +kernel) ?_
  refine lv_iadd hx hb d_law_law_789 ?_
  refine nz_ctopi (v := 3) (by decide +kernel) ?_
  refine va_sld hx hb hXs hbl hbA hS (nz_vin (by decide +kernel)) d_law_law_790 ?_
  refine nz_ctopi (v := xs 3) rfl ?_
  refine lv_aload_n hx hb d_law_law_791 rfl (lv_at hl 3 rfl) ?_
  refine lv_iload_n hx hb d_law_law_792 rfl (lv_at hl 0 rfl) ?_
  refine lv_iconst (v := 4) hx hb d_law_law_793 (by decide +kernel) ?_
  refine lv_iadd hx hb d_law_law_794 ?_
  refine nz_ctopi (v := 4) (by decide +kernel) ?_
  refine va_sld hx hb hXs hbl hbA hS (nz_vin (by decide +kernel)) d_law_law_795 ?_
  refine nz_ctopi (v := xs 4) rfl ?_
  refine nz_calVi (As := [.int (xs 1), .int (xs 2), .int (xs 3), .int (xs 4)]) (rest := []) C0 (c_NF_today l D cB cI cJ o0 (xs 1) (xs 2) (xs 3) (xs 4) o1 o2 o3 o4 o5 o6 o7 o8 o9 o10 u1 u2 u3 u4 u5 u11 u12 u13 u14 u15 u16 u17) g_law_80 rfl nz_xb0 (by decide) hl.1 hP hD hS hA [0, 1, 2] [3, 4] rfl (wr := [(m0_, .inr (12, [.ref m0, .ref m1, .int 0, .int 0, .int 0, .int (-1), .int 0, .int 0, .int 0, .int 0, .long 0, .ref m11, .ref m12, .ref m13, .ref m14, .ref m15, .ref m16, .ref m17, .ref m18, .ref m19, .ref m20, .ref m21, .ref m22, .ref m23, .ref m24, .ref m25, .ref m26, .ref m27, .ref m28, .ref m29, .ref m30, .ref m31, .ref m32, .ref m33, .ref m34, .ref m35, .ref m36, .ref m37, .ref m38, .int 0, .int 0, .ref m41, .ref m42, .ref m43, .ref m44, .int 0, .int 0, .ref m47, .ref m48, .ref m49, .ref m50, .ref m51, .ref m52, .ref m53, .ref m54])), (m11, .inl (cI, 2, .inl (fun _ => 0)))]) rfl (by decide) (by decide) (by decide) rfl rfl (fun _ _ _ => trivial) rfl (Nat.le_of_ble_eq_true rfl) d_law_law_796 (by decide) (fun r_1 u H locs h_2 hP hD hS => ?_)
  obtain ⟨h_2_r, rfl⟩ := h_2
  have hP : va_P D nz_cl [(m0_, .inr (12, [.ref m0, .ref m1, .int 0, .int 0, .int 0, .int (-1), .int 0, .int 0, .int 0, .int 0, .long 0, .ref m11, .ref m12, .ref m13, .ref m14, .ref m15, .ref m16, .ref m17, .ref m18, .ref m19, .ref m20, .ref m21, .ref m22, .ref m23, .ref m24, .ref m25, .ref m26, .ref m27, .ref m28, .ref m29, .ref m30, .ref m31, .ref m32, .ref m33, .ref m34, .ref m35, .ref m36, .ref m37, .ref m38, .int 0, .int 0, .ref m41, .ref m42, .ref m43, .ref m44, .int 0, .int 0, .ref m47, .ref m48, .ref m49, .ref m50, .ref m51, .ref m52, .ref m53, .ref m54])), (m11, .inl (cI, 2, .inl (fun _ => 0))), (o0, .inr (11, [.ref o1, .int 0, .ref o2, .ref o3, .ref o4, .ref o5, .ref o6, .ref o7, .ref o8, .ref o9, .ref o10])), (o2, .inr (3, [.ref u1, .ref u2, .ref u3, .ref u4, .ref u5])), (u1, .inr (6, [.int 0, .ref u11, .ref u12, .ref u13, .ref u14, .ref u15, .ref u16, .ref u17]))] H := hP
  have hD : va_D A [(m0_, .inr (12, [.ref m0, .ref m1, .int 0, .int 0, .int 0, .int (-1), .int 0, .int 0, .int 0, .int 0, .long 0, .ref m11, .ref m12, .ref m13, .ref m14, .ref m15, .ref m16, .ref m17, .ref m18, .ref m19, .ref m20, .ref m21, .ref m22, .ref m23, .ref m24, .ref m25, .ref m26, .ref m27, .ref m28, .ref m29, .ref m30, .ref m31, .ref m32, .ref m33, .ref m34, .ref m35, .ref m36, .ref m37, .ref m38, .int 0, .int 0, .ref m41, .ref m42, .ref m43, .ref m44, .int 0, .int 0, .ref m47, .ref m48, .ref m49, .ref m50, .ref m51, .ref m52, .ref m53, .ref m54])), (m11, .inl (cI, 2, .inl (fun _ => 0))), (o0, .inr (11, [.ref o1, .int 0, .ref o2, .ref o3, .ref o4, .ref o5, .ref o6, .ref o7, .ref o8, .ref o9, .ref o10])), (o2, .inr (3, [.ref u1, .ref u2, .ref u3, .ref u4, .ref u5])), (u1, .inr (6, [.int 0, .ref u11, .ref u12, .ref u13, .ref u14, .ref u15, .ref u16, .ref u17]))] := hD
  subst h_2_r
  refine lv_aload_n hx hb d_law_law_799 rfl (lv_at hl 1 rfl) ?_
  refine lv_aload_n hx hb d_law_law_800 rfl (lv_at hl 3 rfl) ?_
  refine lv_iload_n hx hb d_law_law_801 rfl (lv_at hl 0 rfl) ?_
  refine lv_iconst (v := 1) hx hb d_law_law_802 (by decide +kernel) ?_
  refine lv_iadd hx hb d_law_law_803 ?_
  refine nz_ctopi (v := 1) (by decide +kernel) ?_
  refine va_sld hx hb hXs hbl hbA hS (nz_vin (by decide +kernel)) d_law_law_804 ?_
  refine nz_ctopi (v := xs 1) rfl ?_
  refine lv_aload_n hx hb d_law_law_805 rfl (lv_at hl 3 rfl) ?_
  refine lv_iload_n hx hb d_law_law_806 rfl (lv_at hl 0 rfl) ?_
  refine lv_iconst (v := 2) hx hb d_law_law_807 (by decide +kernel) ?_
  refine lv_iadd hx hb d_law_law_808 ?_
  refine nz_ctopi (v := 2) (by decide +kernel) ?_
  refine va_sld hx hb hXs hbl hbA hS (nz_vin (by decide +kernel)) d_law_law_809 ?_
  refine nz_ctopi (v := xs 2) rfl ?_
  refine lv_aload_n hx hb d_law_law_810 rfl (lv_at hl 3 rfl) ?_
  refine lv_iload_n hx hb d_law_law_811 rfl (lv_at hl 0 rfl) ?_
  refine lv_iconst (v := 3) hx hb d_law_law_812 (by decide +kernel) ?_
  refine lv_iadd hx hb d_law_law_813 ?_
  refine nz_ctopi (v := 3) (by decide +kernel) ?_
  refine va_sld hx hb hXs hbl hbA hS (nz_vin (by decide +kernel)) d_law_law_814 ?_
  refine nz_ctopi (v := xs 3) rfl ?_
  refine lv_aload_n hx hb d_law_law_815 rfl (lv_at hl 3 rfl) ?_
  refine lv_iload_n hx hb d_law_law_816 rfl (lv_at hl 0 rfl) ?_
  refine lv_iconst (v := 4) hx hb d_law_law_817 (by decide +kernel) ?_
  refine lv_iadd hx hb d_law_law_818 ?_
  refine nz_ctopi (v := 4) (by decide +kernel) ?_
  refine va_sld hx hb hXs hbl hbA hS (nz_vin (by decide +kernel)) d_law_law_819 ?_
  refine nz_ctopi (v := xs 4) rfl ?_
  refine nz_calVi (As := [.int (xs 1), .int (xs 2), .int (xs 3), .int (xs 4)]) (rest := [.int (-1)]) C0 (c_Mo_today l D cB cI cJ m0_ (xs 1) (xs 2) (xs 3) (xs 4) m0 m1 m11 m12 m13 m14 m15 m16 m17 m18 m19 m20 m21 m22 m23 m24 m25 m26 m27 m28 m29 m30 m31 m32 m33 m34 m35 m36 m37 m38 m41 m42 m43 m44 m47 m48 m49 m50 m51 m52 m53 m54) g_law_83 rfl nz_xb0 (by decide) hl.1 hP hD hS hA [0, 1] [2, 3, 4] rfl (wr := [(o0, .inr (11, [.ref o1, .int 0, .ref o2, .ref o3, .ref o4, .ref o5, .ref o6, .ref o7, .ref o8, .ref o9, .ref o10])), (o2, .inr (3, [.ref u1, .ref u2, .ref u3, .ref u4, .ref u5])), (u1, .inr (6, [.int 0, .ref u11, .ref u12, .ref u13, .ref u14, .ref u15, .ref u16, .ref u17]))]) rfl (by decide) (by decide) (by decide) rfl rfl (fun _ _ _ => trivial) rfl (Nat.le_of_ble_eq_true rfl) d_law_law_820 (by decide) (fun r_3 u H locs h_4 hP hD hS => ?_)
  obtain ⟨h_4_r, rfl⟩ := h_4
  have hP : va_P D nz_cl [(o0, .inr (11, [.ref o1, .int 0, .ref o2, .ref o3, .ref o4, .ref o5, .ref o6, .ref o7, .ref o8, .ref o9, .ref o10])), (o2, .inr (3, [.ref u1, .ref u2, .ref u3, .ref u4, .ref u5])), (u1, .inr (6, [.int 0, .ref u11, .ref u12, .ref u13, .ref u14, .ref u15, .ref u16, .ref u17])), (m0_, .inr (12, [.ref m0, .ref m1, .int 0, .int 0, .int 0, .int (-1), .int 0, .int 0, .int 0, .int 0, .long 0, .ref m11, .ref m12, .ref m13, .ref m14, .ref m15, .ref m16, .ref m17, .ref m18, .ref m19, .ref m20, .ref m21, .ref m22, .ref m23, .ref m24, .ref m25, .ref m26, .ref m27, .ref m28, .ref m29, .ref m30, .ref m31, .ref m32, .ref m33, .ref m34, .ref m35, .ref m36, .ref m37, .ref m38, .int 0, .int 0, .ref m41, .ref m42, .ref m43, .ref m44, .int 0, .int 0, .ref m47, .ref m48, .ref m49, .ref m50, .ref m51, .ref m52, .ref m53, .ref m54])), (m11, .inl (cI, 2, .inl (fun _ => 0)))] H := hP
  have hD : va_D A [(o0, .inr (11, [.ref o1, .int 0, .ref o2, .ref o3, .ref o4, .ref o5, .ref o6, .ref o7, .ref o8, .ref o9, .ref o10])), (o2, .inr (3, [.ref u1, .ref u2, .ref u3, .ref u4, .ref u5])), (u1, .inr (6, [.int 0, .ref u11, .ref u12, .ref u13, .ref u14, .ref u15, .ref u16, .ref u17])), (m0_, .inr (12, [.ref m0, .ref m1, .int 0, .int 0, .int 0, .int (-1), .int 0, .int 0, .int 0, .int 0, .long 0, .ref m11, .ref m12, .ref m13, .ref m14, .ref m15, .ref m16, .ref m17, .ref m18, .ref m19, .ref m20, .ref m21, .ref m22, .ref m23, .ref m24, .ref m25, .ref m26, .ref m27, .ref m28, .ref m29, .ref m30, .ref m31, .ref m32, .ref m33, .ref m34, .ref m35, .ref m36, .ref m37, .ref m38, .int 0, .int 0, .ref m41, .ref m42, .ref m43, .ref m44, .int 0, .int 0, .ref m47, .ref m48, .ref m49, .ref m50, .ref m51, .ref m52, .ref m53, .ref m54])), (m11, .inl (cI, 2, .inl (fun _ => 0)))] := hD
  subst h_4_r
  refine lv_icmp_eq (tgt := 1427) hx hb d_law_law_823 (by decide) (fun c_5 => ?_) (fun c_5 => absurd (by decide +kernel) c_5)
  exact nz_ltail C0 hXs hbl (by rw [hAe]; exact hS) hl
set_option maxHeartbeats 4000000 in
set_option maxRecDepth 100000 in
theorem nz_law_16 {p : Program} {l : Launch} {e : Env} {s : State} {m : MethodId} {below : List Frame} {meth : Method} {c : Code} {b : Nat} {xs : Nat → Int32} {H : Heap} {locs : List Loc} {ls : Array Slot} (D : va_G) (cB cI cJ : ClassId) (o0 : Nat) (o1 : Nat) (o2 : Nat) (o3 : Nat) (o4 : Nat) (o5 : Nat) (o6 : Nat) (o7 : Nat) (o8 : Nat) (o9 : Nat) (o10 : Nat) (u1 : Nat) (u2 : Nat) (u3 : Nat) (u4 : Nat) (u5 : Nat) (u11 : Nat) (u12 : Nat) (u13 : Nat) (u14 : Nat) (u15 : Nat) (u16 : Nat) (u17 : Nat) (m0_ : Nat) (m0 : Nat) (m1 : Nat) (m11 : Nat) (m12 : Nat) (m13 : Nat) (m14 : Nat) (m15 : Nat) (m16 : Nat) (m17 : Nat) (m18 : Nat) (m19 : Nat) (m20 : Nat) (m21 : Nat) (m22 : Nat) (m23 : Nat) (m24 : Nat) (m25 : Nat) (m26 : Nat) (m27 : Nat) (m28 : Nat) (m29 : Nat) (m30 : Nat) (m31 : Nat) (m32 : Nat) (m33 : Nat) (m34 : Nat) (m35 : Nat) (m36 : Nat) (m37 : Nat) (m38 : Nat) (m41 : Nat) (m42 : Nat) (m43 : Nat) (m44 : Nat) (m47 : Nat) (m48 : Nat) (m49 : Nat) (m50 : Nat) (m51 : Nat) (m52 : Nat) (m53 : Nat) (m54 : Nat) (C0 : nz_Cx p s m #[Value.ref b] meth c code 4 ret R_law D cB cI cJ) (hXs : va_X b 7 xs s s.heap) (hbl : b < s.heap.size) (hP : va_P D nz_cl [(o0, .inr (11, [.ref o1, .int 0, .ref o2, .ref o3, .ref o4, .ref o5, .ref o6, .ref o7, .ref o8, .ref o9, .ref o10])), (o2, .inr (3, [.ref u1, .ref u2, .ref u3, .ref u4, .ref u5])), (u1, .inr (6, [.int 0, .ref u11, .ref u12, .ref u13, .ref u14, .ref u15, .ref u16, .ref u17])), (m0_, .inr (12, [.ref m0, .ref m1, .int 0, .int 0, .int 0, .int (-1), .int 0, .int 0, .int 0, .int 0, .long 0, .ref m11, .ref m12, .ref m13, .ref m14, .ref m15, .ref m16, .ref m17, .ref m18, .ref m19, .ref m20, .ref m21, .ref m22, .ref m23, .ref m24, .ref m25, .ref m26, .ref m27, .ref m28, .ref m29, .ref m30, .ref m31, .ref m32, .ref m33, .ref m34, .ref m35, .ref m36, .ref m37, .ref m38, .int 0, .int 0, .ref m41, .ref m42, .ref m43, .ref m44, .int 0, .int 0, .ref m47, .ref m48, .ref m49, .ref m50, .ref m51, .ref m52, .ref m53, .ref m54])), (m11, .inl (cI, 2, .inl (fun _ => 0)))] H) (hD : va_D (fun q : Nat => s.heap.size ≤ q) [(o0, .inr (11, [.ref o1, .int 0, .ref o2, .ref o3, .ref o4, .ref o5, .ref o6, .ref o7, .ref o8, .ref o9, .ref o10])), (o2, .inr (3, [.ref u1, .ref u2, .ref u3, .ref u4, .ref u5])), (u1, .inr (6, [.int 0, .ref u11, .ref u12, .ref u13, .ref u14, .ref u15, .ref u16, .ref u17])), (m0_, .inr (12, [.ref m0, .ref m1, .int 0, .int 0, .int 0, .int (-1), .int 0, .int 0, .int 0, .int 0, .long 0, .ref m11, .ref m12, .ref m13, .ref m14, .ref m15, .ref m16, .ref m17, .ref m18, .ref m19, .ref m20, .ref m21, .ref m22, .ref m23, .ref m24, .ref m25, .ref m26, .ref m27, .ref m28, .ref m29, .ref m30, .ref m31, .ref m32, .ref m33, .ref m34, .ref m35, .ref m36, .ref m37, .ref m38, .int 0, .int 0, .ref m41, .ref m42, .ref m43, .ref m44, .int 0, .int 0, .ref m47, .ref m48, .ref m49, .ref m50, .ref m51, .ref m52, .ref m53, .ref m54])), (m11, .inl (cI, 2, .inl (fun _ => 0)))]) (hS : va_S (fun q : Nat => s.heap.size ≤ q) s.heap H locs) (hl : lv_has ls 4 [(3, .int 0), (2, .ref m0_), (1, .ref o0), (0, .ref b)]) : W p l e room_1 s m #[Value.ref b] below meth c H locs 124 7401 (lw_Z below #[Value.ref b] s) (F0 m 828 ls []) := by
  obtain ⟨hx, hb, hr, hml, hown, hts, hlk, hK⟩ := id C0
  generalize hAe : (fun q : Nat => s.heap.size ≤ q) = A at hD hS
  have hA : ∀ q : Nat, s.heap.size ≤ q → A q := fun q h => by rw [← hAe]; exact h
  have hbA : ¬ A b := by rw [← hAe]; exact Nat.not_le.mpr hbl
  refine lv_aload_n hx hb d_law_law_828 rfl (lv_at hl 2 rfl) ?_
  refine lv_aload_n hx hb d_law_law_829 rfl (lv_at hl 3 rfl) ?_
  refine lv_iload_n hx hb d_law_law_830 rfl (lv_at hl 0 rfl) ?_
  refine lv_iconst (v := 1) hx hb d_law_law_831 (by decide +kernel) ?_
  refine lv_iadd hx hb d_law_law_832 ?_
  refine nz_ctopi (v := 1) (by decide +kernel) ?_
  refine va_sld hx hb hXs hbl hbA hS (nz_vin (by decide +kernel)) d_law_law_833 ?_
  refine nz_ctopi (v := xs 1) rfl ?_
  refine lv_aload_n hx hb d_law_law_834 rfl (lv_at hl 3 rfl) ?_
  refine lv_iload_n hx hb d_law_law_835 rfl (lv_at hl 0 rfl) ?_
  refine lv_iconst (v := 2) hx hb d_law_law_836 (by decide +kernel) ?_
  refine lv_iadd hx hb d_law_law_837 ?_
  refine nz_ctopi (v := 2) (by decide +kernel) ?_
  refine va_sld hx hb hXs hbl hbA hS (nz_vin (by decide +kernel)) d_law_law_838 ?_
  refine nz_ctopi (v := xs 2) rfl ?_
  refine lv_aload_n hx hb d_law_law_839 rfl (lv_at hl 3 rfl) ?_
  refine lv_iload_n hx hb d_law_law_840 rfl (lv_at hl 0 rfl) ?_
  refine lv_iconst (v := 3) hx hb d_law_law_841 (by decide +kernel) ?_
  refine lv_iadd hx hb d_law_law_842 ?_
  refine nz_ctopi (v := 3) (by decide +kernel) ?_
  refine va_sld hx hb hXs hbl hbA hS (nz_vin (by decide +kernel)) d_law_law_843 ?_
  refine nz_ctopi (v := xs 3) rfl ?_
  refine lv_aload_n hx hb d_law_law_844 rfl (lv_at hl 3 rfl) ?_
  refine lv_iload_n hx hb d_law_law_845 rfl (lv_at hl 0 rfl) ?_
  refine lv_iconst (v := 4) hx hb d_law_law_846 (by decide +kernel) ?_
  refine lv_iadd hx hb d_law_law_847 ?_
  refine nz_ctopi (v := 4) (by decide +kernel) ?_
  refine va_sld hx hb hXs hbl hbA hS (nz_vin (by decide +kernel)) d_law_law_848 ?_
  refine nz_ctopi (v := xs 4) rfl ?_
  refine nz_calVi (As := [.int (xs 1), .int (xs 2), .int (xs 3), .int (xs 4)]) (rest := []) C0 (c_NF_parted l D cB cI cJ o0 (xs 1) (xs 2) (xs 3) (xs 4) o1 o2 o3 o4 o5 o6 o7 o8 o9 o10 u1 u2 u3 u4 u5 u11 u12 u13 u14 u15 u16 u17) g_law_84 rfl nz_xb0 (by decide) hl.1 hP hD hS hA [0, 1, 2] [3, 4] rfl (wr := [(m0_, .inr (12, [.ref m0, .ref m1, .int 0, .int 0, .int 0, .int (-1), .int 0, .int 0, .int 0, .int 0, .long 0, .ref m11, .ref m12, .ref m13, .ref m14, .ref m15, .ref m16, .ref m17, .ref m18, .ref m19, .ref m20, .ref m21, .ref m22, .ref m23, .ref m24, .ref m25, .ref m26, .ref m27, .ref m28, .ref m29, .ref m30, .ref m31, .ref m32, .ref m33, .ref m34, .ref m35, .ref m36, .ref m37, .ref m38, .int 0, .int 0, .ref m41, .ref m42, .ref m43, .ref m44, .int 0, .int 0, .ref m47, .ref m48, .ref m49, .ref m50, .ref m51, .ref m52, .ref m53, .ref m54])), (m11, .inl (cI, 2, .inl (fun _ => 0)))]) rfl (by decide) (by decide) (by decide) rfl rfl (fun _ _ _ => trivial) rfl (Nat.le_of_ble_eq_true rfl) d_law_law_849 (by decide) (fun r_1 u H locs h_2 hP hD hS => ?_)
  obtain ⟨h_2_r, rfl⟩ := h_2
  have hP : va_P D nz_cl [(m0_, .inr (12, [.ref m0, .ref m1, .int 0, .int 0, .int 0, .int (-1), .int 0, .int 0, .int 0, .int 0, .long 0, .ref m11, .ref m12, .ref m13, .ref m14, .ref m15, .ref m16, .ref m17, .ref m18, .ref m19, .ref m20, .ref m21, .ref m22, .ref m23, .ref m24, .ref m25, .ref m26, .ref m27, .ref m28, .ref m29, .ref m30, .ref m31, .ref m32, .ref m33, .ref m34, .ref m35, .ref m36, .ref m37, .ref m38, .int 0, .int 0, .ref m41, .ref m42, .ref m43, .ref m44, .int 0, .int 0, .ref m47, .ref m48, .ref m49, .ref m50, .ref m51, .ref m52, .ref m53, .ref m54])), (m11, .inl (cI, 2, .inl (fun _ => 0))), (o0, .inr (11, [.ref o1, .int 0, .ref o2, .ref o3, .ref o4, .ref o5, .ref o6, .ref o7, .ref o8, .ref o9, .ref o10])), (o2, .inr (3, [.ref u1, .ref u2, .ref u3, .ref u4, .ref u5])), (u1, .inr (6, [.int 0, .ref u11, .ref u12, .ref u13, .ref u14, .ref u15, .ref u16, .ref u17]))] H := hP
  have hD : va_D A [(m0_, .inr (12, [.ref m0, .ref m1, .int 0, .int 0, .int 0, .int (-1), .int 0, .int 0, .int 0, .int 0, .long 0, .ref m11, .ref m12, .ref m13, .ref m14, .ref m15, .ref m16, .ref m17, .ref m18, .ref m19, .ref m20, .ref m21, .ref m22, .ref m23, .ref m24, .ref m25, .ref m26, .ref m27, .ref m28, .ref m29, .ref m30, .ref m31, .ref m32, .ref m33, .ref m34, .ref m35, .ref m36, .ref m37, .ref m38, .int 0, .int 0, .ref m41, .ref m42, .ref m43, .ref m44, .int 0, .int 0, .ref m47, .ref m48, .ref m49, .ref m50, .ref m51, .ref m52, .ref m53, .ref m54])), (m11, .inl (cI, 2, .inl (fun _ => 0))), (o0, .inr (11, [.ref o1, .int 0, .ref o2, .ref o3, .ref o4, .ref o5, .ref o6, .ref o7, .ref o8, .ref o9, .ref o10])), (o2, .inr (3, [.ref u1, .ref u2, .ref u3, .ref u4, .ref u5])), (u1, .inr (6, [.int 0, .ref u11, .ref u12, .ref u13, .ref u14, .ref u15, .ref u16, .ref u17]))] := hD
  subst h_2_r
  refine lv_aload_n hx hb d_law_law_852 rfl (lv_at hl 1 rfl) ?_
  refine lv_aload_n hx hb d_law_law_853 rfl (lv_at hl 3 rfl) ?_
  refine lv_iload_n hx hb d_law_law_854 rfl (lv_at hl 0 rfl) ?_
  refine lv_iconst (v := 1) hx hb d_law_law_855 (by decide +kernel) ?_
  refine lv_iadd hx hb d_law_law_856 ?_
  refine nz_ctopi (v := 1) (by decide +kernel) ?_
  refine va_sld hx hb hXs hbl hbA hS (nz_vin (by decide +kernel)) d_law_law_857 ?_
  refine nz_ctopi (v := xs 1) rfl ?_
  refine lv_aload_n hx hb d_law_law_858 rfl (lv_at hl 3 rfl) ?_
  refine lv_iload_n hx hb d_law_law_859 rfl (lv_at hl 0 rfl) ?_
  refine lv_iconst (v := 2) hx hb d_law_law_860 (by decide +kernel) ?_
  refine lv_iadd hx hb d_law_law_861 ?_
  refine nz_ctopi (v := 2) (by decide +kernel) ?_
  refine va_sld hx hb hXs hbl hbA hS (nz_vin (by decide +kernel)) d_law_law_862 ?_
  refine nz_ctopi (v := xs 2) rfl ?_
  refine lv_aload_n hx hb d_law_law_863 rfl (lv_at hl 3 rfl) ?_
  refine lv_iload_n hx hb d_law_law_864 rfl (lv_at hl 0 rfl) ?_
  refine lv_iconst (v := 3) hx hb d_law_law_865 (by decide +kernel) ?_
  refine lv_iadd hx hb d_law_law_866 ?_
  refine nz_ctopi (v := 3) (by decide +kernel) ?_
  refine va_sld hx hb hXs hbl hbA hS (nz_vin (by decide +kernel)) d_law_law_867 ?_
  refine nz_ctopi (v := xs 3) rfl ?_
  refine lv_aload_n hx hb d_law_law_868 rfl (lv_at hl 3 rfl) ?_
  refine lv_iload_n hx hb d_law_law_869 rfl (lv_at hl 0 rfl) ?_
  refine lv_iconst (v := 4) hx hb d_law_law_870 (by decide +kernel) ?_
  refine lv_iadd hx hb d_law_law_871 ?_
  refine nz_ctopi (v := 4) (by decide +kernel) ?_
  refine va_sld hx hb hXs hbl hbA hS (nz_vin (by decide +kernel)) d_law_law_872 ?_
  refine nz_ctopi (v := xs 4) rfl ?_
  refine nz_calVi (As := [.int (xs 1), .int (xs 2), .int (xs 3), .int (xs 4)]) (rest := [.int (-1)]) C0 (c_Mo_parted l D cB cI cJ m0_ (xs 1) (xs 2) (xs 3) (xs 4) m0 m1 m11 m12 m13 m14 m15 m16 m17 m18 m19 m20 m21 m22 m23 m24 m25 m26 m27 m28 m29 m30 m31 m32 m33 m34 m35 m36 m37 m38 m41 m42 m43 m44 m47 m48 m49 m50 m51 m52 m53 m54) g_law_87 rfl nz_xb0 (by decide) hl.1 hP hD hS hA [0, 1] [2, 3, 4] rfl (wr := [(o0, .inr (11, [.ref o1, .int 0, .ref o2, .ref o3, .ref o4, .ref o5, .ref o6, .ref o7, .ref o8, .ref o9, .ref o10])), (o2, .inr (3, [.ref u1, .ref u2, .ref u3, .ref u4, .ref u5])), (u1, .inr (6, [.int 0, .ref u11, .ref u12, .ref u13, .ref u14, .ref u15, .ref u16, .ref u17]))]) rfl (by decide) (by decide) (by decide) rfl rfl (fun _ _ _ => trivial) rfl (Nat.le_of_ble_eq_true rfl) d_law_law_873 (by decide) (fun r_3 u H locs h_4 hP hD hS => ?_)
  obtain ⟨h_4_r, rfl⟩ := h_4
  have hP : va_P D nz_cl [(o0, .inr (11, [.ref o1, .int 0, .ref o2, .ref o3, .ref o4, .ref o5, .ref o6, .ref o7, .ref o8, .ref o9, .ref o10])), (o2, .inr (3, [.ref u1, .ref u2, .ref u3, .ref u4, .ref u5])), (u1, .inr (6, [.int 0, .ref u11, .ref u12, .ref u13, .ref u14, .ref u15, .ref u16, .ref u17])), (m0_, .inr (12, [.ref m0, .ref m1, .int 0, .int 0, .int 0, .int (-1), .int 0, .int 0, .int 0, .int 0, .long 0, .ref m11, .ref m12, .ref m13, .ref m14, .ref m15, .ref m16, .ref m17, .ref m18, .ref m19, .ref m20, .ref m21, .ref m22, .ref m23, .ref m24, .ref m25, .ref m26, .ref m27, .ref m28, .ref m29, .ref m30, .ref m31, .ref m32, .ref m33, .ref m34, .ref m35, .ref m36, .ref m37, .ref m38, .int 0, .int 0, .ref m41, .ref m42, .ref m43, .ref m44, .int 0, .int 0, .ref m47, .ref m48, .ref m49, .ref m50, .ref m51, .ref m52, .ref m53, .ref m54])), (m11, .inl (cI, 2, .inl (fun _ => 0)))] H := hP
  have hD : va_D A [(o0, .inr (11, [.ref o1, .int 0, .ref o2, .ref o3, .ref o4, .ref o5, .ref o6, .ref o7, .ref o8, .ref o9, .ref o10])), (o2, .inr (3, [.ref u1, .ref u2, .ref u3, .ref u4, .ref u5])), (u1, .inr (6, [.int 0, .ref u11, .ref u12, .ref u13, .ref u14, .ref u15, .ref u16, .ref u17])), (m0_, .inr (12, [.ref m0, .ref m1, .int 0, .int 0, .int 0, .int (-1), .int 0, .int 0, .int 0, .int 0, .long 0, .ref m11, .ref m12, .ref m13, .ref m14, .ref m15, .ref m16, .ref m17, .ref m18, .ref m19, .ref m20, .ref m21, .ref m22, .ref m23, .ref m24, .ref m25, .ref m26, .ref m27, .ref m28, .ref m29, .ref m30, .ref m31, .ref m32, .ref m33, .ref m34, .ref m35, .ref m36, .ref m37, .ref m38, .int 0, .int 0, .ref m41, .ref m42, .ref m43, .ref m44, .int 0, .int 0, .ref m47, .ref m48, .ref m49, .ref m50, .ref m51, .ref m52, .ref m53, .ref m54])), (m11, .inl (cI, 2, .inl (fun _ => 0)))] := hD
  subst h_4_r
  refine lv_icmp_eq (tgt := 1427) hx hb d_law_law_876 (by decide) (fun c_5 => ?_) (fun c_5 => absurd (by decide +kernel) c_5)
  exact nz_ltail C0 hXs hbl (by rw [hAe]; exact hS) hl
set_option maxHeartbeats 4000000 in
set_option maxRecDepth 100000 in
theorem nz_law_17 {p : Program} {l : Launch} {e : Env} {s : State} {m : MethodId} {below : List Frame} {meth : Method} {c : Code} {b : Nat} {xs : Nat → Int32} {H : Heap} {locs : List Loc} {ls : Array Slot} (D : va_G) (cB cI cJ : ClassId) (o0 : Nat) (o1 : Nat) (o2 : Nat) (o3 : Nat) (o4 : Nat) (o5 : Nat) (o6 : Nat) (o7 : Nat) (o8 : Nat) (o9 : Nat) (o10 : Nat) (u1 : Nat) (u2 : Nat) (u3 : Nat) (u4 : Nat) (u5 : Nat) (u11 : Nat) (u12 : Nat) (u13 : Nat) (u14 : Nat) (u15 : Nat) (u16 : Nat) (u17 : Nat) (m0_ : Nat) (m0 : Nat) (m1 : Nat) (m11 : Nat) (m12 : Nat) (m13 : Nat) (m14 : Nat) (m15 : Nat) (m16 : Nat) (m17 : Nat) (m18 : Nat) (m19 : Nat) (m20 : Nat) (m21 : Nat) (m22 : Nat) (m23 : Nat) (m24 : Nat) (m25 : Nat) (m26 : Nat) (m27 : Nat) (m28 : Nat) (m29 : Nat) (m30 : Nat) (m31 : Nat) (m32 : Nat) (m33 : Nat) (m34 : Nat) (m35 : Nat) (m36 : Nat) (m37 : Nat) (m38 : Nat) (m41 : Nat) (m42 : Nat) (m43 : Nat) (m44 : Nat) (m47 : Nat) (m48 : Nat) (m49 : Nat) (m50 : Nat) (m51 : Nat) (m52 : Nat) (m53 : Nat) (m54 : Nat) (C0 : nz_Cx p s m #[Value.ref b] meth c code 4 ret R_law D cB cI cJ) (hXs : va_X b 7 xs s s.heap) (hbl : b < s.heap.size) (hP : va_P D nz_cl [(o0, .inr (11, [.ref o1, .int 0, .ref o2, .ref o3, .ref o4, .ref o5, .ref o6, .ref o7, .ref o8, .ref o9, .ref o10])), (o2, .inr (3, [.ref u1, .ref u2, .ref u3, .ref u4, .ref u5])), (u1, .inr (6, [.int 0, .ref u11, .ref u12, .ref u13, .ref u14, .ref u15, .ref u16, .ref u17])), (m0_, .inr (12, [.ref m0, .ref m1, .int 0, .int 0, .int 0, .int (-1), .int 0, .int 0, .int 0, .int 0, .long 0, .ref m11, .ref m12, .ref m13, .ref m14, .ref m15, .ref m16, .ref m17, .ref m18, .ref m19, .ref m20, .ref m21, .ref m22, .ref m23, .ref m24, .ref m25, .ref m26, .ref m27, .ref m28, .ref m29, .ref m30, .ref m31, .ref m32, .ref m33, .ref m34, .ref m35, .ref m36, .ref m37, .ref m38, .int 0, .int 0, .ref m41, .ref m42, .ref m43, .ref m44, .int 0, .int 0, .ref m47, .ref m48, .ref m49, .ref m50, .ref m51, .ref m52, .ref m53, .ref m54])), (m11, .inl (cI, 2, .inl (fun _ => 0)))] H) (hD : va_D (fun q : Nat => s.heap.size ≤ q) [(o0, .inr (11, [.ref o1, .int 0, .ref o2, .ref o3, .ref o4, .ref o5, .ref o6, .ref o7, .ref o8, .ref o9, .ref o10])), (o2, .inr (3, [.ref u1, .ref u2, .ref u3, .ref u4, .ref u5])), (u1, .inr (6, [.int 0, .ref u11, .ref u12, .ref u13, .ref u14, .ref u15, .ref u16, .ref u17])), (m0_, .inr (12, [.ref m0, .ref m1, .int 0, .int 0, .int 0, .int (-1), .int 0, .int 0, .int 0, .int 0, .long 0, .ref m11, .ref m12, .ref m13, .ref m14, .ref m15, .ref m16, .ref m17, .ref m18, .ref m19, .ref m20, .ref m21, .ref m22, .ref m23, .ref m24, .ref m25, .ref m26, .ref m27, .ref m28, .ref m29, .ref m30, .ref m31, .ref m32, .ref m33, .ref m34, .ref m35, .ref m36, .ref m37, .ref m38, .int 0, .int 0, .ref m41, .ref m42, .ref m43, .ref m44, .int 0, .int 0, .ref m47, .ref m48, .ref m49, .ref m50, .ref m51, .ref m52, .ref m53, .ref m54])), (m11, .inl (cI, 2, .inl (fun _ => 0)))]) (hS : va_S (fun q : Nat => s.heap.size ≤ q) s.heap H locs) (hl : lv_has ls 4 [(3, .int 0), (2, .ref m0_), (1, .ref o0), (0, .ref b)]) : W p l e room_1 s m #[Value.ref b] below meth c H locs 124 7401 (lw_Z below #[Value.ref b] s) (F0 m 881 ls []) := by
  obtain ⟨hx, hb, hr, hml, hown, hts, hlk, hK⟩ := id C0
  generalize hAe : (fun q : Nat => s.heap.size ≤ q) = A at hD hS
  have hA : ∀ q : Nat, s.heap.size ≤ q → A q := fun q h => by rw [← hAe]; exact h
  have hbA : ¬ A b := by rw [← hAe]; exact Nat.not_le.mpr hbl
  refine lv_aload_n hx hb d_law_law_881 rfl (lv_at hl 2 rfl) ?_
  refine lv_aload_n hx hb d_law_law_882 rfl (lv_at hl 3 rfl) ?_
  refine lv_iload_n hx hb d_law_law_883 rfl (lv_at hl 0 rfl) ?_
  refine lv_iconst (v := 1) hx hb d_law_law_884 (by decide +kernel) ?_
  refine lv_iadd hx hb d_law_law_885 ?_
  refine nz_ctopi (v := 1) (by decide +kernel) ?_
  refine va_sld hx hb hXs hbl hbA hS (nz_vin (by decide +kernel)) d_law_law_886 ?_
  refine nz_ctopi (v := xs 1) rfl ?_
  refine lv_aload_n hx hb d_law_law_887 rfl (lv_at hl 3 rfl) ?_
  refine lv_iload_n hx hb d_law_law_888 rfl (lv_at hl 0 rfl) ?_
  refine lv_iconst (v := 2) hx hb d_law_law_889 (by decide +kernel) ?_
  refine lv_iadd hx hb d_law_law_890 ?_
  refine nz_ctopi (v := 2) (by decide +kernel) ?_
  refine va_sld hx hb hXs hbl hbA hS (nz_vin (by decide +kernel)) d_law_law_891 ?_
  refine nz_ctopi (v := xs 2) rfl ?_
  refine lv_aload_n hx hb d_law_law_892 rfl (lv_at hl 3 rfl) ?_
  refine lv_iload_n hx hb d_law_law_893 rfl (lv_at hl 0 rfl) ?_
  refine lv_iconst (v := 3) hx hb d_law_law_894 (by decide +kernel) ?_
  refine lv_iadd hx hb d_law_law_895 ?_
  refine nz_ctopi (v := 3) (by decide +kernel) ?_
  refine va_sld hx hb hXs hbl hbA hS (nz_vin (by decide +kernel)) d_law_law_896 ?_
  refine nz_ctopi (v := xs 3) rfl ?_
  refine lv_aload_n hx hb d_law_law_897 rfl (lv_at hl 3 rfl) ?_
  refine lv_iload_n hx hb d_law_law_898 rfl (lv_at hl 0 rfl) ?_
  refine lv_iconst (v := 4) hx hb d_law_law_899 (by decide +kernel) ?_
  refine lv_iadd hx hb d_law_law_900 ?_
  refine nz_ctopi (v := 4) (by decide +kernel) ?_
  refine va_sld hx hb hXs hbl hbA hS (nz_vin (by decide +kernel)) d_law_law_901 ?_
  refine nz_ctopi (v := xs 4) rfl ?_
  refine lv_aload_n hx hb d_law_law_902 rfl (lv_at hl 3 rfl) ?_
  refine lv_iload_n hx hb d_law_law_903 rfl (lv_at hl 0 rfl) ?_
  refine lv_iconst (v := 5) hx hb d_law_law_904 (by decide +kernel) ?_
  refine lv_iadd hx hb d_law_law_905 ?_
  refine nz_ctopi (v := 5) (by decide +kernel) ?_
  refine va_sld hx hb hXs hbl hbA hS (nz_vin (by decide +kernel)) d_law_law_906 ?_
  refine nz_ctopi (v := xs 5) rfl ?_
  refine nz_calVi (As := [.int (xs 1), .int (xs 2), .int (xs 3), .int (xs 4), .int (xs 5)]) (rest := []) C0 (c_NF_changes l D cB cI cJ o0 (xs 1) (xs 2) (xs 3) (xs 4) (xs 5) o1 o2 o3 o4 o5 o6 o7 o8 o9 o10 u1 u2 u3 u4 u5 u11 u12 u13 u14 u15 u16 u17) g_law_88 rfl nz_xb0 (by decide) hl.1 hP hD hS hA [0, 1, 2] [3, 4] rfl (wr := [(m0_, .inr (12, [.ref m0, .ref m1, .int 0, .int 0, .int 0, .int (-1), .int 0, .int 0, .int 0, .int 0, .long 0, .ref m11, .ref m12, .ref m13, .ref m14, .ref m15, .ref m16, .ref m17, .ref m18, .ref m19, .ref m20, .ref m21, .ref m22, .ref m23, .ref m24, .ref m25, .ref m26, .ref m27, .ref m28, .ref m29, .ref m30, .ref m31, .ref m32, .ref m33, .ref m34, .ref m35, .ref m36, .ref m37, .ref m38, .int 0, .int 0, .ref m41, .ref m42, .ref m43, .ref m44, .int 0, .int 0, .ref m47, .ref m48, .ref m49, .ref m50, .ref m51, .ref m52, .ref m53, .ref m54])), (m11, .inl (cI, 2, .inl (fun _ => 0)))]) rfl (by decide) (by decide) (by decide) rfl rfl (fun _ _ _ => trivial) rfl (Nat.le_of_ble_eq_true rfl) d_law_law_907 (by decide) (fun r_1 u H locs h_2 hP hD hS => ?_)
  obtain ⟨h_2_r, rfl⟩ := h_2
  have hP : va_P D nz_cl [(m0_, .inr (12, [.ref m0, .ref m1, .int 0, .int 0, .int 0, .int (-1), .int 0, .int 0, .int 0, .int 0, .long 0, .ref m11, .ref m12, .ref m13, .ref m14, .ref m15, .ref m16, .ref m17, .ref m18, .ref m19, .ref m20, .ref m21, .ref m22, .ref m23, .ref m24, .ref m25, .ref m26, .ref m27, .ref m28, .ref m29, .ref m30, .ref m31, .ref m32, .ref m33, .ref m34, .ref m35, .ref m36, .ref m37, .ref m38, .int 0, .int 0, .ref m41, .ref m42, .ref m43, .ref m44, .int 0, .int 0, .ref m47, .ref m48, .ref m49, .ref m50, .ref m51, .ref m52, .ref m53, .ref m54])), (m11, .inl (cI, 2, .inl (fun _ => 0))), (o0, .inr (11, [.ref o1, .int 0, .ref o2, .ref o3, .ref o4, .ref o5, .ref o6, .ref o7, .ref o8, .ref o9, .ref o10])), (o2, .inr (3, [.ref u1, .ref u2, .ref u3, .ref u4, .ref u5])), (u1, .inr (6, [.int 0, .ref u11, .ref u12, .ref u13, .ref u14, .ref u15, .ref u16, .ref u17]))] H := hP
  have hD : va_D A [(m0_, .inr (12, [.ref m0, .ref m1, .int 0, .int 0, .int 0, .int (-1), .int 0, .int 0, .int 0, .int 0, .long 0, .ref m11, .ref m12, .ref m13, .ref m14, .ref m15, .ref m16, .ref m17, .ref m18, .ref m19, .ref m20, .ref m21, .ref m22, .ref m23, .ref m24, .ref m25, .ref m26, .ref m27, .ref m28, .ref m29, .ref m30, .ref m31, .ref m32, .ref m33, .ref m34, .ref m35, .ref m36, .ref m37, .ref m38, .int 0, .int 0, .ref m41, .ref m42, .ref m43, .ref m44, .int 0, .int 0, .ref m47, .ref m48, .ref m49, .ref m50, .ref m51, .ref m52, .ref m53, .ref m54])), (m11, .inl (cI, 2, .inl (fun _ => 0))), (o0, .inr (11, [.ref o1, .int 0, .ref o2, .ref o3, .ref o4, .ref o5, .ref o6, .ref o7, .ref o8, .ref o9, .ref o10])), (o2, .inr (3, [.ref u1, .ref u2, .ref u3, .ref u4, .ref u5])), (u1, .inr (6, [.int 0, .ref u11, .ref u12, .ref u13, .ref u14, .ref u15, .ref u16, .ref u17]))] := hD
  subst h_2_r
  refine lv_aload_n hx hb d_law_law_910 rfl (lv_at hl 1 rfl) ?_
  refine lv_aload_n hx hb d_law_law_911 rfl (lv_at hl 3 rfl) ?_
  refine lv_iload_n hx hb d_law_law_912 rfl (lv_at hl 0 rfl) ?_
  refine lv_iconst (v := 1) hx hb d_law_law_913 (by decide +kernel) ?_
  refine lv_iadd hx hb d_law_law_914 ?_
  refine nz_ctopi (v := 1) (by decide +kernel) ?_
  refine va_sld hx hb hXs hbl hbA hS (nz_vin (by decide +kernel)) d_law_law_915 ?_
  refine nz_ctopi (v := xs 1) rfl ?_
  refine lv_aload_n hx hb d_law_law_916 rfl (lv_at hl 3 rfl) ?_
  refine lv_iload_n hx hb d_law_law_917 rfl (lv_at hl 0 rfl) ?_
  refine lv_iconst (v := 2) hx hb d_law_law_918 (by decide +kernel) ?_
  refine lv_iadd hx hb d_law_law_919 ?_
  refine nz_ctopi (v := 2) (by decide +kernel) ?_
  refine va_sld hx hb hXs hbl hbA hS (nz_vin (by decide +kernel)) d_law_law_920 ?_
  refine nz_ctopi (v := xs 2) rfl ?_
  refine lv_aload_n hx hb d_law_law_921 rfl (lv_at hl 3 rfl) ?_
  refine lv_iload_n hx hb d_law_law_922 rfl (lv_at hl 0 rfl) ?_
  refine lv_iconst (v := 3) hx hb d_law_law_923 (by decide +kernel) ?_
  refine lv_iadd hx hb d_law_law_924 ?_
  refine nz_ctopi (v := 3) (by decide +kernel) ?_
  refine va_sld hx hb hXs hbl hbA hS (nz_vin (by decide +kernel)) d_law_law_925 ?_
  refine nz_ctopi (v := xs 3) rfl ?_
  refine lv_aload_n hx hb d_law_law_926 rfl (lv_at hl 3 rfl) ?_
  refine lv_iload_n hx hb d_law_law_927 rfl (lv_at hl 0 rfl) ?_
  refine lv_iconst (v := 4) hx hb d_law_law_928 (by decide +kernel) ?_
  refine lv_iadd hx hb d_law_law_929 ?_
  refine nz_ctopi (v := 4) (by decide +kernel) ?_
  refine va_sld hx hb hXs hbl hbA hS (nz_vin (by decide +kernel)) d_law_law_930 ?_
  refine nz_ctopi (v := xs 4) rfl ?_
  refine lv_aload_n hx hb d_law_law_931 rfl (lv_at hl 3 rfl) ?_
  refine lv_iload_n hx hb d_law_law_932 rfl (lv_at hl 0 rfl) ?_
  refine lv_iconst (v := 5) hx hb d_law_law_933 (by decide +kernel) ?_
  refine lv_iadd hx hb d_law_law_934 ?_
  refine nz_ctopi (v := 5) (by decide +kernel) ?_
  refine va_sld hx hb hXs hbl hbA hS (nz_vin (by decide +kernel)) d_law_law_935 ?_
  refine nz_ctopi (v := xs 5) rfl ?_
  refine nz_calVi (As := [.int (xs 1), .int (xs 2), .int (xs 3), .int (xs 4), .int (xs 5)]) (rest := [.int (-1)]) C0 (c_Mo_changes l D cB cI cJ m0_ (xs 1) (xs 2) (xs 3) (xs 4) (xs 5) m0 m1 m11 m12 m13 m14 m15 m16 m17 m18 m19 m20 m21 m22 m23 m24 m25 m26 m27 m28 m29 m30 m31 m32 m33 m34 m35 m36 m37 m38 m41 m42 m43 m44 m47 m48 m49 m50 m51 m52 m53 m54) g_law_91 rfl nz_xb0 (by decide) hl.1 hP hD hS hA [0, 1] [2, 3, 4] rfl (wr := [(o0, .inr (11, [.ref o1, .int 0, .ref o2, .ref o3, .ref o4, .ref o5, .ref o6, .ref o7, .ref o8, .ref o9, .ref o10])), (o2, .inr (3, [.ref u1, .ref u2, .ref u3, .ref u4, .ref u5])), (u1, .inr (6, [.int 0, .ref u11, .ref u12, .ref u13, .ref u14, .ref u15, .ref u16, .ref u17]))]) rfl (by decide) (by decide) (by decide) rfl rfl (fun _ _ _ => trivial) rfl (Nat.le_of_ble_eq_true rfl) d_law_law_936 (by decide) (fun r_3 u H locs h_4 hP hD hS => ?_)
  obtain ⟨h_4_r, rfl⟩ := h_4
  have hP : va_P D nz_cl [(o0, .inr (11, [.ref o1, .int 0, .ref o2, .ref o3, .ref o4, .ref o5, .ref o6, .ref o7, .ref o8, .ref o9, .ref o10])), (o2, .inr (3, [.ref u1, .ref u2, .ref u3, .ref u4, .ref u5])), (u1, .inr (6, [.int 0, .ref u11, .ref u12, .ref u13, .ref u14, .ref u15, .ref u16, .ref u17])), (m0_, .inr (12, [.ref m0, .ref m1, .int 0, .int 0, .int 0, .int (-1), .int 0, .int 0, .int 0, .int 0, .long 0, .ref m11, .ref m12, .ref m13, .ref m14, .ref m15, .ref m16, .ref m17, .ref m18, .ref m19, .ref m20, .ref m21, .ref m22, .ref m23, .ref m24, .ref m25, .ref m26, .ref m27, .ref m28, .ref m29, .ref m30, .ref m31, .ref m32, .ref m33, .ref m34, .ref m35, .ref m36, .ref m37, .ref m38, .int 0, .int 0, .ref m41, .ref m42, .ref m43, .ref m44, .int 0, .int 0, .ref m47, .ref m48, .ref m49, .ref m50, .ref m51, .ref m52, .ref m53, .ref m54])), (m11, .inl (cI, 2, .inl (fun _ => 0)))] H := hP
  have hD : va_D A [(o0, .inr (11, [.ref o1, .int 0, .ref o2, .ref o3, .ref o4, .ref o5, .ref o6, .ref o7, .ref o8, .ref o9, .ref o10])), (o2, .inr (3, [.ref u1, .ref u2, .ref u3, .ref u4, .ref u5])), (u1, .inr (6, [.int 0, .ref u11, .ref u12, .ref u13, .ref u14, .ref u15, .ref u16, .ref u17])), (m0_, .inr (12, [.ref m0, .ref m1, .int 0, .int 0, .int 0, .int (-1), .int 0, .int 0, .int 0, .int 0, .long 0, .ref m11, .ref m12, .ref m13, .ref m14, .ref m15, .ref m16, .ref m17, .ref m18, .ref m19, .ref m20, .ref m21, .ref m22, .ref m23, .ref m24, .ref m25, .ref m26, .ref m27, .ref m28, .ref m29, .ref m30, .ref m31, .ref m32, .ref m33, .ref m34, .ref m35, .ref m36, .ref m37, .ref m38, .int 0, .int 0, .ref m41, .ref m42, .ref m43, .ref m44, .int 0, .int 0, .ref m47, .ref m48, .ref m49, .ref m50, .ref m51, .ref m52, .ref m53, .ref m54])), (m11, .inl (cI, 2, .inl (fun _ => 0)))] := hD
  subst h_4_r
  refine lv_icmp_eq (tgt := 1427) hx hb d_law_law_939 (by decide) (fun c_5 => ?_) (fun c_5 => absurd (by decide +kernel) c_5)
  exact nz_ltail C0 hXs hbl (by rw [hAe]; exact hS) hl
set_option maxHeartbeats 4000000 in
set_option maxRecDepth 100000 in
theorem nz_law_18 {p : Program} {l : Launch} {e : Env} {s : State} {m : MethodId} {below : List Frame} {meth : Method} {c : Code} {b : Nat} {xs : Nat → Int32} {H : Heap} {locs : List Loc} {ls : Array Slot} (D : va_G) (cB cI cJ : ClassId) (o0 : Nat) (o1 : Nat) (o2 : Nat) (o3 : Nat) (o4 : Nat) (o5 : Nat) (o6 : Nat) (o7 : Nat) (o8 : Nat) (o9 : Nat) (o10 : Nat) (u1 : Nat) (u2 : Nat) (u3 : Nat) (u4 : Nat) (u5 : Nat) (u11 : Nat) (u12 : Nat) (u13 : Nat) (u14 : Nat) (u15 : Nat) (u16 : Nat) (u17 : Nat) (m0_ : Nat) (m0 : Nat) (m1 : Nat) (m11 : Nat) (m12 : Nat) (m13 : Nat) (m14 : Nat) (m15 : Nat) (m16 : Nat) (m17 : Nat) (m18 : Nat) (m19 : Nat) (m20 : Nat) (m21 : Nat) (m22 : Nat) (m23 : Nat) (m24 : Nat) (m25 : Nat) (m26 : Nat) (m27 : Nat) (m28 : Nat) (m29 : Nat) (m30 : Nat) (m31 : Nat) (m32 : Nat) (m33 : Nat) (m34 : Nat) (m35 : Nat) (m36 : Nat) (m37 : Nat) (m38 : Nat) (m41 : Nat) (m42 : Nat) (m43 : Nat) (m44 : Nat) (m47 : Nat) (m48 : Nat) (m49 : Nat) (m50 : Nat) (m51 : Nat) (m52 : Nat) (m53 : Nat) (m54 : Nat) (C0 : nz_Cx p s m #[Value.ref b] meth c code 4 ret R_law D cB cI cJ) (hXs : va_X b 7 xs s s.heap) (hbl : b < s.heap.size) (hP : va_P D nz_cl [(o0, .inr (11, [.ref o1, .int 0, .ref o2, .ref o3, .ref o4, .ref o5, .ref o6, .ref o7, .ref o8, .ref o9, .ref o10])), (o2, .inr (3, [.ref u1, .ref u2, .ref u3, .ref u4, .ref u5])), (u1, .inr (6, [.int 0, .ref u11, .ref u12, .ref u13, .ref u14, .ref u15, .ref u16, .ref u17])), (m0_, .inr (12, [.ref m0, .ref m1, .int 0, .int 0, .int 0, .int (-1), .int 0, .int 0, .int 0, .int 0, .long 0, .ref m11, .ref m12, .ref m13, .ref m14, .ref m15, .ref m16, .ref m17, .ref m18, .ref m19, .ref m20, .ref m21, .ref m22, .ref m23, .ref m24, .ref m25, .ref m26, .ref m27, .ref m28, .ref m29, .ref m30, .ref m31, .ref m32, .ref m33, .ref m34, .ref m35, .ref m36, .ref m37, .ref m38, .int 0, .int 0, .ref m41, .ref m42, .ref m43, .ref m44, .int 0, .int 0, .ref m47, .ref m48, .ref m49, .ref m50, .ref m51, .ref m52, .ref m53, .ref m54])), (m11, .inl (cI, 2, .inl (fun _ => 0)))] H) (hD : va_D (fun q : Nat => s.heap.size ≤ q) [(o0, .inr (11, [.ref o1, .int 0, .ref o2, .ref o3, .ref o4, .ref o5, .ref o6, .ref o7, .ref o8, .ref o9, .ref o10])), (o2, .inr (3, [.ref u1, .ref u2, .ref u3, .ref u4, .ref u5])), (u1, .inr (6, [.int 0, .ref u11, .ref u12, .ref u13, .ref u14, .ref u15, .ref u16, .ref u17])), (m0_, .inr (12, [.ref m0, .ref m1, .int 0, .int 0, .int 0, .int (-1), .int 0, .int 0, .int 0, .int 0, .long 0, .ref m11, .ref m12, .ref m13, .ref m14, .ref m15, .ref m16, .ref m17, .ref m18, .ref m19, .ref m20, .ref m21, .ref m22, .ref m23, .ref m24, .ref m25, .ref m26, .ref m27, .ref m28, .ref m29, .ref m30, .ref m31, .ref m32, .ref m33, .ref m34, .ref m35, .ref m36, .ref m37, .ref m38, .int 0, .int 0, .ref m41, .ref m42, .ref m43, .ref m44, .int 0, .int 0, .ref m47, .ref m48, .ref m49, .ref m50, .ref m51, .ref m52, .ref m53, .ref m54])), (m11, .inl (cI, 2, .inl (fun _ => 0)))]) (hS : va_S (fun q : Nat => s.heap.size ≤ q) s.heap H locs) (hl : lv_has ls 4 [(3, .int 0), (2, .ref m0_), (1, .ref o0), (0, .ref b)]) : W p l e room_1 s m #[Value.ref b] below meth c H locs 124 7401 (lw_Z below #[Value.ref b] s) (F0 m 944 ls []) := by
  obtain ⟨hx, hb, hr, hml, hown, hts, hlk, hK⟩ := id C0
  generalize hAe : (fun q : Nat => s.heap.size ≤ q) = A at hD hS
  have hA : ∀ q : Nat, s.heap.size ≤ q → A q := fun q h => by rw [← hAe]; exact h
  have hbA : ¬ A b := by rw [← hAe]; exact Nat.not_le.mpr hbl
  refine lv_aload_n hx hb d_law_law_944 rfl (lv_at hl 2 rfl) ?_
  refine lv_aload_n hx hb d_law_law_945 rfl (lv_at hl 3 rfl) ?_
  refine lv_iload_n hx hb d_law_law_946 rfl (lv_at hl 0 rfl) ?_
  refine lv_iconst (v := 1) hx hb d_law_law_947 (by decide +kernel) ?_
  refine lv_iadd hx hb d_law_law_948 ?_
  refine nz_ctopi (v := 1) (by decide +kernel) ?_
  refine va_sld hx hb hXs hbl hbA hS (nz_vin (by decide +kernel)) d_law_law_949 ?_
  refine nz_ctopi (v := xs 1) rfl ?_
  refine lv_aload_n hx hb d_law_law_950 rfl (lv_at hl 3 rfl) ?_
  refine lv_iload_n hx hb d_law_law_951 rfl (lv_at hl 0 rfl) ?_
  refine lv_iconst (v := 2) hx hb d_law_law_952 (by decide +kernel) ?_
  refine lv_iadd hx hb d_law_law_953 ?_
  refine nz_ctopi (v := 2) (by decide +kernel) ?_
  refine va_sld hx hb hXs hbl hbA hS (nz_vin (by decide +kernel)) d_law_law_954 ?_
  refine nz_ctopi (v := xs 2) rfl ?_
  refine lv_aload_n hx hb d_law_law_955 rfl (lv_at hl 3 rfl) ?_
  refine lv_iload_n hx hb d_law_law_956 rfl (lv_at hl 0 rfl) ?_
  refine lv_iconst (v := 3) hx hb d_law_law_957 (by decide +kernel) ?_
  refine lv_iadd hx hb d_law_law_958 ?_
  refine nz_ctopi (v := 3) (by decide +kernel) ?_
  refine va_sld hx hb hXs hbl hbA hS (nz_vin (by decide +kernel)) d_law_law_959 ?_
  refine nz_ctopi (v := xs 3) rfl ?_
  refine lv_aload_n hx hb d_law_law_960 rfl (lv_at hl 3 rfl) ?_
  refine lv_iload_n hx hb d_law_law_961 rfl (lv_at hl 0 rfl) ?_
  refine lv_iconst (v := 4) hx hb d_law_law_962 (by decide +kernel) ?_
  refine lv_iadd hx hb d_law_law_963 ?_
  refine nz_ctopi (v := 4) (by decide +kernel) ?_
  refine va_sld hx hb hXs hbl hbA hS (nz_vin (by decide +kernel)) d_law_law_964 ?_
  refine nz_ctopi (v := xs 4) rfl ?_
  refine nz_calVi (As := [.int (xs 1), .int (xs 2), .int (xs 3), .int (xs 4)]) (rest := []) C0 (c_NF_renewed l D cB cI cJ o0 (xs 1) (xs 2) (xs 3) (xs 4) o1 o2 o3 o4 o5 o6 o7 o8 o9 o10 u1 u2 u3 u4 u5 u11 u12 u13 u14 u15 u16 u17) g_law_92 rfl nz_xb0 (by decide) hl.1 hP hD hS hA [0, 1, 2] [3, 4] rfl (wr := [(m0_, .inr (12, [.ref m0, .ref m1, .int 0, .int 0, .int 0, .int (-1), .int 0, .int 0, .int 0, .int 0, .long 0, .ref m11, .ref m12, .ref m13, .ref m14, .ref m15, .ref m16, .ref m17, .ref m18, .ref m19, .ref m20, .ref m21, .ref m22, .ref m23, .ref m24, .ref m25, .ref m26, .ref m27, .ref m28, .ref m29, .ref m30, .ref m31, .ref m32, .ref m33, .ref m34, .ref m35, .ref m36, .ref m37, .ref m38, .int 0, .int 0, .ref m41, .ref m42, .ref m43, .ref m44, .int 0, .int 0, .ref m47, .ref m48, .ref m49, .ref m50, .ref m51, .ref m52, .ref m53, .ref m54])), (m11, .inl (cI, 2, .inl (fun _ => 0)))]) rfl (by decide) (by decide) (by decide) rfl rfl (fun _ _ _ => trivial) rfl (Nat.le_of_ble_eq_true rfl) d_law_law_965 (by decide) (fun r_1 u H locs h_2 hP hD hS => ?_)
  obtain ⟨h_2_r, rfl⟩ := h_2
  have hP : va_P D nz_cl [(m0_, .inr (12, [.ref m0, .ref m1, .int 0, .int 0, .int 0, .int (-1), .int 0, .int 0, .int 0, .int 0, .long 0, .ref m11, .ref m12, .ref m13, .ref m14, .ref m15, .ref m16, .ref m17, .ref m18, .ref m19, .ref m20, .ref m21, .ref m22, .ref m23, .ref m24, .ref m25, .ref m26, .ref m27, .ref m28, .ref m29, .ref m30, .ref m31, .ref m32, .ref m33, .ref m34, .ref m35, .ref m36, .ref m37, .ref m38, .int 0, .int 0, .ref m41, .ref m42, .ref m43, .ref m44, .int 0, .int 0, .ref m47, .ref m48, .ref m49, .ref m50, .ref m51, .ref m52, .ref m53, .ref m54])), (m11, .inl (cI, 2, .inl (fun _ => 0))), (o0, .inr (11, [.ref o1, .int 0, .ref o2, .ref o3, .ref o4, .ref o5, .ref o6, .ref o7, .ref o8, .ref o9, .ref o10])), (o2, .inr (3, [.ref u1, .ref u2, .ref u3, .ref u4, .ref u5])), (u1, .inr (6, [.int 0, .ref u11, .ref u12, .ref u13, .ref u14, .ref u15, .ref u16, .ref u17]))] H := hP
  have hD : va_D A [(m0_, .inr (12, [.ref m0, .ref m1, .int 0, .int 0, .int 0, .int (-1), .int 0, .int 0, .int 0, .int 0, .long 0, .ref m11, .ref m12, .ref m13, .ref m14, .ref m15, .ref m16, .ref m17, .ref m18, .ref m19, .ref m20, .ref m21, .ref m22, .ref m23, .ref m24, .ref m25, .ref m26, .ref m27, .ref m28, .ref m29, .ref m30, .ref m31, .ref m32, .ref m33, .ref m34, .ref m35, .ref m36, .ref m37, .ref m38, .int 0, .int 0, .ref m41, .ref m42, .ref m43, .ref m44, .int 0, .int 0, .ref m47, .ref m48, .ref m49, .ref m50, .ref m51, .ref m52, .ref m53, .ref m54])), (m11, .inl (cI, 2, .inl (fun _ => 0))), (o0, .inr (11, [.ref o1, .int 0, .ref o2, .ref o3, .ref o4, .ref o5, .ref o6, .ref o7, .ref o8, .ref o9, .ref o10])), (o2, .inr (3, [.ref u1, .ref u2, .ref u3, .ref u4, .ref u5])), (u1, .inr (6, [.int 0, .ref u11, .ref u12, .ref u13, .ref u14, .ref u15, .ref u16, .ref u17]))] := hD
  subst h_2_r
  refine lv_aload_n hx hb d_law_law_968 rfl (lv_at hl 1 rfl) ?_
  refine lv_aload_n hx hb d_law_law_969 rfl (lv_at hl 3 rfl) ?_
  refine lv_iload_n hx hb d_law_law_970 rfl (lv_at hl 0 rfl) ?_
  refine lv_iconst (v := 1) hx hb d_law_law_971 (by decide +kernel) ?_
  refine lv_iadd hx hb d_law_law_972 ?_
  refine nz_ctopi (v := 1) (by decide +kernel) ?_
  refine va_sld hx hb hXs hbl hbA hS (nz_vin (by decide +kernel)) d_law_law_973 ?_
  refine nz_ctopi (v := xs 1) rfl ?_
  refine lv_aload_n hx hb d_law_law_974 rfl (lv_at hl 3 rfl) ?_
  refine lv_iload_n hx hb d_law_law_975 rfl (lv_at hl 0 rfl) ?_
  refine lv_iconst (v := 2) hx hb d_law_law_976 (by decide +kernel) ?_
  refine lv_iadd hx hb d_law_law_977 ?_
  refine nz_ctopi (v := 2) (by decide +kernel) ?_
  refine va_sld hx hb hXs hbl hbA hS (nz_vin (by decide +kernel)) d_law_law_978 ?_
  refine nz_ctopi (v := xs 2) rfl ?_
  refine lv_aload_n hx hb d_law_law_979 rfl (lv_at hl 3 rfl) ?_
  refine lv_iload_n hx hb d_law_law_980 rfl (lv_at hl 0 rfl) ?_
  refine lv_iconst (v := 3) hx hb d_law_law_981 (by decide +kernel) ?_
  refine lv_iadd hx hb d_law_law_982 ?_
  refine nz_ctopi (v := 3) (by decide +kernel) ?_
  refine va_sld hx hb hXs hbl hbA hS (nz_vin (by decide +kernel)) d_law_law_983 ?_
  refine nz_ctopi (v := xs 3) rfl ?_
  refine lv_aload_n hx hb d_law_law_984 rfl (lv_at hl 3 rfl) ?_
  refine lv_iload_n hx hb d_law_law_985 rfl (lv_at hl 0 rfl) ?_
  refine lv_iconst (v := 4) hx hb d_law_law_986 (by decide +kernel) ?_
  refine lv_iadd hx hb d_law_law_987 ?_
  refine nz_ctopi (v := 4) (by decide +kernel) ?_
  refine va_sld hx hb hXs hbl hbA hS (nz_vin (by decide +kernel)) d_law_law_988 ?_
  refine nz_ctopi (v := xs 4) rfl ?_
  refine nz_calVi (As := [.int (xs 1), .int (xs 2), .int (xs 3), .int (xs 4)]) (rest := [.int (-1)]) C0 (c_Mo_renewed l D cB cI cJ m0_ (xs 1) (xs 2) (xs 3) (xs 4) m0 m1 m11 m12 m13 m14 m15 m16 m17 m18 m19 m20 m21 m22 m23 m24 m25 m26 m27 m28 m29 m30 m31 m32 m33 m34 m35 m36 m37 m38 m41 m42 m43 m44 m47 m48 m49 m50 m51 m52 m53 m54) g_law_95 rfl nz_xb0 (by decide) hl.1 hP hD hS hA [0, 1] [2, 3, 4] rfl (wr := [(o0, .inr (11, [.ref o1, .int 0, .ref o2, .ref o3, .ref o4, .ref o5, .ref o6, .ref o7, .ref o8, .ref o9, .ref o10])), (o2, .inr (3, [.ref u1, .ref u2, .ref u3, .ref u4, .ref u5])), (u1, .inr (6, [.int 0, .ref u11, .ref u12, .ref u13, .ref u14, .ref u15, .ref u16, .ref u17]))]) rfl (by decide) (by decide) (by decide) rfl rfl (fun _ _ _ => trivial) rfl (Nat.le_of_ble_eq_true rfl) d_law_law_989 (by decide) (fun r_3 u H locs h_4 hP hD hS => ?_)
  obtain ⟨h_4_r, rfl⟩ := h_4
  have hP : va_P D nz_cl [(o0, .inr (11, [.ref o1, .int 0, .ref o2, .ref o3, .ref o4, .ref o5, .ref o6, .ref o7, .ref o8, .ref o9, .ref o10])), (o2, .inr (3, [.ref u1, .ref u2, .ref u3, .ref u4, .ref u5])), (u1, .inr (6, [.int 0, .ref u11, .ref u12, .ref u13, .ref u14, .ref u15, .ref u16, .ref u17])), (m0_, .inr (12, [.ref m0, .ref m1, .int 0, .int 0, .int 0, .int (-1), .int 0, .int 0, .int 0, .int 0, .long 0, .ref m11, .ref m12, .ref m13, .ref m14, .ref m15, .ref m16, .ref m17, .ref m18, .ref m19, .ref m20, .ref m21, .ref m22, .ref m23, .ref m24, .ref m25, .ref m26, .ref m27, .ref m28, .ref m29, .ref m30, .ref m31, .ref m32, .ref m33, .ref m34, .ref m35, .ref m36, .ref m37, .ref m38, .int 0, .int 0, .ref m41, .ref m42, .ref m43, .ref m44, .int 0, .int 0, .ref m47, .ref m48, .ref m49, .ref m50, .ref m51, .ref m52, .ref m53, .ref m54])), (m11, .inl (cI, 2, .inl (fun _ => 0)))] H := hP
  have hD : va_D A [(o0, .inr (11, [.ref o1, .int 0, .ref o2, .ref o3, .ref o4, .ref o5, .ref o6, .ref o7, .ref o8, .ref o9, .ref o10])), (o2, .inr (3, [.ref u1, .ref u2, .ref u3, .ref u4, .ref u5])), (u1, .inr (6, [.int 0, .ref u11, .ref u12, .ref u13, .ref u14, .ref u15, .ref u16, .ref u17])), (m0_, .inr (12, [.ref m0, .ref m1, .int 0, .int 0, .int 0, .int (-1), .int 0, .int 0, .int 0, .int 0, .long 0, .ref m11, .ref m12, .ref m13, .ref m14, .ref m15, .ref m16, .ref m17, .ref m18, .ref m19, .ref m20, .ref m21, .ref m22, .ref m23, .ref m24, .ref m25, .ref m26, .ref m27, .ref m28, .ref m29, .ref m30, .ref m31, .ref m32, .ref m33, .ref m34, .ref m35, .ref m36, .ref m37, .ref m38, .int 0, .int 0, .ref m41, .ref m42, .ref m43, .ref m44, .int 0, .int 0, .ref m47, .ref m48, .ref m49, .ref m50, .ref m51, .ref m52, .ref m53, .ref m54])), (m11, .inl (cI, 2, .inl (fun _ => 0)))] := hD
  subst h_4_r
  refine lv_icmp_eq (tgt := 1427) hx hb d_law_law_992 (by decide) (fun c_5 => ?_) (fun c_5 => absurd (by decide +kernel) c_5)
  exact nz_ltail C0 hXs hbl (by rw [hAe]; exact hS) hl
set_option maxHeartbeats 4000000 in
set_option maxRecDepth 100000 in
theorem nz_law_19 {p : Program} {l : Launch} {e : Env} {s : State} {m : MethodId} {below : List Frame} {meth : Method} {c : Code} {b : Nat} {xs : Nat → Int32} {H : Heap} {locs : List Loc} {ls : Array Slot} (D : va_G) (cB cI cJ : ClassId) (o0 : Nat) (o1 : Nat) (o2 : Nat) (o3 : Nat) (o4 : Nat) (o5 : Nat) (o6 : Nat) (o7 : Nat) (o8 : Nat) (o9 : Nat) (o10 : Nat) (u1 : Nat) (u2 : Nat) (u3 : Nat) (u4 : Nat) (u5 : Nat) (u21 : Nat) (u22 : Nat) (u23 : Nat) (u24 : Nat) (m0_ : Nat) (m0 : Nat) (m1 : Nat) (m11 : Nat) (m12 : Nat) (m13 : Nat) (m14 : Nat) (m15 : Nat) (m16 : Nat) (m17 : Nat) (m18 : Nat) (m19 : Nat) (m20 : Nat) (m21 : Nat) (m22 : Nat) (m23 : Nat) (m24 : Nat) (m25 : Nat) (m26 : Nat) (m27 : Nat) (m28 : Nat) (m29 : Nat) (m30 : Nat) (m31 : Nat) (m32 : Nat) (m33 : Nat) (m34 : Nat) (m35 : Nat) (m36 : Nat) (m37 : Nat) (m38 : Nat) (m41 : Nat) (m42 : Nat) (m43 : Nat) (m44 : Nat) (m47 : Nat) (m48 : Nat) (m49 : Nat) (m50 : Nat) (m51 : Nat) (m52 : Nat) (m53 : Nat) (m54 : Nat) (C0 : nz_Cx p s m #[Value.ref b] meth c code 4 ret R_law D cB cI cJ) (hXs : va_X b 7 xs s s.heap) (hbl : b < s.heap.size) (hP : va_P D nz_cl [(o0, .inr (11, [.ref o1, .int 0, .ref o2, .ref o3, .ref o4, .ref o5, .ref o6, .ref o7, .ref o8, .ref o9, .ref o10])), (o2, .inr (3, [.ref u1, .ref u2, .ref u3, .ref u4, .ref u5])), (u2, .inr (4, [.int 0, .ref u21, .int 0, .ref u22, .ref u23, .ref u24])), (m0_, .inr (12, [.ref m0, .ref m1, .int 0, .int 0, .int 0, .int (-1), .int 0, .int 0, .int 0, .int 0, .long 0, .ref m11, .ref m12, .ref m13, .ref m14, .ref m15, .ref m16, .ref m17, .ref m18, .ref m19, .ref m20, .ref m21, .ref m22, .ref m23, .ref m24, .ref m25, .ref m26, .ref m27, .ref m28, .ref m29, .ref m30, .ref m31, .ref m32, .ref m33, .ref m34, .ref m35, .ref m36, .ref m37, .ref m38, .int 0, .int 0, .ref m41, .ref m42, .ref m43, .ref m44, .int 0, .int 0, .ref m47, .ref m48, .ref m49, .ref m50, .ref m51, .ref m52, .ref m53, .ref m54])), (m12, .inl (cI, 2, .inl (fun _ => 0)))] H) (hD : va_D (fun q : Nat => s.heap.size ≤ q) [(o0, .inr (11, [.ref o1, .int 0, .ref o2, .ref o3, .ref o4, .ref o5, .ref o6, .ref o7, .ref o8, .ref o9, .ref o10])), (o2, .inr (3, [.ref u1, .ref u2, .ref u3, .ref u4, .ref u5])), (u2, .inr (4, [.int 0, .ref u21, .int 0, .ref u22, .ref u23, .ref u24])), (m0_, .inr (12, [.ref m0, .ref m1, .int 0, .int 0, .int 0, .int (-1), .int 0, .int 0, .int 0, .int 0, .long 0, .ref m11, .ref m12, .ref m13, .ref m14, .ref m15, .ref m16, .ref m17, .ref m18, .ref m19, .ref m20, .ref m21, .ref m22, .ref m23, .ref m24, .ref m25, .ref m26, .ref m27, .ref m28, .ref m29, .ref m30, .ref m31, .ref m32, .ref m33, .ref m34, .ref m35, .ref m36, .ref m37, .ref m38, .int 0, .int 0, .ref m41, .ref m42, .ref m43, .ref m44, .int 0, .int 0, .ref m47, .ref m48, .ref m49, .ref m50, .ref m51, .ref m52, .ref m53, .ref m54])), (m12, .inl (cI, 2, .inl (fun _ => 0)))]) (hS : va_S (fun q : Nat => s.heap.size ≤ q) s.heap H locs) (hl : lv_has ls 4 [(3, .int 0), (2, .ref m0_), (1, .ref o0), (0, .ref b)]) : W p l e room_1 s m #[Value.ref b] below meth c H locs 124 7401 (lw_Z below #[Value.ref b] s) (F0 m 997 ls []) := by
  obtain ⟨hx, hb, hr, hml, hown, hts, hlk, hK⟩ := id C0
  generalize hAe : (fun q : Nat => s.heap.size ≤ q) = A at hD hS
  have hA : ∀ q : Nat, s.heap.size ≤ q → A q := fun q h => by rw [← hAe]; exact h
  have hbA : ¬ A b := by rw [← hAe]; exact Nat.not_le.mpr hbl
  refine lv_aload_n hx hb d_law_law_997 rfl (lv_at hl 2 rfl) ?_
  refine lv_aload_n hx hb d_law_law_998 rfl (lv_at hl 3 rfl) ?_
  refine lv_iload_n hx hb d_law_law_999 rfl (lv_at hl 0 rfl) ?_
  refine lv_iconst (v := 1) hx hb d_law_law_1000 (by decide +kernel) ?_
  refine lv_iadd hx hb d_law_law_1001 ?_
  refine nz_ctopi (v := 1) (by decide +kernel) ?_
  refine va_sld hx hb hXs hbl hbA hS (nz_vin (by decide +kernel)) d_law_law_1002 ?_
  refine nz_ctopi (v := xs 1) rfl ?_
  refine lv_aload_n hx hb d_law_law_1003 rfl (lv_at hl 3 rfl) ?_
  refine lv_iload_n hx hb d_law_law_1004 rfl (lv_at hl 0 rfl) ?_
  refine lv_iconst (v := 2) hx hb d_law_law_1005 (by decide +kernel) ?_
  refine lv_iadd hx hb d_law_law_1006 ?_
  refine nz_ctopi (v := 2) (by decide +kernel) ?_
  refine va_sld hx hb hXs hbl hbA hS (nz_vin (by decide +kernel)) d_law_law_1007 ?_
  refine nz_ctopi (v := xs 2) rfl ?_
  refine lv_aload_n hx hb d_law_law_1008 rfl (lv_at hl 3 rfl) ?_
  refine lv_iload_n hx hb d_law_law_1009 rfl (lv_at hl 0 rfl) ?_
  refine lv_iconst (v := 3) hx hb d_law_law_1010 (by decide +kernel) ?_
  refine lv_iadd hx hb d_law_law_1011 ?_
  refine nz_ctopi (v := 3) (by decide +kernel) ?_
  refine va_sld hx hb hXs hbl hbA hS (nz_vin (by decide +kernel)) d_law_law_1012 ?_
  refine nz_ctopi (v := xs 3) rfl ?_
  refine lv_aload_n hx hb d_law_law_1013 rfl (lv_at hl 3 rfl) ?_
  refine lv_iload_n hx hb d_law_law_1014 rfl (lv_at hl 0 rfl) ?_
  refine lv_iconst (v := 4) hx hb d_law_law_1015 (by decide +kernel) ?_
  refine lv_iadd hx hb d_law_law_1016 ?_
  refine nz_ctopi (v := 4) (by decide +kernel) ?_
  refine va_sld hx hb hXs hbl hbA hS (nz_vin (by decide +kernel)) d_law_law_1017 ?_
  refine nz_ctopi (v := xs 4) rfl ?_
  refine lv_aload_n hx hb d_law_law_1018 rfl (lv_at hl 3 rfl) ?_
  refine lv_iload_n hx hb d_law_law_1019 rfl (lv_at hl 0 rfl) ?_
  refine lv_iconst (v := 5) hx hb d_law_law_1020 (by decide +kernel) ?_
  refine lv_iadd hx hb d_law_law_1021 ?_
  refine nz_ctopi (v := 5) (by decide +kernel) ?_
  refine va_sld hx hb hXs hbl hbA hS (nz_vin (by decide +kernel)) d_law_law_1022 ?_
  refine nz_ctopi (v := xs 5) rfl ?_
  refine nz_calVi (As := [.int (xs 1), .int (xs 2), .int (xs 3), .int (xs 4), .int (xs 5)]) (rest := []) C0 (c_NF_tell l D cB cI cJ o0 (xs 1) (xs 2) (xs 3) (xs 4) (xs 5) o1 o2 o3 o4 o5 o6 o7 o8 o9 o10 u1 u2 u3 u4 u5 u21 u22 u23 u24) g_law_96 rfl nz_xb0 (by decide) hl.1 hP hD hS hA [0, 1, 2] [3, 4] rfl (wr := [(m0_, .inr (12, [.ref m0, .ref m1, .int 0, .int 0, .int 0, .int (-1), .int 0, .int 0, .int 0, .int 0, .long 0, .ref m11, .ref m12, .ref m13, .ref m14, .ref m15, .ref m16, .ref m17, .ref m18, .ref m19, .ref m20, .ref m21, .ref m22, .ref m23, .ref m24, .ref m25, .ref m26, .ref m27, .ref m28, .ref m29, .ref m30, .ref m31, .ref m32, .ref m33, .ref m34, .ref m35, .ref m36, .ref m37, .ref m38, .int 0, .int 0, .ref m41, .ref m42, .ref m43, .ref m44, .int 0, .int 0, .ref m47, .ref m48, .ref m49, .ref m50, .ref m51, .ref m52, .ref m53, .ref m54])), (m12, .inl (cI, 2, .inl (fun _ => 0)))]) rfl (by decide) (by decide) (by decide) rfl rfl (fun _ _ _ => trivial) rfl (Nat.le_of_ble_eq_true rfl) d_law_law_1023 (by decide) (fun r_1 u H locs h_2 hP hD hS => ?_)
  obtain ⟨h_2_r, rfl⟩ := h_2
  have hP : va_P D nz_cl [(m0_, .inr (12, [.ref m0, .ref m1, .int 0, .int 0, .int 0, .int (-1), .int 0, .int 0, .int 0, .int 0, .long 0, .ref m11, .ref m12, .ref m13, .ref m14, .ref m15, .ref m16, .ref m17, .ref m18, .ref m19, .ref m20, .ref m21, .ref m22, .ref m23, .ref m24, .ref m25, .ref m26, .ref m27, .ref m28, .ref m29, .ref m30, .ref m31, .ref m32, .ref m33, .ref m34, .ref m35, .ref m36, .ref m37, .ref m38, .int 0, .int 0, .ref m41, .ref m42, .ref m43, .ref m44, .int 0, .int 0, .ref m47, .ref m48, .ref m49, .ref m50, .ref m51, .ref m52, .ref m53, .ref m54])), (m12, .inl (cI, 2, .inl (fun _ => 0))), (o0, .inr (11, [.ref o1, .int 0, .ref o2, .ref o3, .ref o4, .ref o5, .ref o6, .ref o7, .ref o8, .ref o9, .ref o10])), (o2, .inr (3, [.ref u1, .ref u2, .ref u3, .ref u4, .ref u5])), (u2, .inr (4, [.int 0, .ref u21, .int 0, .ref u22, .ref u23, .ref u24]))] H := hP
  have hD : va_D A [(m0_, .inr (12, [.ref m0, .ref m1, .int 0, .int 0, .int 0, .int (-1), .int 0, .int 0, .int 0, .int 0, .long 0, .ref m11, .ref m12, .ref m13, .ref m14, .ref m15, .ref m16, .ref m17, .ref m18, .ref m19, .ref m20, .ref m21, .ref m22, .ref m23, .ref m24, .ref m25, .ref m26, .ref m27, .ref m28, .ref m29, .ref m30, .ref m31, .ref m32, .ref m33, .ref m34, .ref m35, .ref m36, .ref m37, .ref m38, .int 0, .int 0, .ref m41, .ref m42, .ref m43, .ref m44, .int 0, .int 0, .ref m47, .ref m48, .ref m49, .ref m50, .ref m51, .ref m52, .ref m53, .ref m54])), (m12, .inl (cI, 2, .inl (fun _ => 0))), (o0, .inr (11, [.ref o1, .int 0, .ref o2, .ref o3, .ref o4, .ref o5, .ref o6, .ref o7, .ref o8, .ref o9, .ref o10])), (o2, .inr (3, [.ref u1, .ref u2, .ref u3, .ref u4, .ref u5])), (u2, .inr (4, [.int 0, .ref u21, .int 0, .ref u22, .ref u23, .ref u24]))] := hD
  subst h_2_r
  refine lv_aload_n hx hb d_law_law_1026 rfl (lv_at hl 1 rfl) ?_
  refine lv_aload_n hx hb d_law_law_1027 rfl (lv_at hl 3 rfl) ?_
  refine lv_iload_n hx hb d_law_law_1028 rfl (lv_at hl 0 rfl) ?_
  refine lv_iconst (v := 1) hx hb d_law_law_1029 (by decide +kernel) ?_
  refine lv_iadd hx hb d_law_law_1030 ?_
  refine nz_ctopi (v := 1) (by decide +kernel) ?_
  refine va_sld hx hb hXs hbl hbA hS (nz_vin (by decide +kernel)) d_law_law_1031 ?_
  refine nz_ctopi (v := xs 1) rfl ?_
  refine lv_aload_n hx hb d_law_law_1032 rfl (lv_at hl 3 rfl) ?_
  refine lv_iload_n hx hb d_law_law_1033 rfl (lv_at hl 0 rfl) ?_
  refine lv_iconst (v := 2) hx hb d_law_law_1034 (by decide +kernel) ?_
  refine lv_iadd hx hb d_law_law_1035 ?_
  refine nz_ctopi (v := 2) (by decide +kernel) ?_
  refine va_sld hx hb hXs hbl hbA hS (nz_vin (by decide +kernel)) d_law_law_1036 ?_
  refine nz_ctopi (v := xs 2) rfl ?_
  refine lv_aload_n hx hb d_law_law_1037 rfl (lv_at hl 3 rfl) ?_
  refine lv_iload_n hx hb d_law_law_1038 rfl (lv_at hl 0 rfl) ?_
  refine lv_iconst (v := 3) hx hb d_law_law_1039 (by decide +kernel) ?_
  refine lv_iadd hx hb d_law_law_1040 ?_
  refine nz_ctopi (v := 3) (by decide +kernel) ?_
  refine va_sld hx hb hXs hbl hbA hS (nz_vin (by decide +kernel)) d_law_law_1041 ?_
  refine nz_ctopi (v := xs 3) rfl ?_
  refine lv_aload_n hx hb d_law_law_1042 rfl (lv_at hl 3 rfl) ?_
  refine lv_iload_n hx hb d_law_law_1043 rfl (lv_at hl 0 rfl) ?_
  refine lv_iconst (v := 4) hx hb d_law_law_1044 (by decide +kernel) ?_
  refine lv_iadd hx hb d_law_law_1045 ?_
  refine nz_ctopi (v := 4) (by decide +kernel) ?_
  refine va_sld hx hb hXs hbl hbA hS (nz_vin (by decide +kernel)) d_law_law_1046 ?_
  refine nz_ctopi (v := xs 4) rfl ?_
  refine lv_aload_n hx hb d_law_law_1047 rfl (lv_at hl 3 rfl) ?_
  refine lv_iload_n hx hb d_law_law_1048 rfl (lv_at hl 0 rfl) ?_
  refine lv_iconst (v := 5) hx hb d_law_law_1049 (by decide +kernel) ?_
  refine lv_iadd hx hb d_law_law_1050 ?_
  refine nz_ctopi (v := 5) (by decide +kernel) ?_
  refine va_sld hx hb hXs hbl hbA hS (nz_vin (by decide +kernel)) d_law_law_1051 ?_
  refine nz_ctopi (v := xs 5) rfl ?_
  refine nz_calVi (As := [.int (xs 1), .int (xs 2), .int (xs 3), .int (xs 4), .int (xs 5)]) (rest := [.int (-1)]) C0 (c_Mo_tell l D cB cI cJ m0_ (xs 1) (xs 2) (xs 3) (xs 4) (xs 5) m0 m1 m11 m12 m13 m14 m15 m16 m17 m18 m19 m20 m21 m22 m23 m24 m25 m26 m27 m28 m29 m30 m31 m32 m33 m34 m35 m36 m37 m38 m41 m42 m43 m44 m47 m48 m49 m50 m51 m52 m53 m54) g_law_99 rfl nz_xb0 (by decide) hl.1 hP hD hS hA [0, 1] [2, 3, 4] rfl (wr := [(o0, .inr (11, [.ref o1, .int 0, .ref o2, .ref o3, .ref o4, .ref o5, .ref o6, .ref o7, .ref o8, .ref o9, .ref o10])), (o2, .inr (3, [.ref u1, .ref u2, .ref u3, .ref u4, .ref u5])), (u2, .inr (4, [.int 0, .ref u21, .int 0, .ref u22, .ref u23, .ref u24]))]) rfl (by decide) (by decide) (by decide) rfl rfl (fun _ _ _ => trivial) rfl (Nat.le_of_ble_eq_true rfl) d_law_law_1052 (by decide) (fun r_3 u H locs h_4 hP hD hS => ?_)
  obtain ⟨h_4_r, rfl⟩ := h_4
  have hP : va_P D nz_cl [(o0, .inr (11, [.ref o1, .int 0, .ref o2, .ref o3, .ref o4, .ref o5, .ref o6, .ref o7, .ref o8, .ref o9, .ref o10])), (o2, .inr (3, [.ref u1, .ref u2, .ref u3, .ref u4, .ref u5])), (u2, .inr (4, [.int 0, .ref u21, .int 0, .ref u22, .ref u23, .ref u24])), (m0_, .inr (12, [.ref m0, .ref m1, .int 0, .int 0, .int 0, .int (-1), .int 0, .int 0, .int 0, .int 0, .long 0, .ref m11, .ref m12, .ref m13, .ref m14, .ref m15, .ref m16, .ref m17, .ref m18, .ref m19, .ref m20, .ref m21, .ref m22, .ref m23, .ref m24, .ref m25, .ref m26, .ref m27, .ref m28, .ref m29, .ref m30, .ref m31, .ref m32, .ref m33, .ref m34, .ref m35, .ref m36, .ref m37, .ref m38, .int 0, .int 0, .ref m41, .ref m42, .ref m43, .ref m44, .int 0, .int 0, .ref m47, .ref m48, .ref m49, .ref m50, .ref m51, .ref m52, .ref m53, .ref m54])), (m12, .inl (cI, 2, .inl (fun _ => 0)))] H := hP
  have hD : va_D A [(o0, .inr (11, [.ref o1, .int 0, .ref o2, .ref o3, .ref o4, .ref o5, .ref o6, .ref o7, .ref o8, .ref o9, .ref o10])), (o2, .inr (3, [.ref u1, .ref u2, .ref u3, .ref u4, .ref u5])), (u2, .inr (4, [.int 0, .ref u21, .int 0, .ref u22, .ref u23, .ref u24])), (m0_, .inr (12, [.ref m0, .ref m1, .int 0, .int 0, .int 0, .int (-1), .int 0, .int 0, .int 0, .int 0, .long 0, .ref m11, .ref m12, .ref m13, .ref m14, .ref m15, .ref m16, .ref m17, .ref m18, .ref m19, .ref m20, .ref m21, .ref m22, .ref m23, .ref m24, .ref m25, .ref m26, .ref m27, .ref m28, .ref m29, .ref m30, .ref m31, .ref m32, .ref m33, .ref m34, .ref m35, .ref m36, .ref m37, .ref m38, .int 0, .int 0, .ref m41, .ref m42, .ref m43, .ref m44, .int 0, .int 0, .ref m47, .ref m48, .ref m49, .ref m50, .ref m51, .ref m52, .ref m53, .ref m54])), (m12, .inl (cI, 2, .inl (fun _ => 0)))] := hD
  subst h_4_r
  refine lv_icmp_eq (tgt := 1427) hx hb d_law_law_1055 (by decide) (fun c_5 => ?_) (fun c_5 => absurd (by decide +kernel) c_5)
  exact nz_ltail C0 hXs hbl (by rw [hAe]; exact hS) hl
set_option maxHeartbeats 4000000 in
set_option maxRecDepth 100000 in
theorem nz_law_20 {p : Program} {l : Launch} {e : Env} {s : State} {m : MethodId} {below : List Frame} {meth : Method} {c : Code} {b : Nat} {xs : Nat → Int32} {H : Heap} {locs : List Loc} {ls : Array Slot} (D : va_G) (cB cI cJ : ClassId) (o0 : Nat) (o1 : Nat) (o2 : Nat) (o3 : Nat) (o4 : Nat) (o5 : Nat) (o6 : Nat) (o7 : Nat) (o8 : Nat) (o9 : Nat) (o10 : Nat) (u1 : Nat) (u2 : Nat) (u3 : Nat) (u4 : Nat) (u5 : Nat) (u21 : Nat) (u22 : Nat) (u23 : Nat) (u24 : Nat) (m0_ : Nat) (m0 : Nat) (m1 : Nat) (m11 : Nat) (m12 : Nat) (m13 : Nat) (m14 : Nat) (m15 : Nat) (m16 : Nat) (m17 : Nat) (m18 : Nat) (m19 : Nat) (m20 : Nat) (m21 : Nat) (m22 : Nat) (m23 : Nat) (m24 : Nat) (m25 : Nat) (m26 : Nat) (m27 : Nat) (m28 : Nat) (m29 : Nat) (m30 : Nat) (m31 : Nat) (m32 : Nat) (m33 : Nat) (m34 : Nat) (m35 : Nat) (m36 : Nat) (m37 : Nat) (m38 : Nat) (m41 : Nat) (m42 : Nat) (m43 : Nat) (m44 : Nat) (m47 : Nat) (m48 : Nat) (m49 : Nat) (m50 : Nat) (m51 : Nat) (m52 : Nat) (m53 : Nat) (m54 : Nat) (C0 : nz_Cx p s m #[Value.ref b] meth c code 4 ret R_law D cB cI cJ) (hXs : va_X b 7 xs s s.heap) (hbl : b < s.heap.size) (hP : va_P D nz_cl [(o0, .inr (11, [.ref o1, .int 0, .ref o2, .ref o3, .ref o4, .ref o5, .ref o6, .ref o7, .ref o8, .ref o9, .ref o10])), (o2, .inr (3, [.ref u1, .ref u2, .ref u3, .ref u4, .ref u5])), (u2, .inr (4, [.int 0, .ref u21, .int 0, .ref u22, .ref u23, .ref u24])), (m0_, .inr (12, [.ref m0, .ref m1, .int 0, .int 0, .int 0, .int (-1), .int 0, .int 0, .int 0, .int 0, .long 0, .ref m11, .ref m12, .ref m13, .ref m14, .ref m15, .ref m16, .ref m17, .ref m18, .ref m19, .ref m20, .ref m21, .ref m22, .ref m23, .ref m24, .ref m25, .ref m26, .ref m27, .ref m28, .ref m29, .ref m30, .ref m31, .ref m32, .ref m33, .ref m34, .ref m35, .ref m36, .ref m37, .ref m38, .int 0, .int 0, .ref m41, .ref m42, .ref m43, .ref m44, .int 0, .int 0, .ref m47, .ref m48, .ref m49, .ref m50, .ref m51, .ref m52, .ref m53, .ref m54])), (m12, .inl (cI, 2, .inl (fun _ => 0)))] H) (hD : va_D (fun q : Nat => s.heap.size ≤ q) [(o0, .inr (11, [.ref o1, .int 0, .ref o2, .ref o3, .ref o4, .ref o5, .ref o6, .ref o7, .ref o8, .ref o9, .ref o10])), (o2, .inr (3, [.ref u1, .ref u2, .ref u3, .ref u4, .ref u5])), (u2, .inr (4, [.int 0, .ref u21, .int 0, .ref u22, .ref u23, .ref u24])), (m0_, .inr (12, [.ref m0, .ref m1, .int 0, .int 0, .int 0, .int (-1), .int 0, .int 0, .int 0, .int 0, .long 0, .ref m11, .ref m12, .ref m13, .ref m14, .ref m15, .ref m16, .ref m17, .ref m18, .ref m19, .ref m20, .ref m21, .ref m22, .ref m23, .ref m24, .ref m25, .ref m26, .ref m27, .ref m28, .ref m29, .ref m30, .ref m31, .ref m32, .ref m33, .ref m34, .ref m35, .ref m36, .ref m37, .ref m38, .int 0, .int 0, .ref m41, .ref m42, .ref m43, .ref m44, .int 0, .int 0, .ref m47, .ref m48, .ref m49, .ref m50, .ref m51, .ref m52, .ref m53, .ref m54])), (m12, .inl (cI, 2, .inl (fun _ => 0)))]) (hS : va_S (fun q : Nat => s.heap.size ≤ q) s.heap H locs) (hl : lv_has ls 4 [(3, .int 0), (2, .ref m0_), (1, .ref o0), (0, .ref b)]) : W p l e room_1 s m #[Value.ref b] below meth c H locs 124 7401 (lw_Z below #[Value.ref b] s) (F0 m 1060 ls []) := by
  obtain ⟨hx, hb, hr, hml, hown, hts, hlk, hK⟩ := id C0
  generalize hAe : (fun q : Nat => s.heap.size ≤ q) = A at hD hS
  have hA : ∀ q : Nat, s.heap.size ≤ q → A q := fun q h => by rw [← hAe]; exact h
  have hbA : ¬ A b := by rw [← hAe]; exact Nat.not_le.mpr hbl
  refine lv_aload_n hx hb d_law_law_1060 rfl (lv_at hl 2 rfl) ?_
  refine lv_aload_n hx hb d_law_law_1061 rfl (lv_at hl 3 rfl) ?_
  refine lv_iload_n hx hb d_law_law_1062 rfl (lv_at hl 0 rfl) ?_
  refine lv_iconst (v := 1) hx hb d_law_law_1063 (by decide +kernel) ?_
  refine lv_iadd hx hb d_law_law_1064 ?_
  refine nz_ctopi (v := 1) (by decide +kernel) ?_
  refine va_sld hx hb hXs hbl hbA hS (nz_vin (by decide +kernel)) d_law_law_1065 ?_
  refine nz_ctopi (v := xs 1) rfl ?_
  refine lv_aload_n hx hb d_law_law_1066 rfl (lv_at hl 3 rfl) ?_
  refine lv_iload_n hx hb d_law_law_1067 rfl (lv_at hl 0 rfl) ?_
  refine lv_iconst (v := 2) hx hb d_law_law_1068 (by decide +kernel) ?_
  refine lv_iadd hx hb d_law_law_1069 ?_
  refine nz_ctopi (v := 2) (by decide +kernel) ?_
  refine va_sld hx hb hXs hbl hbA hS (nz_vin (by decide +kernel)) d_law_law_1070 ?_
  refine nz_ctopi (v := xs 2) rfl ?_
  refine lv_aload_n hx hb d_law_law_1071 rfl (lv_at hl 3 rfl) ?_
  refine lv_iload_n hx hb d_law_law_1072 rfl (lv_at hl 0 rfl) ?_
  refine lv_iconst (v := 3) hx hb d_law_law_1073 (by decide +kernel) ?_
  refine lv_iadd hx hb d_law_law_1074 ?_
  refine nz_ctopi (v := 3) (by decide +kernel) ?_
  refine va_sld hx hb hXs hbl hbA hS (nz_vin (by decide +kernel)) d_law_law_1075 ?_
  refine nz_ctopi (v := xs 3) rfl ?_
  refine lv_aload_n hx hb d_law_law_1076 rfl (lv_at hl 3 rfl) ?_
  refine lv_iload_n hx hb d_law_law_1077 rfl (lv_at hl 0 rfl) ?_
  refine lv_iconst (v := 4) hx hb d_law_law_1078 (by decide +kernel) ?_
  refine lv_iadd hx hb d_law_law_1079 ?_
  refine nz_ctopi (v := 4) (by decide +kernel) ?_
  refine va_sld hx hb hXs hbl hbA hS (nz_vin (by decide +kernel)) d_law_law_1080 ?_
  refine nz_ctopi (v := xs 4) rfl ?_
  refine lv_aload_n hx hb d_law_law_1081 rfl (lv_at hl 3 rfl) ?_
  refine lv_iload_n hx hb d_law_law_1082 rfl (lv_at hl 0 rfl) ?_
  refine lv_iconst (v := 5) hx hb d_law_law_1083 (by decide +kernel) ?_
  refine lv_iadd hx hb d_law_law_1084 ?_
  refine nz_ctopi (v := 5) (by decide +kernel) ?_
  refine va_sld hx hb hXs hbl hbA hS (nz_vin (by decide +kernel)) d_law_law_1085 ?_
  refine nz_ctopi (v := xs 5) rfl ?_
  refine lv_aload_n hx hb d_law_law_1086 rfl (lv_at hl 3 rfl) ?_
  refine lv_iload_n hx hb d_law_law_1087 rfl (lv_at hl 0 rfl) ?_
  refine lv_bipush (v := 6) hx hb d_law_law_1088 (by decide +kernel) ?_
  refine lv_iadd hx hb d_law_law_1090 ?_
  refine nz_ctopi (v := 6) (by decide +kernel) ?_
  refine va_sld hx hb hXs hbl hbA hS (nz_vin (by decide +kernel)) d_law_law_1091 ?_
  refine nz_ctopi (v := xs 6) rfl ?_
  refine nz_calVi (As := [.int (xs 1), .int (xs 2), .int (xs 3), .int (xs 4), .int (xs 5), .int (xs 6)]) (rest := []) C0 (c_NF_told l D cB cI cJ o0 (xs 1) (xs 2) (xs 3) (xs 4) (xs 5) (xs 6) o1 o2 o3 o4 o5 o6 o7 o8 o9 o10 u1 u2 u3 u4 u5 u21 u22 u23 u24) g_law_100 rfl nz_xb0 (by decide) hl.1 hP hD hS hA [0, 1, 2] [3, 4] rfl (wr := [(m0_, .inr (12, [.ref m0, .ref m1, .int 0, .int 0, .int 0, .int (-1), .int 0, .int 0, .int 0, .int 0, .long 0, .ref m11, .ref m12, .ref m13, .ref m14, .ref m15, .ref m16, .ref m17, .ref m18, .ref m19, .ref m20, .ref m21, .ref m22, .ref m23, .ref m24, .ref m25, .ref m26, .ref m27, .ref m28, .ref m29, .ref m30, .ref m31, .ref m32, .ref m33, .ref m34, .ref m35, .ref m36, .ref m37, .ref m38, .int 0, .int 0, .ref m41, .ref m42, .ref m43, .ref m44, .int 0, .int 0, .ref m47, .ref m48, .ref m49, .ref m50, .ref m51, .ref m52, .ref m53, .ref m54])), (m12, .inl (cI, 2, .inl (fun _ => 0)))]) rfl (by decide) (by decide) (by decide) rfl rfl (fun _ _ _ => trivial) rfl (Nat.le_of_ble_eq_true rfl) d_law_law_1092 (by decide) (fun r_1 u H locs h_2 hP hD hS => ?_)
  obtain ⟨h_2_r, rfl⟩ := h_2
  have hP : va_P D nz_cl [(m0_, .inr (12, [.ref m0, .ref m1, .int 0, .int 0, .int 0, .int (-1), .int 0, .int 0, .int 0, .int 0, .long 0, .ref m11, .ref m12, .ref m13, .ref m14, .ref m15, .ref m16, .ref m17, .ref m18, .ref m19, .ref m20, .ref m21, .ref m22, .ref m23, .ref m24, .ref m25, .ref m26, .ref m27, .ref m28, .ref m29, .ref m30, .ref m31, .ref m32, .ref m33, .ref m34, .ref m35, .ref m36, .ref m37, .ref m38, .int 0, .int 0, .ref m41, .ref m42, .ref m43, .ref m44, .int 0, .int 0, .ref m47, .ref m48, .ref m49, .ref m50, .ref m51, .ref m52, .ref m53, .ref m54])), (m12, .inl (cI, 2, .inl (fun _ => 0))), (o0, .inr (11, [.ref o1, .int 0, .ref o2, .ref o3, .ref o4, .ref o5, .ref o6, .ref o7, .ref o8, .ref o9, .ref o10])), (o2, .inr (3, [.ref u1, .ref u2, .ref u3, .ref u4, .ref u5])), (u2, .inr (4, [.int 0, .ref u21, .int 0, .ref u22, .ref u23, .ref u24]))] H := hP
  have hD : va_D A [(m0_, .inr (12, [.ref m0, .ref m1, .int 0, .int 0, .int 0, .int (-1), .int 0, .int 0, .int 0, .int 0, .long 0, .ref m11, .ref m12, .ref m13, .ref m14, .ref m15, .ref m16, .ref m17, .ref m18, .ref m19, .ref m20, .ref m21, .ref m22, .ref m23, .ref m24, .ref m25, .ref m26, .ref m27, .ref m28, .ref m29, .ref m30, .ref m31, .ref m32, .ref m33, .ref m34, .ref m35, .ref m36, .ref m37, .ref m38, .int 0, .int 0, .ref m41, .ref m42, .ref m43, .ref m44, .int 0, .int 0, .ref m47, .ref m48, .ref m49, .ref m50, .ref m51, .ref m52, .ref m53, .ref m54])), (m12, .inl (cI, 2, .inl (fun _ => 0))), (o0, .inr (11, [.ref o1, .int 0, .ref o2, .ref o3, .ref o4, .ref o5, .ref o6, .ref o7, .ref o8, .ref o9, .ref o10])), (o2, .inr (3, [.ref u1, .ref u2, .ref u3, .ref u4, .ref u5])), (u2, .inr (4, [.int 0, .ref u21, .int 0, .ref u22, .ref u23, .ref u24]))] := hD
  subst h_2_r
  refine lv_aload_n hx hb d_law_law_1095 rfl (lv_at hl 1 rfl) ?_
  refine lv_aload_n hx hb d_law_law_1096 rfl (lv_at hl 3 rfl) ?_
  refine lv_iload_n hx hb d_law_law_1097 rfl (lv_at hl 0 rfl) ?_
  refine lv_iconst (v := 1) hx hb d_law_law_1098 (by decide +kernel) ?_
  refine lv_iadd hx hb d_law_law_1099 ?_
  refine nz_ctopi (v := 1) (by decide +kernel) ?_
  refine va_sld hx hb hXs hbl hbA hS (nz_vin (by decide +kernel)) d_law_law_1100 ?_
  refine nz_ctopi (v := xs 1) rfl ?_
  refine lv_aload_n hx hb d_law_law_1101 rfl (lv_at hl 3 rfl) ?_
  refine lv_iload_n hx hb d_law_law_1102 rfl (lv_at hl 0 rfl) ?_
  refine lv_iconst (v := 2) hx hb d_law_law_1103 (by decide +kernel) ?_
  refine lv_iadd hx hb d_law_law_1104 ?_
  refine nz_ctopi (v := 2) (by decide +kernel) ?_
  refine va_sld hx hb hXs hbl hbA hS (nz_vin (by decide +kernel)) d_law_law_1105 ?_
  refine nz_ctopi (v := xs 2) rfl ?_
  refine lv_aload_n hx hb d_law_law_1106 rfl (lv_at hl 3 rfl) ?_
  refine lv_iload_n hx hb d_law_law_1107 rfl (lv_at hl 0 rfl) ?_
  refine lv_iconst (v := 3) hx hb d_law_law_1108 (by decide +kernel) ?_
  refine lv_iadd hx hb d_law_law_1109 ?_
  refine nz_ctopi (v := 3) (by decide +kernel) ?_
  refine va_sld hx hb hXs hbl hbA hS (nz_vin (by decide +kernel)) d_law_law_1110 ?_
  refine nz_ctopi (v := xs 3) rfl ?_
  refine lv_aload_n hx hb d_law_law_1111 rfl (lv_at hl 3 rfl) ?_
  refine lv_iload_n hx hb d_law_law_1112 rfl (lv_at hl 0 rfl) ?_
  refine lv_iconst (v := 4) hx hb d_law_law_1113 (by decide +kernel) ?_
  refine lv_iadd hx hb d_law_law_1114 ?_
  refine nz_ctopi (v := 4) (by decide +kernel) ?_
  refine va_sld hx hb hXs hbl hbA hS (nz_vin (by decide +kernel)) d_law_law_1115 ?_
  refine nz_ctopi (v := xs 4) rfl ?_
  refine lv_aload_n hx hb d_law_law_1116 rfl (lv_at hl 3 rfl) ?_
  refine lv_iload_n hx hb d_law_law_1117 rfl (lv_at hl 0 rfl) ?_
  refine lv_iconst (v := 5) hx hb d_law_law_1118 (by decide +kernel) ?_
  refine lv_iadd hx hb d_law_law_1119 ?_
  refine nz_ctopi (v := 5) (by decide +kernel) ?_
  refine va_sld hx hb hXs hbl hbA hS (nz_vin (by decide +kernel)) d_law_law_1120 ?_
  refine nz_ctopi (v := xs 5) rfl ?_
  refine lv_aload_n hx hb d_law_law_1121 rfl (lv_at hl 3 rfl) ?_
  refine lv_iload_n hx hb d_law_law_1122 rfl (lv_at hl 0 rfl) ?_
  refine lv_bipush (v := 6) hx hb d_law_law_1123 (by decide +kernel) ?_
  refine lv_iadd hx hb d_law_law_1125 ?_
  refine nz_ctopi (v := 6) (by decide +kernel) ?_
  refine va_sld hx hb hXs hbl hbA hS (nz_vin (by decide +kernel)) d_law_law_1126 ?_
  refine nz_ctopi (v := xs 6) rfl ?_
  refine nz_calVi (As := [.int (xs 1), .int (xs 2), .int (xs 3), .int (xs 4), .int (xs 5), .int (xs 6)]) (rest := [.int (-1)]) C0 (c_Mo_told l D cB cI cJ m0_ (xs 1) (xs 2) (xs 3) (xs 4) (xs 5) (xs 6) m0 m1 m11 m12 m13 m14 m15 m16 m17 m18 m19 m20 m21 m22 m23 m24 m25 m26 m27 m28 m29 m30 m31 m32 m33 m34 m35 m36 m37 m38 m41 m42 m43 m44 m47 m48 m49 m50 m51 m52 m53 m54) g_law_104 rfl nz_xb0 (by decide) hl.1 hP hD hS hA [0, 1] [2, 3, 4] rfl (wr := [(o0, .inr (11, [.ref o1, .int 0, .ref o2, .ref o3, .ref o4, .ref o5, .ref o6, .ref o7, .ref o8, .ref o9, .ref o10])), (o2, .inr (3, [.ref u1, .ref u2, .ref u3, .ref u4, .ref u5])), (u2, .inr (4, [.int 0, .ref u21, .int 0, .ref u22, .ref u23, .ref u24]))]) rfl (by decide) (by decide) (by decide) rfl rfl (fun _ _ _ => trivial) rfl (Nat.le_of_ble_eq_true rfl) d_law_law_1127 (by decide) (fun r_3 u H locs h_4 hP hD hS => ?_)
  obtain ⟨h_4_r, rfl⟩ := h_4
  have hP : va_P D nz_cl [(o0, .inr (11, [.ref o1, .int 0, .ref o2, .ref o3, .ref o4, .ref o5, .ref o6, .ref o7, .ref o8, .ref o9, .ref o10])), (o2, .inr (3, [.ref u1, .ref u2, .ref u3, .ref u4, .ref u5])), (u2, .inr (4, [.int 0, .ref u21, .int 0, .ref u22, .ref u23, .ref u24])), (m0_, .inr (12, [.ref m0, .ref m1, .int 0, .int 0, .int 0, .int (-1), .int 0, .int 0, .int 0, .int 0, .long 0, .ref m11, .ref m12, .ref m13, .ref m14, .ref m15, .ref m16, .ref m17, .ref m18, .ref m19, .ref m20, .ref m21, .ref m22, .ref m23, .ref m24, .ref m25, .ref m26, .ref m27, .ref m28, .ref m29, .ref m30, .ref m31, .ref m32, .ref m33, .ref m34, .ref m35, .ref m36, .ref m37, .ref m38, .int 0, .int 0, .ref m41, .ref m42, .ref m43, .ref m44, .int 0, .int 0, .ref m47, .ref m48, .ref m49, .ref m50, .ref m51, .ref m52, .ref m53, .ref m54])), (m12, .inl (cI, 2, .inl (fun _ => 0)))] H := hP
  have hD : va_D A [(o0, .inr (11, [.ref o1, .int 0, .ref o2, .ref o3, .ref o4, .ref o5, .ref o6, .ref o7, .ref o8, .ref o9, .ref o10])), (o2, .inr (3, [.ref u1, .ref u2, .ref u3, .ref u4, .ref u5])), (u2, .inr (4, [.int 0, .ref u21, .int 0, .ref u22, .ref u23, .ref u24])), (m0_, .inr (12, [.ref m0, .ref m1, .int 0, .int 0, .int 0, .int (-1), .int 0, .int 0, .int 0, .int 0, .long 0, .ref m11, .ref m12, .ref m13, .ref m14, .ref m15, .ref m16, .ref m17, .ref m18, .ref m19, .ref m20, .ref m21, .ref m22, .ref m23, .ref m24, .ref m25, .ref m26, .ref m27, .ref m28, .ref m29, .ref m30, .ref m31, .ref m32, .ref m33, .ref m34, .ref m35, .ref m36, .ref m37, .ref m38, .int 0, .int 0, .ref m41, .ref m42, .ref m43, .ref m44, .int 0, .int 0, .ref m47, .ref m48, .ref m49, .ref m50, .ref m51, .ref m52, .ref m53, .ref m54])), (m12, .inl (cI, 2, .inl (fun _ => 0)))] := hD
  subst h_4_r
  refine lv_icmp_eq (tgt := 1427) hx hb d_law_law_1130 (by decide) (fun c_5 => ?_) (fun c_5 => absurd (by decide +kernel) c_5)
  exact nz_ltail C0 hXs hbl (by rw [hAe]; exact hS) hl
set_option maxHeartbeats 4000000 in
set_option maxRecDepth 100000 in
theorem nz_law_21 {p : Program} {l : Launch} {e : Env} {s : State} {m : MethodId} {below : List Frame} {meth : Method} {c : Code} {b : Nat} {xs : Nat → Int32} {H : Heap} {locs : List Loc} {ls : Array Slot} (D : va_G) (cB cI cJ : ClassId) (o0 : Nat) (o1 : Nat) (o2 : Nat) (o3 : Nat) (o4 : Nat) (o5 : Nat) (o6 : Nat) (o7 : Nat) (o8 : Nat) (o9 : Nat) (o10 : Nat) (u1 : Nat) (u2 : Nat) (u3 : Nat) (u4 : Nat) (u5 : Nat) (u11 : Nat) (u12 : Nat) (u13 : Nat) (u14 : Nat) (u15 : Nat) (u16 : Nat) (u17 : Nat) (m0_ : Nat) (m0 : Nat) (m1 : Nat) (m11 : Nat) (m12 : Nat) (m13 : Nat) (m14 : Nat) (m15 : Nat) (m16 : Nat) (m17 : Nat) (m18 : Nat) (m19 : Nat) (m20 : Nat) (m21 : Nat) (m22 : Nat) (m23 : Nat) (m24 : Nat) (m25 : Nat) (m26 : Nat) (m27 : Nat) (m28 : Nat) (m29 : Nat) (m30 : Nat) (m31 : Nat) (m32 : Nat) (m33 : Nat) (m34 : Nat) (m35 : Nat) (m36 : Nat) (m37 : Nat) (m38 : Nat) (m41 : Nat) (m42 : Nat) (m43 : Nat) (m44 : Nat) (m47 : Nat) (m48 : Nat) (m49 : Nat) (m50 : Nat) (m51 : Nat) (m52 : Nat) (m53 : Nat) (m54 : Nat) (C0 : nz_Cx p s m #[Value.ref b] meth c code 4 ret R_law D cB cI cJ) (hXs : va_X b 7 xs s s.heap) (hbl : b < s.heap.size) (hP : va_P D nz_cl [(o0, .inr (11, [.ref o1, .int 0, .ref o2, .ref o3, .ref o4, .ref o5, .ref o6, .ref o7, .ref o8, .ref o9, .ref o10])), (o2, .inr (3, [.ref u1, .ref u2, .ref u3, .ref u4, .ref u5])), (u1, .inr (6, [.int 0, .ref u11, .ref u12, .ref u13, .ref u14, .ref u15, .ref u16, .ref u17])), (m0_, .inr (12, [.ref m0, .ref m1, .int 0, .int 0, .int 0, .int (-1), .int 0, .int 0, .int 0, .int 0, .long 0, .ref m11, .ref m12, .ref m13, .ref m14, .ref m15, .ref m16, .ref m17, .ref m18, .ref m19, .ref m20, .ref m21, .ref m22, .ref m23, .ref m24, .ref m25, .ref m26, .ref m27, .ref m28, .ref m29, .ref m30, .ref m31, .ref m32, .ref m33, .ref m34, .ref m35, .ref m36, .ref m37, .ref m38, .int 0, .int 0, .ref m41, .ref m42, .ref m43, .ref m44, .int 0, .int 0, .ref m47, .ref m48, .ref m49, .ref m50, .ref m51, .ref m52, .ref m53, .ref m54])), (m11, .inl (cI, 2, .inl (fun _ => 0)))] H) (hD : va_D (fun q : Nat => s.heap.size ≤ q) [(o0, .inr (11, [.ref o1, .int 0, .ref o2, .ref o3, .ref o4, .ref o5, .ref o6, .ref o7, .ref o8, .ref o9, .ref o10])), (o2, .inr (3, [.ref u1, .ref u2, .ref u3, .ref u4, .ref u5])), (u1, .inr (6, [.int 0, .ref u11, .ref u12, .ref u13, .ref u14, .ref u15, .ref u16, .ref u17])), (m0_, .inr (12, [.ref m0, .ref m1, .int 0, .int 0, .int 0, .int (-1), .int 0, .int 0, .int 0, .int 0, .long 0, .ref m11, .ref m12, .ref m13, .ref m14, .ref m15, .ref m16, .ref m17, .ref m18, .ref m19, .ref m20, .ref m21, .ref m22, .ref m23, .ref m24, .ref m25, .ref m26, .ref m27, .ref m28, .ref m29, .ref m30, .ref m31, .ref m32, .ref m33, .ref m34, .ref m35, .ref m36, .ref m37, .ref m38, .int 0, .int 0, .ref m41, .ref m42, .ref m43, .ref m44, .int 0, .int 0, .ref m47, .ref m48, .ref m49, .ref m50, .ref m51, .ref m52, .ref m53, .ref m54])), (m11, .inl (cI, 2, .inl (fun _ => 0)))]) (hS : va_S (fun q : Nat => s.heap.size ≤ q) s.heap H locs) (hl : lv_has ls 4 [(3, .int 0), (2, .ref m0_), (1, .ref o0), (0, .ref b)]) : W p l e room_1 s m #[Value.ref b] below meth c H locs 124 7401 (lw_Z below #[Value.ref b] s) (F0 m 1135 ls []) := by
  obtain ⟨hx, hb, hr, hml, hown, hts, hlk, hK⟩ := id C0
  generalize hAe : (fun q : Nat => s.heap.size ≤ q) = A at hD hS
  have hA : ∀ q : Nat, s.heap.size ≤ q → A q := fun q h => by rw [← hAe]; exact h
  have hbA : ¬ A b := by rw [← hAe]; exact Nat.not_le.mpr hbl
  refine lv_aload_n hx hb d_law_law_1135 rfl (lv_at hl 2 rfl) ?_
  refine lv_aload_n hx hb d_law_law_1136 rfl (lv_at hl 3 rfl) ?_
  refine lv_iload_n hx hb d_law_law_1137 rfl (lv_at hl 0 rfl) ?_
  refine lv_iconst (v := 1) hx hb d_law_law_1138 (by decide +kernel) ?_
  refine lv_iadd hx hb d_law_law_1139 ?_
  refine nz_ctopi (v := 1) (by decide +kernel) ?_
  refine va_sld hx hb hXs hbl hbA hS (nz_vin (by decide +kernel)) d_law_law_1140 ?_
  refine nz_ctopi (v := xs 1) rfl ?_
  refine lv_aload_n hx hb d_law_law_1141 rfl (lv_at hl 3 rfl) ?_
  refine lv_iload_n hx hb d_law_law_1142 rfl (lv_at hl 0 rfl) ?_
  refine lv_iconst (v := 2) hx hb d_law_law_1143 (by decide +kernel) ?_
  refine lv_iadd hx hb d_law_law_1144 ?_
  refine nz_ctopi (v := 2) (by decide +kernel) ?_
  refine va_sld hx hb hXs hbl hbA hS (nz_vin (by decide +kernel)) d_law_law_1145 ?_
  refine nz_ctopi (v := xs 2) rfl ?_
  refine nz_calVi (As := [.int (xs 1), .int (xs 2)]) (rest := []) C0 (c_NF_safe l D cB cI cJ o0 (xs 1) (xs 2) o1 o2 o3 o4 o5 o6 o7 o8 o9 o10 u1 u2 u3 u4 u5 u11 u12 u13 u14 u15 u16 u17) g_law_105 rfl nz_xb0 (by decide) hl.1 hP hD hS hA [0, 1, 2] [3, 4] rfl (wr := [(m0_, .inr (12, [.ref m0, .ref m1, .int 0, .int 0, .int 0, .int (-1), .int 0, .int 0, .int 0, .int 0, .long 0, .ref m11, .ref m12, .ref m13, .ref m14, .ref m15, .ref m16, .ref m17, .ref m18, .ref m19, .ref m20, .ref m21, .ref m22, .ref m23, .ref m24, .ref m25, .ref m26, .ref m27, .ref m28, .ref m29, .ref m30, .ref m31, .ref m32, .ref m33, .ref m34, .ref m35, .ref m36, .ref m37, .ref m38, .int 0, .int 0, .ref m41, .ref m42, .ref m43, .ref m44, .int 0, .int 0, .ref m47, .ref m48, .ref m49, .ref m50, .ref m51, .ref m52, .ref m53, .ref m54])), (m11, .inl (cI, 2, .inl (fun _ => 0)))]) rfl (by decide) (by decide) (by decide) rfl rfl (fun _ _ _ => trivial) rfl (Nat.le_of_ble_eq_true rfl) d_law_law_1146 (by decide) (fun r_1 u H locs h_2 hP hD hS => ?_)
  obtain ⟨h_2_r, rfl⟩ := h_2
  have hP : va_P D nz_cl [(m0_, .inr (12, [.ref m0, .ref m1, .int 0, .int 0, .int 0, .int (-1), .int 0, .int 0, .int 0, .int 0, .long 0, .ref m11, .ref m12, .ref m13, .ref m14, .ref m15, .ref m16, .ref m17, .ref m18, .ref m19, .ref m20, .ref m21, .ref m22, .ref m23, .ref m24, .ref m25, .ref m26, .ref m27, .ref m28, .ref m29, .ref m30, .ref m31, .ref m32, .ref m33, .ref m34, .ref m35, .ref m36, .ref m37, .ref m38, .int 0, .int 0, .ref m41, .ref m42, .ref m43, .ref m44, .int 0, .int 0, .ref m47, .ref m48, .ref m49, .ref m50, .ref m51, .ref m52, .ref m53, .ref m54])), (m11, .inl (cI, 2, .inl (fun _ => 0))), (o0, .inr (11, [.ref o1, .int 0, .ref o2, .ref o3, .ref o4, .ref o5, .ref o6, .ref o7, .ref o8, .ref o9, .ref o10])), (o2, .inr (3, [.ref u1, .ref u2, .ref u3, .ref u4, .ref u5])), (u1, .inr (6, [.int 0, .ref u11, .ref u12, .ref u13, .ref u14, .ref u15, .ref u16, .ref u17]))] H := hP
  have hD : va_D A [(m0_, .inr (12, [.ref m0, .ref m1, .int 0, .int 0, .int 0, .int (-1), .int 0, .int 0, .int 0, .int 0, .long 0, .ref m11, .ref m12, .ref m13, .ref m14, .ref m15, .ref m16, .ref m17, .ref m18, .ref m19, .ref m20, .ref m21, .ref m22, .ref m23, .ref m24, .ref m25, .ref m26, .ref m27, .ref m28, .ref m29, .ref m30, .ref m31, .ref m32, .ref m33, .ref m34, .ref m35, .ref m36, .ref m37, .ref m38, .int 0, .int 0, .ref m41, .ref m42, .ref m43, .ref m44, .int 0, .int 0, .ref m47, .ref m48, .ref m49, .ref m50, .ref m51, .ref m52, .ref m53, .ref m54])), (m11, .inl (cI, 2, .inl (fun _ => 0))), (o0, .inr (11, [.ref o1, .int 0, .ref o2, .ref o3, .ref o4, .ref o5, .ref o6, .ref o7, .ref o8, .ref o9, .ref o10])), (o2, .inr (3, [.ref u1, .ref u2, .ref u3, .ref u4, .ref u5])), (u1, .inr (6, [.int 0, .ref u11, .ref u12, .ref u13, .ref u14, .ref u15, .ref u16, .ref u17]))] := hD
  subst h_2_r
  refine lv_aload_n hx hb d_law_law_1149 rfl (lv_at hl 1 rfl) ?_
  refine lv_aload_n hx hb d_law_law_1150 rfl (lv_at hl 3 rfl) ?_
  refine lv_iload_n hx hb d_law_law_1151 rfl (lv_at hl 0 rfl) ?_
  refine lv_iconst (v := 1) hx hb d_law_law_1152 (by decide +kernel) ?_
  refine lv_iadd hx hb d_law_law_1153 ?_
  refine nz_ctopi (v := 1) (by decide +kernel) ?_
  refine va_sld hx hb hXs hbl hbA hS (nz_vin (by decide +kernel)) d_law_law_1154 ?_
  refine nz_ctopi (v := xs 1) rfl ?_
  refine lv_aload_n hx hb d_law_law_1155 rfl (lv_at hl 3 rfl) ?_
  refine lv_iload_n hx hb d_law_law_1156 rfl (lv_at hl 0 rfl) ?_
  refine lv_iconst (v := 2) hx hb d_law_law_1157 (by decide +kernel) ?_
  refine lv_iadd hx hb d_law_law_1158 ?_
  refine nz_ctopi (v := 2) (by decide +kernel) ?_
  refine va_sld hx hb hXs hbl hbA hS (nz_vin (by decide +kernel)) d_law_law_1159 ?_
  refine nz_ctopi (v := xs 2) rfl ?_
  refine nz_calVi (As := [.int (xs 1), .int (xs 2)]) (rest := [.int (-1)]) C0 (c_Mo_safe l D cB cI cJ m0_ (xs 1) (xs 2) m0 m1 m11 m12 m13 m14 m15 m16 m17 m18 m19 m20 m21 m22 m23 m24 m25 m26 m27 m28 m29 m30 m31 m32 m33 m34 m35 m36 m37 m38 m41 m42 m43 m44 m47 m48 m49 m50 m51 m52 m53 m54) g_law_108 rfl nz_xb0 (by decide) hl.1 hP hD hS hA [0, 1] [2, 3, 4] rfl (wr := [(o0, .inr (11, [.ref o1, .int 0, .ref o2, .ref o3, .ref o4, .ref o5, .ref o6, .ref o7, .ref o8, .ref o9, .ref o10])), (o2, .inr (3, [.ref u1, .ref u2, .ref u3, .ref u4, .ref u5])), (u1, .inr (6, [.int 0, .ref u11, .ref u12, .ref u13, .ref u14, .ref u15, .ref u16, .ref u17]))]) rfl (by decide) (by decide) (by decide) rfl rfl (fun _ _ _ => trivial) rfl (Nat.le_of_ble_eq_true rfl) d_law_law_1160 (by decide) (fun r_3 u H locs h_4 hP hD hS => ?_)
  obtain ⟨h_4_r, rfl⟩ := h_4
  have hP : va_P D nz_cl [(o0, .inr (11, [.ref o1, .int 0, .ref o2, .ref o3, .ref o4, .ref o5, .ref o6, .ref o7, .ref o8, .ref o9, .ref o10])), (o2, .inr (3, [.ref u1, .ref u2, .ref u3, .ref u4, .ref u5])), (u1, .inr (6, [.int 0, .ref u11, .ref u12, .ref u13, .ref u14, .ref u15, .ref u16, .ref u17])), (m0_, .inr (12, [.ref m0, .ref m1, .int 0, .int 0, .int 0, .int (-1), .int 0, .int 0, .int 0, .int 0, .long 0, .ref m11, .ref m12, .ref m13, .ref m14, .ref m15, .ref m16, .ref m17, .ref m18, .ref m19, .ref m20, .ref m21, .ref m22, .ref m23, .ref m24, .ref m25, .ref m26, .ref m27, .ref m28, .ref m29, .ref m30, .ref m31, .ref m32, .ref m33, .ref m34, .ref m35, .ref m36, .ref m37, .ref m38, .int 0, .int 0, .ref m41, .ref m42, .ref m43, .ref m44, .int 0, .int 0, .ref m47, .ref m48, .ref m49, .ref m50, .ref m51, .ref m52, .ref m53, .ref m54])), (m11, .inl (cI, 2, .inl (fun _ => 0)))] H := hP
  have hD : va_D A [(o0, .inr (11, [.ref o1, .int 0, .ref o2, .ref o3, .ref o4, .ref o5, .ref o6, .ref o7, .ref o8, .ref o9, .ref o10])), (o2, .inr (3, [.ref u1, .ref u2, .ref u3, .ref u4, .ref u5])), (u1, .inr (6, [.int 0, .ref u11, .ref u12, .ref u13, .ref u14, .ref u15, .ref u16, .ref u17])), (m0_, .inr (12, [.ref m0, .ref m1, .int 0, .int 0, .int 0, .int (-1), .int 0, .int 0, .int 0, .int 0, .long 0, .ref m11, .ref m12, .ref m13, .ref m14, .ref m15, .ref m16, .ref m17, .ref m18, .ref m19, .ref m20, .ref m21, .ref m22, .ref m23, .ref m24, .ref m25, .ref m26, .ref m27, .ref m28, .ref m29, .ref m30, .ref m31, .ref m32, .ref m33, .ref m34, .ref m35, .ref m36, .ref m37, .ref m38, .int 0, .int 0, .ref m41, .ref m42, .ref m43, .ref m44, .int 0, .int 0, .ref m47, .ref m48, .ref m49, .ref m50, .ref m51, .ref m52, .ref m53, .ref m54])), (m11, .inl (cI, 2, .inl (fun _ => 0)))] := hD
  subst h_4_r
  refine lv_icmp_eq (tgt := 1427) hx hb d_law_law_1163 (by decide) (fun c_5 => ?_) (fun c_5 => absurd (by decide +kernel) c_5)
  exact nz_ltail C0 hXs hbl (by rw [hAe]; exact hS) hl
set_option maxHeartbeats 4000000 in
set_option maxRecDepth 100000 in
theorem nz_law_22 {p : Program} {l : Launch} {e : Env} {s : State} {m : MethodId} {below : List Frame} {meth : Method} {c : Code} {b : Nat} {xs : Nat → Int32} {H : Heap} {locs : List Loc} {ls : Array Slot} (D : va_G) (cB cI cJ : ClassId) (o0 : Nat) (o1 : Nat) (o2 : Nat) (o3 : Nat) (o4 : Nat) (o5 : Nat) (o6 : Nat) (o7 : Nat) (o8 : Nat) (o9 : Nat) (o10 : Nat) (u1 : Nat) (u2 : Nat) (u3 : Nat) (u4 : Nat) (u5 : Nat) (u11 : Nat) (u12 : Nat) (u13 : Nat) (u14 : Nat) (u15 : Nat) (u16 : Nat) (u17 : Nat) (m0_ : Nat) (m0 : Nat) (m1 : Nat) (m11 : Nat) (m12 : Nat) (m13 : Nat) (m14 : Nat) (m15 : Nat) (m16 : Nat) (m17 : Nat) (m18 : Nat) (m19 : Nat) (m20 : Nat) (m21 : Nat) (m22 : Nat) (m23 : Nat) (m24 : Nat) (m25 : Nat) (m26 : Nat) (m27 : Nat) (m28 : Nat) (m29 : Nat) (m30 : Nat) (m31 : Nat) (m32 : Nat) (m33 : Nat) (m34 : Nat) (m35 : Nat) (m36 : Nat) (m37 : Nat) (m38 : Nat) (m41 : Nat) (m42 : Nat) (m43 : Nat) (m44 : Nat) (m47 : Nat) (m48 : Nat) (m49 : Nat) (m50 : Nat) (m51 : Nat) (m52 : Nat) (m53 : Nat) (m54 : Nat) (C0 : nz_Cx p s m #[Value.ref b] meth c code 4 ret R_law D cB cI cJ) (hXs : va_X b 7 xs s s.heap) (hbl : b < s.heap.size) (hP : va_P D nz_cl [(o0, .inr (11, [.ref o1, .int 0, .ref o2, .ref o3, .ref o4, .ref o5, .ref o6, .ref o7, .ref o8, .ref o9, .ref o10])), (o2, .inr (3, [.ref u1, .ref u2, .ref u3, .ref u4, .ref u5])), (u1, .inr (6, [.int 0, .ref u11, .ref u12, .ref u13, .ref u14, .ref u15, .ref u16, .ref u17])), (m0_, .inr (12, [.ref m0, .ref m1, .int 0, .int 0, .int 0, .int (-1), .int 0, .int 0, .int 0, .int 0, .long 0, .ref m11, .ref m12, .ref m13, .ref m14, .ref m15, .ref m16, .ref m17, .ref m18, .ref m19, .ref m20, .ref m21, .ref m22, .ref m23, .ref m24, .ref m25, .ref m26, .ref m27, .ref m28, .ref m29, .ref m30, .ref m31, .ref m32, .ref m33, .ref m34, .ref m35, .ref m36, .ref m37, .ref m38, .int 0, .int 0, .ref m41, .ref m42, .ref m43, .ref m44, .int 0, .int 0, .ref m47, .ref m48, .ref m49, .ref m50, .ref m51, .ref m52, .ref m53, .ref m54])), (m11, .inl (cI, 2, .inl (fun _ => 0)))] H) (hD : va_D (fun q : Nat => s.heap.size ≤ q) [(o0, .inr (11, [.ref o1, .int 0, .ref o2, .ref o3, .ref o4, .ref o5, .ref o6, .ref o7, .ref o8, .ref o9, .ref o10])), (o2, .inr (3, [.ref u1, .ref u2, .ref u3, .ref u4, .ref u5])), (u1, .inr (6, [.int 0, .ref u11, .ref u12, .ref u13, .ref u14, .ref u15, .ref u16, .ref u17])), (m0_, .inr (12, [.ref m0, .ref m1, .int 0, .int 0, .int 0, .int (-1), .int 0, .int 0, .int 0, .int 0, .long 0, .ref m11, .ref m12, .ref m13, .ref m14, .ref m15, .ref m16, .ref m17, .ref m18, .ref m19, .ref m20, .ref m21, .ref m22, .ref m23, .ref m24, .ref m25, .ref m26, .ref m27, .ref m28, .ref m29, .ref m30, .ref m31, .ref m32, .ref m33, .ref m34, .ref m35, .ref m36, .ref m37, .ref m38, .int 0, .int 0, .ref m41, .ref m42, .ref m43, .ref m44, .int 0, .int 0, .ref m47, .ref m48, .ref m49, .ref m50, .ref m51, .ref m52, .ref m53, .ref m54])), (m11, .inl (cI, 2, .inl (fun _ => 0)))]) (hS : va_S (fun q : Nat => s.heap.size ≤ q) s.heap H locs) (hl : lv_has ls 4 [(3, .int 0), (2, .ref m0_), (1, .ref o0), (0, .ref b)]) : W p l e room_1 s m #[Value.ref b] below meth c H locs 124 7401 (lw_Z below #[Value.ref b] s) (F0 m 1168 ls []) := by
  obtain ⟨hx, hb, hr, hml, hown, hts, hlk, hK⟩ := id C0
  generalize hAe : (fun q : Nat => s.heap.size ≤ q) = A at hD hS
  have hA : ∀ q : Nat, s.heap.size ≤ q → A q := fun q h => by rw [← hAe]; exact h
  have hbA : ¬ A b := by rw [← hAe]; exact Nat.not_le.mpr hbl
  refine lv_aload_n hx hb d_law_law_1168 rfl (lv_at hl 2 rfl) ?_
  refine lv_aload_n hx hb d_law_law_1169 rfl (lv_at hl 3 rfl) ?_
  refine lv_iload_n hx hb d_law_law_1170 rfl (lv_at hl 0 rfl) ?_
  refine lv_iconst (v := 1) hx hb d_law_law_1171 (by decide +kernel) ?_
  refine lv_iadd hx hb d_law_law_1172 ?_
  refine nz_ctopi (v := 1) (by decide +kernel) ?_
  refine va_sld hx hb hXs hbl hbA hS (nz_vin (by decide +kernel)) d_law_law_1173 ?_
  refine nz_ctopi (v := xs 1) rfl ?_
  refine lv_aload_n hx hb d_law_law_1174 rfl (lv_at hl 3 rfl) ?_
  refine lv_iload_n hx hb d_law_law_1175 rfl (lv_at hl 0 rfl) ?_
  refine lv_iconst (v := 2) hx hb d_law_law_1176 (by decide +kernel) ?_
  refine lv_iadd hx hb d_law_law_1177 ?_
  refine nz_ctopi (v := 2) (by decide +kernel) ?_
  refine va_sld hx hb hXs hbl hbA hS (nz_vin (by decide +kernel)) d_law_law_1178 ?_
  refine nz_ctopi (v := xs 2) rfl ?_
  refine lv_aload_n hx hb d_law_law_1179 rfl (lv_at hl 3 rfl) ?_
  refine lv_iload_n hx hb d_law_law_1180 rfl (lv_at hl 0 rfl) ?_
  refine lv_iconst (v := 3) hx hb d_law_law_1181 (by decide +kernel) ?_
  refine lv_iadd hx hb d_law_law_1182 ?_
  refine nz_ctopi (v := 3) (by decide +kernel) ?_
  refine va_sld hx hb hXs hbl hbA hS (nz_vin (by decide +kernel)) d_law_law_1183 ?_
  refine nz_ctopi (v := xs 3) rfl ?_
  refine lv_aload_n hx hb d_law_law_1184 rfl (lv_at hl 3 rfl) ?_
  refine lv_iload_n hx hb d_law_law_1185 rfl (lv_at hl 0 rfl) ?_
  refine lv_iconst (v := 4) hx hb d_law_law_1186 (by decide +kernel) ?_
  refine lv_iadd hx hb d_law_law_1187 ?_
  refine nz_ctopi (v := 4) (by decide +kernel) ?_
  refine va_sld hx hb hXs hbl hbA hS (nz_vin (by decide +kernel)) d_law_law_1188 ?_
  refine nz_ctopi (v := xs 4) rfl ?_
  refine nz_calVi (As := [.int (xs 1), .int (xs 2), .int (xs 3), .int (xs 4)]) (rest := []) C0 (c_NF_hurt l D cB cI cJ o0 (xs 1) (xs 2) (xs 3) (xs 4) o1 o2 o3 o4 o5 o6 o7 o8 o9 o10 u1 u2 u3 u4 u5 u11 u12 u13 u14 u15 u16 u17) g_law_109 rfl nz_xb0 (by decide) hl.1 hP hD hS hA [0, 1, 2] [3, 4] rfl (wr := [(m0_, .inr (12, [.ref m0, .ref m1, .int 0, .int 0, .int 0, .int (-1), .int 0, .int 0, .int 0, .int 0, .long 0, .ref m11, .ref m12, .ref m13, .ref m14, .ref m15, .ref m16, .ref m17, .ref m18, .ref m19, .ref m20, .ref m21, .ref m22, .ref m23, .ref m24, .ref m25, .ref m26, .ref m27, .ref m28, .ref m29, .ref m30, .ref m31, .ref m32, .ref m33, .ref m34, .ref m35, .ref m36, .ref m37, .ref m38, .int 0, .int 0, .ref m41, .ref m42, .ref m43, .ref m44, .int 0, .int 0, .ref m47, .ref m48, .ref m49, .ref m50, .ref m51, .ref m52, .ref m53, .ref m54])), (m11, .inl (cI, 2, .inl (fun _ => 0)))]) rfl (by decide) (by decide) (by decide) rfl rfl (fun _ _ _ => trivial) rfl (Nat.le_of_ble_eq_true rfl) d_law_law_1189 (by decide) (fun r_1 u H locs h_2 hP hD hS => ?_)
  obtain ⟨h_2_r, rfl⟩ := h_2
  have hP : va_P D nz_cl [(m0_, .inr (12, [.ref m0, .ref m1, .int 0, .int 0, .int 0, .int (-1), .int 0, .int 0, .int 0, .int 0, .long 0, .ref m11, .ref m12, .ref m13, .ref m14, .ref m15, .ref m16, .ref m17, .ref m18, .ref m19, .ref m20, .ref m21, .ref m22, .ref m23, .ref m24, .ref m25, .ref m26, .ref m27, .ref m28, .ref m29, .ref m30, .ref m31, .ref m32, .ref m33, .ref m34, .ref m35, .ref m36, .ref m37, .ref m38, .int 0, .int 0, .ref m41, .ref m42, .ref m43, .ref m44, .int 0, .int 0, .ref m47, .ref m48, .ref m49, .ref m50, .ref m51, .ref m52, .ref m53, .ref m54])), (m11, .inl (cI, 2, .inl (fun _ => 0))), (o0, .inr (11, [.ref o1, .int 0, .ref o2, .ref o3, .ref o4, .ref o5, .ref o6, .ref o7, .ref o8, .ref o9, .ref o10])), (o2, .inr (3, [.ref u1, .ref u2, .ref u3, .ref u4, .ref u5])), (u1, .inr (6, [.int 0, .ref u11, .ref u12, .ref u13, .ref u14, .ref u15, .ref u16, .ref u17]))] H := hP
  have hD : va_D A [(m0_, .inr (12, [.ref m0, .ref m1, .int 0, .int 0, .int 0, .int (-1), .int 0, .int 0, .int 0, .int 0, .long 0, .ref m11, .ref m12, .ref m13, .ref m14, .ref m15, .ref m16, .ref m17, .ref m18, .ref m19, .ref m20, .ref m21, .ref m22, .ref m23, .ref m24, .ref m25, .ref m26, .ref m27, .ref m28, .ref m29, .ref m30, .ref m31, .ref m32, .ref m33, .ref m34, .ref m35, .ref m36, .ref m37, .ref m38, .int 0, .int 0, .ref m41, .ref m42, .ref m43, .ref m44, .int 0, .int 0, .ref m47, .ref m48, .ref m49, .ref m50, .ref m51, .ref m52, .ref m53, .ref m54])), (m11, .inl (cI, 2, .inl (fun _ => 0))), (o0, .inr (11, [.ref o1, .int 0, .ref o2, .ref o3, .ref o4, .ref o5, .ref o6, .ref o7, .ref o8, .ref o9, .ref o10])), (o2, .inr (3, [.ref u1, .ref u2, .ref u3, .ref u4, .ref u5])), (u1, .inr (6, [.int 0, .ref u11, .ref u12, .ref u13, .ref u14, .ref u15, .ref u16, .ref u17]))] := hD
  subst h_2_r
  refine lv_aload_n hx hb d_law_law_1192 rfl (lv_at hl 1 rfl) ?_
  refine lv_aload_n hx hb d_law_law_1193 rfl (lv_at hl 3 rfl) ?_
  refine lv_iload_n hx hb d_law_law_1194 rfl (lv_at hl 0 rfl) ?_
  refine lv_iconst (v := 1) hx hb d_law_law_1195 (by decide +kernel) ?_
  refine lv_iadd hx hb d_law_law_1196 ?_
  refine nz_ctopi (v := 1) (by decide +kernel) ?_
  refine va_sld hx hb hXs hbl hbA hS (nz_vin (by decide +kernel)) d_law_law_1197 ?_
  refine nz_ctopi (v := xs 1) rfl ?_
  refine lv_aload_n hx hb d_law_law_1198 rfl (lv_at hl 3 rfl) ?_
  refine lv_iload_n hx hb d_law_law_1199 rfl (lv_at hl 0 rfl) ?_
  refine lv_iconst (v := 2) hx hb d_law_law_1200 (by decide +kernel) ?_
  refine lv_iadd hx hb d_law_law_1201 ?_
  refine nz_ctopi (v := 2) (by decide +kernel) ?_
  refine va_sld hx hb hXs hbl hbA hS (nz_vin (by decide +kernel)) d_law_law_1202 ?_
  refine nz_ctopi (v := xs 2) rfl ?_
  refine lv_aload_n hx hb d_law_law_1203 rfl (lv_at hl 3 rfl) ?_
  refine lv_iload_n hx hb d_law_law_1204 rfl (lv_at hl 0 rfl) ?_
  refine lv_iconst (v := 3) hx hb d_law_law_1205 (by decide +kernel) ?_
  refine lv_iadd hx hb d_law_law_1206 ?_
  refine nz_ctopi (v := 3) (by decide +kernel) ?_
  refine va_sld hx hb hXs hbl hbA hS (nz_vin (by decide +kernel)) d_law_law_1207 ?_
  refine nz_ctopi (v := xs 3) rfl ?_
  refine lv_aload_n hx hb d_law_law_1208 rfl (lv_at hl 3 rfl) ?_
  refine lv_iload_n hx hb d_law_law_1209 rfl (lv_at hl 0 rfl) ?_
  refine lv_iconst (v := 4) hx hb d_law_law_1210 (by decide +kernel) ?_
  refine lv_iadd hx hb d_law_law_1211 ?_
  refine nz_ctopi (v := 4) (by decide +kernel) ?_
  refine va_sld hx hb hXs hbl hbA hS (nz_vin (by decide +kernel)) d_law_law_1212 ?_
  refine nz_ctopi (v := xs 4) rfl ?_
  refine nz_calVi (As := [.int (xs 1), .int (xs 2), .int (xs 3), .int (xs 4)]) (rest := [.int (-1000)]) C0 (c_Mo_hurt l D cB cI cJ m0_ (xs 1) (xs 2) (xs 3) (xs 4) m0 m1 m11 m12 m13 m14 m15 m16 m17 m18 m19 m20 m21 m22 m23 m24 m25 m26 m27 m28 m29 m30 m31 m32 m33 m34 m35 m36 m37 m38 m41 m42 m43 m44 m47 m48 m49 m50 m51 m52 m53 m54) g_law_112 rfl nz_xb0 (by decide) hl.1 hP hD hS hA [0, 1] [2, 3, 4] rfl (wr := [(o0, .inr (11, [.ref o1, .int 0, .ref o2, .ref o3, .ref o4, .ref o5, .ref o6, .ref o7, .ref o8, .ref o9, .ref o10])), (o2, .inr (3, [.ref u1, .ref u2, .ref u3, .ref u4, .ref u5])), (u1, .inr (6, [.int 0, .ref u11, .ref u12, .ref u13, .ref u14, .ref u15, .ref u16, .ref u17]))]) rfl (by decide) (by decide) (by decide) rfl rfl (fun _ _ _ => trivial) rfl (Nat.le_of_ble_eq_true rfl) d_law_law_1213 (by decide) (fun r_3 u H locs h_4 hP hD hS => ?_)
  obtain ⟨h_4_r, rfl⟩ := h_4
  have hP : va_P D nz_cl [(o0, .inr (11, [.ref o1, .int 0, .ref o2, .ref o3, .ref o4, .ref o5, .ref o6, .ref o7, .ref o8, .ref o9, .ref o10])), (o2, .inr (3, [.ref u1, .ref u2, .ref u3, .ref u4, .ref u5])), (u1, .inr (6, [.int 0, .ref u11, .ref u12, .ref u13, .ref u14, .ref u15, .ref u16, .ref u17])), (m0_, .inr (12, [.ref m0, .ref m1, .int 0, .int 0, .int 0, .int (-1), .int 0, .int 0, .int 0, .int 0, .long 0, .ref m11, .ref m12, .ref m13, .ref m14, .ref m15, .ref m16, .ref m17, .ref m18, .ref m19, .ref m20, .ref m21, .ref m22, .ref m23, .ref m24, .ref m25, .ref m26, .ref m27, .ref m28, .ref m29, .ref m30, .ref m31, .ref m32, .ref m33, .ref m34, .ref m35, .ref m36, .ref m37, .ref m38, .int 0, .int 0, .ref m41, .ref m42, .ref m43, .ref m44, .int 0, .int 0, .ref m47, .ref m48, .ref m49, .ref m50, .ref m51, .ref m52, .ref m53, .ref m54])), (m11, .inl (cI, 2, .inl (fun _ => 0)))] H := hP
  have hD : va_D A [(o0, .inr (11, [.ref o1, .int 0, .ref o2, .ref o3, .ref o4, .ref o5, .ref o6, .ref o7, .ref o8, .ref o9, .ref o10])), (o2, .inr (3, [.ref u1, .ref u2, .ref u3, .ref u4, .ref u5])), (u1, .inr (6, [.int 0, .ref u11, .ref u12, .ref u13, .ref u14, .ref u15, .ref u16, .ref u17])), (m0_, .inr (12, [.ref m0, .ref m1, .int 0, .int 0, .int 0, .int (-1), .int 0, .int 0, .int 0, .int 0, .long 0, .ref m11, .ref m12, .ref m13, .ref m14, .ref m15, .ref m16, .ref m17, .ref m18, .ref m19, .ref m20, .ref m21, .ref m22, .ref m23, .ref m24, .ref m25, .ref m26, .ref m27, .ref m28, .ref m29, .ref m30, .ref m31, .ref m32, .ref m33, .ref m34, .ref m35, .ref m36, .ref m37, .ref m38, .int 0, .int 0, .ref m41, .ref m42, .ref m43, .ref m44, .int 0, .int 0, .ref m47, .ref m48, .ref m49, .ref m50, .ref m51, .ref m52, .ref m53, .ref m54])), (m11, .inl (cI, 2, .inl (fun _ => 0)))] := hD
  subst h_4_r
  refine lv_icmp_eq (tgt := 1427) hx hb d_law_law_1216 (by decide) (fun c_5 => ?_) (fun c_5 => absurd (by decide +kernel) c_5)
  exact nz_ltail C0 hXs hbl (by rw [hAe]; exact hS) hl
set_option maxHeartbeats 4000000 in
set_option maxRecDepth 100000 in
theorem nz_law_23 {p : Program} {l : Launch} {e : Env} {s : State} {m : MethodId} {below : List Frame} {meth : Method} {c : Code} {b : Nat} {xs : Nat → Int32} {H : Heap} {locs : List Loc} {ls : Array Slot} (D : va_G) (cB cI cJ : ClassId) (o0 : Nat) (o1 : Nat) (o2 : Nat) (o3 : Nat) (o4 : Nat) (o5 : Nat) (o6 : Nat) (o7 : Nat) (o8 : Nat) (o9 : Nat) (o10 : Nat) (u1 : Nat) (u2 : Nat) (u3 : Nat) (u4 : Nat) (u5 : Nat) (u11 : Nat) (u12 : Nat) (u13 : Nat) (u14 : Nat) (u15 : Nat) (u16 : Nat) (u17 : Nat) (m0_ : Nat) (m0 : Nat) (m1 : Nat) (m11 : Nat) (m12 : Nat) (m13 : Nat) (m14 : Nat) (m15 : Nat) (m16 : Nat) (m17 : Nat) (m18 : Nat) (m19 : Nat) (m20 : Nat) (m21 : Nat) (m22 : Nat) (m23 : Nat) (m24 : Nat) (m25 : Nat) (m26 : Nat) (m27 : Nat) (m28 : Nat) (m29 : Nat) (m30 : Nat) (m31 : Nat) (m32 : Nat) (m33 : Nat) (m34 : Nat) (m35 : Nat) (m36 : Nat) (m37 : Nat) (m38 : Nat) (m41 : Nat) (m42 : Nat) (m43 : Nat) (m44 : Nat) (m47 : Nat) (m48 : Nat) (m49 : Nat) (m50 : Nat) (m51 : Nat) (m52 : Nat) (m53 : Nat) (m54 : Nat) (C0 : nz_Cx p s m #[Value.ref b] meth c code 4 ret R_law D cB cI cJ) (hXs : va_X b 7 xs s s.heap) (hbl : b < s.heap.size) (hP : va_P D nz_cl [(o0, .inr (11, [.ref o1, .int 0, .ref o2, .ref o3, .ref o4, .ref o5, .ref o6, .ref o7, .ref o8, .ref o9, .ref o10])), (o2, .inr (3, [.ref u1, .ref u2, .ref u3, .ref u4, .ref u5])), (u1, .inr (6, [.int 0, .ref u11, .ref u12, .ref u13, .ref u14, .ref u15, .ref u16, .ref u17])), (m0_, .inr (12, [.ref m0, .ref m1, .int 0, .int 0, .int 0, .int (-1), .int 0, .int 0, .int 0, .int 0, .long 0, .ref m11, .ref m12, .ref m13, .ref m14, .ref m15, .ref m16, .ref m17, .ref m18, .ref m19, .ref m20, .ref m21, .ref m22, .ref m23, .ref m24, .ref m25, .ref m26, .ref m27, .ref m28, .ref m29, .ref m30, .ref m31, .ref m32, .ref m33, .ref m34, .ref m35, .ref m36, .ref m37, .ref m38, .int 0, .int 0, .ref m41, .ref m42, .ref m43, .ref m44, .int 0, .int 0, .ref m47, .ref m48, .ref m49, .ref m50, .ref m51, .ref m52, .ref m53, .ref m54])), (m11, .inl (cI, 2, .inl (fun _ => 0)))] H) (hD : va_D (fun q : Nat => s.heap.size ≤ q) [(o0, .inr (11, [.ref o1, .int 0, .ref o2, .ref o3, .ref o4, .ref o5, .ref o6, .ref o7, .ref o8, .ref o9, .ref o10])), (o2, .inr (3, [.ref u1, .ref u2, .ref u3, .ref u4, .ref u5])), (u1, .inr (6, [.int 0, .ref u11, .ref u12, .ref u13, .ref u14, .ref u15, .ref u16, .ref u17])), (m0_, .inr (12, [.ref m0, .ref m1, .int 0, .int 0, .int 0, .int (-1), .int 0, .int 0, .int 0, .int 0, .long 0, .ref m11, .ref m12, .ref m13, .ref m14, .ref m15, .ref m16, .ref m17, .ref m18, .ref m19, .ref m20, .ref m21, .ref m22, .ref m23, .ref m24, .ref m25, .ref m26, .ref m27, .ref m28, .ref m29, .ref m30, .ref m31, .ref m32, .ref m33, .ref m34, .ref m35, .ref m36, .ref m37, .ref m38, .int 0, .int 0, .ref m41, .ref m42, .ref m43, .ref m44, .int 0, .int 0, .ref m47, .ref m48, .ref m49, .ref m50, .ref m51, .ref m52, .ref m53, .ref m54])), (m11, .inl (cI, 2, .inl (fun _ => 0)))]) (hS : va_S (fun q : Nat => s.heap.size ≤ q) s.heap H locs) (hl : lv_has ls 4 [(3, .int 0), (2, .ref m0_), (1, .ref o0), (0, .ref b)]) : W p l e room_1 s m #[Value.ref b] below meth c H locs 124 7401 (lw_Z below #[Value.ref b] s) (F0 m 1221 ls []) := by
  obtain ⟨hx, hb, hr, hml, hown, hts, hlk, hK⟩ := id C0
  generalize hAe : (fun q : Nat => s.heap.size ≤ q) = A at hD hS
  have hA : ∀ q : Nat, s.heap.size ≤ q → A q := fun q h => by rw [← hAe]; exact h
  have hbA : ¬ A b := by rw [← hAe]; exact Nat.not_le.mpr hbl
  refine lv_aload_n hx hb d_law_law_1221 rfl (lv_at hl 2 rfl) ?_
  refine lv_aload_n hx hb d_law_law_1222 rfl (lv_at hl 3 rfl) ?_
  refine lv_iload_n hx hb d_law_law_1223 rfl (lv_at hl 0 rfl) ?_
  refine lv_iconst (v := 1) hx hb d_law_law_1224 (by decide +kernel) ?_
  refine lv_iadd hx hb d_law_law_1225 ?_
  refine nz_ctopi (v := 1) (by decide +kernel) ?_
  refine va_sld hx hb hXs hbl hbA hS (nz_vin (by decide +kernel)) d_law_law_1226 ?_
  refine nz_ctopi (v := xs 1) rfl ?_
  refine lv_aload_n hx hb d_law_law_1227 rfl (lv_at hl 3 rfl) ?_
  refine lv_iload_n hx hb d_law_law_1228 rfl (lv_at hl 0 rfl) ?_
  refine lv_iconst (v := 2) hx hb d_law_law_1229 (by decide +kernel) ?_
  refine lv_iadd hx hb d_law_law_1230 ?_
  refine nz_ctopi (v := 2) (by decide +kernel) ?_
  refine va_sld hx hb hXs hbl hbA hS (nz_vin (by decide +kernel)) d_law_law_1231 ?_
  refine nz_ctopi (v := xs 2) rfl ?_
  refine lv_aload_n hx hb d_law_law_1232 rfl (lv_at hl 3 rfl) ?_
  refine lv_iload_n hx hb d_law_law_1233 rfl (lv_at hl 0 rfl) ?_
  refine lv_iconst (v := 3) hx hb d_law_law_1234 (by decide +kernel) ?_
  refine lv_iadd hx hb d_law_law_1235 ?_
  refine nz_ctopi (v := 3) (by decide +kernel) ?_
  refine va_sld hx hb hXs hbl hbA hS (nz_vin (by decide +kernel)) d_law_law_1236 ?_
  refine nz_ctopi (v := xs 3) rfl ?_
  refine nz_calVi (As := [.int (xs 1), .int (xs 2), .int (xs 3)]) (rest := []) C0 (c_NF_child l D cB cI cJ o0 (xs 1) (xs 2) (xs 3) o1 o2 o3 o4 o5 o6 o7 o8 o9 o10 u1 u2 u3 u4 u5 u11 u12 u13 u14 u15 u16 u17) g_law_113 rfl nz_xb0 (by decide) hl.1 hP hD hS hA [0, 1, 2] [3, 4] rfl (wr := [(m0_, .inr (12, [.ref m0, .ref m1, .int 0, .int 0, .int 0, .int (-1), .int 0, .int 0, .int 0, .int 0, .long 0, .ref m11, .ref m12, .ref m13, .ref m14, .ref m15, .ref m16, .ref m17, .ref m18, .ref m19, .ref m20, .ref m21, .ref m22, .ref m23, .ref m24, .ref m25, .ref m26, .ref m27, .ref m28, .ref m29, .ref m30, .ref m31, .ref m32, .ref m33, .ref m34, .ref m35, .ref m36, .ref m37, .ref m38, .int 0, .int 0, .ref m41, .ref m42, .ref m43, .ref m44, .int 0, .int 0, .ref m47, .ref m48, .ref m49, .ref m50, .ref m51, .ref m52, .ref m53, .ref m54])), (m11, .inl (cI, 2, .inl (fun _ => 0)))]) rfl (by decide) (by decide) (by decide) rfl rfl (fun _ _ _ => trivial) rfl (Nat.le_of_ble_eq_true rfl) d_law_law_1237 (by decide) (fun r_1 u H locs h_2 hP hD hS => ?_)
  obtain ⟨h_2_r, rfl⟩ := h_2
  have hP : va_P D nz_cl [(m0_, .inr (12, [.ref m0, .ref m1, .int 0, .int 0, .int 0, .int (-1), .int 0, .int 0, .int 0, .int 0, .long 0, .ref m11, .ref m12, .ref m13, .ref m14, .ref m15, .ref m16, .ref m17, .ref m18, .ref m19, .ref m20, .ref m21, .ref m22, .ref m23, .ref m24, .ref m25, .ref m26, .ref m27, .ref m28, .ref m29, .ref m30, .ref m31, .ref m32, .ref m33, .ref m34, .ref m35, .ref m36, .ref m37, .ref m38, .int 0, .int 0, .ref m41, .ref m42, .ref m43, .ref m44, .int 0, .int 0, .ref m47, .ref m48, .ref m49, .ref m50, .ref m51, .ref m52, .ref m53, .ref m54])), (m11, .inl (cI, 2, .inl (fun _ => 0))), (o0, .inr (11, [.ref o1, .int 0, .ref o2, .ref o3, .ref o4, .ref o5, .ref o6, .ref o7, .ref o8, .ref o9, .ref o10])), (o2, .inr (3, [.ref u1, .ref u2, .ref u3, .ref u4, .ref u5])), (u1, .inr (6, [.int 0, .ref u11, .ref u12, .ref u13, .ref u14, .ref u15, .ref u16, .ref u17]))] H := hP
  have hD : va_D A [(m0_, .inr (12, [.ref m0, .ref m1, .int 0, .int 0, .int 0, .int (-1), .int 0, .int 0, .int 0, .int 0, .long 0, .ref m11, .ref m12, .ref m13, .ref m14, .ref m15, .ref m16, .ref m17, .ref m18, .ref m19, .ref m20, .ref m21, .ref m22, .ref m23, .ref m24, .ref m25, .ref m26, .ref m27, .ref m28, .ref m29, .ref m30, .ref m31, .ref m32, .ref m33, .ref m34, .ref m35, .ref m36, .ref m37, .ref m38, .int 0, .int 0, .ref m41, .ref m42, .ref m43, .ref m44, .int 0, .int 0, .ref m47, .ref m48, .ref m49, .ref m50, .ref m51, .ref m52, .ref m53, .ref m54])), (m11, .inl (cI, 2, .inl (fun _ => 0))), (o0, .inr (11, [.ref o1, .int 0, .ref o2, .ref o3, .ref o4, .ref o5, .ref o6, .ref o7, .ref o8, .ref o9, .ref o10])), (o2, .inr (3, [.ref u1, .ref u2, .ref u3, .ref u4, .ref u5])), (u1, .inr (6, [.int 0, .ref u11, .ref u12, .ref u13, .ref u14, .ref u15, .ref u16, .ref u17]))] := hD
  subst h_2_r
  refine lv_aload_n hx hb d_law_law_1240 rfl (lv_at hl 1 rfl) ?_
  refine lv_aload_n hx hb d_law_law_1241 rfl (lv_at hl 3 rfl) ?_
  refine lv_iload_n hx hb d_law_law_1242 rfl (lv_at hl 0 rfl) ?_
  refine lv_iconst (v := 1) hx hb d_law_law_1243 (by decide +kernel) ?_
  refine lv_iadd hx hb d_law_law_1244 ?_
  refine nz_ctopi (v := 1) (by decide +kernel) ?_
  refine va_sld hx hb hXs hbl hbA hS (nz_vin (by decide +kernel)) d_law_law_1245 ?_
  refine nz_ctopi (v := xs 1) rfl ?_
  refine lv_aload_n hx hb d_law_law_1246 rfl (lv_at hl 3 rfl) ?_
  refine lv_iload_n hx hb d_law_law_1247 rfl (lv_at hl 0 rfl) ?_
  refine lv_iconst (v := 2) hx hb d_law_law_1248 (by decide +kernel) ?_
  refine lv_iadd hx hb d_law_law_1249 ?_
  refine nz_ctopi (v := 2) (by decide +kernel) ?_
  refine va_sld hx hb hXs hbl hbA hS (nz_vin (by decide +kernel)) d_law_law_1250 ?_
  refine nz_ctopi (v := xs 2) rfl ?_
  refine lv_aload_n hx hb d_law_law_1251 rfl (lv_at hl 3 rfl) ?_
  refine lv_iload_n hx hb d_law_law_1252 rfl (lv_at hl 0 rfl) ?_
  refine lv_iconst (v := 3) hx hb d_law_law_1253 (by decide +kernel) ?_
  refine lv_iadd hx hb d_law_law_1254 ?_
  refine nz_ctopi (v := 3) (by decide +kernel) ?_
  refine va_sld hx hb hXs hbl hbA hS (nz_vin (by decide +kernel)) d_law_law_1255 ?_
  refine nz_ctopi (v := xs 3) rfl ?_
  refine nz_calVi (As := [.int (xs 1), .int (xs 2), .int (xs 3)]) (rest := [.int (-1)]) C0 (c_Mo_child l D cB cI cJ m0_ (xs 1) (xs 2) (xs 3) m0 m1 m11 m12 m13 m14 m15 m16 m17 m18 m19 m20 m21 m22 m23 m24 m25 m26 m27 m28 m29 m30 m31 m32 m33 m34 m35 m36 m37 m38 m41 m42 m43 m44 m47 m48 m49 m50 m51 m52 m53 m54) g_law_116 rfl nz_xb0 (by decide) hl.1 hP hD hS hA [0, 1] [2, 3, 4] rfl (wr := [(o0, .inr (11, [.ref o1, .int 0, .ref o2, .ref o3, .ref o4, .ref o5, .ref o6, .ref o7, .ref o8, .ref o9, .ref o10])), (o2, .inr (3, [.ref u1, .ref u2, .ref u3, .ref u4, .ref u5])), (u1, .inr (6, [.int 0, .ref u11, .ref u12, .ref u13, .ref u14, .ref u15, .ref u16, .ref u17]))]) rfl (by decide) (by decide) (by decide) rfl rfl (fun _ _ _ => trivial) rfl (Nat.le_of_ble_eq_true rfl) d_law_law_1256 (by decide) (fun r_3 u H locs h_4 hP hD hS => ?_)
  obtain ⟨h_4_r, rfl⟩ := h_4
  have hP : va_P D nz_cl [(o0, .inr (11, [.ref o1, .int 0, .ref o2, .ref o3, .ref o4, .ref o5, .ref o6, .ref o7, .ref o8, .ref o9, .ref o10])), (o2, .inr (3, [.ref u1, .ref u2, .ref u3, .ref u4, .ref u5])), (u1, .inr (6, [.int 0, .ref u11, .ref u12, .ref u13, .ref u14, .ref u15, .ref u16, .ref u17])), (m0_, .inr (12, [.ref m0, .ref m1, .int 0, .int 0, .int 0, .int (-1), .int 0, .int 0, .int 0, .int 0, .long 0, .ref m11, .ref m12, .ref m13, .ref m14, .ref m15, .ref m16, .ref m17, .ref m18, .ref m19, .ref m20, .ref m21, .ref m22, .ref m23, .ref m24, .ref m25, .ref m26, .ref m27, .ref m28, .ref m29, .ref m30, .ref m31, .ref m32, .ref m33, .ref m34, .ref m35, .ref m36, .ref m37, .ref m38, .int 0, .int 0, .ref m41, .ref m42, .ref m43, .ref m44, .int 0, .int 0, .ref m47, .ref m48, .ref m49, .ref m50, .ref m51, .ref m52, .ref m53, .ref m54])), (m11, .inl (cI, 2, .inl (fun _ => 0)))] H := hP
  have hD : va_D A [(o0, .inr (11, [.ref o1, .int 0, .ref o2, .ref o3, .ref o4, .ref o5, .ref o6, .ref o7, .ref o8, .ref o9, .ref o10])), (o2, .inr (3, [.ref u1, .ref u2, .ref u3, .ref u4, .ref u5])), (u1, .inr (6, [.int 0, .ref u11, .ref u12, .ref u13, .ref u14, .ref u15, .ref u16, .ref u17])), (m0_, .inr (12, [.ref m0, .ref m1, .int 0, .int 0, .int 0, .int (-1), .int 0, .int 0, .int 0, .int 0, .long 0, .ref m11, .ref m12, .ref m13, .ref m14, .ref m15, .ref m16, .ref m17, .ref m18, .ref m19, .ref m20, .ref m21, .ref m22, .ref m23, .ref m24, .ref m25, .ref m26, .ref m27, .ref m28, .ref m29, .ref m30, .ref m31, .ref m32, .ref m33, .ref m34, .ref m35, .ref m36, .ref m37, .ref m38, .int 0, .int 0, .ref m41, .ref m42, .ref m43, .ref m44, .int 0, .int 0, .ref m47, .ref m48, .ref m49, .ref m50, .ref m51, .ref m52, .ref m53, .ref m54])), (m11, .inl (cI, 2, .inl (fun _ => 0)))] := hD
  subst h_4_r
  refine lv_icmp_eq (tgt := 1427) hx hb d_law_law_1259 (by decide) (fun c_5 => ?_) (fun c_5 => absurd (by decide +kernel) c_5)
  exact nz_ltail C0 hXs hbl (by rw [hAe]; exact hS) hl
set_option maxHeartbeats 4000000 in
set_option maxRecDepth 100000 in
theorem nz_law_24 {p : Program} {l : Launch} {e : Env} {s : State} {m : MethodId} {below : List Frame} {meth : Method} {c : Code} {b : Nat} {xs : Nat → Int32} {H : Heap} {locs : List Loc} {ls : Array Slot} (D : va_G) (cB cI cJ : ClassId) (o0 : Nat) (o1 : Nat) (o2 : Nat) (o3 : Nat) (o4 : Nat) (o5 : Nat) (o6 : Nat) (o7 : Nat) (o8 : Nat) (o9 : Nat) (o10 : Nat) (u1 : Nat) (u2 : Nat) (u3 : Nat) (u4 : Nat) (u5 : Nat) (u11 : Nat) (u12 : Nat) (u13 : Nat) (u14 : Nat) (u15 : Nat) (u16 : Nat) (u17 : Nat) (m0_ : Nat) (m0 : Nat) (m1 : Nat) (m11 : Nat) (m12 : Nat) (m13 : Nat) (m14 : Nat) (m15 : Nat) (m16 : Nat) (m17 : Nat) (m18 : Nat) (m19 : Nat) (m20 : Nat) (m21 : Nat) (m22 : Nat) (m23 : Nat) (m24 : Nat) (m25 : Nat) (m26 : Nat) (m27 : Nat) (m28 : Nat) (m29 : Nat) (m30 : Nat) (m31 : Nat) (m32 : Nat) (m33 : Nat) (m34 : Nat) (m35 : Nat) (m36 : Nat) (m37 : Nat) (m38 : Nat) (m41 : Nat) (m42 : Nat) (m43 : Nat) (m44 : Nat) (m47 : Nat) (m48 : Nat) (m49 : Nat) (m50 : Nat) (m51 : Nat) (m52 : Nat) (m53 : Nat) (m54 : Nat) (C0 : nz_Cx p s m #[Value.ref b] meth c code 4 ret R_law D cB cI cJ) (hXs : va_X b 7 xs s s.heap) (hbl : b < s.heap.size) (hP : va_P D nz_cl [(o0, .inr (11, [.ref o1, .int 0, .ref o2, .ref o3, .ref o4, .ref o5, .ref o6, .ref o7, .ref o8, .ref o9, .ref o10])), (o2, .inr (3, [.ref u1, .ref u2, .ref u3, .ref u4, .ref u5])), (u1, .inr (6, [.int 0, .ref u11, .ref u12, .ref u13, .ref u14, .ref u15, .ref u16, .ref u17])), (m0_, .inr (12, [.ref m0, .ref m1, .int 0, .int 0, .int 0, .int (-1), .int 0, .int 0, .int 0, .int 0, .long 0, .ref m11, .ref m12, .ref m13, .ref m14, .ref m15, .ref m16, .ref m17, .ref m18, .ref m19, .ref m20, .ref m21, .ref m22, .ref m23, .ref m24, .ref m25, .ref m26, .ref m27, .ref m28, .ref m29, .ref m30, .ref m31, .ref m32, .ref m33, .ref m34, .ref m35, .ref m36, .ref m37, .ref m38, .int 0, .int 0, .ref m41, .ref m42, .ref m43, .ref m44, .int 0, .int 0, .ref m47, .ref m48, .ref m49, .ref m50, .ref m51, .ref m52, .ref m53, .ref m54])), (m11, .inl (cI, 2, .inl (fun _ => 0)))] H) (hD : va_D (fun q : Nat => s.heap.size ≤ q) [(o0, .inr (11, [.ref o1, .int 0, .ref o2, .ref o3, .ref o4, .ref o5, .ref o6, .ref o7, .ref o8, .ref o9, .ref o10])), (o2, .inr (3, [.ref u1, .ref u2, .ref u3, .ref u4, .ref u5])), (u1, .inr (6, [.int 0, .ref u11, .ref u12, .ref u13, .ref u14, .ref u15, .ref u16, .ref u17])), (m0_, .inr (12, [.ref m0, .ref m1, .int 0, .int 0, .int 0, .int (-1), .int 0, .int 0, .int 0, .int 0, .long 0, .ref m11, .ref m12, .ref m13, .ref m14, .ref m15, .ref m16, .ref m17, .ref m18, .ref m19, .ref m20, .ref m21, .ref m22, .ref m23, .ref m24, .ref m25, .ref m26, .ref m27, .ref m28, .ref m29, .ref m30, .ref m31, .ref m32, .ref m33, .ref m34, .ref m35, .ref m36, .ref m37, .ref m38, .int 0, .int 0, .ref m41, .ref m42, .ref m43, .ref m44, .int 0, .int 0, .ref m47, .ref m48, .ref m49, .ref m50, .ref m51, .ref m52, .ref m53, .ref m54])), (m11, .inl (cI, 2, .inl (fun _ => 0)))]) (hS : va_S (fun q : Nat => s.heap.size ≤ q) s.heap H locs) (hl : lv_has ls 4 [(3, .int 0), (2, .ref m0_), (1, .ref o0), (0, .ref b)]) : W p l e room_1 s m #[Value.ref b] below meth c H locs 124 7401 (lw_Z below #[Value.ref b] s) (F0 m 1264 ls []) := by
  obtain ⟨hx, hb, hr, hml, hown, hts, hlk, hK⟩ := id C0
  generalize hAe : (fun q : Nat => s.heap.size ≤ q) = A at hD hS
  have hA : ∀ q : Nat, s.heap.size ≤ q → A q := fun q h => by rw [← hAe]; exact h
  have hbA : ¬ A b := by rw [← hAe]; exact Nat.not_le.mpr hbl
  refine lv_aload_n hx hb d_law_law_1264 rfl (lv_at hl 2 rfl) ?_
  refine lv_aload_n hx hb d_law_law_1265 rfl (lv_at hl 3 rfl) ?_
  refine lv_iload_n hx hb d_law_law_1266 rfl (lv_at hl 0 rfl) ?_
  refine lv_iconst (v := 1) hx hb d_law_law_1267 (by decide +kernel) ?_
  refine lv_iadd hx hb d_law_law_1268 ?_
  refine nz_ctopi (v := 1) (by decide +kernel) ?_
  refine va_sld hx hb hXs hbl hbA hS (nz_vin (by decide +kernel)) d_law_law_1269 ?_
  refine nz_ctopi (v := xs 1) rfl ?_
  refine lv_aload_n hx hb d_law_law_1270 rfl (lv_at hl 3 rfl) ?_
  refine lv_iload_n hx hb d_law_law_1271 rfl (lv_at hl 0 rfl) ?_
  refine lv_iconst (v := 2) hx hb d_law_law_1272 (by decide +kernel) ?_
  refine lv_iadd hx hb d_law_law_1273 ?_
  refine nz_ctopi (v := 2) (by decide +kernel) ?_
  refine va_sld hx hb hXs hbl hbA hS (nz_vin (by decide +kernel)) d_law_law_1274 ?_
  refine nz_ctopi (v := xs 2) rfl ?_
  refine lv_aload_n hx hb d_law_law_1275 rfl (lv_at hl 3 rfl) ?_
  refine lv_iload_n hx hb d_law_law_1276 rfl (lv_at hl 0 rfl) ?_
  refine lv_iconst (v := 3) hx hb d_law_law_1277 (by decide +kernel) ?_
  refine lv_iadd hx hb d_law_law_1278 ?_
  refine nz_ctopi (v := 3) (by decide +kernel) ?_
  refine va_sld hx hb hXs hbl hbA hS (nz_vin (by decide +kernel)) d_law_law_1279 ?_
  refine nz_ctopi (v := xs 3) rfl ?_
  refine lv_aload_n hx hb d_law_law_1280 rfl (lv_at hl 3 rfl) ?_
  refine lv_iload_n hx hb d_law_law_1281 rfl (lv_at hl 0 rfl) ?_
  refine lv_iconst (v := 4) hx hb d_law_law_1282 (by decide +kernel) ?_
  refine lv_iadd hx hb d_law_law_1283 ?_
  refine nz_ctopi (v := 4) (by decide +kernel) ?_
  refine va_sld hx hb hXs hbl hbA hS (nz_vin (by decide +kernel)) d_law_law_1284 ?_
  refine nz_ctopi (v := xs 4) rfl ?_
  refine lv_aload_n hx hb d_law_law_1285 rfl (lv_at hl 3 rfl) ?_
  refine lv_iload_n hx hb d_law_law_1286 rfl (lv_at hl 0 rfl) ?_
  refine lv_iconst (v := 5) hx hb d_law_law_1287 (by decide +kernel) ?_
  refine lv_iadd hx hb d_law_law_1288 ?_
  refine nz_ctopi (v := 5) (by decide +kernel) ?_
  refine va_sld hx hb hXs hbl hbA hS (nz_vin (by decide +kernel)) d_law_law_1289 ?_
  refine nz_ctopi (v := xs 5) rfl ?_
  refine nz_calVl (As := [.int (xs 1), .int (xs 2), .int (xs 3), .int (xs 4), .int (xs 5)]) (rest := []) C0 (c_NF_mean l D cB cI cJ o0 (xs 1) (xs 2) (xs 3) (xs 4) (xs 5) o1 o2 o3 o4 o5 o6 o7 o8 o9 o10 u1 u2 u3 u4 u5 u11 u12 u13 u14 u15 u16 u17) g_law_117 rfl nz_xb0 (by decide) hl.1 hP hD hS hA [0, 1, 2] [3, 4] rfl (wr := [(m0_, .inr (12, [.ref m0, .ref m1, .int 0, .int 0, .int 0, .int (-1), .int 0, .int 0, .int 0, .int 0, .long 0, .ref m11, .ref m12, .ref m13, .ref m14, .ref m15, .ref m16, .ref m17, .ref m18, .ref m19, .ref m20, .ref m21, .ref m22, .ref m23, .ref m24, .ref m25, .ref m26, .ref m27, .ref m28, .ref m29, .ref m30, .ref m31, .ref m32, .ref m33, .ref m34, .ref m35, .ref m36, .ref m37, .ref m38, .int 0, .int 0, .ref m41, .ref m42, .ref m43, .ref m44, .int 0, .int 0, .ref m47, .ref m48, .ref m49, .ref m50, .ref m51, .ref m52, .ref m53, .ref m54])), (m11, .inl (cI, 2, .inl (fun _ => 0)))]) rfl (by decide) (by decide) (by decide) rfl rfl (fun _ _ _ => trivial) rfl (Nat.le_of_ble_eq_true rfl) d_law_law_1290 (by decide) (fun r_1 u H locs h_2 hP hD hS => ?_)
  obtain ⟨h_2_r, rfl⟩ := h_2
  have hP : va_P D nz_cl [(m0_, .inr (12, [.ref m0, .ref m1, .int 0, .int 0, .int 0, .int (-1), .int 0, .int 0, .int 0, .int 0, .long 0, .ref m11, .ref m12, .ref m13, .ref m14, .ref m15, .ref m16, .ref m17, .ref m18, .ref m19, .ref m20, .ref m21, .ref m22, .ref m23, .ref m24, .ref m25, .ref m26, .ref m27, .ref m28, .ref m29, .ref m30, .ref m31, .ref m32, .ref m33, .ref m34, .ref m35, .ref m36, .ref m37, .ref m38, .int 0, .int 0, .ref m41, .ref m42, .ref m43, .ref m44, .int 0, .int 0, .ref m47, .ref m48, .ref m49, .ref m50, .ref m51, .ref m52, .ref m53, .ref m54])), (m11, .inl (cI, 2, .inl (fun _ => 0))), (o0, .inr (11, [.ref o1, .int 0, .ref o2, .ref o3, .ref o4, .ref o5, .ref o6, .ref o7, .ref o8, .ref o9, .ref o10])), (o2, .inr (3, [.ref u1, .ref u2, .ref u3, .ref u4, .ref u5])), (u1, .inr (6, [.int 0, .ref u11, .ref u12, .ref u13, .ref u14, .ref u15, .ref u16, .ref u17]))] H := hP
  have hD : va_D A [(m0_, .inr (12, [.ref m0, .ref m1, .int 0, .int 0, .int 0, .int (-1), .int 0, .int 0, .int 0, .int 0, .long 0, .ref m11, .ref m12, .ref m13, .ref m14, .ref m15, .ref m16, .ref m17, .ref m18, .ref m19, .ref m20, .ref m21, .ref m22, .ref m23, .ref m24, .ref m25, .ref m26, .ref m27, .ref m28, .ref m29, .ref m30, .ref m31, .ref m32, .ref m33, .ref m34, .ref m35, .ref m36, .ref m37, .ref m38, .int 0, .int 0, .ref m41, .ref m42, .ref m43, .ref m44, .int 0, .int 0, .ref m47, .ref m48, .ref m49, .ref m50, .ref m51, .ref m52, .ref m53, .ref m54])), (m11, .inl (cI, 2, .inl (fun _ => 0))), (o0, .inr (11, [.ref o1, .int 0, .ref o2, .ref o3, .ref o4, .ref o5, .ref o6, .ref o7, .ref o8, .ref o9, .ref o10])), (o2, .inr (3, [.ref u1, .ref u2, .ref u3, .ref u4, .ref u5])), (u1, .inr (6, [.int 0, .ref u11, .ref u12, .ref u13, .ref u14, .ref u15, .ref u16, .ref u17]))] := hD
  subst h_2_r
  refine lv_aload_n hx hb d_law_law_1293 rfl (lv_at hl 1 rfl) ?_
  refine lv_aload_n hx hb d_law_law_1294 rfl (lv_at hl 3 rfl) ?_
  refine lv_iload_n hx hb d_law_law_1295 rfl (lv_at hl 0 rfl) ?_
  refine lv_iconst (v := 1) hx hb d_law_law_1296 (by decide +kernel) ?_
  refine lv_iadd hx hb d_law_law_1297 ?_
  refine nz_ctopi (v := 1) (by decide +kernel) ?_
  refine va_sld hx hb hXs hbl hbA hS (nz_vin (by decide +kernel)) d_law_law_1298 ?_
  refine nz_ctopi (v := xs 1) rfl ?_
  refine lv_aload_n hx hb d_law_law_1299 rfl (lv_at hl 3 rfl) ?_
  refine lv_iload_n hx hb d_law_law_1300 rfl (lv_at hl 0 rfl) ?_
  refine lv_iconst (v := 2) hx hb d_law_law_1301 (by decide +kernel) ?_
  refine lv_iadd hx hb d_law_law_1302 ?_
  refine nz_ctopi (v := 2) (by decide +kernel) ?_
  refine va_sld hx hb hXs hbl hbA hS (nz_vin (by decide +kernel)) d_law_law_1303 ?_
  refine nz_ctopi (v := xs 2) rfl ?_
  refine lv_aload_n hx hb d_law_law_1304 rfl (lv_at hl 3 rfl) ?_
  refine lv_iload_n hx hb d_law_law_1305 rfl (lv_at hl 0 rfl) ?_
  refine lv_iconst (v := 3) hx hb d_law_law_1306 (by decide +kernel) ?_
  refine lv_iadd hx hb d_law_law_1307 ?_
  refine nz_ctopi (v := 3) (by decide +kernel) ?_
  refine va_sld hx hb hXs hbl hbA hS (nz_vin (by decide +kernel)) d_law_law_1308 ?_
  refine nz_ctopi (v := xs 3) rfl ?_
  refine lv_aload_n hx hb d_law_law_1309 rfl (lv_at hl 3 rfl) ?_
  refine lv_iload_n hx hb d_law_law_1310 rfl (lv_at hl 0 rfl) ?_
  refine lv_iconst (v := 4) hx hb d_law_law_1311 (by decide +kernel) ?_
  refine lv_iadd hx hb d_law_law_1312 ?_
  refine nz_ctopi (v := 4) (by decide +kernel) ?_
  refine va_sld hx hb hXs hbl hbA hS (nz_vin (by decide +kernel)) d_law_law_1313 ?_
  refine nz_ctopi (v := xs 4) rfl ?_
  refine lv_aload_n hx hb d_law_law_1314 rfl (lv_at hl 3 rfl) ?_
  refine lv_iload_n hx hb d_law_law_1315 rfl (lv_at hl 0 rfl) ?_
  refine lv_iconst (v := 5) hx hb d_law_law_1316 (by decide +kernel) ?_
  refine lv_iadd hx hb d_law_law_1317 ?_
  refine nz_ctopi (v := 5) (by decide +kernel) ?_
  refine va_sld hx hb hXs hbl hbA hS (nz_vin (by decide +kernel)) d_law_law_1318 ?_
  refine nz_ctopi (v := xs 5) rfl ?_
  refine nz_calVl (As := [.int (xs 1), .int (xs 2), .int (xs 3), .int (xs 4), .int (xs 5)]) (rest := [.long (-1)]) C0 (c_Mo_mean l D cB cI cJ m0_ (xs 1) (xs 2) (xs 3) (xs 4) (xs 5) m0 m1 m11 m12 m13 m14 m15 m16 m17 m18 m19 m20 m21 m22 m23 m24 m25 m26 m27 m28 m29 m30 m31 m32 m33 m34 m35 m36 m37 m38 m41 m42 m43 m44 m47 m48 m49 m50 m51 m52 m53 m54) g_law_121 rfl nz_xb0 (by decide) hl.1 hP hD hS hA [0, 1] [2, 3, 4] rfl (wr := [(o0, .inr (11, [.ref o1, .int 0, .ref o2, .ref o3, .ref o4, .ref o5, .ref o6, .ref o7, .ref o8, .ref o9, .ref o10])), (o2, .inr (3, [.ref u1, .ref u2, .ref u3, .ref u4, .ref u5])), (u1, .inr (6, [.int 0, .ref u11, .ref u12, .ref u13, .ref u14, .ref u15, .ref u16, .ref u17]))]) rfl (by decide) (by decide) (by decide) rfl rfl (fun _ _ _ => trivial) rfl (Nat.le_of_ble_eq_true rfl) d_law_law_1319 (by decide) (fun r_3 u H locs h_4 hP hD hS => ?_)
  obtain ⟨h_4_r, rfl⟩ := h_4
  have hP : va_P D nz_cl [(o0, .inr (11, [.ref o1, .int 0, .ref o2, .ref o3, .ref o4, .ref o5, .ref o6, .ref o7, .ref o8, .ref o9, .ref o10])), (o2, .inr (3, [.ref u1, .ref u2, .ref u3, .ref u4, .ref u5])), (u1, .inr (6, [.int 0, .ref u11, .ref u12, .ref u13, .ref u14, .ref u15, .ref u16, .ref u17])), (m0_, .inr (12, [.ref m0, .ref m1, .int 0, .int 0, .int 0, .int (-1), .int 0, .int 0, .int 0, .int 0, .long 0, .ref m11, .ref m12, .ref m13, .ref m14, .ref m15, .ref m16, .ref m17, .ref m18, .ref m19, .ref m20, .ref m21, .ref m22, .ref m23, .ref m24, .ref m25, .ref m26, .ref m27, .ref m28, .ref m29, .ref m30, .ref m31, .ref m32, .ref m33, .ref m34, .ref m35, .ref m36, .ref m37, .ref m38, .int 0, .int 0, .ref m41, .ref m42, .ref m43, .ref m44, .int 0, .int 0, .ref m47, .ref m48, .ref m49, .ref m50, .ref m51, .ref m52, .ref m53, .ref m54])), (m11, .inl (cI, 2, .inl (fun _ => 0)))] H := hP
  have hD : va_D A [(o0, .inr (11, [.ref o1, .int 0, .ref o2, .ref o3, .ref o4, .ref o5, .ref o6, .ref o7, .ref o8, .ref o9, .ref o10])), (o2, .inr (3, [.ref u1, .ref u2, .ref u3, .ref u4, .ref u5])), (u1, .inr (6, [.int 0, .ref u11, .ref u12, .ref u13, .ref u14, .ref u15, .ref u16, .ref u17])), (m0_, .inr (12, [.ref m0, .ref m1, .int 0, .int 0, .int 0, .int (-1), .int 0, .int 0, .int 0, .int 0, .long 0, .ref m11, .ref m12, .ref m13, .ref m14, .ref m15, .ref m16, .ref m17, .ref m18, .ref m19, .ref m20, .ref m21, .ref m22, .ref m23, .ref m24, .ref m25, .ref m26, .ref m27, .ref m28, .ref m29, .ref m30, .ref m31, .ref m32, .ref m33, .ref m34, .ref m35, .ref m36, .ref m37, .ref m38, .int 0, .int 0, .ref m41, .ref m42, .ref m43, .ref m44, .int 0, .int 0, .ref m47, .ref m48, .ref m49, .ref m50, .ref m51, .ref m52, .ref m53, .ref m54])), (m11, .inl (cI, 2, .inl (fun _ => 0)))] := hD
  subst h_4_r
  refine W.lcmp hx hb d_law_law_1322 ?_
  refine nz_ctopi (v := 0) (by decide +kernel) ?_
  refine lv_if_eq (tgt := 1427) hx hb d_law_law_1323 (by decide) (fun c_5 => ?_) (fun c_5 => absurd (by decide +kernel) c_5)
  exact nz_ltail C0 hXs hbl (by rw [hAe]; exact hS) hl
set_option maxHeartbeats 4000000 in
set_option maxRecDepth 100000 in
theorem nz_law_25 {p : Program} {l : Launch} {e : Env} {s : State} {m : MethodId} {below : List Frame} {meth : Method} {c : Code} {b : Nat} {xs : Nat → Int32} {H : Heap} {locs : List Loc} {ls : Array Slot} (D : va_G) (cB cI cJ : ClassId) (o0 : Nat) (o1 : Nat) (o2 : Nat) (o3 : Nat) (o4 : Nat) (o5 : Nat) (o6 : Nat) (o7 : Nat) (o8 : Nat) (o9 : Nat) (o10 : Nat) (u1 : Nat) (u2 : Nat) (u3 : Nat) (u4 : Nat) (u5 : Nat) (u11 : Nat) (u12 : Nat) (u13 : Nat) (u14 : Nat) (u15 : Nat) (u16 : Nat) (u17 : Nat) (m0_ : Nat) (m0 : Nat) (m1 : Nat) (m11 : Nat) (m12 : Nat) (m13 : Nat) (m14 : Nat) (m15 : Nat) (m16 : Nat) (m17 : Nat) (m18 : Nat) (m19 : Nat) (m20 : Nat) (m21 : Nat) (m22 : Nat) (m23 : Nat) (m24 : Nat) (m25 : Nat) (m26 : Nat) (m27 : Nat) (m28 : Nat) (m29 : Nat) (m30 : Nat) (m31 : Nat) (m32 : Nat) (m33 : Nat) (m34 : Nat) (m35 : Nat) (m36 : Nat) (m37 : Nat) (m38 : Nat) (m41 : Nat) (m42 : Nat) (m43 : Nat) (m44 : Nat) (m47 : Nat) (m48 : Nat) (m49 : Nat) (m50 : Nat) (m51 : Nat) (m52 : Nat) (m53 : Nat) (m54 : Nat) (C0 : nz_Cx p s m #[Value.ref b] meth c code 4 ret R_law D cB cI cJ) (hXs : va_X b 7 xs s s.heap) (hbl : b < s.heap.size) (hP : va_P D nz_cl [(o0, .inr (11, [.ref o1, .int 0, .ref o2, .ref o3, .ref o4, .ref o5, .ref o6, .ref o7, .ref o8, .ref o9, .ref o10])), (o2, .inr (3, [.ref u1, .ref u2, .ref u3, .ref u4, .ref u5])), (u1, .inr (6, [.int 0, .ref u11, .ref u12, .ref u13, .ref u14, .ref u15, .ref u16, .ref u17])), (m0_, .inr (12, [.ref m0, .ref m1, .int 0, .int 0, .int 0, .int (-1), .int 0, .int 0, .int 0, .int 0, .long 0, .ref m11, .ref m12, .ref m13, .ref m14, .ref m15, .ref m16, .ref m17, .ref m18, .ref m19, .ref m20, .ref m21, .ref m22, .ref m23, .ref m24, .ref m25, .ref m26, .ref m27, .ref m28, .ref m29, .ref m30, .ref m31, .ref m32, .ref m33, .ref m34, .ref m35, .ref m36, .ref m37, .ref m38, .int 0, .int 0, .ref m41, .ref m42, .ref m43, .ref m44, .int 0, .int 0, .ref m47, .ref m48, .ref m49, .ref m50, .ref m51, .ref m52, .ref m53, .ref m54])), (m11, .inl (cI, 2, .inl (fun _ => 0)))] H) (hD : va_D (fun q : Nat => s.heap.size ≤ q) [(o0, .inr (11, [.ref o1, .int 0, .ref o2, .ref o3, .ref o4, .ref o5, .ref o6, .ref o7, .ref o8, .ref o9, .ref o10])), (o2, .inr (3, [.ref u1, .ref u2, .ref u3, .ref u4, .ref u5])), (u1, .inr (6, [.int 0, .ref u11, .ref u12, .ref u13, .ref u14, .ref u15, .ref u16, .ref u17])), (m0_, .inr (12, [.ref m0, .ref m1, .int 0, .int 0, .int 0, .int (-1), .int 0, .int 0, .int 0, .int 0, .long 0, .ref m11, .ref m12, .ref m13, .ref m14, .ref m15, .ref m16, .ref m17, .ref m18, .ref m19, .ref m20, .ref m21, .ref m22, .ref m23, .ref m24, .ref m25, .ref m26, .ref m27, .ref m28, .ref m29, .ref m30, .ref m31, .ref m32, .ref m33, .ref m34, .ref m35, .ref m36, .ref m37, .ref m38, .int 0, .int 0, .ref m41, .ref m42, .ref m43, .ref m44, .int 0, .int 0, .ref m47, .ref m48, .ref m49, .ref m50, .ref m51, .ref m52, .ref m53, .ref m54])), (m11, .inl (cI, 2, .inl (fun _ => 0)))]) (hS : va_S (fun q : Nat => s.heap.size ≤ q) s.heap H locs) (hl : lv_has ls 4 [(3, .int 0), (2, .ref m0_), (1, .ref o0), (0, .ref b)]) : W p l e room_1 s m #[Value.ref b] below meth c H locs 124 7401 (lw_Z below #[Value.ref b] s) (F0 m 1328 ls []) := by
  obtain ⟨hx, hb, hr, hml, hown, hts, hlk, hK⟩ := id C0
  generalize hAe : (fun q : Nat => s.heap.size ≤ q) = A at hD hS
  have hA : ∀ q : Nat, s.heap.size ≤ q → A q := fun q h => by rw [← hAe]; exact h
  have hbA : ¬ A b := by rw [← hAe]; exact Nat.not_le.mpr hbl
  refine lv_aload_n hx hb d_law_law_1328 rfl (lv_at hl 2 rfl) ?_
  refine lv_aload_n hx hb d_law_law_1329 rfl (lv_at hl 3 rfl) ?_
  refine lv_iload_n hx hb d_law_law_1330 rfl (lv_at hl 0 rfl) ?_
  refine lv_iconst (v := 1) hx hb d_law_law_1331 (by decide +kernel) ?_
  refine lv_iadd hx hb d_law_law_1332 ?_
  refine nz_ctopi (v := 1) (by decide +kernel) ?_
  refine va_sld hx hb hXs hbl hbA hS (nz_vin (by decide +kernel)) d_law_law_1333 ?_
  refine nz_ctopi (v := xs 1) rfl ?_
  refine lv_aload_n hx hb d_law_law_1334 rfl (lv_at hl 3 rfl) ?_
  refine lv_iload_n hx hb d_law_law_1335 rfl (lv_at hl 0 rfl) ?_
  refine lv_iconst (v := 2) hx hb d_law_law_1336 (by decide +kernel) ?_
  refine lv_iadd hx hb d_law_law_1337 ?_
  refine nz_ctopi (v := 2) (by decide +kernel) ?_
  refine va_sld hx hb hXs hbl hbA hS (nz_vin (by decide +kernel)) d_law_law_1338 ?_
  refine nz_ctopi (v := xs 2) rfl ?_
  refine lv_aload_n hx hb d_law_law_1339 rfl (lv_at hl 3 rfl) ?_
  refine lv_iload_n hx hb d_law_law_1340 rfl (lv_at hl 0 rfl) ?_
  refine lv_iconst (v := 3) hx hb d_law_law_1341 (by decide +kernel) ?_
  refine lv_iadd hx hb d_law_law_1342 ?_
  refine nz_ctopi (v := 3) (by decide +kernel) ?_
  refine va_sld hx hb hXs hbl hbA hS (nz_vin (by decide +kernel)) d_law_law_1343 ?_
  refine nz_ctopi (v := xs 3) rfl ?_
  refine nz_calVi (As := [.int (xs 1), .int (xs 2), .int (xs 3)]) (rest := []) C0 (c_NF_wish l D cB cI cJ o0 (xs 1) (xs 2) (xs 3) o1 o2 o3 o4 o5 o6 o7 o8 o9 o10 u1 u2 u3 u4 u5 u11 u12 u13 u14 u15 u16 u17) g_law_122 rfl nz_xb0 (by decide) hl.1 hP hD hS hA [0, 1, 2] [3, 4] rfl (wr := [(m0_, .inr (12, [.ref m0, .ref m1, .int 0, .int 0, .int 0, .int (-1), .int 0, .int 0, .int 0, .int 0, .long 0, .ref m11, .ref m12, .ref m13, .ref m14, .ref m15, .ref m16, .ref m17, .ref m18, .ref m19, .ref m20, .ref m21, .ref m22, .ref m23, .ref m24, .ref m25, .ref m26, .ref m27, .ref m28, .ref m29, .ref m30, .ref m31, .ref m32, .ref m33, .ref m34, .ref m35, .ref m36, .ref m37, .ref m38, .int 0, .int 0, .ref m41, .ref m42, .ref m43, .ref m44, .int 0, .int 0, .ref m47, .ref m48, .ref m49, .ref m50, .ref m51, .ref m52, .ref m53, .ref m54])), (m11, .inl (cI, 2, .inl (fun _ => 0)))]) rfl (by decide) (by decide) (by decide) rfl rfl (fun _ _ _ => trivial) rfl (Nat.le_of_ble_eq_true rfl) d_law_law_1344 (by decide) (fun r_1 u H locs h_2 hP hD hS => ?_)
  obtain ⟨h_2_r, rfl⟩ := h_2
  have hP : va_P D nz_cl [(m0_, .inr (12, [.ref m0, .ref m1, .int 0, .int 0, .int 0, .int (-1), .int 0, .int 0, .int 0, .int 0, .long 0, .ref m11, .ref m12, .ref m13, .ref m14, .ref m15, .ref m16, .ref m17, .ref m18, .ref m19, .ref m20, .ref m21, .ref m22, .ref m23, .ref m24, .ref m25, .ref m26, .ref m27, .ref m28, .ref m29, .ref m30, .ref m31, .ref m32, .ref m33, .ref m34, .ref m35, .ref m36, .ref m37, .ref m38, .int 0, .int 0, .ref m41, .ref m42, .ref m43, .ref m44, .int 0, .int 0, .ref m47, .ref m48, .ref m49, .ref m50, .ref m51, .ref m52, .ref m53, .ref m54])), (m11, .inl (cI, 2, .inl (fun _ => 0))), (o0, .inr (11, [.ref o1, .int 0, .ref o2, .ref o3, .ref o4, .ref o5, .ref o6, .ref o7, .ref o8, .ref o9, .ref o10])), (o2, .inr (3, [.ref u1, .ref u2, .ref u3, .ref u4, .ref u5])), (u1, .inr (6, [.int 0, .ref u11, .ref u12, .ref u13, .ref u14, .ref u15, .ref u16, .ref u17]))] H := hP
  have hD : va_D A [(m0_, .inr (12, [.ref m0, .ref m1, .int 0, .int 0, .int 0, .int (-1), .int 0, .int 0, .int 0, .int 0, .long 0, .ref m11, .ref m12, .ref m13, .ref m14, .ref m15, .ref m16, .ref m17, .ref m18, .ref m19, .ref m20, .ref m21, .ref m22, .ref m23, .ref m24, .ref m25, .ref m26, .ref m27, .ref m28, .ref m29, .ref m30, .ref m31, .ref m32, .ref m33, .ref m34, .ref m35, .ref m36, .ref m37, .ref m38, .int 0, .int 0, .ref m41, .ref m42, .ref m43, .ref m44, .int 0, .int 0, .ref m47, .ref m48, .ref m49, .ref m50, .ref m51, .ref m52, .ref m53, .ref m54])), (m11, .inl (cI, 2, .inl (fun _ => 0))), (o0, .inr (11, [.ref o1, .int 0, .ref o2, .ref o3, .ref o4, .ref o5, .ref o6, .ref o7, .ref o8, .ref o9, .ref o10])), (o2, .inr (3, [.ref u1, .ref u2, .ref u3, .ref u4, .ref u5])), (u1, .inr (6, [.int 0, .ref u11, .ref u12, .ref u13, .ref u14, .ref u15, .ref u16, .ref u17]))] := hD
  subst h_2_r
  refine lv_aload_n hx hb d_law_law_1347 rfl (lv_at hl 1 rfl) ?_
  refine lv_aload_n hx hb d_law_law_1348 rfl (lv_at hl 3 rfl) ?_
  refine lv_iload_n hx hb d_law_law_1349 rfl (lv_at hl 0 rfl) ?_
  refine lv_iconst (v := 1) hx hb d_law_law_1350 (by decide +kernel) ?_
  refine lv_iadd hx hb d_law_law_1351 ?_
  refine nz_ctopi (v := 1) (by decide +kernel) ?_
  refine va_sld hx hb hXs hbl hbA hS (nz_vin (by decide +kernel)) d_law_law_1352 ?_
  refine nz_ctopi (v := xs 1) rfl ?_
  refine lv_aload_n hx hb d_law_law_1353 rfl (lv_at hl 3 rfl) ?_
  refine lv_iload_n hx hb d_law_law_1354 rfl (lv_at hl 0 rfl) ?_
  refine lv_iconst (v := 2) hx hb d_law_law_1355 (by decide +kernel) ?_
  refine lv_iadd hx hb d_law_law_1356 ?_
  refine nz_ctopi (v := 2) (by decide +kernel) ?_
  refine va_sld hx hb hXs hbl hbA hS (nz_vin (by decide +kernel)) d_law_law_1357 ?_
  refine nz_ctopi (v := xs 2) rfl ?_
  refine lv_aload_n hx hb d_law_law_1358 rfl (lv_at hl 3 rfl) ?_
  refine lv_iload_n hx hb d_law_law_1359 rfl (lv_at hl 0 rfl) ?_
  refine lv_iconst (v := 3) hx hb d_law_law_1360 (by decide +kernel) ?_
  refine lv_iadd hx hb d_law_law_1361 ?_
  refine nz_ctopi (v := 3) (by decide +kernel) ?_
  refine va_sld hx hb hXs hbl hbA hS (nz_vin (by decide +kernel)) d_law_law_1362 ?_
  refine nz_ctopi (v := xs 3) rfl ?_
  refine nz_calVi (As := [.int (xs 1), .int (xs 2), .int (xs 3)]) (rest := [.int (-1)]) C0 (c_Mo_wish l D cB cI cJ m0_ (xs 1) (xs 2) (xs 3) m0 m1 m11 m12 m13 m14 m15 m16 m17 m18 m19 m20 m21 m22 m23 m24 m25 m26 m27 m28 m29 m30 m31 m32 m33 m34 m35 m36 m37 m38 m41 m42 m43 m44 m47 m48 m49 m50 m51 m52 m53 m54) g_law_125 rfl nz_xb0 (by decide) hl.1 hP hD hS hA [0, 1] [2, 3, 4] rfl (wr := [(o0, .inr (11, [.ref o1, .int 0, .ref o2, .ref o3, .ref o4, .ref o5, .ref o6, .ref o7, .ref o8, .ref o9, .ref o10])), (o2, .inr (3, [.ref u1, .ref u2, .ref u3, .ref u4, .ref u5])), (u1, .inr (6, [.int 0, .ref u11, .ref u12, .ref u13, .ref u14, .ref u15, .ref u16, .ref u17]))]) rfl (by decide) (by decide) (by decide) rfl rfl (fun _ _ _ => trivial) rfl (Nat.le_of_ble_eq_true rfl) d_law_law_1363 (by decide) (fun r_3 u H locs h_4 hP hD hS => ?_)
  obtain ⟨h_4_r, rfl⟩ := h_4
  have hP : va_P D nz_cl [(o0, .inr (11, [.ref o1, .int 0, .ref o2, .ref o3, .ref o4, .ref o5, .ref o6, .ref o7, .ref o8, .ref o9, .ref o10])), (o2, .inr (3, [.ref u1, .ref u2, .ref u3, .ref u4, .ref u5])), (u1, .inr (6, [.int 0, .ref u11, .ref u12, .ref u13, .ref u14, .ref u15, .ref u16, .ref u17])), (m0_, .inr (12, [.ref m0, .ref m1, .int 0, .int 0, .int 0, .int (-1), .int 0, .int 0, .int 0, .int 0, .long 0, .ref m11, .ref m12, .ref m13, .ref m14, .ref m15, .ref m16, .ref m17, .ref m18, .ref m19, .ref m20, .ref m21, .ref m22, .ref m23, .ref m24, .ref m25, .ref m26, .ref m27, .ref m28, .ref m29, .ref m30, .ref m31, .ref m32, .ref m33, .ref m34, .ref m35, .ref m36, .ref m37, .ref m38, .int 0, .int 0, .ref m41, .ref m42, .ref m43, .ref m44, .int 0, .int 0, .ref m47, .ref m48, .ref m49, .ref m50, .ref m51, .ref m52, .ref m53, .ref m54])), (m11, .inl (cI, 2, .inl (fun _ => 0)))] H := hP
  have hD : va_D A [(o0, .inr (11, [.ref o1, .int 0, .ref o2, .ref o3, .ref o4, .ref o5, .ref o6, .ref o7, .ref o8, .ref o9, .ref o10])), (o2, .inr (3, [.ref u1, .ref u2, .ref u3, .ref u4, .ref u5])), (u1, .inr (6, [.int 0, .ref u11, .ref u12, .ref u13, .ref u14, .ref u15, .ref u16, .ref u17])), (m0_, .inr (12, [.ref m0, .ref m1, .int 0, .int 0, .int 0, .int (-1), .int 0, .int 0, .int 0, .int 0, .long 0, .ref m11, .ref m12, .ref m13, .ref m14, .ref m15, .ref m16, .ref m17, .ref m18, .ref m19, .ref m20, .ref m21, .ref m22, .ref m23, .ref m24, .ref m25, .ref m26, .ref m27, .ref m28, .ref m29, .ref m30, .ref m31, .ref m32, .ref m33, .ref m34, .ref m35, .ref m36, .ref m37, .ref m38, .int 0, .int 0, .ref m41, .ref m42, .ref m43, .ref m44, .int 0, .int 0, .ref m47, .ref m48, .ref m49, .ref m50, .ref m51, .ref m52, .ref m53, .ref m54])), (m11, .inl (cI, 2, .inl (fun _ => 0)))] := hD
  subst h_4_r
  refine lv_icmp_eq (tgt := 1427) hx hb d_law_law_1366 (by decide) (fun c_5 => ?_) (fun c_5 => absurd (by decide +kernel) c_5)
  exact nz_ltail C0 hXs hbl (by rw [hAe]; exact hS) hl
set_option maxHeartbeats 4000000 in
set_option maxRecDepth 100000 in
theorem nz_law_26 {p : Program} {l : Launch} {e : Env} {s : State} {m : MethodId} {below : List Frame} {meth : Method} {c : Code} {b : Nat} {xs : Nat → Int32} {H : Heap} {locs : List Loc} {ls : Array Slot} (D : va_G) (cB cI cJ : ClassId) (o0 : Nat) (o1 : Nat) (o2 : Nat) (o3 : Nat) (o4 : Nat) (o5 : Nat) (o6 : Nat) (o7 : Nat) (o8 : Nat) (o9 : Nat) (o10 : Nat) (u1 : Nat) (u2 : Nat) (u3 : Nat) (u4 : Nat) (u5 : Nat) (u21 : Nat) (u22 : Nat) (u23 : Nat) (u24 : Nat) (m0_ : Nat) (m0 : Nat) (m1 : Nat) (m11 : Nat) (m12 : Nat) (m13 : Nat) (m14 : Nat) (m15 : Nat) (m16 : Nat) (m17 : Nat) (m18 : Nat) (m19 : Nat) (m20 : Nat) (m21 : Nat) (m22 : Nat) (m23 : Nat) (m24 : Nat) (m25 : Nat) (m26 : Nat) (m27 : Nat) (m28 : Nat) (m29 : Nat) (m30 : Nat) (m31 : Nat) (m32 : Nat) (m33 : Nat) (m34 : Nat) (m35 : Nat) (m36 : Nat) (m37 : Nat) (m38 : Nat) (m41 : Nat) (m42 : Nat) (m43 : Nat) (m44 : Nat) (m47 : Nat) (m48 : Nat) (m49 : Nat) (m50 : Nat) (m51 : Nat) (m52 : Nat) (m53 : Nat) (m54 : Nat) (C0 : nz_Cx p s m #[Value.ref b] meth c code 4 ret R_law D cB cI cJ) (hXs : va_X b 7 xs s s.heap) (hbl : b < s.heap.size) (hP : va_P D nz_cl [(o0, .inr (11, [.ref o1, .int 0, .ref o2, .ref o3, .ref o4, .ref o5, .ref o6, .ref o7, .ref o8, .ref o9, .ref o10])), (o2, .inr (3, [.ref u1, .ref u2, .ref u3, .ref u4, .ref u5])), (u2, .inr (4, [.int 0, .ref u21, .int 0, .ref u22, .ref u23, .ref u24])), (m0_, .inr (12, [.ref m0, .ref m1, .int 0, .int 0, .int 0, .int (-1), .int 0, .int 0, .int 0, .int 0, .long 0, .ref m11, .ref m12, .ref m13, .ref m14, .ref m15, .ref m16, .ref m17, .ref m18, .ref m19, .ref m20, .ref m21, .ref m22, .ref m23, .ref m24, .ref m25, .ref m26, .ref m27, .ref m28, .ref m29, .ref m30, .ref m31, .ref m32, .ref m33, .ref m34, .ref m35, .ref m36, .ref m37, .ref m38, .int 0, .int 0, .ref m41, .ref m42, .ref m43, .ref m44, .int 0, .int 0, .ref m47, .ref m48, .ref m49, .ref m50, .ref m51, .ref m52, .ref m53, .ref m54])), (m12, .inl (cI, 2, .inl (fun _ => 0)))] H) (hD : va_D (fun q : Nat => s.heap.size ≤ q) [(o0, .inr (11, [.ref o1, .int 0, .ref o2, .ref o3, .ref o4, .ref o5, .ref o6, .ref o7, .ref o8, .ref o9, .ref o10])), (o2, .inr (3, [.ref u1, .ref u2, .ref u3, .ref u4, .ref u5])), (u2, .inr (4, [.int 0, .ref u21, .int 0, .ref u22, .ref u23, .ref u24])), (m0_, .inr (12, [.ref m0, .ref m1, .int 0, .int 0, .int 0, .int (-1), .int 0, .int 0, .int 0, .int 0, .long 0, .ref m11, .ref m12, .ref m13, .ref m14, .ref m15, .ref m16, .ref m17, .ref m18, .ref m19, .ref m20, .ref m21, .ref m22, .ref m23, .ref m24, .ref m25, .ref m26, .ref m27, .ref m28, .ref m29, .ref m30, .ref m31, .ref m32, .ref m33, .ref m34, .ref m35, .ref m36, .ref m37, .ref m38, .int 0, .int 0, .ref m41, .ref m42, .ref m43, .ref m44, .int 0, .int 0, .ref m47, .ref m48, .ref m49, .ref m50, .ref m51, .ref m52, .ref m53, .ref m54])), (m12, .inl (cI, 2, .inl (fun _ => 0)))]) (hS : va_S (fun q : Nat => s.heap.size ≤ q) s.heap H locs) (hl : lv_has ls 4 [(3, .int 0), (2, .ref m0_), (1, .ref o0), (0, .ref b)]) : W p l e room_1 s m #[Value.ref b] below meth c H locs 124 7401 (lw_Z below #[Value.ref b] s) (F0 m 1371 ls []) := by
  obtain ⟨hx, hb, hr, hml, hown, hts, hlk, hK⟩ := id C0
  generalize hAe : (fun q : Nat => s.heap.size ≤ q) = A at hD hS
  have hA : ∀ q : Nat, s.heap.size ≤ q → A q := fun q h => by rw [← hAe]; exact h
  have hbA : ¬ A b := by rw [← hAe]; exact Nat.not_le.mpr hbl
  refine lv_aload_n hx hb d_law_law_1371 rfl (lv_at hl 2 rfl) ?_
  refine lv_aload_n hx hb d_law_law_1372 rfl (lv_at hl 3 rfl) ?_
  refine lv_iload_n hx hb d_law_law_1373 rfl (lv_at hl 0 rfl) ?_
  refine lv_iconst (v := 1) hx hb d_law_law_1374 (by decide +kernel) ?_
  refine lv_iadd hx hb d_law_law_1375 ?_
  refine nz_ctopi (v := 1) (by decide +kernel) ?_
  refine va_sld hx hb hXs hbl hbA hS (nz_vin (by decide +kernel)) d_law_law_1376 ?_
  refine nz_ctopi (v := xs 1) rfl ?_
  refine lv_aload_n hx hb d_law_law_1377 rfl (lv_at hl 3 rfl) ?_
  refine lv_iload_n hx hb d_law_law_1378 rfl (lv_at hl 0 rfl) ?_
  refine lv_iconst (v := 2) hx hb d_law_law_1379 (by decide +kernel) ?_
  refine lv_iadd hx hb d_law_law_1380 ?_
  refine nz_ctopi (v := 2) (by decide +kernel) ?_
  refine va_sld hx hb hXs hbl hbA hS (nz_vin (by decide +kernel)) d_law_law_1381 ?_
  refine nz_ctopi (v := xs 2) rfl ?_
  refine nz_calVi (As := [.int (xs 1), .int (xs 2)]) (rest := []) C0 (c_NF_old l D cB cI cJ o0 (xs 1) (xs 2) o1 o2 o3 o4 o5 o6 o7 o8 o9 o10 u1 u2 u3 u4 u5 u21 u22 u23 u24) g_law_126 rfl nz_xb0 (by decide) hl.1 hP hD hS hA [0, 1, 2] [3, 4] rfl (wr := [(m0_, .inr (12, [.ref m0, .ref m1, .int 0, .int 0, .int 0, .int (-1), .int 0, .int 0, .int 0, .int 0, .long 0, .ref m11, .ref m12, .ref m13, .ref m14, .ref m15, .ref m16, .ref m17, .ref m18, .ref m19, .ref m20, .ref m21, .ref m22, .ref m23, .ref m24, .ref m25, .ref m26, .ref m27, .ref m28, .ref m29, .ref m30, .ref m31, .ref m32, .ref m33, .ref m34, .ref m35, .ref m36, .ref m37, .ref m38, .int 0, .int 0, .ref m41, .ref m42, .ref m43, .ref m44, .int 0, .int 0, .ref m47, .ref m48, .ref m49, .ref m50, .ref m51, .ref m52, .ref m53, .ref m54])), (m12, .inl (cI, 2, .inl (fun _ => 0)))]) rfl (by decide) (by decide) (by decide) rfl rfl (fun _ _ _ => trivial) rfl (Nat.le_of_ble_eq_true rfl) d_law_law_1382 (by decide) (fun r_1 u H locs h_2 hP hD hS => ?_)
  obtain ⟨h_2_r, rfl⟩ := h_2
  have hP : va_P D nz_cl [(m0_, .inr (12, [.ref m0, .ref m1, .int 0, .int 0, .int 0, .int (-1), .int 0, .int 0, .int 0, .int 0, .long 0, .ref m11, .ref m12, .ref m13, .ref m14, .ref m15, .ref m16, .ref m17, .ref m18, .ref m19, .ref m20, .ref m21, .ref m22, .ref m23, .ref m24, .ref m25, .ref m26, .ref m27, .ref m28, .ref m29, .ref m30, .ref m31, .ref m32, .ref m33, .ref m34, .ref m35, .ref m36, .ref m37, .ref m38, .int 0, .int 0, .ref m41, .ref m42, .ref m43, .ref m44, .int 0, .int 0, .ref m47, .ref m48, .ref m49, .ref m50, .ref m51, .ref m52, .ref m53, .ref m54])), (m12, .inl (cI, 2, .inl (fun _ => 0))), (o0, .inr (11, [.ref o1, .int 0, .ref o2, .ref o3, .ref o4, .ref o5, .ref o6, .ref o7, .ref o8, .ref o9, .ref o10])), (o2, .inr (3, [.ref u1, .ref u2, .ref u3, .ref u4, .ref u5])), (u2, .inr (4, [.int 0, .ref u21, .int 0, .ref u22, .ref u23, .ref u24]))] H := hP
  have hD : va_D A [(m0_, .inr (12, [.ref m0, .ref m1, .int 0, .int 0, .int 0, .int (-1), .int 0, .int 0, .int 0, .int 0, .long 0, .ref m11, .ref m12, .ref m13, .ref m14, .ref m15, .ref m16, .ref m17, .ref m18, .ref m19, .ref m20, .ref m21, .ref m22, .ref m23, .ref m24, .ref m25, .ref m26, .ref m27, .ref m28, .ref m29, .ref m30, .ref m31, .ref m32, .ref m33, .ref m34, .ref m35, .ref m36, .ref m37, .ref m38, .int 0, .int 0, .ref m41, .ref m42, .ref m43, .ref m44, .int 0, .int 0, .ref m47, .ref m48, .ref m49, .ref m50, .ref m51, .ref m52, .ref m53, .ref m54])), (m12, .inl (cI, 2, .inl (fun _ => 0))), (o0, .inr (11, [.ref o1, .int 0, .ref o2, .ref o3, .ref o4, .ref o5, .ref o6, .ref o7, .ref o8, .ref o9, .ref o10])), (o2, .inr (3, [.ref u1, .ref u2, .ref u3, .ref u4, .ref u5])), (u2, .inr (4, [.int 0, .ref u21, .int 0, .ref u22, .ref u23, .ref u24]))] := hD
  subst h_2_r
  refine lv_aload_n hx hb d_law_law_1385 rfl (lv_at hl 1 rfl) ?_
  refine lv_aload_n hx hb d_law_law_1386 rfl (lv_at hl 3 rfl) ?_
  refine lv_iload_n hx hb d_law_law_1387 rfl (lv_at hl 0 rfl) ?_
  refine lv_iconst (v := 1) hx hb d_law_law_1388 (by decide +kernel) ?_
  refine lv_iadd hx hb d_law_law_1389 ?_
  refine nz_ctopi (v := 1) (by decide +kernel) ?_
  refine va_sld hx hb hXs hbl hbA hS (nz_vin (by decide +kernel)) d_law_law_1390 ?_
  refine nz_ctopi (v := xs 1) rfl ?_
  refine lv_aload_n hx hb d_law_law_1391 rfl (lv_at hl 3 rfl) ?_
  refine lv_iload_n hx hb d_law_law_1392 rfl (lv_at hl 0 rfl) ?_
  refine lv_iconst (v := 2) hx hb d_law_law_1393 (by decide +kernel) ?_
  refine lv_iadd hx hb d_law_law_1394 ?_
  refine nz_ctopi (v := 2) (by decide +kernel) ?_
  refine va_sld hx hb hXs hbl hbA hS (nz_vin (by decide +kernel)) d_law_law_1395 ?_
  refine nz_ctopi (v := xs 2) rfl ?_
  refine nz_calVi (As := [.int (xs 1), .int (xs 2)]) (rest := [.int (-1)]) C0 (c_Mo_old l D cB cI cJ m0_ (xs 1) (xs 2) m0 m1 m11 m12 m13 m14 m15 m16 m17 m18 m19 m20 m21 m22 m23 m24 m25 m26 m27 m28 m29 m30 m31 m32 m33 m34 m35 m36 m37 m38 m41 m42 m43 m44 m47 m48 m49 m50 m51 m52 m53 m54) g_law_129 rfl nz_xb0 (by decide) hl.1 hP hD hS hA [0, 1] [2, 3, 4] rfl (wr := [(o0, .inr (11, [.ref o1, .int 0, .ref o2, .ref o3, .ref o4, .ref o5, .ref o6, .ref o7, .ref o8, .ref o9, .ref o10])), (o2, .inr (3, [.ref u1, .ref u2, .ref u3, .ref u4, .ref u5])), (u2, .inr (4, [.int 0, .ref u21, .int 0, .ref u22, .ref u23, .ref u24]))]) rfl (by decide) (by decide) (by decide) rfl rfl (fun _ _ _ => trivial) rfl (Nat.le_of_ble_eq_true rfl) d_law_law_1396 (by decide) (fun r_3 u H locs h_4 hP hD hS => ?_)
  obtain ⟨h_4_r, rfl⟩ := h_4
  have hP : va_P D nz_cl [(o0, .inr (11, [.ref o1, .int 0, .ref o2, .ref o3, .ref o4, .ref o5, .ref o6, .ref o7, .ref o8, .ref o9, .ref o10])), (o2, .inr (3, [.ref u1, .ref u2, .ref u3, .ref u4, .ref u5])), (u2, .inr (4, [.int 0, .ref u21, .int 0, .ref u22, .ref u23, .ref u24])), (m0_, .inr (12, [.ref m0, .ref m1, .int 0, .int 0, .int 0, .int (-1), .int 0, .int 0, .int 0, .int 0, .long 0, .ref m11, .ref m12, .ref m13, .ref m14, .ref m15, .ref m16, .ref m17, .ref m18, .ref m19, .ref m20, .ref m21, .ref m22, .ref m23, .ref m24, .ref m25, .ref m26, .ref m27, .ref m28, .ref m29, .ref m30, .ref m31, .ref m32, .ref m33, .ref m34, .ref m35, .ref m36, .ref m37, .ref m38, .int 0, .int 0, .ref m41, .ref m42, .ref m43, .ref m44, .int 0, .int 0, .ref m47, .ref m48, .ref m49, .ref m50, .ref m51, .ref m52, .ref m53, .ref m54])), (m12, .inl (cI, 2, .inl (fun _ => 0)))] H := hP
  have hD : va_D A [(o0, .inr (11, [.ref o1, .int 0, .ref o2, .ref o3, .ref o4, .ref o5, .ref o6, .ref o7, .ref o8, .ref o9, .ref o10])), (o2, .inr (3, [.ref u1, .ref u2, .ref u3, .ref u4, .ref u5])), (u2, .inr (4, [.int 0, .ref u21, .int 0, .ref u22, .ref u23, .ref u24])), (m0_, .inr (12, [.ref m0, .ref m1, .int 0, .int 0, .int 0, .int (-1), .int 0, .int 0, .int 0, .int 0, .long 0, .ref m11, .ref m12, .ref m13, .ref m14, .ref m15, .ref m16, .ref m17, .ref m18, .ref m19, .ref m20, .ref m21, .ref m22, .ref m23, .ref m24, .ref m25, .ref m26, .ref m27, .ref m28, .ref m29, .ref m30, .ref m31, .ref m32, .ref m33, .ref m34, .ref m35, .ref m36, .ref m37, .ref m38, .int 0, .int 0, .ref m41, .ref m42, .ref m43, .ref m44, .int 0, .int 0, .ref m47, .ref m48, .ref m49, .ref m50, .ref m51, .ref m52, .ref m53, .ref m54])), (m12, .inl (cI, 2, .inl (fun _ => 0)))] := hD
  subst h_4_r
  refine lv_icmp_eq (tgt := 1427) hx hb d_law_law_1399 (by decide) (fun c_5 => ?_) (fun c_5 => absurd (by decide +kernel) c_5)
  exact nz_ltail C0 hXs hbl (by rw [hAe]; exact hS) hl
set_option maxHeartbeats 4000000 in
set_option maxRecDepth 100000 in
theorem nz_law_27 {p : Program} {l : Launch} {e : Env} {s : State} {m : MethodId} {below : List Frame} {meth : Method} {c : Code} {b : Nat} {xs : Nat → Int32} {H : Heap} {locs : List Loc} {ls : Array Slot} (D : va_G) (cB cI cJ : ClassId) (o0 : Nat) (o1 : Nat) (o2 : Nat) (o3 : Nat) (o4 : Nat) (o5 : Nat) (o6 : Nat) (o7 : Nat) (o8 : Nat) (o9 : Nat) (o10 : Nat) (u1 : Nat) (u2 : Nat) (u3 : Nat) (u4 : Nat) (u5 : Nat) (u11 : Nat) (u12 : Nat) (u13 : Nat) (u14 : Nat) (u15 : Nat) (u16 : Nat) (u17 : Nat) (u21 : Nat) (u22 : Nat) (u23 : Nat) (u24 : Nat) (u31 : Nat) (u32 : Nat) (u41 : Nat) (u42 : Nat) (u43 : Nat) (u44 : Nat) (u45 : Nat) (u46 : Nat) (u47 : Nat) (u48 : Nat) (u49 : Nat) (d1 : Nat) (d2 : Nat) (d3 : Nat) (d4 : Nat) (m0_ : Nat) (m0 : Nat) (m1 : Nat) (m11 : Nat) (m12 : Nat) (m13 : Nat) (m14 : Nat) (m15 : Nat) (m16 : Nat) (m17 : Nat) (m18 : Nat) (m19 : Nat) (m20 : Nat) (m21 : Nat) (m22 : Nat) (m23 : Nat) (m24 : Nat) (m25 : Nat) (m26 : Nat) (m27 : Nat) (m28 : Nat) (m29 : Nat) (m30 : Nat) (m31 : Nat) (m32 : Nat) (m33 : Nat) (m34 : Nat) (m35 : Nat) (m36 : Nat) (m37 : Nat) (m38 : Nat) (m41 : Nat) (m42 : Nat) (m43 : Nat) (m44 : Nat) (m47 : Nat) (m48 : Nat) (m49 : Nat) (m50 : Nat) (m51 : Nat) (m52 : Nat) (m53 : Nat) (m54 : Nat) (C0 : nz_Cx p s m #[Value.ref b] meth c code 4 ret R_law D cB cI cJ) (hXs : va_X b 7 xs s s.heap) (hbl : b < s.heap.size) (hP : va_P D nz_cl [(o0, .inr (11, [.ref o1, .int 0, .ref o2, .ref o3, .ref o4, .ref o5, .ref o6, .ref o7, .ref o8, .ref o9, .ref o10])), (o2, .inr (3, [.ref u1, .ref u2, .ref u3, .ref u4, .ref u5])), (u1, .inr (6, [.int 0, .ref u11, .ref u12, .ref u13, .ref u14, .ref u15, .ref u16, .ref u17])), (u2, .inr (4, [.int 0, .ref u21, .int 0, .ref u22, .ref u23, .ref u24])), (u3, .inr (10, [.int 0, .ref u31, .ref u32])), (u4, .inr (5, [.int 0, .int 0, .ref u41, .ref u42, .ref u43, .ref u44, .ref u45, .ref u46, .ref u47, .ref u48, .ref u49])), (o5, .inr (1, [.int 0, .int 0, .ref d1, .ref d2, .ref d3, .ref d4])), (m0_, .inr (12, [.ref m0, .ref m1, .int 0, .int 0, .int 0, .int (-1), .int 0, .int 0, .int 0, .int 0, .long 0, .ref m11, .ref m12, .ref m13, .ref m14, .ref m15, .ref m16, .ref m17, .ref m18, .ref m19, .ref m20, .ref m21, .ref m22, .ref m23, .ref m24, .ref m25, .ref m26, .ref m27, .ref m28, .ref m29, .ref m30, .ref m31, .ref m32, .ref m33, .ref m34, .ref m35, .ref m36, .ref m37, .ref m38, .int 0, .int 0, .ref m41, .ref m42, .ref m43, .ref m44, .int 0, .int 0, .ref m47, .ref m48, .ref m49, .ref m50, .ref m51, .ref m52, .ref m53, .ref m54])), (m11, .inl (cI, 2, .inl (fun _ => 0))), (m12, .inl (cI, 2, .inl (fun _ => 0))), (m13, .inl (cI, 2, .inl (fun _ => 0))), (m14, .inl (cI, 2, .inl (fun _ => 0))), (m15, .inl (cI, 2, .inl (fun _ => 0))), (m16, .inl (cI, 2, .inl (fun _ => 0)))] H) (hD : va_D (fun q : Nat => s.heap.size ≤ q) [(o0, .inr (11, [.ref o1, .int 0, .ref o2, .ref o3, .ref o4, .ref o5, .ref o6, .ref o7, .ref o8, .ref o9, .ref o10])), (o2, .inr (3, [.ref u1, .ref u2, .ref u3, .ref u4, .ref u5])), (u1, .inr (6, [.int 0, .ref u11, .ref u12, .ref u13, .ref u14, .ref u15, .ref u16, .ref u17])), (u2, .inr (4, [.int 0, .ref u21, .int 0, .ref u22, .ref u23, .ref u24])), (u3, .inr (10, [.int 0, .ref u31, .ref u32])), (u4, .inr (5, [.int 0, .int 0, .ref u41, .ref u42, .ref u43, .ref u44, .ref u45, .ref u46, .ref u47, .ref u48, .ref u49])), (o5, .inr (1, [.int 0, .int 0, .ref d1, .ref d2, .ref d3, .ref d4])), (m0_, .inr (12, [.ref m0, .ref m1, .int 0, .int 0, .int 0, .int (-1), .int 0, .int 0, .int 0, .int 0, .long 0, .ref m11, .ref m12, .ref m13, .ref m14, .ref m15, .ref m16, .ref m17, .ref m18, .ref m19, .ref m20, .ref m21, .ref m22, .ref m23, .ref m24, .ref m25, .ref m26, .ref m27, .ref m28, .ref m29, .ref m30, .ref m31, .ref m32, .ref m33, .ref m34, .ref m35, .ref m36, .ref m37, .ref m38, .int 0, .int 0, .ref m41, .ref m42, .ref m43, .ref m44, .int 0, .int 0, .ref m47, .ref m48, .ref m49, .ref m50, .ref m51, .ref m52, .ref m53, .ref m54])), (m11, .inl (cI, 2, .inl (fun _ => 0))), (m12, .inl (cI, 2, .inl (fun _ => 0))), (m13, .inl (cI, 2, .inl (fun _ => 0))), (m14, .inl (cI, 2, .inl (fun _ => 0))), (m15, .inl (cI, 2, .inl (fun _ => 0))), (m16, .inl (cI, 2, .inl (fun _ => 0)))]) (hS : va_S (fun q : Nat => s.heap.size ≤ q) s.heap H locs) (hl : lv_has ls 4 [(3, .int 0), (2, .ref m0_), (1, .ref o0), (0, .ref b)]) : W p l e room_1 s m #[Value.ref b] below meth c H locs 124 7401 (lw_Z below #[Value.ref b] s) (F0 m 1404 ls []) := by
  obtain ⟨hx, hb, hr, hml, hown, hts, hlk, hK⟩ := id C0
  generalize hAe : (fun q : Nat => s.heap.size ≤ q) = A at hD hS
  have hA : ∀ q : Nat, s.heap.size ≤ q → A q := fun q h => by rw [← hAe]; exact h
  have hbA : ¬ A b := by rw [← hAe]; exact Nat.not_le.mpr hbl
  refine lv_aload_n hx hb d_law_law_1404 rfl (lv_at hl 2 rfl) ?_
  refine lv_aload_n hx hb d_law_law_1405 rfl (lv_at hl 3 rfl) ?_
  refine lv_iload_n hx hb d_law_law_1406 rfl (lv_at hl 0 rfl) ?_
  refine lv_iconst (v := 1) hx hb d_law_law_1407 (by decide +kernel) ?_
  refine lv_iadd hx hb d_law_law_1408 ?_
  refine nz_ctopi (v := 1) (by decide +kernel) ?_
  refine va_sld hx hb hXs hbl hbA hS (nz_vin (by decide +kernel)) d_law_law_1409 ?_
  refine nz_ctopi (v := xs 1) rfl ?_
  refine nz_calVi (As := [.int (xs 1)]) (rest := []) C0 (c_NF_about l D cB cI cJ o0 (xs 1) o1 o2 o3 o4 o5 o6 o7 o8 o9 o10 u1 u2 u3 u4 u5 u11 u12 u13 u14 u15 u16 u17 u21 u22 u23 u24 u31 u32 u41 u42 u43 u44 u45 u46 u47 u48 u49 d1 d2 d3 d4) g_law_130 rfl nz_xb0 (by decide) hl.1 hP hD hS hA [0, 1, 2, 3, 4, 5, 6] [7, 8, 9, 10, 11, 12, 13] rfl (wr := [(m0_, .inr (12, [.ref m0, .ref m1, .int 0, .int 0, .int 0, .int (-1), .int 0, .int 0, .int 0, .int 0, .long 0, .ref m11, .ref m12, .ref m13, .ref m14, .ref m15, .ref m16, .ref m17, .ref m18, .ref m19, .ref m20, .ref m21, .ref m22, .ref m23, .ref m24, .ref m25, .ref m26, .ref m27, .ref m28, .ref m29, .ref m30, .ref m31, .ref m32, .ref m33, .ref m34, .ref m35, .ref m36, .ref m37, .ref m38, .int 0, .int 0, .ref m41, .ref m42, .ref m43, .ref m44, .int 0, .int 0, .ref m47, .ref m48, .ref m49, .ref m50, .ref m51, .ref m52, .ref m53, .ref m54])), (m11, .inl (cI, 2, .inl (fun _ => 0))), (m12, .inl (cI, 2, .inl (fun _ => 0))), (m13, .inl (cI, 2, .inl (fun _ => 0))), (m14, .inl (cI, 2, .inl (fun _ => 0))), (m15, .inl (cI, 2, .inl (fun _ => 0))), (m16, .inl (cI, 2, .inl (fun _ => 0)))]) rfl (by decide) (by decide) (by decide) rfl rfl (fun _ _ _ => trivial) rfl (Nat.le_of_ble_eq_true rfl) d_law_law_1410 (by decide) (fun r_1 u H locs h_2 hP hD hS => ?_)
  obtain ⟨h_2_r, rfl⟩ := h_2
  have hP : va_P D nz_cl [(m0_, .inr (12, [.ref m0, .ref m1, .int 0, .int 0, .int 0, .int (-1), .int 0, .int 0, .int 0, .int 0, .long 0, .ref m11, .ref m12, .ref m13, .ref m14, .ref m15, .ref m16, .ref m17, .ref m18, .ref m19, .ref m20, .ref m21, .ref m22, .ref m23, .ref m24, .ref m25, .ref m26, .ref m27, .ref m28, .ref m29, .ref m30, .ref m31, .ref m32, .ref m33, .ref m34, .ref m35, .ref m36, .ref m37, .ref m38, .int 0, .int 0, .ref m41, .ref m42, .ref m43, .ref m44, .int 0, .int 0, .ref m47, .ref m48, .ref m49, .ref m50, .ref m51, .ref m52, .ref m53, .ref m54])), (m11, .inl (cI, 2, .inl (fun _ => 0))), (m12, .inl (cI, 2, .inl (fun _ => 0))), (m13, .inl (cI, 2, .inl (fun _ => 0))), (m14, .inl (cI, 2, .inl (fun _ => 0))), (m15, .inl (cI, 2, .inl (fun _ => 0))), (m16, .inl (cI, 2, .inl (fun _ => 0))), (o0, .inr (11, [.ref o1, .int 0, .ref o2, .ref o3, .ref o4, .ref o5, .ref o6, .ref o7, .ref o8, .ref o9, .ref o10])), (o2, .inr (3, [.ref u1, .ref u2, .ref u3, .ref u4, .ref u5])), (u1, .inr (6, [.int 0, .ref u11, .ref u12, .ref u13, .ref u14, .ref u15, .ref u16, .ref u17])), (u2, .inr (4, [.int 0, .ref u21, .int 0, .ref u22, .ref u23, .ref u24])), (u3, .inr (10, [.int 0, .ref u31, .ref u32])), (u4, .inr (5, [.int 0, .int 0, .ref u41, .ref u42, .ref u43, .ref u44, .ref u45, .ref u46, .ref u47, .ref u48, .ref u49])), (o5, .inr (1, [.int 0, .int 0, .ref d1, .ref d2, .ref d3, .ref d4]))] H := hP
  have hD : va_D A [(m0_, .inr (12, [.ref m0, .ref m1, .int 0, .int 0, .int 0, .int (-1), .int 0, .int 0, .int 0, .int 0, .long 0, .ref m11, .ref m12, .ref m13, .ref m14, .ref m15, .ref m16, .ref m17, .ref m18, .ref m19, .ref m20, .ref m21, .ref m22, .ref m23, .ref m24, .ref m25, .ref m26, .ref m27, .ref m28, .ref m29, .ref m30, .ref m31, .ref m32, .ref m33, .ref m34, .ref m35, .ref m36, .ref m37, .ref m38, .int 0, .int 0, .ref m41, .ref m42, .ref m43, .ref m44, .int 0, .int 0, .ref m47, .ref m48, .ref m49, .ref m50, .ref m51, .ref m52, .ref m53, .ref m54])), (m11, .inl (cI, 2, .inl (fun _ => 0))), (m12, .inl (cI, 2, .inl (fun _ => 0))), (m13, .inl (cI, 2, .inl (fun _ => 0))), (m14, .inl (cI, 2, .inl (fun _ => 0))), (m15, .inl (cI, 2, .inl (fun _ => 0))), (m16, .inl (cI, 2, .inl (fun _ => 0))), (o0, .inr (11, [.ref o1, .int 0, .ref o2, .ref o3, .ref o4, .ref o5, .ref o6, .ref o7, .ref o8, .ref o9, .ref o10])), (o2, .inr (3, [.ref u1, .ref u2, .ref u3, .ref u4, .ref u5])), (u1, .inr (6, [.int 0, .ref u11, .ref u12, .ref u13, .ref u14, .ref u15, .ref u16, .ref u17])), (u2, .inr (4, [.int 0, .ref u21, .int 0, .ref u22, .ref u23, .ref u24])), (u3, .inr (10, [.int 0, .ref u31, .ref u32])), (u4, .inr (5, [.int 0, .int 0, .ref u41, .ref u42, .ref u43, .ref u44, .ref u45, .ref u46, .ref u47, .ref u48, .ref u49])), (o5, .inr (1, [.int 0, .int 0, .ref d1, .ref d2, .ref d3, .ref d4]))] := hD
  subst h_2_r
  refine lv_aload_n hx hb d_law_law_1413 rfl (lv_at hl 1 rfl) ?_
  refine lv_aload_n hx hb d_law_law_1414 rfl (lv_at hl 3 rfl) ?_
  refine lv_iload_n hx hb d_law_law_1415 rfl (lv_at hl 0 rfl) ?_
  refine lv_iconst (v := 1) hx hb d_law_law_1416 (by decide +kernel) ?_
  refine lv_iadd hx hb d_law_law_1417 ?_
  refine nz_ctopi (v := 1) (by decide +kernel) ?_
  refine va_sld hx hb hXs hbl hbA hS (nz_vin (by decide +kernel)) d_law_law_1418 ?_
  refine nz_ctopi (v := xs 1) rfl ?_
  refine nz_calVi (As := [.int (xs 1)]) (rest := [.int (nz_ab (xs 1))]) C0 (c_Mo_about l D cB cI cJ m0_ (xs 1) m0 m1 m11 m12 m13 m14 m15 m16 m17 m18 m19 m20 m21 m22 m23 m24 m25 m26 m27 m28 m29 m30 m31 m32 m33 m34 m35 m36 m37 m38 m41 m42 m43 m44 m47 m48 m49 m50 m51 m52 m53 m54) g_law_133 rfl nz_xb0 (by decide) hl.1 hP hD hS hA [0, 1, 2, 3, 4, 5, 6] [7, 8, 9, 10, 11, 12, 13] rfl (wr := [(o0, .inr (11, [.ref o1, .int 0, .ref o2, .ref o3, .ref o4, .ref o5, .ref o6, .ref o7, .ref o8, .ref o9, .ref o10])), (o2, .inr (3, [.ref u1, .ref u2, .ref u3, .ref u4, .ref u5])), (u1, .inr (6, [.int 0, .ref u11, .ref u12, .ref u13, .ref u14, .ref u15, .ref u16, .ref u17])), (u2, .inr (4, [.int 0, .ref u21, .int 0, .ref u22, .ref u23, .ref u24])), (u3, .inr (10, [.int 0, .ref u31, .ref u32])), (u4, .inr (5, [.int 0, .int 0, .ref u41, .ref u42, .ref u43, .ref u44, .ref u45, .ref u46, .ref u47, .ref u48, .ref u49])), (o5, .inr (1, [.int 0, .int 0, .ref d1, .ref d2, .ref d3, .ref d4]))]) rfl (by decide) (by decide) (by decide) rfl rfl (fun _ _ _ => trivial) rfl (Nat.le_of_ble_eq_true rfl) d_law_law_1419 (by decide) (fun r_3 u H locs h_4 hP hD hS => ?_)
  obtain ⟨h_4_r, rfl⟩ := h_4
  have hP : va_P D nz_cl [(o0, .inr (11, [.ref o1, .int 0, .ref o2, .ref o3, .ref o4, .ref o5, .ref o6, .ref o7, .ref o8, .ref o9, .ref o10])), (o2, .inr (3, [.ref u1, .ref u2, .ref u3, .ref u4, .ref u5])), (u1, .inr (6, [.int 0, .ref u11, .ref u12, .ref u13, .ref u14, .ref u15, .ref u16, .ref u17])), (u2, .inr (4, [.int 0, .ref u21, .int 0, .ref u22, .ref u23, .ref u24])), (u3, .inr (10, [.int 0, .ref u31, .ref u32])), (u4, .inr (5, [.int 0, .int 0, .ref u41, .ref u42, .ref u43, .ref u44, .ref u45, .ref u46, .ref u47, .ref u48, .ref u49])), (o5, .inr (1, [.int 0, .int 0, .ref d1, .ref d2, .ref d3, .ref d4])), (m0_, .inr (12, [.ref m0, .ref m1, .int 0, .int 0, .int 0, .int (-1), .int 0, .int 0, .int 0, .int 0, .long 0, .ref m11, .ref m12, .ref m13, .ref m14, .ref m15, .ref m16, .ref m17, .ref m18, .ref m19, .ref m20, .ref m21, .ref m22, .ref m23, .ref m24, .ref m25, .ref m26, .ref m27, .ref m28, .ref m29, .ref m30, .ref m31, .ref m32, .ref m33, .ref m34, .ref m35, .ref m36, .ref m37, .ref m38, .int 0, .int 0, .ref m41, .ref m42, .ref m43, .ref m44, .int 0, .int 0, .ref m47, .ref m48, .ref m49, .ref m50, .ref m51, .ref m52, .ref m53, .ref m54])), (m11, .inl (cI, 2, .inl (fun _ => 0))), (m12, .inl (cI, 2, .inl (fun _ => 0))), (m13, .inl (cI, 2, .inl (fun _ => 0))), (m14, .inl (cI, 2, .inl (fun _ => 0))), (m15, .inl (cI, 2, .inl (fun _ => 0))), (m16, .inl (cI, 2, .inl (fun _ => 0)))] H := hP
  have hD : va_D A [(o0, .inr (11, [.ref o1, .int 0, .ref o2, .ref o3, .ref o4, .ref o5, .ref o6, .ref o7, .ref o8, .ref o9, .ref o10])), (o2, .inr (3, [.ref u1, .ref u2, .ref u3, .ref u4, .ref u5])), (u1, .inr (6, [.int 0, .ref u11, .ref u12, .ref u13, .ref u14, .ref u15, .ref u16, .ref u17])), (u2, .inr (4, [.int 0, .ref u21, .int 0, .ref u22, .ref u23, .ref u24])), (u3, .inr (10, [.int 0, .ref u31, .ref u32])), (u4, .inr (5, [.int 0, .int 0, .ref u41, .ref u42, .ref u43, .ref u44, .ref u45, .ref u46, .ref u47, .ref u48, .ref u49])), (o5, .inr (1, [.int 0, .int 0, .ref d1, .ref d2, .ref d3, .ref d4])), (m0_, .inr (12, [.ref m0, .ref m1, .int 0, .int 0, .int 0, .int (-1), .int 0, .int 0, .int 0, .int 0, .long 0, .ref m11, .ref m12, .ref m13, .ref m14, .ref m15, .ref m16, .ref m17, .ref m18, .ref m19, .ref m20, .ref m21, .ref m22, .ref m23, .ref m24, .ref m25, .ref m26, .ref m27, .ref m28, .ref m29, .ref m30, .ref m31, .ref m32, .ref m33, .ref m34, .ref m35, .ref m36, .ref m37, .ref m38, .int 0, .int 0, .ref m41, .ref m42, .ref m43, .ref m44, .int 0, .int 0, .ref m47, .ref m48, .ref m49, .ref m50, .ref m51, .ref m52, .ref m53, .ref m54])), (m11, .inl (cI, 2, .inl (fun _ => 0))), (m12, .inl (cI, 2, .inl (fun _ => 0))), (m13, .inl (cI, 2, .inl (fun _ => 0))), (m14, .inl (cI, 2, .inl (fun _ => 0))), (m15, .inl (cI, 2, .inl (fun _ => 0))), (m16, .inl (cI, 2, .inl (fun _ => 0)))] := hD
  subst h_4_r
  refine lv_icmp_eq (tgt := 1427) hx hb d_law_law_1422 (by decide) (fun c_5 => ?_) (fun c_5 => absurd rfl c_5)
  exact nz_ltail C0 hXs hbl (by rw [hAe]; exact hS) hl
