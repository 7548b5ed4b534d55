set_option maxHeartbeats 4000000 in
set_option maxRecDepth 100000 in
theorem c_Mo_feed (l : Launch) (D : va_G) (cB cI cJ : ClassId) (m0_ : Nat) (p0 : Int32) (p1 : Int32) (p2 : Int32) (p3 : Int32) (p4 : Int32) (m0 : Nat) (m1 : Nat) (m11 : Nat) (m12 : Nat) (m13 : Nat) (m14 : Nat) (m15 : Nat) (m16 : Nat) (m17 : Nat) (m18 : Nat) (m19 : Nat) (m20 : Nat) (m21 : Nat) (m22 : Nat) (m23 : Nat) (m24 : Nat) (m25 : Nat) (m26 : Nat) (m27 : Nat) (m28 : Nat) (m29 : Nat) (m30 : Nat) (m31 : Nat) (m32 : Nat) (m33 : Nat) (m34 : Nat) (m35 : Nat) (m36 : Nat) (m37 : Nat) (m38 : Nat) (m41 : Nat) (m42 : Nat) (m43 : Nat) (m44 : Nat) (m47 : Nat) (m48 : Nat) (m49 : Nat) (m50 : Nat) (m51 : Nat) (m52 : Nat) (m53 : Nat) (m54 : Nat) (ft : Nat → Int32) : nz_Ci l D cB cI cJ nz_x0 y_Mo_feed b_Mo_feed 8 (some .int) { frames := 0, cells := 0, slots := 0, locals := 0 } [.ref m0_, .int p0, .int p1, .int p2, .int p3, .int p4] [(m0_, .inr (12, [.ref m0, .ref m1, .int 0, .int 0, .int 0, .int (-1), .int 0, .int 0, .int 0, .int 0, .long 0, .ref m11, .ref m12, .ref m13, .ref m14, .ref m15, .ref m16, .ref m17, .ref m18, .ref m19, .ref m20, .ref m21, .ref m22, .ref m23, .ref m24, .ref m25, .ref m26, .ref m27, .ref m28, .ref m29, .ref m30, .ref m31, .ref m32, .ref m33, .ref m34, .ref m35, .ref m36, .ref m37, .ref m38, .int 0, .int 0, .ref m41, .ref m42, .ref m43, .ref m44, .int 0, .int 0, .ref m47, .ref m48, .ref m49, .ref m50, .ref m51, .ref m52, .ref m53, .ref m54])), (m0, .inl (cB, 1620, .inl ft))] (fun r w => ∃ (zf : Nat → Int32), r = 20 ∧ w = [(m0_, .inr (12, [.ref m0, .ref m1, .int 20, .int 0, .int 0, .int (-1), .int 0, .int 0, .int 0, .int 0, .long 0, .ref m11, .ref m12, .ref m13, .ref m14, .ref m15, .ref m16, .ref m17, .ref m18, .ref m19, .ref m20, .ref m21, .ref m22, .ref m23, .ref m24, .ref m25, .ref m26, .ref m27, .ref m28, .ref m29, .ref m30, .ref m31, .ref m32, .ref m33, .ref m34, .ref m35, .ref m36, .ref m37, .ref m38, .int 0, .int 0, .ref m41, .ref m42, .ref m43, .ref m44, .int 0, .int 0, .ref m47, .ref m48, .ref m49, .ref m50, .ref m51, .ref m52, .ref m53, .ref m54])), (m0, .inl (cB, 1620, .inl zf))]) := by
  refine nz_Ci.mk (by decide) (Nat.le_of_ble_eq_true rfl) ?_
  intro p e s m below meth c A ls C0 hnm hP hD hS hA hX hl
  have C0 : nz_Cx p s m _ meth c b_Mo_feed 8 (some .int) R_Mo D cB cI cJ := C0
  obtain ⟨hx, hb, hr, hml, hown, hts, hlk, hK⟩ := id C0
  have hl : lv_has ls 8 [(0, .ref m0_), (1, .int p0), (2, .int p1), (3, .int p2), (4, .int p3), (5, .int p4)] := hl
  refine lv_aload_n hx hb d_Mo_feed_0 rfl (lv_at hl 0 rfl) ?_
  refine va_get (D := D) (ci := 12) (v := .int 0) (C := R_Mo) (T := F_Mo) (N := 55) hx hb hts i_Mo hown hK.1 hP 0 rfl rfl 2 (by decide) (hts _ k_1020) (fun _ h9 => h9) rfl d_Mo_feed_1 ?_
  refine lv_bipush (v := 20) hx hb d_Mo_feed_4 (by decide +kernel) ?_
  refine lv_iadd hx hb d_Mo_feed_6 ?_
  refine nz_ctopi (v := 20) (by decide +kernel) ?_
  refine lv_sipush (v := 1600) hx hb d_Mo_feed_7 (by decide +kernel) ?_
  refine lv_icmp_le (tgt := 15) hx hb d_Mo_feed_10 (by decide) (fun c_1 => ?_) (fun c_1 => absurd (by decide +kernel) c_1)
  refine lv_iconst (v := 0) hx hb d_Mo_feed_15 (by decide +kernel) ?_
  refine lv_istore (lv' := [(6, .int 0), (0, .ref m0_), (1, .int p0), (2, .int p1), (3, .int p2), (4, .int p3), (5, .int p4)]) hx hb d_Mo_feed_16 hl (by decide) rfl (fun ls hl => ?_)
  refine lv_iload hx hb d_Mo_feed_18 (lv_at hl 0 rfl) ?_
  refine lv_bipush (v := 20) hx hb d_Mo_feed_20 (by decide +kernel) ?_
  refine lv_icmp_ge (tgt := 105) hx hb d_Mo_feed_22 (by decide) (fun c_2 => absurd c_2 (by decide +kernel)) (fun c_2 => ?_)
  refine lv_iload hx hb d_Mo_feed_25 (lv_at hl 0 rfl) ?_
  refine lv_iconst (v := 4) hx hb d_Mo_feed_27 (by decide +kernel) ?_
  refine lv_icmp_ge (tgt := 35) hx hb d_Mo_feed_28 (by decide) (fun c_3 => absurd c_3 (by decide +kernel)) (fun c_3 => ?_)
  refine lv_iload_n hx hb d_Mo_feed_31 rfl (lv_at hl 2 rfl) ?_
  refine lv_goto (tgt := 71) hx hb d_Mo_feed_32 (by decide) ?_
  refine lv_istore (lv' := [(7, .int p0), (6, .int 0), (0, .ref m0_), (1, .int p0), (2, .int p1), (3, .int p2), (4, .int p3), (5, .int p4)]) hx hb d_Mo_feed_71 hl (by decide) rfl (fun ls hl => ?_)
  refine lv_aload_n hx hb d_Mo_feed_73 rfl (lv_at hl 2 rfl) ?_
  refine va_get (D := D) (ci := 12) (v := .ref m0) (C := R_Mo) (T := F_Mo) (N := 55) hx hb hts i_Mo hown hK.1 hP 0 rfl rfl 0 (by decide) (hts _ k_1018) (fun _ h9 => h9) rfl d_Mo_feed_74 ?_
  refine lv_aload_n hx hb d_Mo_feed_77 rfl (lv_at hl 2 rfl) ?_
  refine va_get (D := D) (ci := 12) (v := .int 0) (C := R_Mo) (T := F_Mo) (N := 55) hx hb hts i_Mo hown hK.1 hP 0 rfl rfl 2 (by decide) (hts _ k_1020) (fun _ h9 => h9) rfl d_Mo_feed_78 ?_
  refine lv_iload hx hb d_Mo_feed_81 (lv_at hl 1 rfl) ?_
  refine lv_iadd hx hb d_Mo_feed_83 ?_
  refine nz_ctopi (v := 0) (by decide +kernel) ?_
  refine lv_iload hx hb d_Mo_feed_84 (lv_at hl 0 rfl) ?_
  refine lv_bipush (v := 24) hx hb d_Mo_feed_86 (by decide +kernel) ?_
  refine lv_bipush (v := 8) hx hb d_Mo_feed_88 (by decide +kernel) ?_
  refine lv_iload hx hb d_Mo_feed_90 (lv_at hl 1 rfl) ?_
  refine lv_iconst (v := 3) hx hb d_Mo_feed_92 (by decide +kernel) ?_
  refine lv_iand hx hb d_Mo_feed_93 ?_
  refine nz_ctopi (v := 0) (by decide +kernel) ?_
  refine lv_imul hx hb d_Mo_feed_94 ?_
  refine nz_ctopi (v := 0) (by decide +kernel) ?_
  refine lv_isub hx hb d_Mo_feed_95 ?_
  refine nz_ctopi (v := 24) (by decide +kernel) ?_
  refine lv_ishr hx hb d_Mo_feed_96 ?_
  refine lv_topi (fun x_4 e_5 => ?_)
  refine lv_i2b (v := x_4.toInt8.toInt32) hx hb d_Mo_feed_97 rfl ?_
  refine lv_topi (fun x_7 e_8 => ?_)
  refine nz_bastE hx hb hK.1 hP hD hS 1 0 rfl rfl (nz_vin (by decide +kernel)) d_Mo_feed_98 (fun H locs f_9 f_9_e hP hD hS => ?_)
  have hP : va_P D nz_cl [(m0_, .inr (12, [.ref m0, .ref m1, .int 0, .int 0, .int 0, .int (-1), .int 0, .int 0, .int 0, .int 0, .long 0, .ref m11, .ref m12, .ref m13, .ref m14, .ref m15, .ref m16, .ref m17, .ref m18, .ref m19, .ref m20, .ref m21, .ref m22, .ref m23, .ref m24, .ref m25, .ref m26, .ref m27, .ref m28, .ref m29, .ref m30, .ref m31, .ref m32, .ref m33, .ref m34, .ref m35, .ref m36, .ref m37, .ref m38, .int 0, .int 0, .ref m41, .ref m42, .ref m43, .ref m44, .int 0, .int 0, .ref m47, .ref m48, .ref m49, .ref m50, .ref m51, .ref m52, .ref m53, .ref m54])), (m0, .inl (cB, 1620, .inl f_9))] H := hP
  have hD : va_D A [(m0_, .inr (12, [.ref m0, .ref m1, .int 0, .int 0, .int 0, .int (-1), .int 0, .int 0, .int 0, .int 0, .long 0, .ref m11, .ref m12, .ref m13, .ref m14, .ref m15, .ref m16, .ref m17, .ref m18, .ref m19, .ref m20, .ref m21, .ref m22, .ref m23, .ref m24, .ref m25, .ref m26, .ref m27, .ref m28, .ref m29, .ref m30, .ref m31, .ref m32, .ref m33, .ref m34, .ref m35, .ref m36, .ref m37, .ref m38, .int 0, .int 0, .ref m41, .ref m42, .ref m43, .ref m44, .int 0, .int 0, .ref m47, .ref m48, .ref m49, .ref m50, .ref m51, .ref m52, .ref m53, .ref m54])), (m0, .inl (cB, 1620, .inl f_9))] := hD
  refine lv_iinc (v := 1) (lv' := [(6, .int 1), (7, .int p0), (0, .ref m0_), (1, .int p0), (2, .int p1), (3, .int p2), (4, .int p3), (5, .int p4)]) hx hb d_Mo_feed_99 hl (k := 1) rfl (by decide +kernel) (by decide) rfl (fun ls hl => ?_)
  refine lv_goto (tgt := 18) hx hb d_Mo_feed_102 (by decide) ?_
  refine lv_iload hx hb d_Mo_feed_18 (lv_at hl 0 rfl) ?_
  refine lv_bipush (v := 20) hx hb d_Mo_feed_20 (by decide +kernel) ?_
  refine lv_icmp_ge (tgt := 105) hx hb d_Mo_feed_22 (by decide) (fun c_10 => absurd c_10 (by decide +kernel)) (fun c_10 => ?_)
  refine lv_iload hx hb d_Mo_feed_25 (lv_at hl 0 rfl) ?_
  refine lv_iconst (v := 4) hx hb d_Mo_feed_27 (by decide +kernel) ?_
  refine lv_icmp_ge (tgt := 35) hx hb d_Mo_feed_28 (by decide) (fun c_11 => absurd c_11 (by decide +kernel)) (fun c_11 => ?_)
  refine lv_iload_n hx hb d_Mo_feed_31 rfl (lv_at hl 3 rfl) ?_
  refine lv_goto (tgt := 71) hx hb d_Mo_feed_32 (by decide) ?_
  refine lv_istore (lv' := [(7, .int p0), (6, .int 1), (0, .ref m0_), (1, .int p0), (2, .int p1), (3, .int p2), (4, .int p3), (5, .int p4)]) hx hb d_Mo_feed_71 hl (by decide) rfl (fun ls hl => ?_)
  refine lv_aload_n hx hb d_Mo_feed_73 rfl (lv_at hl 2 rfl) ?_
  refine va_get (D := D) (ci := 12) (v := .ref m0) (C := R_Mo) (T := F_Mo) (N := 55) hx hb hts i_Mo hown hK.1 hP 0 rfl rfl 0 (by decide) (hts _ k_1018) (fun _ h9 => h9) rfl d_Mo_feed_74 ?_
  refine lv_aload_n hx hb d_Mo_feed_77 rfl (lv_at hl 2 rfl) ?_
  refine va_get (D := D) (ci := 12) (v := .int 0) (C := R_Mo) (T := F_Mo) (N := 55) hx hb hts i_Mo hown hK.1 hP 0 rfl rfl 2 (by decide) (hts _ k_1020) (fun _ h9 => h9) rfl d_Mo_feed_78 ?_
  refine lv_iload hx hb d_Mo_feed_81 (lv_at hl 1 rfl) ?_
  refine lv_iadd hx hb d_Mo_feed_83 ?_
  refine nz_ctopi (v := 1) (by decide +kernel) ?_
  refine lv_iload hx hb d_Mo_feed_84 (lv_at hl 0 rfl) ?_
  refine lv_bipush (v := 24) hx hb d_Mo_feed_86 (by decide +kernel) ?_
  refine lv_bipush (v := 8) hx hb d_Mo_feed_88 (by decide +kernel) ?_
  refine lv_iload hx hb d_Mo_feed_90 (lv_at hl 1 rfl) ?_
  refine lv_iconst (v := 3) hx hb d_Mo_feed_92 (by decide +kernel) ?_
  refine lv_iand hx hb d_Mo_feed_93 ?_
  refine nz_ctopi (v := 1) (by decide +kernel) ?_
  refine lv_imul hx hb d_Mo_feed_94 ?_
  refine nz_ctopi (v := 8) (by decide +kernel) ?_
  refine lv_isub hx hb d_Mo_feed_95 ?_
  refine nz_ctopi (v := 16) (by decide +kernel) ?_
  refine lv_ishr hx hb d_Mo_feed_96 ?_
  refine lv_topi (fun x_12 e_13 => ?_)
  refine lv_i2b (v := x_12.toInt8.toInt32) hx hb d_Mo_feed_97 rfl ?_
  refine lv_topi (fun x_15 e_16 => ?_)
  refine nz_bastE hx hb hK.1 hP hD hS 1 0 rfl rfl (nz_vin (by decide +kernel)) d_Mo_feed_98 (fun H locs f_17 f_17_e hP hD hS => ?_)
  have hP : va_P D nz_cl [(m0_, .inr (12, [.ref m0, .ref m1, .int 0, .int 0, .int 0, .int (-1), .int 0, .int 0, .int 0, .int 0, .long 0, .ref m11, .ref m12, .ref m13, .ref m14, .ref m15, .ref m16, .ref m17, .ref m18, .ref m19, .ref m20, .ref m21, .ref m22, .ref m23, .ref m24, .ref m25, .ref m26, .ref m27, .ref m28, .ref m29, .ref m30, .ref m31, .ref m32, .ref m33, .ref m34, .ref m35, .ref m36, .ref m37, .ref m38, .int 0, .int 0, .ref m41, .ref m42, .ref m43, .ref m44, .int 0, .int 0, .ref m47, .ref m48, .ref m49, .ref m50, .ref m51, .ref m52, .ref m53, .ref m54])), (m0, .inl (cB, 1620, .inl f_17))] H := hP
  have hD : va_D A [(m0_, .inr (12, [.ref m0, .ref m1, .int 0, .int 0, .int 0, .int (-1), .int 0, .int 0, .int 0, .int 0, .long 0, .ref m11, .ref m12, .ref m13, .ref m14, .ref m15, .ref m16, .ref m17, .ref m18, .ref m19, .ref m20, .ref m21, .ref m22, .ref m23, .ref m24, .ref m25, .ref m26, .ref m27, .ref m28, .ref m29, .ref m30, .ref m31, .ref m32, .ref m33, .ref m34, .ref m35, .ref m36, .ref m37, .ref m38, .int 0, .int 0, .ref m41, .ref m42, .ref m43, .ref m44, .int 0, .int 0, .ref m47, .ref m48, .ref m49, .ref m50, .ref m51, .ref m52, .ref m53, .ref m54])), (m0, .inl (cB, 1620, .inl f_17))] := hD
  refine lv_iinc (v := 2) (lv' := [(6, .int 2), (7, .int p0), (0, .ref m0_), (1, .int p0), (2, .int p1), (3, .int p2), (4, .int p3), (5, .int p4)]) hx hb d_Mo_feed_99 hl (k := 1) rfl (by decide +kernel) (by decide) rfl (fun ls hl => ?_)
  refine lv_goto (tgt := 18) hx hb d_Mo_feed_102 (by decide) ?_
  refine lv_iload hx hb d_Mo_feed_18 (lv_at hl 0 rfl) ?_
  refine lv_bipush (v := 20) hx hb d_Mo_feed_20 (by decide +kernel) ?_
  refine lv_icmp_ge (tgt := 105) hx hb d_Mo_feed_22 (by decide) (fun c_18 => absurd c_18 (by decide +kernel)) (fun c_18 => ?_)
  refine lv_iload hx hb d_Mo_feed_25 (lv_at hl 0 rfl) ?_
  refine lv_iconst (v := 4) hx hb d_Mo_feed_27 (by decide +kernel) ?_
  refine lv_icmp_ge (tgt := 35) hx hb d_Mo_feed_28 (by decide) (fun c_19 => absurd c_19 (by decide +kernel)) (fun c_19 => ?_)
  refine lv_iload_n hx hb d_Mo_feed_31 rfl (lv_at hl 3 rfl) ?_
  refine lv_goto (tgt := 71) hx hb d_Mo_feed_32 (by decide) ?_
  refine lv_istore (lv' := [(7, .int p0), (6, .int 2), (0, .ref m0_), (1, .int p0), (2, .int p1), (3, .int p2), (4, .int p3), (5, .int p4)]) hx hb d_Mo_feed_71 hl (by decide) rfl (fun ls hl => ?_)
  refine lv_aload_n hx hb d_Mo_feed_73 rfl (lv_at hl 2 rfl) ?_
  refine va_get (D := D) (ci := 12) (v := .ref m0) (C := R_Mo) (T := F_Mo) (N := 55) hx hb hts i_Mo hown hK.1 hP 0 rfl rfl 0 (by decide) (hts _ k_1018) (fun _ h9 => h9) rfl d_Mo_feed_74 ?_
  refine lv_aload_n hx hb d_Mo_feed_77 rfl (lv_at hl 2 rfl) ?_
  refine va_get (D := D) (ci := 12) (v := .int 0) (C := R_Mo) (T := F_Mo) (N := 55) hx hb hts i_Mo hown hK.1 hP 0 rfl rfl 2 (by decide) (hts _ k_1020) (fun _ h9 => h9) rfl d_Mo_feed_78 ?_
  refine lv_iload hx hb d_Mo_feed_81 (lv_at hl 1 rfl) ?_
  refine lv_iadd hx hb d_Mo_feed_83 ?_
  refine nz_ctopi (v := 2) (by decide +kernel) ?_
  refine lv_iload hx hb d_Mo_feed_84 (lv_at hl 0 rfl) ?_
  refine lv_bipush (v := 24) hx hb d_Mo_feed_86 (by decide +kernel) ?_
  refine lv_bipush (v := 8) hx hb d_Mo_feed_88 (by decide +kernel) ?_
  refine lv_iload hx hb d_Mo_feed_90 (lv_at hl 1 rfl) ?_
  refine lv_iconst (v := 3) hx hb d_Mo_feed_92 (by decide +kernel) ?_
  refine lv_iand hx hb d_Mo_feed_93 ?_
  refine nz_ctopi (v := 2) (by decide +kernel) ?_
  refine lv_imul hx hb d_Mo_feed_94 ?_
  refine nz_ctopi (v := 16) (by decide +kernel) ?_
  refine lv_isub hx hb d_Mo_feed_95 ?_
  refine nz_ctopi (v := 8) (by decide +kernel) ?_
  refine lv_ishr hx hb d_Mo_feed_96 ?_
  refine lv_topi (fun x_20 e_21 => ?_)
  refine lv_i2b (v := x_20.toInt8.toInt32) hx hb d_Mo_feed_97 rfl ?_
  refine lv_topi (fun x_23 e_24 => ?_)
  refine nz_bastE hx hb hK.1 hP hD hS 1 0 rfl rfl (nz_vin (by decide +kernel)) d_Mo_feed_98 (fun H locs f_25 f_25_e hP hD hS => ?_)
  have hP : va_P D nz_cl [(m0_, .inr (12, [.ref m0, .ref m1, .int 0, .int 0, .int 0, .int (-1), .int 0, .int 0, .int 0, .int 0, .long 0, .ref m11, .ref m12, .ref m13, .ref m14, .ref m15, .ref m16, .ref m17, .ref m18, .ref m19, .ref m20, .ref m21, .ref m22, .ref m23, .ref m24, .ref m25, .ref m26, .ref m27, .ref m28, .ref m29, .ref m30, .ref m31, .ref m32, .ref m33, .ref m34, .ref m35, .ref m36, .ref m37, .ref m38, .int 0, .int 0, .ref m41, .ref m42, .ref m43, .ref m44, .int 0, .int 0, .ref m47, .ref m48, .ref m49, .ref m50, .ref m51, .ref m52, .ref m53, .ref m54])), (m0, .inl (cB, 1620, .inl f_25))] H := hP
  have hD : va_D A [(m0_, .inr (12, [.ref m0, .ref m1, .int 0, .int 0, .int 0, .int (-1), .int 0, .int 0, .int 0, .int 0, .long 0, .ref m11, .ref m12, .ref m13, .ref m14, .ref m15, .ref m16, .ref m17, .ref m18, .ref m19, .ref m20, .ref m21, .ref m22, .ref m23, .ref m24, .ref m25, .ref m26, .ref m27, .ref m28, .ref m29, .ref m30, .ref m31, .ref m32, .ref m33, .ref m34, .ref m35, .ref m36, .ref m37, .ref m38, .int 0, .int 0, .ref m41, .ref m42, .ref m43, .ref m44, .int 0, .int 0, .ref m47, .ref m48, .ref m49, .ref m50, .ref m51, .ref m52, .ref m53, .ref m54])), (m0, .inl (cB, 1620, .inl f_25))] := hD
  refine lv_iinc (v := 3) (lv' := [(6, .int 3), (7, .int p0), (0, .ref m0_), (1, .int p0), (2, .int p1), (3, .int p2), (4, .int p3), (5, .int p4)]) hx hb d_Mo_feed_99 hl (k := 1) rfl (by decide +kernel) (by decide) rfl (fun ls hl => ?_)
  refine lv_goto (tgt := 18) hx hb d_Mo_feed_102 (by decide) ?_
  refine lv_iload hx hb d_Mo_feed_18 (lv_at hl 0 rfl) ?_
  refine lv_bipush (v := 20) hx hb d_Mo_feed_20 (by decide +kernel) ?_
  refine lv_icmp_ge (tgt := 105) hx hb d_Mo_feed_22 (by decide) (fun c_26 => absurd c_26 (by decide +kernel)) (fun c_26 => ?_)
  refine lv_iload hx hb d_Mo_feed_25 (lv_at hl 0 rfl) ?_
  refine lv_iconst (v := 4) hx hb d_Mo_feed_27 (by decide +kernel) ?_
  refine lv_icmp_ge (tgt := 35) hx hb d_Mo_feed_28 (by decide) (fun c_27 => absurd c_27 (by decide +kernel)) (fun c_27 => ?_)
  refine lv_iload_n hx hb d_Mo_feed_31 rfl (lv_at hl 3 rfl) ?_
  refine lv_goto (tgt := 71) hx hb d_Mo_feed_32 (by decide) ?_
  refine lv_istore (lv' := [(7, .int p0), (6, .int 3), (0, .ref m0_), (1, .int p0), (2, .int p1), (3, .int p2), (4, .int p3), (5, .int p4)]) hx hb d_Mo_feed_71 hl (by decide) rfl (fun ls hl => ?_)
  refine lv_aload_n hx hb d_Mo_feed_73 rfl (lv_at hl 2 rfl) ?_
  refine va_get (D := D) (ci := 12) (v := .ref m0) (C := R_Mo) (T := F_Mo) (N := 55) hx hb hts i_Mo hown hK.1 hP 0 rfl rfl 0 (by decide) (hts _ k_1018) (fun _ h9 => h9) rfl d_Mo_feed_74 ?_
  refine lv_aload_n hx hb d_Mo_feed_77 rfl (lv_at hl 2 rfl) ?_
  refine va_get (D := D) (ci := 12) (v := .int 0) (C := R_Mo) (T := F_Mo) (N := 55) hx hb hts i_Mo hown hK.1 hP 0 rfl rfl 2 (by decide) (hts _ k_1020) (fun _ h9 => h9) rfl d_Mo_feed_78 ?_
  refine lv_iload hx hb d_Mo_feed_81 (lv_at hl 1 rfl) ?_
  refine lv_iadd hx hb d_Mo_feed_83 ?_
  refine nz_ctopi (v := 3) (by decide +kernel) ?_
  refine lv_iload hx hb d_Mo_feed_84 (lv_at hl 0 rfl) ?_
  refine lv_bipush (v := 24) hx hb d_Mo_feed_86 (by decide +kernel) ?_
  refine lv_bipush (v := 8) hx hb d_Mo_feed_88 (by decide +kernel) ?_
  refine lv_iload hx hb d_Mo_feed_90 (lv_at hl 1 rfl) ?_
  refine lv_iconst (v := 3) hx hb d_Mo_feed_92 (by decide +kernel) ?_
  refine lv_iand hx hb d_Mo_feed_93 ?_
  refine nz_ctopi (v := 3) (by decide +kernel) ?_
  refine lv_imul hx hb d_Mo_feed_94 ?_
  refine nz_ctopi (v := 24) (by decide +kernel) ?_
  refine lv_isub hx hb d_Mo_feed_95 ?_
  refine nz_ctopi (v := 0) (by decide +kernel) ?_
  refine lv_ishr hx hb d_Mo_feed_96 ?_
  refine lv_topi (fun x_28 e_29 => ?_)
  refine lv_i2b (v := x_28.toInt8.toInt32) hx hb d_Mo_feed_97 rfl ?_
  refine lv_topi (fun x_31 e_32 => ?_)
  refine nz_bastE hx hb hK.1 hP hD hS 1 0 rfl rfl (nz_vin (by decide +kernel)) d_Mo_feed_98 (fun H locs f_33 f_33_e hP hD hS => ?_)
  have hP : va_P D nz_cl [(m0_, .inr (12, [.ref m0, .ref m1, .int 0, .int 0, .int 0, .int (-1), .int 0, .int 0, .int 0, .int 0, .long 0, .ref m11, .ref m12, .ref m13, .ref m14, .ref m15, .ref m16, .ref m17, .ref m18, .ref m19, .ref m20, .ref m21, .ref m22, .ref m23, .ref m24, .ref m25, .ref m26, .ref m27, .ref m28, .ref m29, .ref m30, .ref m31, .ref m32, .ref m33, .ref m34, .ref m35, .ref m36, .ref m37, .ref m38, .int 0, .int 0, .ref m41, .ref m42, .ref m43, .ref m44, .int 0, .int 0, .ref m47, .ref m48, .ref m49, .ref m50, .ref m51, .ref m52, .ref m53, .ref m54])), (m0, .inl (cB, 1620, .inl f_33))] H := hP
  have hD : va_D A [(m0_, .inr (12, [.ref m0, .ref m1, .int 0, .int 0, .int 0, .int (-1), .int 0, .int 0, .int 0, .int 0, .long 0, .ref m11, .ref m12, .ref m13, .ref m14, .ref m15, .ref m16, .ref m17, .ref m18, .ref m19, .ref m20, .ref m21, .ref m22, .ref m23, .ref m24, .ref m25, .ref m26, .ref m27, .ref m28, .ref m29, .ref m30, .ref m31, .ref m32, .ref m33, .ref m34, .ref m35, .ref m36, .ref m37, .ref m38, .int 0, .int 0, .ref m41, .ref m42, .ref m43, .ref m44, .int 0, .int 0, .ref m47, .ref m48, .ref m49, .ref m50, .ref m51, .ref m52, .ref m53, .ref m54])), (m0, .inl (cB, 1620, .inl f_33))] := hD
  refine lv_iinc (v := 4) (lv' := [(6, .int 4), (7, .int p0), (0, .ref m0_), (1, .int p0), (2, .int p1), (3, .int p2), (4, .int p3), (5, .int p4)]) hx hb d_Mo_feed_99 hl (k := 1) rfl (by decide +kernel) (by decide) rfl (fun ls hl => ?_)
  refine lv_goto (tgt := 18) hx hb d_Mo_feed_102 (by decide) ?_
  refine lv_iload hx hb d_Mo_feed_18 (lv_at hl 0 rfl) ?_
  refine lv_bipush (v := 20) hx hb d_Mo_feed_20 (by decide +kernel) ?_
  refine lv_icmp_ge (tgt := 105) hx hb d_Mo_feed_22 (by decide) (fun c_34 => absurd c_34 (by decide +kernel)) (fun c_34 => ?_)
  refine lv_iload hx hb d_Mo_feed_25 (lv_at hl 0 rfl) ?_
  refine lv_iconst (v := 4) hx hb d_Mo_feed_27 (by decide +kernel) ?_
  refine lv_icmp_ge (tgt := 35) hx hb d_Mo_feed_28 (by decide) (fun c_35 => ?_) (fun c_35 => absurd (by decide +kernel) c_35)
  refine lv_iload hx hb d_Mo_feed_35 (lv_at hl 0 rfl) ?_
  refine lv_bipush (v := 8) hx hb d_Mo_feed_37 (by decide +kernel) ?_
  refine lv_icmp_ge (tgt := 46) hx hb d_Mo_feed_39 (by decide) (fun c_36 => absurd c_36 (by decide +kernel)) (fun c_36 => ?_)
  refine lv_iload_n hx hb d_Mo_feed_42 rfl (lv_at hl 4 rfl) ?_
  refine lv_goto (tgt := 71) hx hb d_Mo_feed_43 (by decide) ?_
  refine lv_istore (lv' := [(7, .int p1), (6, .int 4), (0, .ref m0_), (1, .int p0), (2, .int p1), (3, .int p2), (4, .int p3), (5, .int p4)]) hx hb d_Mo_feed_71 hl (by decide) rfl (fun ls hl => ?_)
  refine lv_aload_n hx hb d_Mo_feed_73 rfl (lv_at hl 2 rfl) ?_
  refine va_get (D := D) (ci := 12) (v := .ref m0) (C := R_Mo) (T := F_Mo) (N := 55) hx hb hts i_Mo hown hK.1 hP 0 rfl rfl 0 (by decide) (hts _ k_1018) (fun _ h9 => h9) rfl d_Mo_feed_74 ?_
  refine lv_aload_n hx hb d_Mo_feed_77 rfl (lv_at hl 2 rfl) ?_
  refine va_get (D := D) (ci := 12) (v := .int 0) (C := R_Mo) (T := F_Mo) (N := 55) hx hb hts i_Mo hown hK.1 hP 0 rfl rfl 2 (by decide) (hts _ k_1020) (fun _ h9 => h9) rfl d_Mo_feed_78 ?_
  refine lv_iload hx hb d_Mo_feed_81 (lv_at hl 1 rfl) ?_
  refine lv_iadd hx hb d_Mo_feed_83 ?_
  refine nz_ctopi (v := 4) (by decide +kernel) ?_
  refine lv_iload hx hb d_Mo_feed_84 (lv_at hl 0 rfl) ?_
  refine lv_bipush (v := 24) hx hb d_Mo_feed_86 (by decide +kernel) ?_
  refine lv_bipush (v := 8) hx hb d_Mo_feed_88 (by decide +kernel) ?_
  refine lv_iload hx hb d_Mo_feed_90 (lv_at hl 1 rfl) ?_
  refine lv_iconst (v := 3) hx hb d_Mo_feed_92 (by decide +kernel) ?_
  refine lv_iand hx hb d_Mo_feed_93 ?_
  refine nz_ctopi (v := 0) (by decide +kernel) ?_
  refine lv_imul hx hb d_Mo_feed_94 ?_
  refine nz_ctopi (v := 0) (by decide +kernel) ?_
  refine lv_isub hx hb d_Mo_feed_95 ?_
  refine nz_ctopi (v := 24) (by decide +kernel) ?_
  refine lv_ishr hx hb d_Mo_feed_96 ?_
  refine lv_topi (fun x_37 e_38 => ?_)
  refine lv_i2b (v := x_37.toInt8.toInt32) hx hb d_Mo_feed_97 rfl ?_
  refine lv_topi (fun x_40 e_41 => ?_)
  refine nz_bastE hx hb hK.1 hP hD hS 1 0 rfl rfl (nz_vin (by decide +kernel)) d_Mo_feed_98 (fun H locs f_42 f_42_e hP hD hS => ?_)
  have hP : va_P D nz_cl [(m0_, .inr (12, [.ref m0, .ref m1, .int 0, .int 0, .int 0, .int (-1), .int 0, .int 0, .int 0, .int 0, .long 0, .ref m11, .ref m12, .ref m13, .ref m14, .ref m15, .ref m16, .ref m17, .ref m18, .ref m19, .ref m20, .ref m21, .ref m22, .ref m23, .ref m24, .ref m25, .ref m26, .ref m27, .ref m28, .ref m29, .ref m30, .ref m31, .ref m32, .ref m33, .ref m34, .ref m35, .ref m36, .ref m37, .ref m38, .int 0, .int 0, .ref m41, .ref m42, .ref m43, .ref m44, .int 0, .int 0, .ref m47, .ref m48, .ref m49, .ref m50, .ref m51, .ref m52, .ref m53, .ref m54])), (m0, .inl (cB, 1620, .inl f_42))] H := hP
  have hD : va_D A [(m0_, .inr (12, [.ref m0, .ref m1, .int 0, .int 0, .int 0, .int (-1), .int 0, .int 0, .int 0, .int 0, .long 0, .ref m11, .ref m12, .ref m13, .ref m14, .ref m15, .ref m16, .ref m17, .ref m18, .ref m19, .ref m20, .ref m21, .ref m22, .ref m23, .ref m24, .ref m25, .ref m26, .ref m27, .ref m28, .ref m29, .ref m30, .ref m31, .ref m32, .ref m33, .ref m34, .ref m35, .ref m36, .ref m37, .ref m38, .int 0, .int 0, .ref m41, .ref m42, .ref m43, .ref m44, .int 0, .int 0, .ref m47, .ref m48, .ref m49, .ref m50, .ref m51, .ref m52, .ref m53, .ref m54])), (m0, .inl (cB, 1620, .inl f_42))] := hD
  refine lv_iinc (v := 5) (lv' := [(6, .int 5), (7, .int p1), (0, .ref m0_), (1, .int p0), (2, .int p1), (3, .int p2), (4, .int p3), (5, .int p4)]) hx hb d_Mo_feed_99 hl (k := 1) rfl (by decide +kernel) (by decide) rfl (fun ls hl => ?_)
  refine lv_goto (tgt := 18) hx hb d_Mo_feed_102 (by decide) ?_
  refine lv_iload hx hb d_Mo_feed_18 (lv_at hl 0 rfl) ?_
  refine lv_bipush (v := 20) hx hb d_Mo_feed_20 (by decide +kernel) ?_
  refine lv_icmp_ge (tgt := 105) hx hb d_Mo_feed_22 (by decide) (fun c_43 => absurd c_43 (by decide +kernel)) (fun c_43 => ?_)
  refine lv_iload hx hb d_Mo_feed_25 (lv_at hl 0 rfl) ?_
  refine lv_iconst (v := 4) hx hb d_Mo_feed_27 (by decide +kernel) ?_
  refine lv_icmp_ge (tgt := 35) hx hb d_Mo_feed_28 (by decide) (fun c_44 => ?_) (fun c_44 => absurd (by decide +kernel) c_44)
  refine lv_iload hx hb d_Mo_feed_35 (lv_at hl 0 rfl) ?_
  refine lv_bipush (v := 8) hx hb d_Mo_feed_37 (by decide +kernel) ?_
  refine lv_icmp_ge (tgt := 46) hx hb d_Mo_feed_39 (by decide) (fun c_45 => absurd c_45 (by decide +kernel)) (fun c_45 => ?_)
  refine lv_iload_n hx hb d_Mo_feed_42 rfl (lv_at hl 4 rfl) ?_
  refine lv_goto (tgt := 71) hx hb d_Mo_feed_43 (by decide) ?_
  refine lv_istore (lv' := [(7, .int p1), (6, .int 5), (0, .ref m0_), (1, .int p0), (2, .int p1), (3, .int p2), (4, .int p3), (5, .int p4)]) hx hb d_Mo_feed_71 hl (by decide) rfl (fun ls hl => ?_)
  refine lv_aload_n hx hb d_Mo_feed_73 rfl (lv_at hl 2 rfl) ?_
  refine va_get (D := D) (ci := 12) (v := .ref m0) (C := R_Mo) (T := F_Mo) (N := 55) hx hb hts i_Mo hown hK.1 hP 0 rfl rfl 0 (by decide) (hts _ k_1018) (fun _ h9 => h9) rfl d_Mo_feed_74 ?_
  refine lv_aload_n hx hb d_Mo_feed_77 rfl (lv_at hl 2 rfl) ?_
  refine va_get (D := D) (ci := 12) (v := .int 0) (C := R_Mo) (T := F_Mo) (N := 55) hx hb hts i_Mo hown hK.1 hP 0 rfl rfl 2 (by decide) (hts _ k_1020) (fun _ h9 => h9) rfl d_Mo_feed_78 ?_
  refine lv_iload hx hb d_Mo_feed_81 (lv_at hl 1 rfl) ?_
  refine lv_iadd hx hb d_Mo_feed_83 ?_
  refine nz_ctopi (v := 5) (by decide +kernel) ?_
  refine lv_iload hx hb d_Mo_feed_84 (lv_at hl 0 rfl) ?_
  refine lv_bipush (v := 24) hx hb d_Mo_feed_86 (by decide +kernel) ?_
  refine lv_bipush (v := 8) hx hb d_Mo_feed_88 (by decide +kernel) ?_
  refine lv_iload hx hb d_Mo_feed_90 (lv_at hl 1 rfl) ?_
  refine lv_iconst (v := 3) hx hb d_Mo_feed_92 (by decide +kernel) ?_
  refine lv_iand hx hb d_Mo_feed_93 ?_
  refine nz_ctopi (v := 1) (by decide +kernel) ?_
  refine lv_imul hx hb d_Mo_feed_94 ?_
  refine nz_ctopi (v := 8) (by decide +kernel) ?_
  refine lv_isub hx hb d_Mo_feed_95 ?_
  refine nz_ctopi (v := 16) (by decide +kernel) ?_
  refine lv_ishr hx hb d_Mo_feed_96 ?_
  refine lv_topi (fun x_46 e_47 => ?_)
  refine lv_i2b (v := x_46.toInt8.toInt32) hx hb d_Mo_feed_97 rfl ?_
  refine lv_topi (fun x_49 e_50 => ?_)
  refine nz_bastE hx hb hK.1 hP hD hS 1 0 rfl rfl (nz_vin (by decide +kernel)) d_Mo_feed_98 (fun H locs f_51 f_51_e hP hD hS => ?_)
  have hP : va_P D nz_cl [(m0_, .inr (12, [.ref m0, .ref m1, .int 0, .int 0, .int 0, .int (-1), .int 0, .int 0, .int 0, .int 0, .long 0, .ref m11, .ref m12, .ref m13, .ref m14, .ref m15, .ref m16, .ref m17, .ref m18, .ref m19, .ref m20, .ref m21, .ref m22, .ref m23, .ref m24, .ref m25, .ref m26, .ref m27, .ref m28, .ref m29, .ref m30, .ref m31, .ref m32, .ref m33, .ref m34, .ref m35, .ref m36, .ref m37, .ref m38, .int 0, .int 0, .ref m41, .ref m42, .ref m43, .ref m44, .int 0, .int 0, .ref m47, .ref m48, .ref m49, .ref m50, .ref m51, .ref m52, .ref m53, .ref m54])), (m0, .inl (cB, 1620, .inl f_51))] H := hP
  have hD : va_D A [(m0_, .inr (12, [.ref m0, .ref m1, .int 0, .int 0, .int 0, .int (-1), .int 0, .int 0, .int 0, .int 0, .long 0, .ref m11, .ref m12, .ref m13, .ref m14, .ref m15, .ref m16, .ref m17, .ref m18, .ref m19, .ref m20, .ref m21, .ref m22, .ref m23, .ref m24, .ref m25, .ref m26, .ref m27, .ref m28, .ref m29, .ref m30, .ref m31, .ref m32, .ref m33, .ref m34, .ref m35, .ref m36, .ref m37, .ref m38, .int 0, .int 0, .ref m41, .ref m42, .ref m43, .ref m44, .int 0, .int 0, .ref m47, .ref m48, .ref m49, .ref m50, .ref m51, .ref m52, .ref m53, .ref m54])), (m0, .inl (cB, 1620, .inl f_51))] := hD
  refine lv_iinc (v := 6) (lv' := [(6, .int 6), (7, .int p1), (0, .ref m0_), (1, .int p0), (2, .int p1), (3, .int p2), (4, .int p3), (5, .int p4)]) hx hb d_Mo_feed_99 hl (k := 1) rfl (by decide +kernel) (by decide) rfl (fun ls hl => ?_)
  refine lv_goto (tgt := 18) hx hb d_Mo_feed_102 (by decide) ?_
  refine lv_iload hx hb d_Mo_feed_18 (lv_at hl 0 rfl) ?_
  refine lv_bipush (v := 20) hx hb d_Mo_feed_20 (by decide +kernel) ?_
  refine lv_icmp_ge (tgt := 105) hx hb d_Mo_feed_22 (by decide) (fun c_52 => absurd c_52 (by decide +kernel)) (fun c_52 => ?_)
  refine lv_iload hx hb d_Mo_feed_25 (lv_at hl 0 rfl) ?_
  refine lv_iconst (v := 4) hx hb d_Mo_feed_27 (by decide +kernel) ?_
  refine lv_icmp_ge (tgt := 35) hx hb d_Mo_feed_28 (by decide) (fun c_53 => ?_) (fun c_53 => absurd (by decide +kernel) c_53)
  refine lv_iload hx hb d_Mo_feed_35 (lv_at hl 0 rfl) ?_
  refine lv_bipush (v := 8) hx hb d_Mo_feed_37 (by decide +kernel) ?_
  refine lv_icmp_ge (tgt := 46) hx hb d_Mo_feed_39 (by decide) (fun c_54 => absurd c_54 (by decide +kernel)) (fun c_54 => ?_)
  refine lv_iload_n hx hb d_Mo_feed_42 rfl (lv_at hl 4 rfl) ?_
  refine lv_goto (tgt := 71) hx hb d_Mo_feed_43 (by decide) ?_
  refine lv_istore (lv' := [(7, .int p1), (6, .int 6), (0, .ref m0_), (1, .int p0), (2, .int p1), (3, .int p2), (4, .int p3), (5, .int p4)]) hx hb d_Mo_feed_71 hl (by decide) rfl (fun ls hl => ?_)
  refine lv_aload_n hx hb d_Mo_feed_73 rfl (lv_at hl 2 rfl) ?_
  refine va_get (D := D) (ci := 12) (v := .ref m0) (C := R_Mo) (T := F_Mo) (N := 55) hx hb hts i_Mo hown hK.1 hP 0 rfl rfl 0 (by decide) (hts _ k_1018) (fun _ h9 => h9) rfl d_Mo_feed_74 ?_
  refine lv_aload_n hx hb d_Mo_feed_77 rfl (lv_at hl 2 rfl) ?_
  refine va_get (D := D) (ci := 12) (v := .int 0) (C := R_Mo) (T := F_Mo) (N := 55) hx hb hts i_Mo hown hK.1 hP 0 rfl rfl 2 (by decide) (hts _ k_1020) (fun _ h9 => h9) rfl d_Mo_feed_78 ?_
  refine lv_iload hx hb d_Mo_feed_81 (lv_at hl 1 rfl) ?_
  refine lv_iadd hx hb d_Mo_feed_83 ?_
  refine nz_ctopi (v := 6) (by decide +kernel) ?_
  refine lv_iload hx hb d_Mo_feed_84 (lv_at hl 0 rfl) ?_
  refine lv_bipush (v := 24) hx hb d_Mo_feed_86 (by decide +kernel) ?_
  refine lv_bipush (v := 8) hx hb d_Mo_feed_88 (by decide +kernel) ?_
  refine lv_iload hx hb d_Mo_feed_90 (lv_at hl 1 rfl) ?_
  refine lv_iconst (v := 3) hx hb d_Mo_feed_92 (by decide +kernel) ?_
  refine lv_iand hx hb d_Mo_feed_93 ?_
  refine nz_ctopi (v := 2) (by decide +kernel) ?_
  refine lv_imul hx hb d_Mo_feed_94 ?_
  refine nz_ctopi (v := 16) (by decide +kernel) ?_
  refine lv_isub hx hb d_Mo_feed_95 ?_
  refine nz_ctopi (v := 8) (by decide +kernel) ?_
  refine lv_ishr hx hb d_Mo_feed_96 ?_
  refine lv_topi (fun x_55 e_56 => ?_)
  refine lv_i2b (v := x_55.toInt8.toInt32) hx hb d_Mo_feed_97 rfl ?_
  refine lv_topi (fun x_58 e_59 => ?_)
  refine nz_bastE hx hb hK.1 hP hD hS 1 0 rfl rfl (nz_vin (by decide +kernel)) d_Mo_feed_98 (fun H locs f_60 f_60_e hP hD hS => ?_)
  have hP : va_P D nz_cl [(m0_, .inr (12, [.ref m0, .ref m1, .int 0, .int 0, .int 0, .int (-1), .int 0, .int 0, .int 0, .int 0, .long 0, .ref m11, .ref m12, .ref m13, .ref m14, .ref m15, .ref m16, .ref m17, .ref m18, .ref m19, .ref m20, .ref m21, .ref m22, .ref m23, .ref m24, .ref m25, .ref m26, .ref m27, .ref m28, .ref m29, .ref m30, .ref m31, .ref m32, .ref m33, .ref m34, .ref m35, .ref m36, .ref m37, .ref m38, .int 0, .int 0, .ref m41, .ref m42, .ref m43, .ref m44, .int 0, .int 0, .ref m47, .ref m48, .ref m49, .ref m50, .ref m51, .ref m52, .ref m53, .ref m54])), (m0, .inl (cB, 1620, .inl f_60))] H := hP
  have hD : va_D A [(m0_, .inr (12, [.ref m0, .ref m1, .int 0, .int 0, .int 0, .int (-1), .int 0, .int 0, .int 0, .int 0, .long 0, .ref m11, .ref m12, .ref m13, .ref m14, .ref m15, .ref m16, .ref m17, .ref m18, .ref m19, .ref m20, .ref m21, .ref m22, .ref m23, .ref m24, .ref m25, .ref m26, .ref m27, .ref m28, .ref m29, .ref m30, .ref m31, .ref m32, .ref m33, .ref m34, .ref m35, .ref m36, .ref m37, .ref m38, .int 0, .int 0, .ref m41, .ref m42, .ref m43, .ref m44, .int 0, .int 0, .ref m47, .ref m48, .ref m49, .ref m50, .ref m51, .ref m52, .ref m53, .ref m54])), (m0, .inl (cB, 1620, .inl f_60))] := hD
  refine lv_iinc (v := 7) (lv' := [(6, .int 7), (7, .int p1), (0, .ref m0_), (1, .int p0), (2, .int p1), (3, .int p2), (4, .int p3), (5, .int p4)]) hx hb d_Mo_feed_99 hl (k := 1) rfl (by decide +kernel) (by decide) rfl (fun ls hl => ?_)
  refine lv_goto (tgt := 18) hx hb d_Mo_feed_102 (by decide) ?_
  refine lv_iload hx hb d_Mo_feed_18 (lv_at hl 0 rfl) ?_
  refine lv_bipush (v := 20) hx hb d_Mo_feed_20 (by decide +kernel) ?_
  refine lv_icmp_ge (tgt := 105) hx hb d_Mo_feed_22 (by decide) (fun c_61 => absurd c_61 (by decide +kernel)) (fun c_61 => ?_)
  refine lv_iload hx hb d_Mo_feed_25 (lv_at hl 0 rfl) ?_
  refine lv_iconst (v := 4) hx hb d_Mo_feed_27 (by decide +kernel) ?_
  refine lv_icmp_ge (tgt := 35) hx hb d_Mo_feed_28 (by decide) (fun c_62 => ?_) (fun c_62 => absurd (by decide +kernel) c_62)
  refine lv_iload hx hb d_Mo_feed_35 (lv_at hl 0 rfl) ?_
  refine lv_bipush (v := 8) hx hb d_Mo_feed_37 (by decide +kernel) ?_
  refine lv_icmp_ge (tgt := 46) hx hb d_Mo_feed_39 (by decide) (fun c_63 => absurd c_63 (by decide +kernel)) (fun c_63 => ?_)
  refine lv_iload_n hx hb d_Mo_feed_42 rfl (lv_at hl 4 rfl) ?_
  refine lv_goto (tgt := 71) hx hb d_Mo_feed_43 (by decide) ?_
  refine lv_istore (lv' := [(7, .int p1), (6, .int 7), (0, .ref m0_), (1, .int p0), (2, .int p1), (3, .int p2), (4, .int p3), (5, .int p4)]) hx hb d_Mo_feed_71 hl (by decide) rfl (fun ls hl => ?_)
  refine lv_aload_n hx hb d_Mo_feed_73 rfl (lv_at hl 2 rfl) ?_
  refine va_get (D := D) (ci := 12) (v := .ref m0) (C := R_Mo) (T := F_Mo) (N := 55) hx hb hts i_Mo hown hK.1 hP 0 rfl rfl 0 (by decide) (hts _ k_1018) (fun _ h9 => h9) rfl d_Mo_feed_74 ?_
  refine lv_aload_n hx hb d_Mo_feed_77 rfl (lv_at hl 2 rfl) ?_
  refine va_get (D := D) (ci := 12) (v := .int 0) (C := R_Mo) (T := F_Mo) (N := 55) hx hb hts i_Mo hown hK.1 hP 0 rfl rfl 2 (by decide) (hts _ k_1020) (fun _ h9 => h9) rfl d_Mo_feed_78 ?_
  refine lv_iload hx hb d_Mo_feed_81 (lv_at hl 1 rfl) ?_
  refine lv_iadd hx hb d_Mo_feed_83 ?_
  refine nz_ctopi (v := 7) (by decide +kernel) ?_
  refine lv_iload hx hb d_Mo_feed_84 (lv_at hl 0 rfl) ?_
  refine lv_bipush (v := 24) hx hb d_Mo_feed_86 (by decide +kernel) ?_
  refine lv_bipush (v := 8) hx hb d_Mo_feed_88 (by decide +kernel) ?_
  refine lv_iload hx hb d_Mo_feed_90 (lv_at hl 1 rfl) ?_
  refine lv_iconst (v := 3) hx hb d_Mo_feed_92 (by decide +kernel) ?_
  refine lv_iand hx hb d_Mo_feed_93 ?_
  refine nz_ctopi (v := 3) (by decide +kernel) ?_
  refine lv_imul hx hb d_Mo_feed_94 ?_
  refine nz_ctopi (v := 24) (by decide +kernel) ?_
  refine lv_isub hx hb d_Mo_feed_95 ?_
  refine nz_ctopi (v := 0) (by decide +kernel) ?_
  refine lv_ishr hx hb d_Mo_feed_96 ?_
  refine lv_topi (fun x_64 e_65 => ?_)
  refine lv_i2b (v := x_64.toInt8.toInt32) hx hb d_Mo_feed_97 rfl ?_
  refine lv_topi (fun x_67 e_68 => ?_)
  refine nz_bastE hx hb hK.1 hP hD hS 1 0 rfl rfl (nz_vin (by decide +kernel)) d_Mo_feed_98 (fun H locs f_69 f_69_e hP hD hS => ?_)
  have hP : va_P D nz_cl [(m0_, .inr (12, [.ref m0, .ref m1, .int 0, .int 0, .int 0, .int (-1), .int 0, .int 0, .int 0, .int 0, .long 0, .ref m11, .ref m12, .ref m13, .ref m14, .ref m15, .ref m16, .ref m17, .ref m18, .ref m19, .ref m20, .ref m21, .ref m22, .ref m23, .ref m24, .ref m25, .ref m26, .ref m27, .ref m28, .ref m29, .ref m30, .ref m31, .ref m32, .ref m33, .ref m34, .ref m35, .ref m36, .ref m37, .ref m38, .int 0, .int 0, .ref m41, .ref m42, .ref m43, .ref m44, .int 0, .int 0, .ref m47, .ref m48, .ref m49, .ref m50, .ref m51, .ref m52, .ref m53, .ref m54])), (m0, .inl (cB, 1620, .inl f_69))] H := hP
  have hD : va_D A [(m0_, .inr (12, [.ref m0, .ref m1, .int 0, .int 0, .int 0, .int (-1), .int 0, .int 0, .int 0, .int 0, .long 0, .ref m11, .ref m12, .ref m13, .ref m14, .ref m15, .ref m16, .ref m17, .ref m18, .ref m19, .ref m20, .ref m21, .ref m22, .ref m23, .ref m24, .ref m25, .ref m26, .ref m27, .ref m28, .ref m29, .ref m30, .ref m31, .ref m32, .ref m33, .ref m34, .ref m35, .ref m36, .ref m37, .ref m38, .int 0, .int 0, .ref m41, .ref m42, .ref m43, .ref m44, .int 0, .int 0, .ref m47, .ref m48, .ref m49, .ref m50, .ref m51, .ref m52, .ref m53, .ref m54])), (m0, .inl (cB, 1620, .inl f_69))] := hD
  refine lv_iinc (v := 8) (lv' := [(6, .int 8), (7, .int p1), (0, .ref m0_), (1, .int p0), (2, .int p1), (3, .int p2), (4, .int p3), (5, .int p4)]) hx hb d_Mo_feed_99 hl (k := 1) rfl (by decide +kernel) (by decide) rfl (fun ls hl => ?_)
  refine lv_goto (tgt := 18) hx hb d_Mo_feed_102 (by decide) ?_
  refine lv_iload hx hb d_Mo_feed_18 (lv_at hl 0 rfl) ?_
  refine lv_bipush (v := 20) hx hb d_Mo_feed_20 (by decide +kernel) ?_
  refine lv_icmp_ge (tgt := 105) hx hb d_Mo_feed_22 (by decide) (fun c_70 => absurd c_70 (by decide +kernel)) (fun c_70 => ?_)
  refine lv_iload hx hb d_Mo_feed_25 (lv_at hl 0 rfl) ?_
  refine lv_iconst (v := 4) hx hb d_Mo_feed_27 (by decide +kernel) ?_
  refine lv_icmp_ge (tgt := 35) hx hb d_Mo_feed_28 (by decide) (fun c_71 => ?_) (fun c_71 => absurd (by decide +kernel) c_71)
  refine lv_iload hx hb d_Mo_feed_35 (lv_at hl 0 rfl) ?_
  refine lv_bipush (v := 8) hx hb d_Mo_feed_37 (by decide +kernel) ?_
  refine lv_icmp_ge (tgt := 46) hx hb d_Mo_feed_39 (by decide) (fun c_72 => ?_) (fun c_72 => absurd (by decide +kernel) c_72)
  refine lv_iload hx hb d_Mo_feed_46 (lv_at hl 0 rfl) ?_
  refine lv_bipush (v := 12) hx hb d_Mo_feed_48 (by decide +kernel) ?_
  refine lv_icmp_ge (tgt := 57) hx hb d_Mo_feed_50 (by decide) (fun c_73 => absurd c_73 (by decide +kernel)) (fun c_73 => ?_)
  refine lv_iload_n hx hb d_Mo_feed_53 rfl (lv_at hl 5 rfl) ?_
  refine lv_goto (tgt := 71) hx hb d_Mo_feed_54 (by decide) ?_
  refine lv_istore (lv' := [(7, .int p2), (6, .int 8), (0, .ref m0_), (1, .int p0), (2, .int p1), (3, .int p2), (4, .int p3), (5, .int p4)]) hx hb d_Mo_feed_71 hl (by decide) rfl (fun ls hl => ?_)
  refine lv_aload_n hx hb d_Mo_feed_73 rfl (lv_at hl 2 rfl) ?_
  refine va_get (D := D) (ci := 12) (v := .ref m0) (C := R_Mo) (T := F_Mo) (N := 55) hx hb hts i_Mo hown hK.1 hP 0 rfl rfl 0 (by decide) (hts _ k_1018) (fun _ h9 => h9) rfl d_Mo_feed_74 ?_
  refine lv_aload_n hx hb d_Mo_feed_77 rfl (lv_at hl 2 rfl) ?_
  refine va_get (D := D) (ci := 12) (v := .int 0) (C := R_Mo) (T := F_Mo) (N := 55) hx hb hts i_Mo hown hK.1 hP 0 rfl rfl 2 (by decide) (hts _ k_1020) (fun _ h9 => h9) rfl d_Mo_feed_78 ?_
  refine lv_iload hx hb d_Mo_feed_81 (lv_at hl 1 rfl) ?_
  refine lv_iadd hx hb d_Mo_feed_83 ?_
  refine nz_ctopi (v := 8) (by decide +kernel) ?_
  refine lv_iload hx hb d_Mo_feed_84 (lv_at hl 0 rfl) ?_
  refine lv_bipush (v := 24) hx hb d_Mo_feed_86 (by decide +kernel) ?_
  refine lv_bipush (v := 8) hx hb d_Mo_feed_88 (by decide +kernel) ?_
  refine lv_iload hx hb d_Mo_feed_90 (lv_at hl 1 rfl) ?_
  refine lv_iconst (v := 3) hx hb d_Mo_feed_92 (by decide +kernel) ?_
  refine lv_iand hx hb d_Mo_feed_93 ?_
  refine nz_ctopi (v := 0) (by decide +kernel) ?_
  refine lv_imul hx hb d_Mo_feed_94 ?_
  refine nz_ctopi (v := 0) (by decide +kernel) ?_
  refine lv_isub hx hb d_Mo_feed_95 ?_
  refine nz_ctopi (v := 24) (by decide +kernel) ?_
  refine lv_ishr hx hb d_Mo_feed_96 ?_
  refine lv_topi (fun x_74 e_75 => ?_)
  refine lv_i2b (v := x_74.toInt8.toInt32) hx hb d_Mo_feed_97 rfl ?_
  refine lv_topi (fun x_77 e_78 => ?_)
  refine nz_bastE hx hb hK.1 hP hD hS 1 0 rfl rfl (nz_vin (by decide +kernel)) d_Mo_feed_98 (fun H locs f_79 f_79_e hP hD hS => ?_)
  have hP : va_P D nz_cl [(m0_, .inr (12, [.ref m0, .ref m1, .int 0, .int 0, .int 0, .int (-1), .int 0, .int 0, .int 0, .int 0, .long 0, .ref m11, .ref m12, .ref m13, .ref m14, .ref m15, .ref m16, .ref m17, .ref m18, .ref m19, .ref m20, .ref m21, .ref m22, .ref m23, .ref m24, .ref m25, .ref m26, .ref m27, .ref m28, .ref m29, .ref m30, .ref m31, .ref m32, .ref m33, .ref m34, .ref m35, .ref m36, .ref m37, .ref m38, .int 0, .int 0, .ref m41, .ref m42, .ref m43, .ref m44, .int 0, .int 0, .ref m47, .ref m48, .ref m49, .ref m50, .ref m51, .ref m52, .ref m53, .ref m54])), (m0, .inl (cB, 1620, .inl f_79))] H := hP
  have hD : va_D A [(m0_, .inr (12, [.ref m0, .ref m1, .int 0, .int 0, .int 0, .int (-1), .int 0, .int 0, .int 0, .int 0, .long 0, .ref m11, .ref m12, .ref m13, .ref m14, .ref m15, .ref m16, .ref m17, .ref m18, .ref m19, .ref m20, .ref m21, .ref m22, .ref m23, .ref m24, .ref m25, .ref m26, .ref m27, .ref m28, .ref m29, .ref m30, .ref m31, .ref m32, .ref m33, .ref m34, .ref m35, .ref m36, .ref m37, .ref m38, .int 0, .int 0, .ref m41, .ref m42, .ref m43, .ref m44, .int 0, .int 0, .ref m47, .ref m48, .ref m49, .ref m50, .ref m51, .ref m52, .ref m53, .ref m54])), (m0, .inl (cB, 1620, .inl f_79))] := hD
  refine lv_iinc (v := 9) (lv' := [(6, .int 9), (7, .int p2), (0, .ref m0_), (1, .int p0), (2, .int p1), (3, .int p2), (4, .int p3), (5, .int p4)]) hx hb d_Mo_feed_99 hl (k := 1) rfl (by decide +kernel) (by decide) rfl (fun ls hl => ?_)
  refine lv_goto (tgt := 18) hx hb d_Mo_feed_102 (by decide) ?_
  refine lv_iload hx hb d_Mo_feed_18 (lv_at hl 0 rfl) ?_
  refine lv_bipush (v := 20) hx hb d_Mo_feed_20 (by decide +kernel) ?_
  refine lv_icmp_ge (tgt := 105) hx hb d_Mo_feed_22 (by decide) (fun c_80 => absurd c_80 (by decide +kernel)) (fun c_80 => ?_)
  refine lv_iload hx hb d_Mo_feed_25 (lv_at hl 0 rfl) ?_
  refine lv_iconst (v := 4) hx hb d_Mo_feed_27 (by decide +kernel) ?_
  refine lv_icmp_ge (tgt := 35) hx hb d_Mo_feed_28 (by decide) (fun c_81 => ?_) (fun c_81 => absurd (by decide +kernel) c_81)
  refine lv_iload hx hb d_Mo_feed_35 (lv_at hl 0 rfl) ?_
  refine lv_bipush (v := 8) hx hb d_Mo_feed_37 (by decide +kernel) ?_
  refine lv_icmp_ge (tgt := 46) hx hb d_Mo_feed_39 (by decide) (fun c_82 => ?_) (fun c_82 => absurd (by decide +kernel) c_82)
  refine lv_iload hx hb d_Mo_feed_46 (lv_at hl 0 rfl) ?_
  refine lv_bipush (v := 12) hx hb d_Mo_feed_48 (by decide +kernel) ?_
  refine lv_icmp_ge (tgt := 57) hx hb d_Mo_feed_50 (by decide) (fun c_83 => absurd c_83 (by decide +kernel)) (fun c_83 => ?_)
  refine lv_iload_n hx hb d_Mo_feed_53 rfl (lv_at hl 5 rfl) ?_
  refine lv_goto (tgt := 71) hx hb d_Mo_feed_54 (by decide) ?_
  refine lv_istore (lv' := [(7, .int p2), (6, .int 9), (0, .ref m0_), (1, .int p0), (2, .int p1), (3, .int p2), (4, .int p3), (5, .int p4)]) hx hb d_Mo_feed_71 hl (by decide) rfl (fun ls hl => ?_)
  refine lv_aload_n hx hb d_Mo_feed_73 rfl (lv_at hl 2 rfl) ?_
  refine va_get (D := D) (ci := 12) (v := .ref m0) (C := R_Mo) (T := F_Mo) (N := 55) hx hb hts i_Mo hown hK.1 hP 0 rfl rfl 0 (by decide) (hts _ k_1018) (fun _ h9 => h9) rfl d_Mo_feed_74 ?_
  refine lv_aload_n hx hb d_Mo_feed_77 rfl (lv_at hl 2 rfl) ?_
  refine va_get (D := D) (ci := 12) (v := .int 0) (C := R_Mo) (T := F_Mo) (N := 55) hx hb hts i_Mo hown hK.1 hP 0 rfl rfl 2 (by decide) (hts _ k_1020) (fun _ h9 => h9) rfl d_Mo_feed_78 ?_
  refine lv_iload hx hb d_Mo_feed_81 (lv_at hl 1 rfl) ?_
  refine lv_iadd hx hb d_Mo_feed_83 ?_
  refine nz_ctopi (v := 9) (by decide +kernel) ?_
  refine lv_iload hx hb d_Mo_feed_84 (lv_at hl 0 rfl) ?_
  refine lv_bipush (v := 24) hx hb d_Mo_feed_86 (by decide +kernel) ?_
  refine lv_bipush (v := 8) hx hb d_Mo_feed_88 (by decide +kernel) ?_
  refine lv_iload hx hb d_Mo_feed_90 (lv_at hl 1 rfl) ?_
  refine lv_iconst (v := 3) hx hb d_Mo_feed_92 (by decide +kernel) ?_
  refine lv_iand hx hb d_Mo_feed_93 ?_
  refine nz_ctopi (v := 1) (by decide +kernel) ?_
  refine lv_imul hx hb d_Mo_feed_94 ?_
  refine nz_ctopi (v := 8) (by decide +kernel) ?_
  refine lv_isub hx hb d_Mo_feed_95 ?_
  refine nz_ctopi (v := 16) (by decide +kernel) ?_
  refine lv_ishr hx hb d_Mo_feed_96 ?_
  refine lv_topi (fun x_84 e_85 => ?_)
  refine lv_i2b (v := x_84.toInt8.toInt32) hx hb d_Mo_feed_97 rfl ?_
  refine lv_topi (fun x_87 e_88 => ?_)
  refine nz_bastE hx hb hK.1 hP hD hS 1 0 rfl rfl (nz_vin (by decide +kernel)) d_Mo_feed_98 (fun H locs f_89 f_89_e hP hD hS => ?_)
  have hP : va_P D nz_cl [(m0_, .inr (12, [.ref m0, .ref m1, .int 0, .int 0, .int 0, .int (-1), .int 0, .int 0, .int 0, .int 0, .long 0, .ref m11, .ref m12, .ref m13, .ref m14, .ref m15, .ref m16, .ref m17, .ref m18, .ref m19, .ref m20, .ref m21, .ref m22, .ref m23, .ref m24, .ref m25, .ref m26, .ref m27, .ref m28, .ref m29, .ref m30, .ref m31, .ref m32, .ref m33, .ref m34, .ref m35, .ref m36, .ref m37, .ref m38, .int 0, .int 0, .ref m41, .ref m42, .ref m43, .ref m44, .int 0, .int 0, .ref m47, .ref m48, .ref m49, .ref m50, .ref m51, .ref m52, .ref m53, .ref m54])), (m0, .inl (cB, 1620, .inl f_89))] H := hP
  have hD : va_D A [(m0_, .inr (12, [.ref m0, .ref m1, .int 0, .int 0, .int 0, .int (-1), .int 0, .int 0, .int 0, .int 0, .long 0, .ref m11, .ref m12, .ref m13, .ref m14, .ref m15, .ref m16, .ref m17, .ref m18, .ref m19, .ref m20, .ref m21, .ref m22, .ref m23, .ref m24, .ref m25, .ref m26, .ref m27, .ref m28, .ref m29, .ref m30, .ref m31, .ref m32, .ref m33, .ref m34, .ref m35, .ref m36, .ref m37, .ref m38, .int 0, .int 0, .ref m41, .ref m42, .ref m43, .ref m44, .int 0, .int 0, .ref m47, .ref m48, .ref m49, .ref m50, .ref m51, .ref m52, .ref m53, .ref m54])), (m0, .inl (cB, 1620, .inl f_89))] := hD
  refine lv_iinc (v := 10) (lv' := [(6, .int 10), (7, .int p2), (0, .ref m0_), (1, .int p0), (2, .int p1), (3, .int p2), (4, .int p3), (5, .int p4)]) hx hb d_Mo_feed_99 hl (k := 1) rfl (by decide +kernel) (by decide) rfl (fun ls hl => ?_)
  refine lv_goto (tgt := 18) hx hb d_Mo_feed_102 (by decide) ?_
  refine lv_iload hx hb d_Mo_feed_18 (lv_at hl 0 rfl) ?_
  refine lv_bipush (v := 20) hx hb d_Mo_feed_20 (by decide +kernel) ?_
  refine lv_icmp_ge (tgt := 105) hx hb d_Mo_feed_22 (by decide) (fun c_90 => absurd c_90 (by decide +kernel)) (fun c_90 => ?_)
  refine lv_iload hx hb d_Mo_feed_25 (lv_at hl 0 rfl) ?_
  refine lv_iconst (v := 4) hx hb d_Mo_feed_27 (by decide +kernel) ?_
  refine lv_icmp_ge (tgt := 35) hx hb d_Mo_feed_28 (by decide) (fun c_91 => ?_) (fun c_91 => absurd (by decide +kernel) c_91)
  refine lv_iload hx hb d_Mo_feed_35 (lv_at hl 0 rfl) ?_
  refine lv_bipush (v := 8) hx hb d_Mo_feed_37 (by decide +kernel) ?_
  refine lv_icmp_ge (tgt := 46) hx hb d_Mo_feed_39 (by decide) (fun c_92 => ?_) (fun c_92 => absurd (by decide +kernel) c_92)
  refine lv_iload hx hb d_Mo_feed_46 (lv_at hl 0 rfl) ?_
  refine lv_bipush (v := 12) hx hb d_Mo_feed_48 (by decide +kernel) ?_
  refine lv_icmp_ge (tgt := 57) hx hb d_Mo_feed_50 (by decide) (fun c_93 => absurd c_93 (by decide +kernel)) (fun c_93 => ?_)
  refine lv_iload_n hx hb d_Mo_feed_53 rfl (lv_at hl 5 rfl) ?_
  refine lv_goto (tgt := 71) hx hb d_Mo_feed_54 (by decide) ?_
  refine lv_istore (lv' := [(7, .int p2), (6, .int 10), (0, .ref m0_), (1, .int p0), (2, .int p1), (3, .int p2), (4, .int p3), (5, .int p4)]) hx hb d_Mo_feed_71 hl (by decide) rfl (fun ls hl => ?_)
  refine lv_aload_n hx hb d_Mo_feed_73 rfl (lv_at hl 2 rfl) ?_
  refine va_get (D := D) (ci := 12) (v := .ref m0) (C := R_Mo) (T := F_Mo) (N := 55) hx hb hts i_Mo hown hK.1 hP 0 rfl rfl 0 (by decide) (hts _ k_1018) (fun _ h9 => h9) rfl d_Mo_feed_74 ?_
  refine lv_aload_n hx hb d_Mo_feed_77 rfl (lv_at hl 2 rfl) ?_
  refine va_get (D := D) (ci := 12) (v := .int 0) (C := R_Mo) (T := F_Mo) (N := 55) hx hb hts i_Mo hown hK.1 hP 0 rfl rfl 2 (by decide) (hts _ k_1020) (fun _ h9 => h9) rfl d_Mo_feed_78 ?_
  refine lv_iload hx hb d_Mo_feed_81 (lv_at hl 1 rfl) ?_
  refine lv_iadd hx hb d_Mo_feed_83 ?_
  refine nz_ctopi (v := 10) (by decide +kernel) ?_
  refine lv_iload hx hb d_Mo_feed_84 (lv_at hl 0 rfl) ?_
  refine lv_bipush (v := 24) hx hb d_Mo_feed_86 (by decide +kernel) ?_
  refine lv_bipush (v := 8) hx hb d_Mo_feed_88 (by decide +kernel) ?_
  refine lv_iload hx hb d_Mo_feed_90 (lv_at hl 1 rfl) ?_
  refine lv_iconst (v := 3) hx hb d_Mo_feed_92 (by decide +kernel) ?_
  refine lv_iand hx hb d_Mo_feed_93 ?_
  refine nz_ctopi (v := 2) (by decide +kernel) ?_
  refine lv_imul hx hb d_Mo_feed_94 ?_
  refine nz_ctopi (v := 16) (by decide +kernel) ?_
  refine lv_isub hx hb d_Mo_feed_95 ?_
  refine nz_ctopi (v := 8) (by decide +kernel) ?_
  refine lv_ishr hx hb d_Mo_feed_96 ?_
  refine lv_topi (fun x_94 e_95 => ?_)
  refine lv_i2b (v := x_94.toInt8.toInt32) hx hb d_Mo_feed_97 rfl ?_
  refine lv_topi (fun x_97 e_98 => ?_)
  refine nz_bastE hx hb hK.1 hP hD hS 1 0 rfl rfl (nz_vin (by decide +kernel)) d_Mo_feed_98 (fun H locs f_99 f_99_e hP hD hS => ?_)
  have hP : va_P D nz_cl [(m0_, .inr (12, [.ref m0, .ref m1, .int 0, .int 0, .int 0, .int (-1), .int 0, .int 0, .int 0, .int 0, .long 0, .ref m11, .ref m12, .ref m13, .ref m14, .ref m15, .ref m16, .ref m17, .ref m18, .ref m19, .ref m20, .ref m21, .ref m22, .ref m23, .ref m24, .ref m25, .ref m26, .ref m27, .ref m28, .ref m29, .ref m30, .ref m31, .ref m32, .ref m33, .ref m34, .ref m35, .ref m36, .ref m37, .ref m38, .int 0, .int 0, .ref m41, .ref m42, .ref m43, .ref m44, .int 0, .int 0, .ref m47, .ref m48, .ref m49, .ref m50, .ref m51, .ref m52, .ref m53, .ref m54])), (m0, .inl (cB, 1620, .inl f_99))] H := hP
  have hD : va_D A [(m0_, .inr (12, [.ref m0, .ref m1, .int 0, .int 0, .int 0, .int (-1), .int 0, .int 0, .int 0, .int 0, .long 0, .ref m11, .ref m12, .ref m13, .ref m14, .ref m15, .ref m16, .ref m17, .ref m18, .ref m19, .ref m20, .ref m21, .ref m22, .ref m23, .ref m24, .ref m25, .ref m26, .ref m27, .ref m28, .ref m29, .ref m30, .ref m31, .ref m32, .ref m33, .ref m34, .ref m35, .ref m36, .ref m37, .ref m38, .int 0, .int 0, .ref m41, .ref m42, .ref m43, .ref m44, .int 0, .int 0, .ref m47, .ref m48, .ref m49, .ref m50, .ref m51, .ref m52, .ref m53, .ref m54])), (m0, .inl (cB, 1620, .inl f_99))] := hD
  refine lv_iinc (v := 11) (lv' := [(6, .int 11), (7, .int p2), (0, .ref m0_), (1, .int p0), (2, .int p1), (3, .int p2), (4, .int p3), (5, .int p4)]) hx hb d_Mo_feed_99 hl (k := 1) rfl (by decide +kernel) (by decide) rfl (fun ls hl => ?_)
  refine lv_goto (tgt := 18) hx hb d_Mo_feed_102 (by decide) ?_
  refine lv_iload hx hb d_Mo_feed_18 (lv_at hl 0 rfl) ?_
  refine lv_bipush (v := 20) hx hb d_Mo_feed_20 (by decide +kernel) ?_
  refine lv_icmp_ge (tgt := 105) hx hb d_Mo_feed_22 (by decide) (fun c_100 => absurd c_100 (by decide +kernel)) (fun c_100 => ?_)
  refine lv_iload hx hb d_Mo_feed_25 (lv_at hl 0 rfl) ?_
  refine lv_iconst (v := 4) hx hb d_Mo_feed_27 (by decide +kernel) ?_
  refine lv_icmp_ge (tgt := 35) hx hb d_Mo_feed_28 (by decide) (fun c_101 => ?_) (fun c_101 => absurd (by decide +kernel) c_101)
  refine lv_iload hx hb d_Mo_feed_35 (lv_at hl 0 rfl) ?_
  refine lv_bipush (v := 8) hx hb d_Mo_feed_37 (by decide +kernel) ?_
  refine lv_icmp_ge (tgt := 46) hx hb d_Mo_feed_39 (by decide) (fun c_102 => ?_) (fun c_102 => absurd (by decide +kernel) c_102)
  refine lv_iload hx hb d_Mo_feed_46 (lv_at hl 0 rfl) ?_
  refine lv_bipush (v := 12) hx hb d_Mo_feed_48 (by decide +kernel) ?_
  refine lv_icmp_ge (tgt := 57) hx hb d_Mo_feed_50 (by decide) (fun c_103 => absurd c_103 (by decide +kernel)) (fun c_103 => ?_)
  refine lv_iload_n hx hb d_Mo_feed_53 rfl (lv_at hl 5 rfl) ?_
  refine lv_goto (tgt := 71) hx hb d_Mo_feed_54 (by decide) ?_
  refine lv_istore (lv' := [(7, .int p2), (6, .int 11), (0, .ref m0_), (1, .int p0), (2, .int p1), (3, .int p2), (4, .int p3), (5, .int p4)]) hx hb d_Mo_feed_71 hl (by decide) rfl (fun ls hl => ?_)
  refine lv_aload_n hx hb d_Mo_feed_73 rfl (lv_at hl 2 rfl) ?_
  refine va_get (D := D) (ci := 12) (v := .ref m0) (C := R_Mo) (T := F_Mo) (N := 55) hx hb hts i_Mo hown hK.1 hP 0 rfl rfl 0 (by decide) (hts _ k_1018) (fun _ h9 => h9) rfl d_Mo_feed_74 ?_
  refine lv_aload_n hx hb d_Mo_feed_77 rfl (lv_at hl 2 rfl) ?_
  refine va_get (D := D) (ci := 12) (v := .int 0) (C := R_Mo) (T := F_Mo) (N := 55) hx hb hts i_Mo hown hK.1 hP 0 rfl rfl 2 (by decide) (hts _ k_1020) (fun _ h9 => h9) rfl d_Mo_feed_78 ?_
  refine lv_iload hx hb d_Mo_feed_81 (lv_at hl 1 rfl) ?_
  refine lv_iadd hx hb d_Mo_feed_83 ?_
  refine nz_ctopi (v := 11) (by decide +kernel) ?_
  refine lv_iload hx hb d_Mo_feed_84 (lv_at hl 0 rfl) ?_
  refine lv_bipush (v := 24) hx hb d_Mo_feed_86 (by decide +kernel) ?_
  refine lv_bipush (v := 8) hx hb d_Mo_feed_88 (by decide +kernel) ?_
  refine lv_iload hx hb d_Mo_feed_90 (lv_at hl 1 rfl) ?_
  refine lv_iconst (v := 3) hx hb d_Mo_feed_92 (by decide +kernel) ?_
  refine lv_iand hx hb d_Mo_feed_93 ?_
  refine nz_ctopi (v := 3) (by decide +kernel) ?_
  refine lv_imul hx hb d_Mo_feed_94 ?_
  refine nz_ctopi (v := 24) (by decide +kernel) ?_
  refine lv_isub hx hb d_Mo_feed_95 ?_
  refine nz_ctopi (v := 0) (by decide +kernel) ?_
  refine lv_ishr hx hb d_Mo_feed_96 ?_
  refine lv_topi (fun x_104 e_105 => ?_)
  refine lv_i2b (v := x_104.toInt8.toInt32) hx hb d_Mo_feed_97 rfl ?_
  refine lv_topi (fun x_107 e_108 => ?_)
  refine nz_bastE hx hb hK.1 hP hD hS 1 0 rfl rfl (nz_vin (by decide +kernel)) d_Mo_feed_98 (fun H locs f_109 f_109_e hP hD hS => ?_)
  have hP : va_P D nz_cl [(m0_, .inr (12, [.ref m0, .ref m1, .int 0, .int 0, .int 0, .int (-1), .int 0, .int 0, .int 0, .int 0, .long 0, .ref m11, .ref m12, .ref m13, .ref m14, .ref m15, .ref m16, .ref m17, .ref m18, .ref m19, .ref m20, .ref m21, .ref m22, .ref m23, .ref m24, .ref m25, .ref m26, .ref m27, .ref m28, .ref m29, .ref m30, .ref m31, .ref m32, .ref m33, .ref m34, .ref m35, .ref m36, .ref m37, .ref m38, .int 0, .int 0, .ref m41, .ref m42, .ref m43, .ref m44, .int 0, .int 0, .ref m47, .ref m48, .ref m49, .ref m50, .ref m51, .ref m52, .ref m53, .ref m54])), (m0, .inl (cB, 1620, .inl f_109))] H := hP
  have hD : va_D A [(m0_, .inr (12, [.ref m0, .ref m1, .int 0, .int 0, .int 0, .int (-1), .int 0, .int 0, .int 0, .int 0, .long 0, .ref m11, .ref m12, .ref m13, .ref m14, .ref m15, .ref m16, .ref m17, .ref m18, .ref m19, .ref m20, .ref m21, .ref m22, .ref m23, .ref m24, .ref m25, .ref m26, .ref m27, .ref m28, .ref m29, .ref m30, .ref m31, .ref m32, .ref m33, .ref m34, .ref m35, .ref m36, .ref m37, .ref m38, .int 0, .int 0, .ref m41, .ref m42, .ref m43, .ref m44, .int 0, .int 0, .ref m47, .ref m48, .ref m49, .ref m50, .ref m51, .ref m52, .ref m53, .ref m54])), (m0, .inl (cB, 1620, .inl f_109))] := hD
  refine lv_iinc (v := 12) (lv' := [(6, .int 12), (7, .int p2), (0, .ref m0_), (1, .int p0), (2, .int p1), (3, .int p2), (4, .int p3), (5, .int p4)]) hx hb d_Mo_feed_99 hl (k := 1) rfl (by decide +kernel) (by decide) rfl (fun ls hl => ?_)
  refine lv_goto (tgt := 18) hx hb d_Mo_feed_102 (by decide) ?_
  refine lv_iload hx hb d_Mo_feed_18 (lv_at hl 0 rfl) ?_
  refine lv_bipush (v := 20) hx hb d_Mo_feed_20 (by decide +kernel) ?_
  refine lv_icmp_ge (tgt := 105) hx hb d_Mo_feed_22 (by decide) (fun c_110 => absurd c_110 (by decide +kernel)) (fun c_110 => ?_)
  refine lv_iload hx hb d_Mo_feed_25 (lv_at hl 0 rfl) ?_
  refine lv_iconst (v := 4) hx hb d_Mo_feed_27 (by decide +kernel) ?_
  refine lv_icmp_ge (tgt := 35) hx hb d_Mo_feed_28 (by decide) (fun c_111 => ?_) (fun c_111 => absurd (by decide +kernel) c_111)
  refine lv_iload hx hb d_Mo_feed_35 (lv_at hl 0 rfl) ?_
  refine lv_bipush (v := 8) hx hb d_Mo_feed_37 (by decide +kernel) ?_
  refine lv_icmp_ge (tgt := 46) hx hb d_Mo_feed_39 (by decide) (fun c_112 => ?_) (fun c_112 => absurd (by decide +kernel) c_112)
  refine lv_iload hx hb d_Mo_feed_46 (lv_at hl 0 rfl) ?_
  refine lv_bipush (v := 12) hx hb d_Mo_feed_48 (by decide +kernel) ?_
  refine lv_icmp_ge (tgt := 57) hx hb d_Mo_feed_50 (by decide) (fun c_113 => ?_) (fun c_113 => absurd (by decide +kernel) c_113)
  refine lv_iload hx hb d_Mo_feed_57 (lv_at hl 0 rfl) ?_
  refine lv_bipush (v := 16) hx hb d_Mo_feed_59 (by decide +kernel) ?_
  refine lv_icmp_ge (tgt := 69) hx hb d_Mo_feed_61 (by decide) (fun c_114 => absurd c_114 (by decide +kernel)) (fun c_114 => ?_)
  refine lv_iload hx hb d_Mo_feed_64 (lv_at hl 6 rfl) ?_
  refine lv_goto (tgt := 71) hx hb d_Mo_feed_66 (by decide) ?_
  refine lv_istore (lv' := [(7, .int p3), (6, .int 12), (0, .ref m0_), (1, .int p0), (2, .int p1), (3, .int p2), (4, .int p3), (5, .int p4)]) hx hb d_Mo_feed_71 hl (by decide) rfl (fun ls hl => ?_)
  refine lv_aload_n hx hb d_Mo_feed_73 rfl (lv_at hl 2 rfl) ?_
  refine va_get (D := D) (ci := 12) (v := .ref m0) (C := R_Mo) (T := F_Mo) (N := 55) hx hb hts i_Mo hown hK.1 hP 0 rfl rfl 0 (by decide) (hts _ k_1018) (fun _ h9 => h9) rfl d_Mo_feed_74 ?_
  refine lv_aload_n hx hb d_Mo_feed_77 rfl (lv_at hl 2 rfl) ?_
  refine va_get (D := D) (ci := 12) (v := .int 0) (C := R_Mo) (T := F_Mo) (N := 55) hx hb hts i_Mo hown hK.1 hP 0 rfl rfl 2 (by decide) (hts _ k_1020) (fun _ h9 => h9) rfl d_Mo_feed_78 ?_
  refine lv_iload hx hb d_Mo_feed_81 (lv_at hl 1 rfl) ?_
  refine lv_iadd hx hb d_Mo_feed_83 ?_
  refine nz_ctopi (v := 12) (by decide +kernel) ?_
  refine lv_iload hx hb d_Mo_feed_84 (lv_at hl 0 rfl) ?_
  refine lv_bipush (v := 24) hx hb d_Mo_feed_86 (by decide +kernel) ?_
  refine lv_bipush (v := 8) hx hb d_Mo_feed_88 (by decide +kernel) ?_
  refine lv_iload hx hb d_Mo_feed_90 (lv_at hl 1 rfl) ?_
  refine lv_iconst (v := 3) hx hb d_Mo_feed_92 (by decide +kernel) ?_
  refine lv_iand hx hb d_Mo_feed_93 ?_
  refine nz_ctopi (v := 0) (by decide +kernel) ?_
  refine lv_imul hx hb d_Mo_feed_94 ?_
  refine nz_ctopi (v := 0) (by decide +kernel) ?_
  refine lv_isub hx hb d_Mo_feed_95 ?_
  refine nz_ctopi (v := 24) (by decide +kernel) ?_
  refine lv_ishr hx hb d_Mo_feed_96 ?_
  refine lv_topi (fun x_115 e_116 => ?_)
  refine lv_i2b (v := x_115.toInt8.toInt32) hx hb d_Mo_feed_97 rfl ?_
  refine lv_topi (fun x_118 e_119 => ?_)
  refine nz_bastE hx hb hK.1 hP hD hS 1 0 rfl rfl (nz_vin (by decide +kernel)) d_Mo_feed_98 (fun H locs f_120 f_120_e hP hD hS => ?_)
  have hP : va_P D nz_cl [(m0_, .inr (12, [.ref m0, .ref m1, .int 0, .int 0, .int 0, .int (-1), .int 0, .int 0, .int 0, .int 0, .long 0, .ref m11, .ref m12, .ref m13, .ref m14, .ref m15, .ref m16, .ref m17, .ref m18, .ref m19, .ref m20, .ref m21, .ref m22, .ref m23, .ref m24, .ref m25, .ref m26, .ref m27, .ref m28, .ref m29, .ref m30, .ref m31, .ref m32, .ref m33, .ref m34, .ref m35, .ref m36, .ref m37, .ref m38, .int 0, .int 0, .ref m41, .ref m42, .ref m43, .ref m44, .int 0, .int 0, .ref m47, .ref m48, .ref m49, .ref m50, .ref m51, .ref m52, .ref m53, .ref m54])), (m0, .inl (cB, 1620, .inl f_120))] H := hP
  have hD : va_D A [(m0_, .inr (12, [.ref m0, .ref m1, .int 0, .int 0, .int 0, .int (-1), .int 0, .int 0, .int 0, .int 0, .long 0, .ref m11, .ref m12, .ref m13, .ref m14, .ref m15, .ref m16, .ref m17, .ref m18, .ref m19, .ref m20, .ref m21, .ref m22, .ref m23, .ref m24, .ref m25, .ref m26, .ref m27, .ref m28, .ref m29, .ref m30, .ref m31, .ref m32, .ref m33, .ref m34, .ref m35, .ref m36, .ref m37, .ref m38, .int 0, .int 0, .ref m41, .ref m42, .ref m43, .ref m44, .int 0, .int 0, .ref m47, .ref m48, .ref m49, .ref m50, .ref m51, .ref m52, .ref m53, .ref m54])), (m0, .inl (cB, 1620, .inl f_120))] := hD
  refine lv_iinc (v := 13) (lv' := [(6, .int 13), (7, .int p3), (0, .ref m0_), (1, .int p0), (2, .int p1), (3, .int p2), (4, .int p3), (5, .int p4)]) hx hb d_Mo_feed_99 hl (k := 1) rfl (by decide +kernel) (by decide) rfl (fun ls hl => ?_)
  refine lv_goto (tgt := 18) hx hb d_Mo_feed_102 (by decide) ?_
  refine lv_iload hx hb d_Mo_feed_18 (lv_at hl 0 rfl) ?_
  refine lv_bipush (v := 20) hx hb d_Mo_feed_20 (by decide +kernel) ?_
  refine lv_icmp_ge (tgt := 105) hx hb d_Mo_feed_22 (by decide) (fun c_121 => absurd c_121 (by decide +kernel)) (fun c_121 => ?_)
  refine lv_iload hx hb d_Mo_feed_25 (lv_at hl 0 rfl) ?_
  refine lv_iconst (v := 4) hx hb d_Mo_feed_27 (by decide +kernel) ?_
  refine lv_icmp_ge (tgt := 35) hx hb d_Mo_feed_28 (by decide) (fun c_122 => ?_) (fun c_122 => absurd (by decide +kernel) c_122)
  refine lv_iload hx hb d_Mo_feed_35 (lv_at hl 0 rfl) ?_
  refine lv_bipush (v := 8) hx hb d_Mo_feed_37 (by decide +kernel) ?_
  refine lv_icmp_ge (tgt := 46) hx hb d_Mo_feed_39 (by decide) (fun c_123 => ?_) (fun c_123 => absurd (by decide +kernel) c_123)
  refine lv_iload hx hb d_Mo_feed_46 (lv_at hl 0 rfl) ?_
  refine lv_bipush (v := 12) hx hb d_Mo_feed_48 (by decide +kernel) ?_
  refine lv_icmp_ge (tgt := 57) hx hb d_Mo_feed_50 (by decide) (fun c_124 => ?_) (fun c_124 => absurd (by decide +kernel) c_124)
  refine lv_iload hx hb d_Mo_feed_57 (lv_at hl 0 rfl) ?_
  refine lv_bipush (v := 16) hx hb d_Mo_feed_59 (by decide +kernel) ?_
  refine lv_icmp_ge (tgt := 69) hx hb d_Mo_feed_61 (by decide) (fun c_125 => absurd c_125 (by decide +kernel)) (fun c_125 => ?_)
  refine lv_iload hx hb d_Mo_feed_64 (lv_at hl 6 rfl) ?_
  refine lv_goto (tgt := 71) hx hb d_Mo_feed_66 (by decide) ?_
  refine lv_istore (lv' := [(7, .int p3), (6, .int 13), (0, .ref m0_), (1, .int p0), (2, .int p1), (3, .int p2), (4, .int p3), (5, .int p4)]) hx hb d_Mo_feed_71 hl (by decide) rfl (fun ls hl => ?_)
  refine lv_aload_n hx hb d_Mo_feed_73 rfl (lv_at hl 2 rfl) ?_
  refine va_get (D := D) (ci := 12) (v := .ref m0) (C := R_Mo) (T := F_Mo) (N := 55) hx hb hts i_Mo hown hK.1 hP 0 rfl rfl 0 (by decide) (hts _ k_1018) (fun _ h9 => h9) rfl d_Mo_feed_74 ?_
  refine lv_aload_n hx hb d_Mo_feed_77 rfl (lv_at hl 2 rfl) ?_
  refine va_get (D := D) (ci := 12) (v := .int 0) (C := R_Mo) (T := F_Mo) (N := 55) hx hb hts i_Mo hown hK.1 hP 0 rfl rfl 2 (by decide) (hts _ k_1020) (fun _ h9 => h9) rfl d_Mo_feed_78 ?_
  refine lv_iload hx hb d_Mo_feed_81 (lv_at hl 1 rfl) ?_
  refine lv_iadd hx hb d_Mo_feed_83 ?_
  refine nz_ctopi (v := 13) (by decide +kernel) ?_
  refine lv_iload hx hb d_Mo_feed_84 (lv_at hl 0 rfl) ?_
  refine lv_bipush (v := 24) hx hb d_Mo_feed_86 (by decide +kernel) ?_
  refine lv_bipush (v := 8) hx hb d_Mo_feed_88 (by decide +kernel) ?_
  refine lv_iload hx hb d_Mo_feed_90 (lv_at hl 1 rfl) ?_
  refine lv_iconst (v := 3) hx hb d_Mo_feed_92 (by decide +kernel) ?_
  refine lv_iand hx hb d_Mo_feed_93 ?_
  refine nz_ctopi (v := 1) (by decide +kernel) ?_
  refine lv_imul hx hb d_Mo_feed_94 ?_
  refine nz_ctopi (v := 8) (by decide +kernel) ?_
  refine lv_isub hx hb d_Mo_feed_95 ?_
  refine nz_ctopi (v := 16) (by decide +kernel) ?_
  refine lv_ishr hx hb d_Mo_feed_96 ?_
  refine lv_topi (fun x_126 e_127 => ?_)
  refine lv_i2b (v := x_126.toInt8.toInt32) hx hb d_Mo_feed_97 rfl ?_
  refine lv_topi (fun x_129 e_130 => ?_)
  refine nz_bastE hx hb hK.1 hP hD hS 1 0 rfl rfl (nz_vin (by decide +kernel)) d_Mo_feed_98 (fun H locs f_131 f_131_e hP hD hS => ?_)
  have hP : va_P D nz_cl [(m0_, .inr (12, [.ref m0, .ref m1, .int 0, .int 0, .int 0, .int (-1), .int 0, .int 0, .int 0, .int 0, .long 0, .ref m11, .ref m12, .ref m13, .ref m14, .ref m15, .ref m16, .ref m17, .ref m18, .ref m19, .ref m20, .ref m21, .ref m22, .ref m23, .ref m24, .ref m25, .ref m26, .ref m27, .ref m28, .ref m29, .ref m30, .ref m31, .ref m32, .ref m33, .ref m34, .ref m35, .ref m36, .ref m37, .ref m38, .int 0, .int 0, .ref m41, .ref m42, .ref m43, .ref m44, .int 0, .int 0, .ref m47, .ref m48, .ref m49, .ref m50, .ref m51, .ref m52, .ref m53, .ref m54])), (m0, .inl (cB, 1620, .inl f_131))] H := hP
  have hD : va_D A [(m0_, .inr (12, [.ref m0, .ref m1, .int 0, .int 0, .int 0, .int (-1), .int 0, .int 0, .int 0, .int 0, .long 0, .ref m11, .ref m12, .ref m13, .ref m14, .ref m15, .ref m16, .ref m17, .ref m18, .ref m19, .ref m20, .ref m21, .ref m22, .ref m23, .ref m24, .ref m25, .ref m26, .ref m27, .ref m28, .ref m29, .ref m30, .ref m31, .ref m32, .ref m33, .ref m34, .ref m35, .ref m36, .ref m37, .ref m38, .int 0, .int 0, .ref m41, .ref m42, .ref m43, .ref m44, .int 0, .int 0, .ref m47, .ref m48, .ref m49, .ref m50, .ref m51, .ref m52, .ref m53, .ref m54])), (m0, .inl (cB, 1620, .inl f_131))] := hD
  refine lv_iinc (v := 14) (lv' := [(6, .int 14), (7, .int p3), (0, .ref m0_), (1, .int p0), (2, .int p1), (3, .int p2), (4, .int p3), (5, .int p4)]) hx hb d_Mo_feed_99 hl (k := 1) rfl (by decide +kernel) (by decide) rfl (fun ls hl => ?_)
  refine lv_goto (tgt := 18) hx hb d_Mo_feed_102 (by decide) ?_
  refine lv_iload hx hb d_Mo_feed_18 (lv_at hl 0 rfl) ?_
  refine lv_bipush (v := 20) hx hb d_Mo_feed_20 (by decide +kernel) ?_
  refine lv_icmp_ge (tgt := 105) hx hb d_Mo_feed_22 (by decide) (fun c_132 => absurd c_132 (by decide +kernel)) (fun c_132 => ?_)
  refine lv_iload hx hb d_Mo_feed_25 (lv_at hl 0 rfl) ?_
  refine lv_iconst (v := 4) hx hb d_Mo_feed_27 (by decide +kernel) ?_
  refine lv_icmp_ge (tgt := 35) hx hb d_Mo_feed_28 (by decide) (fun c_133 => ?_) (fun c_133 => absurd (by decide +kernel) c_133)
  refine lv_iload hx hb d_Mo_feed_35 (lv_at hl 0 rfl) ?_
  refine lv_bipush (v := 8) hx hb d_Mo_feed_37 (by decide +kernel) ?_
  refine lv_icmp_ge (tgt := 46) hx hb d_Mo_feed_39 (by decide) (fun c_134 => ?_) (fun c_134 => absurd (by decide +kernel) c_134)
  refine lv_iload hx hb d_Mo_feed_46 (lv_at hl 0 rfl) ?_
  refine lv_bipush (v := 12) hx hb d_Mo_feed_48 (by decide +kernel) ?_
  refine lv_icmp_ge (tgt := 57) hx hb d_Mo_feed_50 (by decide) (fun c_135 => ?_) (fun c_135 => absurd (by decide +kernel) c_135)
  refine lv_iload hx hb d_Mo_feed_57 (lv_at hl 0 rfl) ?_
  refine lv_bipush (v := 16) hx hb d_Mo_feed_59 (by decide +kernel) ?_
  refine lv_icmp_ge (tgt := 69) hx hb d_Mo_feed_61 (by decide) (fun c_136 => absurd c_136 (by decide +kernel)) (fun c_136 => ?_)
  refine lv_iload hx hb d_Mo_feed_64 (lv_at hl 6 rfl) ?_
  refine lv_goto (tgt := 71) hx hb d_Mo_feed_66 (by decide) ?_
  refine lv_istore (lv' := [(7, .int p3), (6, .int 14), (0, .ref m0_), (1, .int p0), (2, .int p1), (3, .int p2), (4, .int p3), (5, .int p4)]) hx hb d_Mo_feed_71 hl (by decide) rfl (fun ls hl => ?_)
  refine lv_aload_n hx hb d_Mo_feed_73 rfl (lv_at hl 2 rfl) ?_
  refine va_get (D := D) (ci := 12) (v := .ref m0) (C := R_Mo) (T := F_Mo) (N := 55) hx hb hts i_Mo hown hK.1 hP 0 rfl rfl 0 (by decide) (hts _ k_1018) (fun _ h9 => h9) rfl d_Mo_feed_74 ?_
  refine lv_aload_n hx hb d_Mo_feed_77 rfl (lv_at hl 2 rfl) ?_
  refine va_get (D := D) (ci := 12) (v := .int 0) (C := R_Mo) (T := F_Mo) (N := 55) hx hb hts i_Mo hown hK.1 hP 0 rfl rfl 2 (by decide) (hts _ k_1020) (fun _ h9 => h9) rfl d_Mo_feed_78 ?_
  refine lv_iload hx hb d_Mo_feed_81 (lv_at hl 1 rfl) ?_
  refine lv_iadd hx hb d_Mo_feed_83 ?_
  refine nz_ctopi (v := 14) (by decide +kernel) ?_
  refine lv_iload hx hb d_Mo_feed_84 (lv_at hl 0 rfl) ?_
  refine lv_bipush (v := 24) hx hb d_Mo_feed_86 (by decide +kernel) ?_
  refine lv_bipush (v := 8) hx hb d_Mo_feed_88 (by decide +kernel) ?_
  refine lv_iload hx hb d_Mo_feed_90 (lv_at hl 1 rfl) ?_
  refine lv_iconst (v := 3) hx hb d_Mo_feed_92 (by decide +kernel) ?_
  refine lv_iand hx hb d_Mo_feed_93 ?_
  refine nz_ctopi (v := 2) (by decide +kernel) ?_
  refine lv_imul hx hb d_Mo_feed_94 ?_
  refine nz_ctopi (v := 16) (by decide +kernel) ?_
  refine lv_isub hx hb d_Mo_feed_95 ?_
  refine nz_ctopi (v := 8) (by decide +kernel) ?_
  refine lv_ishr hx hb d_Mo_feed_96 ?_
  refine lv_topi (fun x_137 e_138 => ?_)
  refine lv_i2b (v := x_137.toInt8.toInt32) hx hb d_Mo_feed_97 rfl ?_
  refine lv_topi (fun x_140 e_141 => ?_)
  refine nz_bastE hx hb hK.1 hP hD hS 1 0 rfl rfl (nz_vin (by decide +kernel)) d_Mo_feed_98 (fun H locs f_142 f_142_e hP hD hS => ?_)
  have hP : va_P D nz_cl [(m0_, .inr (12, [.ref m0, .ref m1, .int 0, .int 0, .int 0, .int (-1), .int 0, .int 0, .int 0, .int 0, .long 0, .ref m11, .ref m12, .ref m13, .ref m14, .ref m15, .ref m16, .ref m17, .ref m18, .ref m19, .ref m20, .ref m21, .ref m22, .ref m23, .ref m24, .ref m25, .ref m26, .ref m27, .ref m28, .ref m29, .ref m30, .ref m31, .ref m32, .ref m33, .ref m34, .ref m35, .ref m36, .ref m37, .ref m38, .int 0, .int 0, .ref m41, .ref m42, .ref m43, .ref m44, .int 0, .int 0, .ref m47, .ref m48, .ref m49, .ref m50, .ref m51, .ref m52, .ref m53, .ref m54])), (m0, .inl (cB, 1620, .inl f_142))] H := hP
  have hD : va_D A [(m0_, .inr (12, [.ref m0, .ref m1, .int 0, .int 0, .int 0, .int (-1), .int 0, .int 0, .int 0, .int 0, .long 0, .ref m11, .ref m12, .ref m13, .ref m14, .ref m15, .ref m16, .ref m17, .ref m18, .ref m19, .ref m20, .ref m21, .ref m22, .ref m23, .ref m24, .ref m25, .ref m26, .ref m27, .ref m28, .ref m29, .ref m30, .ref m31, .ref m32, .ref m33, .ref m34, .ref m35, .ref m36, .ref m37, .ref m38, .int 0, .int 0, .ref m41, .ref m42, .ref m43, .ref m44, .int 0, .int 0, .ref m47, .ref m48, .ref m49, .ref m50, .ref m51, .ref m52, .ref m53, .ref m54])), (m0, .inl (cB, 1620, .inl f_142))] := hD
  refine lv_iinc (v := 15) (lv' := [(6, .int 15), (7, .int p3), (0, .ref m0_), (1, .int p0), (2, .int p1), (3, .int p2), (4, .int p3), (5, .int p4)]) hx hb d_Mo_feed_99 hl (k := 1) rfl (by decide +kernel) (by decide) rfl (fun ls hl => ?_)
  refine lv_goto (tgt := 18) hx hb d_Mo_feed_102 (by decide) ?_
  refine lv_iload hx hb d_Mo_feed_18 (lv_at hl 0 rfl) ?_
  refine lv_bipush (v := 20) hx hb d_Mo_feed_20 (by decide +kernel) ?_
  refine lv_icmp_ge (tgt := 105) hx hb d_Mo_feed_22 (by decide) (fun c_143 => absurd c_143 (by decide +kernel)) (fun c_143 => ?_)
  refine lv_iload hx hb d_Mo_feed_25 (lv_at hl 0 rfl) ?_
  refine lv_iconst (v := 4) hx hb d_Mo_feed_27 (by decide +kernel) ?_
  refine lv_icmp_ge (tgt := 35) hx hb d_Mo_feed_28 (by decide) (fun c_144 => ?_) (fun c_144 => absurd (by decide +kernel) c_144)
  refine lv_iload hx hb d_Mo_feed_35 (lv_at hl 0 rfl) ?_
  refine lv_bipush (v := 8) hx hb d_Mo_feed_37 (by decide +kernel) ?_
  refine lv_icmp_ge (tgt := 46) hx hb d_Mo_feed_39 (by decide) (fun c_145 => ?_) (fun c_145 => absurd (by decide +kernel) c_145)
  refine lv_iload hx hb d_Mo_feed_46 (lv_at hl 0 rfl) ?_
  refine lv_bipush (v := 12) hx hb d_Mo_feed_48 (by decide +kernel) ?_
  refine lv_icmp_ge (tgt := 57) hx hb d_Mo_feed_50 (by decide) (fun c_146 => ?_) (fun c_146 => absurd (by decide +kernel) c_146)
  refine lv_iload hx hb d_Mo_feed_57 (lv_at hl 0 rfl) ?_
  refine lv_bipush (v := 16) hx hb d_Mo_feed_59 (by decide +kernel) ?_
  refine lv_icmp_ge (tgt := 69) hx hb d_Mo_feed_61 (by decide) (fun c_147 => absurd c_147 (by decide +kernel)) (fun c_147 => ?_)
  refine lv_iload hx hb d_Mo_feed_64 (lv_at hl 6 rfl) ?_
  refine lv_goto (tgt := 71) hx hb d_Mo_feed_66 (by decide) ?_
  refine lv_istore (lv' := [(7, .int p3), (6, .int 15), (0, .ref m0_), (1, .int p0), (2, .int p1), (3, .int p2), (4, .int p3), (5, .int p4)]) hx hb d_Mo_feed_71 hl (by decide) rfl (fun ls hl => ?_)
  refine lv_aload_n hx hb d_Mo_feed_73 rfl (lv_at hl 2 rfl) ?_
  refine va_get (D := D) (ci := 12) (v := .ref m0) (C := R_Mo) (T := F_Mo) (N := 55) hx hb hts i_Mo hown hK.1 hP 0 rfl rfl 0 (by decide) (hts _ k_1018) (fun _ h9 => h9) rfl d_Mo_feed_74 ?_
  refine lv_aload_n hx hb d_Mo_feed_77 rfl (lv_at hl 2 rfl) ?_
  refine va_get (D := D) (ci := 12) (v := .int 0) (C := R_Mo) (T := F_Mo) (N := 55) hx hb hts i_Mo hown hK.1 hP 0 rfl rfl 2 (by decide) (hts _ k_1020) (fun _ h9 => h9) rfl d_Mo_feed_78 ?_
  refine lv_iload hx hb d_Mo_feed_81 (lv_at hl 1 rfl) ?_
  refine lv_iadd hx hb d_Mo_feed_83 ?_
  refine nz_ctopi (v := 15) (by decide +kernel) ?_
  refine lv_iload hx hb d_Mo_feed_84 (lv_at hl 0 rfl) ?_
  refine lv_bipush (v := 24) hx hb d_Mo_feed_86 (by decide +kernel) ?_
  refine lv_bipush (v := 8) hx hb d_Mo_feed_88 (by decide +kernel) ?_
  refine lv_iload hx hb d_Mo_feed_90 (lv_at hl 1 rfl) ?_
  refine lv_iconst (v := 3) hx hb d_Mo_feed_92 (by decide +kernel) ?_
  refine lv_iand hx hb d_Mo_feed_93 ?_
  refine nz_ctopi (v := 3) (by decide +kernel) ?_
  refine lv_imul hx hb d_Mo_feed_94 ?_
  refine nz_ctopi (v := 24) (by decide +kernel) ?_
  refine lv_isub hx hb d_Mo_feed_95 ?_
  refine nz_ctopi (v := 0) (by decide +kernel) ?_
  refine lv_ishr hx hb d_Mo_feed_96 ?_
  refine lv_topi (fun x_148 e_149 => ?_)
  refine lv_i2b (v := x_148.toInt8.toInt32) hx hb d_Mo_feed_97 rfl ?_
  refine lv_topi (fun x_151 e_152 => ?_)
  refine nz_bastE hx hb hK.1 hP hD hS 1 0 rfl rfl (nz_vin (by decide +kernel)) d_Mo_feed_98 (fun H locs f_153 f_153_e hP hD hS => ?_)
  have hP : va_P D nz_cl [(m0_, .inr (12, [.ref m0, .ref m1, .int 0, .int 0, .int 0, .int (-1), .int 0, .int 0, .int 0, .int 0, .long 0, .ref m11, .ref m12, .ref m13, .ref m14, .ref m15, .ref m16, .ref m17, .ref m18, .ref m19, .ref m20, .ref m21, .ref m22, .ref m23, .ref m24, .ref m25, .ref m26, .ref m27, .ref m28, .ref m29, .ref m30, .ref m31, .ref m32, .ref m33, .ref m34, .ref m35, .ref m36, .ref m37, .ref m38, .int 0, .int 0, .ref m41, .ref m42, .ref m43, .ref m44, .int 0, .int 0, .ref m47, .ref m48, .ref m49, .ref m50, .ref m51, .ref m52, .ref m53, .ref m54])), (m0, .inl (cB, 1620, .inl f_153))] H := hP
  have hD : va_D A [(m0_, .inr (12, [.ref m0, .ref m1, .int 0, .int 0, .int 0, .int (-1), .int 0, .int 0, .int 0, .int 0, .long 0, .ref m11, .ref m12, .ref m13, .ref m14, .ref m15, .ref m16, .ref m17, .ref m18, .ref m19, .ref m20, .ref m21, .ref m22, .ref m23, .ref m24, .ref m25, .ref m26, .ref m27, .ref m28, .ref m29, .ref m30, .ref m31, .ref m32, .ref m33, .ref m34, .ref m35, .ref m36, .ref m37, .ref m38, .int 0, .int 0, .ref m41, .ref m42, .ref m43, .ref m44, .int 0, .int 0, .ref m47, .ref m48, .ref m49, .ref m50, .ref m51, .ref m52, .ref m53, .ref m54])), (m0, .inl (cB, 1620, .inl f_153))] := hD
  refine lv_iinc (v := 16) (lv' := [(6, .int 16), (7, .int p3), (0, .ref m0_), (1, .int p0), (2, .int p1), (3, .int p2), (4, .int p3), (5, .int p4)]) hx hb d_Mo_feed_99 hl (k := 1) rfl (by decide +kernel) (by decide) rfl (fun ls hl => ?_)
  refine lv_goto (tgt := 18) hx hb d_Mo_feed_102 (by decide) ?_
  refine lv_iload hx hb d_Mo_feed_18 (lv_at hl 0 rfl) ?_
  refine lv_bipush (v := 20) hx hb d_Mo_feed_20 (by decide +kernel) ?_
  refine lv_icmp_ge (tgt := 105) hx hb d_Mo_feed_22 (by decide) (fun c_154 => absurd c_154 (by decide +kernel)) (fun c_154 => ?_)
  refine lv_iload hx hb d_Mo_feed_25 (lv_at hl 0 rfl) ?_
  refine lv_iconst (v := 4) hx hb d_Mo_feed_27 (by decide +kernel) ?_
  refine lv_icmp_ge (tgt := 35) hx hb d_Mo_feed_28 (by decide) (fun c_155 => ?_) (fun c_155 => absurd (by decide +kernel) c_155)
  refine lv_iload hx hb d_Mo_feed_35 (lv_at hl 0 rfl) ?_
  refine lv_bipush (v := 8) hx hb d_Mo_feed_37 (by decide +kernel) ?_
  refine lv_icmp_ge (tgt := 46) hx hb d_Mo_feed_39 (by decide) (fun c_156 => ?_) (fun c_156 => absurd (by decide +kernel) c_156)
  refine lv_iload hx hb d_Mo_feed_46 (lv_at hl 0 rfl) ?_
  refine lv_bipush (v := 12) hx hb d_Mo_feed_48 (by decide +kernel) ?_
  refine lv_icmp_ge (tgt := 57) hx hb d_Mo_feed_50 (by decide) (fun c_157 => ?_) (fun c_157 => absurd (by decide +kernel) c_157)
  refine lv_iload hx hb d_Mo_feed_57 (lv_at hl 0 rfl) ?_
  refine lv_bipush (v := 16) hx hb d_Mo_feed_59 (by decide +kernel) ?_
  refine lv_icmp_ge (tgt := 69) hx hb d_Mo_feed_61 (by decide) (fun c_158 => ?_) (fun c_158 => absurd (by decide +kernel) c_158)
  refine lv_iload hx hb d_Mo_feed_69 (lv_at hl 7 rfl) ?_
  refine lv_istore (lv' := [(7, .int p4), (6, .int 16), (0, .ref m0_), (1, .int p0), (2, .int p1), (3, .int p2), (4, .int p3), (5, .int p4)]) hx hb d_Mo_feed_71 hl (by decide) rfl (fun ls hl => ?_)
  refine lv_aload_n hx hb d_Mo_feed_73 rfl (lv_at hl 2 rfl) ?_
  refine va_get (D := D) (ci := 12) (v := .ref m0) (C := R_Mo) (T := F_Mo) (N := 55) hx hb hts i_Mo hown hK.1 hP 0 rfl rfl 0 (by decide) (hts _ k_1018) (fun _ h9 => h9) rfl d_Mo_feed_74 ?_
  refine lv_aload_n hx hb d_Mo_feed_77 rfl (lv_at hl 2 rfl) ?_
  refine va_get (D := D) (ci := 12) (v := .int 0) (C := R_Mo) (T := F_Mo) (N := 55) hx hb hts i_Mo hown hK.1 hP 0 rfl rfl 2 (by decide) (hts _ k_1020) (fun _ h9 => h9) rfl d_Mo_feed_78 ?_
  refine lv_iload hx hb d_Mo_feed_81 (lv_at hl 1 rfl) ?_
  refine lv_iadd hx hb d_Mo_feed_83 ?_
  refine nz_ctopi (v := 16) (by decide +kernel) ?_
  refine lv_iload hx hb d_Mo_feed_84 (lv_at hl 0 rfl) ?_
  refine lv_bipush (v := 24) hx hb d_Mo_feed_86 (by decide +kernel) ?_
  refine lv_bipush (v := 8) hx hb d_Mo_feed_88 (by decide +kernel) ?_
  refine lv_iload hx hb d_Mo_feed_90 (lv_at hl 1 rfl) ?_
  refine lv_iconst (v := 3) hx hb d_Mo_feed_92 (by decide +kernel) ?_
  refine lv_iand hx hb d_Mo_feed_93 ?_
  refine nz_ctopi (v := 0) (by decide +kernel) ?_
  refine lv_imul hx hb d_Mo_feed_94 ?_
  refine nz_ctopi (v := 0) (by decide +kernel) ?_
  refine lv_isub hx hb d_Mo_feed_95 ?_
  refine nz_ctopi (v := 24) (by decide +kernel) ?_
  refine lv_ishr hx hb d_Mo_feed_96 ?_
  refine lv_topi (fun x_159 e_160 => ?_)
  refine lv_i2b (v := x_159.toInt8.toInt32) hx hb d_Mo_feed_97 rfl ?_
  refine lv_topi (fun x_162 e_163 => ?_)
  refine nz_bastE hx hb hK.1 hP hD hS 1 0 rfl rfl (nz_vin (by decide +kernel)) d_Mo_feed_98 (fun H locs f_164 f_164_e hP hD hS => ?_)
  have hP : va_P D nz_cl [(m0_, .inr (12, [.ref m0, .ref m1, .int 0, .int 0, .int 0, .int (-1), .int 0, .int 0, .int 0, .int 0, .long 0, .ref m11, .ref m12, .ref m13, .ref m14, .ref m15, .ref m16, .ref m17, .ref m18, .ref m19, .ref m20, .ref m21, .ref m22, .ref m23, .ref m24, .ref m25, .ref m26, .ref m27, .ref m28, .ref m29, .ref m30, .ref m31, .ref m32, .ref m33, .ref m34, .ref m35, .ref m36, .ref m37, .ref m38, .int 0, .int 0, .ref m41, .ref m42, .ref m43, .ref m44, .int 0, .int 0, .ref m47, .ref m48, .ref m49, .ref m50, .ref m51, .ref m52, .ref m53, .ref m54])), (m0, .inl (cB, 1620, .inl f_164))] H := hP
  have hD : va_D A [(m0_, .inr (12, [.ref m0, .ref m1, .int 0, .int 0, .int 0, .int (-1), .int 0, .int 0, .int 0, .int 0, .long 0, .ref m11, .ref m12, .ref m13, .ref m14, .ref m15, .ref m16, .ref m17, .ref m18, .ref m19, .ref m20, .ref m21, .ref m22, .ref m23, .ref m24, .ref m25, .ref m26, .ref m27, .ref m28, .ref m29, .ref m30, .ref m31, .ref m32, .ref m33, .ref m34, .ref m35, .ref m36, .ref m37, .ref m38, .int 0, .int 0, .ref m41, .ref m42, .ref m43, .ref m44, .int 0, .int 0, .ref m47, .ref m48, .ref m49, .ref m50, .ref m51, .ref m52, .ref m53, .ref m54])), (m0, .inl (cB, 1620, .inl f_164))] := hD
  refine lv_iinc (v := 17) (lv' := [(6, .int 17), (7, .int p4), (0, .ref m0_), (1, .int p0), (2, .int p1), (3, .int p2), (4, .int p3), (5, .int p4)]) hx hb d_Mo_feed_99 hl (k := 1) rfl (by decide +kernel) (by decide) rfl (fun ls hl => ?_)
  refine lv_goto (tgt := 18) hx hb d_Mo_feed_102 (by decide) ?_
  refine lv_iload hx hb d_Mo_feed_18 (lv_at hl 0 rfl) ?_
  refine lv_bipush (v := 20) hx hb d_Mo_feed_20 (by decide +kernel) ?_
  refine lv_icmp_ge (tgt := 105) hx hb d_Mo_feed_22 (by decide) (fun c_165 => absurd c_165 (by decide +kernel)) (fun c_165 => ?_)
  refine lv_iload hx hb d_Mo_feed_25 (lv_at hl 0 rfl) ?_
  refine lv_iconst (v := 4) hx hb d_Mo_feed_27 (by decide +kernel) ?_
  refine lv_icmp_ge (tgt := 35) hx hb d_Mo_feed_28 (by decide) (fun c_166 => ?_) (fun c_166 => absurd (by decide +kernel) c_166)
  refine lv_iload hx hb d_Mo_feed_35 (lv_at hl 0 rfl) ?_
  refine lv_bipush (v := 8) hx hb d_Mo_feed_37 (by decide +kernel) ?_
  refine lv_icmp_ge (tgt := 46) hx hb d_Mo_feed_39 (by decide) (fun c_167 => ?_) (fun c_167 => absurd (by decide +kernel) c_167)
  refine lv_iload hx hb d_Mo_feed_46 (lv_at hl 0 rfl) ?_
  refine lv_bipush (v := 12) hx hb d_Mo_feed_48 (by decide +kernel) ?_
  refine lv_icmp_ge (tgt := 57) hx hb d_Mo_feed_50 (by decide) (fun c_168 => ?_) (fun c_168 => absurd (by decide +kernel) c_168)
  refine lv_iload hx hb d_Mo_feed_57 (lv_at hl 0 rfl) ?_
  refine lv_bipush (v := 16) hx hb d_Mo_feed_59 (by decide +kernel) ?_
  refine lv_icmp_ge (tgt := 69) hx hb d_Mo_feed_61 (by decide) (fun c_169 => ?_) (fun c_169 => absurd (by decide +kernel) c_169)
  refine lv_iload hx hb d_Mo_feed_69 (lv_at hl 7 rfl) ?_
  refine lv_istore (lv' := [(7, .int p4), (6, .int 17), (0, .ref m0_), (1, .int p0), (2, .int p1), (3, .int p2), (4, .int p3), (5, .int p4)]) hx hb d_Mo_feed_71 hl (by decide) rfl (fun ls hl => ?_)
  refine lv_aload_n hx hb d_Mo_feed_73 rfl (lv_at hl 2 rfl) ?_
  refine va_get (D := D) (ci := 12) (v := .ref m0) (C := R_Mo) (T := F_Mo) (N := 55) hx hb hts i_Mo hown hK.1 hP 0 rfl rfl 0 (by decide) (hts _ k_1018) (fun _ h9 => h9) rfl d_Mo_feed_74 ?_
  refine lv_aload_n hx hb d_Mo_feed_77 rfl (lv_at hl 2 rfl) ?_
  refine va_get (D := D) (ci := 12) (v := .int 0) (C := R_Mo) (T := F_Mo) (N := 55) hx hb hts i_Mo hown hK.1 hP 0 rfl rfl 2 (by decide) (hts _ k_1020) (fun _ h9 => h9) rfl d_Mo_feed_78 ?_
  refine lv_iload hx hb d_Mo_feed_81 (lv_at hl 1 rfl) ?_
  refine lv_iadd hx hb d_Mo_feed_83 ?_
  refine nz_ctopi (v := 17) (by decide +kernel) ?_
  refine lv_iload hx hb d_Mo_feed_84 (lv_at hl 0 rfl) ?_
  refine lv_bipush (v := 24) hx hb d_Mo_feed_86 (by decide +kernel) ?_
  refine lv_bipush (v := 8) hx hb d_Mo_feed_88 (by decide +kernel) ?_
  refine lv_iload hx hb d_Mo_feed_90 (lv_at hl 1 rfl) ?_
  refine lv_iconst (v := 3) hx hb d_Mo_feed_92 (by decide +kernel) ?_
  refine lv_iand hx hb d_Mo_feed_93 ?_
  refine nz_ctopi (v := 1) (by decide +kernel) ?_
  refine lv_imul hx hb d_Mo_feed_94 ?_
  refine nz_ctopi (v := 8) (by decide +kernel) ?_
  refine lv_isub hx hb d_Mo_feed_95 ?_
  refine nz_ctopi (v := 16) (by decide +kernel) ?_
  refine lv_ishr hx hb d_Mo_feed_96 ?_
  refine lv_topi (fun x_170 e_171 => ?_)
  refine lv_i2b (v := x_170.toInt8.toInt32) hx hb d_Mo_feed_97 rfl ?_
  refine lv_topi (fun x_173 e_174 => ?_)
  refine nz_bastE hx hb hK.1 hP hD hS 1 0 rfl rfl (nz_vin (by decide +kernel)) d_Mo_feed_98 (fun H locs f_175 f_175_e hP hD hS => ?_)
  have hP : va_P D nz_cl [(m0_, .inr (12, [.ref m0, .ref m1, .int 0, .int 0, .int 0, .int (-1), .int 0, .int 0, .int 0, .int 0, .long 0, .ref m11, .ref m12, .ref m13, .ref m14, .ref m15, .ref m16, .ref m17, .ref m18, .ref m19, .ref m20, .ref m21, .ref m22, .ref m23, .ref m24, .ref m25, .ref m26, .ref m27, .ref m28, .ref m29, .ref m30, .ref m31, .ref m32, .ref m33, .ref m34, .ref m35, .ref m36, .ref m37, .ref m38, .int 0, .int 0, .ref m41, .ref m42, .ref m43, .ref m44, .int 0, .int 0, .ref m47, .ref m48, .ref m49, .ref m50, .ref m51, .ref m52, .ref m53, .ref m54])), (m0, .inl (cB, 1620, .inl f_175))] H := hP
  have hD : va_D A [(m0_, .inr (12, [.ref m0, .ref m1, .int 0, .int 0, .int 0, .int (-1), .int 0, .int 0, .int 0, .int 0, .long 0, .ref m11, .ref m12, .ref m13, .ref m14, .ref m15, .ref m16, .ref m17, .ref m18, .ref m19, .ref m20, .ref m21, .ref m22, .ref m23, .ref m24, .ref m25, .ref m26, .ref m27, .ref m28, .ref m29, .ref m30, .ref m31, .ref m32, .ref m33, .ref m34, .ref m35, .ref m36, .ref m37, .ref m38, .int 0, .int 0, .ref m41, .ref m42, .ref m43, .ref m44, .int 0, .int 0, .ref m47, .ref m48, .ref m49, .ref m50, .ref m51, .ref m52, .ref m53, .ref m54])), (m0, .inl (cB, 1620, .inl f_175))] := hD
  refine lv_iinc (v := 18) (lv' := [(6, .int 18), (7, .int p4), (0, .ref m0_), (1, .int p0), (2, .int p1), (3, .int p2), (4, .int p3), (5, .int p4)]) hx hb d_Mo_feed_99 hl (k := 1) rfl (by decide +kernel) (by decide) rfl (fun ls hl => ?_)
  refine lv_goto (tgt := 18) hx hb d_Mo_feed_102 (by decide) ?_
  refine lv_iload hx hb d_Mo_feed_18 (lv_at hl 0 rfl) ?_
  refine lv_bipush (v := 20) hx hb d_Mo_feed_20 (by decide +kernel) ?_
  refine lv_icmp_ge (tgt := 105) hx hb d_Mo_feed_22 (by decide) (fun c_176 => absurd c_176 (by decide +kernel)) (fun c_176 => ?_)
  refine lv_iload hx hb d_Mo_feed_25 (lv_at hl 0 rfl) ?_
  refine lv_iconst (v := 4) hx hb d_Mo_feed_27 (by decide +kernel) ?_
  refine lv_icmp_ge (tgt := 35) hx hb d_Mo_feed_28 (by decide) (fun c_177 => ?_) (fun c_177 => absurd (by decide +kernel) c_177)
  refine lv_iload hx hb d_Mo_feed_35 (lv_at hl 0 rfl) ?_
  refine lv_bipush (v := 8) hx hb d_Mo_feed_37 (by decide +kernel) ?_
  refine lv_icmp_ge (tgt := 46) hx hb d_Mo_feed_39 (by decide) (fun c_178 => ?_) (fun c_178 => absurd (by decide +kernel) c_178)
  refine lv_iload hx hb d_Mo_feed_46 (lv_at hl 0 rfl) ?_
  refine lv_bipush (v := 12) hx hb d_Mo_feed_48 (by decide +kernel) ?_
  refine lv_icmp_ge (tgt := 57) hx hb d_Mo_feed_50 (by decide) (fun c_179 => ?_) (fun c_179 => absurd (by decide +kernel) c_179)
  refine lv_iload hx hb d_Mo_feed_57 (lv_at hl 0 rfl) ?_
  refine lv_bipush (v := 16) hx hb d_Mo_feed_59 (by decide +kernel) ?_
  refine lv_icmp_ge (tgt := 69) hx hb d_Mo_feed_61 (by decide) (fun c_180 => ?_) (fun c_180 => absurd (by decide +kernel) c_180)
  refine lv_iload hx hb d_Mo_feed_69 (lv_at hl 7 rfl) ?_
  refine lv_istore (lv' := [(7, .int p4), (6, .int 18), (0, .ref m0_), (1, .int p0), (2, .int p1), (3, .int p2), (4, .int p3), (5, .int p4)]) hx hb d_Mo_feed_71 hl (by decide) rfl (fun ls hl => ?_)
  refine lv_aload_n hx hb d_Mo_feed_73 rfl (lv_at hl 2 rfl) ?_
  refine va_get (D := D) (ci := 12) (v := .ref m0) (C := R_Mo) (T := F_Mo) (N := 55) hx hb hts i_Mo hown hK.1 hP 0 rfl rfl 0 (by decide) (hts _ k_1018) (fun _ h9 => h9) rfl d_Mo_feed_74 ?_
  refine lv_aload_n hx hb d_Mo_feed_77 rfl (lv_at hl 2 rfl) ?_
  refine va_get (D := D) (ci := 12) (v := .int 0) (C := R_Mo) (T := F_Mo) (N := 55) hx hb hts i_Mo hown hK.1 hP 0 rfl rfl 2 (by decide) (hts _ k_1020) (fun _ h9 => h9) rfl d_Mo_feed_78 ?_
  refine lv_iload hx hb d_Mo_feed_81 (lv_at hl 1 rfl) ?_
  refine lv_iadd hx hb d_Mo_feed_83 ?_
  refine nz_ctopi (v := 18) (by decide +kernel) ?_
  refine lv_iload hx hb d_Mo_feed_84 (lv_at hl 0 rfl) ?_
  refine lv_bipush (v := 24) hx hb d_Mo_feed_86 (by decide +kernel) ?_
  refine lv_bipush (v := 8) hx hb d_Mo_feed_88 (by decide +kernel) ?_
  refine lv_iload hx hb d_Mo_feed_90 (lv_at hl 1 rfl) ?_
  refine lv_iconst (v := 3) hx hb d_Mo_feed_92 (by decide +kernel) ?_
  refine lv_iand hx hb d_Mo_feed_93 ?_
  refine nz_ctopi (v := 2) (by decide +kernel) ?_
  refine lv_imul hx hb d_Mo_feed_94 ?_
  refine nz_ctopi (v := 16) (by decide +kernel) ?_
  refine lv_isub hx hb d_Mo_feed_95 ?_
  refine nz_ctopi (v := 8) (by decide +kernel) ?_
  refine lv_ishr hx hb d_Mo_feed_96 ?_
  refine lv_topi (fun x_181 e_182 => ?_)
  refine lv_i2b (v := x_181.toInt8.toInt32) hx hb d_Mo_feed_97 rfl ?_
  refine lv_topi (fun x_184 e_185 => ?_)
  refine nz_bastE hx hb hK.1 hP hD hS 1 0 rfl rfl (nz_vin (by decide +kernel)) d_Mo_feed_98 (fun H locs f_186 f_186_e hP hD hS => ?_)
  have hP : va_P D nz_cl [(m0_, .inr (12, [.ref m0, .ref m1, .int 0, .int 0, .int 0, .int (-1), .int 0, .int 0, .int 0, .int 0, .long 0, .ref m11, .ref m12, .ref m13, .ref m14, .ref m15, .ref m16, .ref m17, .ref m18, .ref m19, .ref m20, .ref m21, .ref m22, .ref m23, .ref m24, .ref m25, .ref m26, .ref m27, .ref m28, .ref m29, .ref m30, .ref m31, .ref m32, .ref m33, .ref m34, .ref m35, .ref m36, .ref m37, .ref m38, .int 0, .int 0, .ref m41, .ref m42, .ref m43, .ref m44, .int 0, .int 0, .ref m47, .ref m48, .ref m49, .ref m50, .ref m51, .ref m52, .ref m53, .ref m54])), (m0, .inl (cB, 1620, .inl f_186))] H := hP
  have hD : va_D A [(m0_, .inr (12, [.ref m0, .ref m1, .int 0, .int 0, .int 0, .int (-1), .int 0, .int 0, .int 0, .int 0, .long 0, .ref m11, .ref m12, .ref m13, .ref m14, .ref m15, .ref m16, .ref m17, .ref m18, .ref m19, .ref m20, .ref m21, .ref m22, .ref m23, .ref m24, .ref m25, .ref m26, .ref m27, .ref m28, .ref m29, .ref m30, .ref m31, .ref m32, .ref m33, .ref m34, .ref m35, .ref m36, .ref m37, .ref m38, .int 0, .int 0, .ref m41, .ref m42, .ref m43, .ref m44, .int 0, .int 0, .ref m47, .ref m48, .ref m49, .ref m50, .ref m51, .ref m52, .ref m53, .ref m54])), (m0, .inl (cB, 1620, .inl f_186))] := hD
  refine lv_iinc (v := 19) (lv' := [(6, .int 19), (7, .int p4), (0, .ref m0_), (1, .int p0), (2, .int p1), (3, .int p2), (4, .int p3), (5, .int p4)]) hx hb d_Mo_feed_99 hl (k := 1) rfl (by decide +kernel) (by decide) rfl (fun ls hl => ?_)
  refine lv_goto (tgt := 18) hx hb d_Mo_feed_102 (by decide) ?_
  refine lv_iload hx hb d_Mo_feed_18 (lv_at hl 0 rfl) ?_
  refine lv_bipush (v := 20) hx hb d_Mo_feed_20 (by decide +kernel) ?_
  refine lv_icmp_ge (tgt := 105) hx hb d_Mo_feed_22 (by decide) (fun c_187 => absurd c_187 (by decide +kernel)) (fun c_187 => ?_)
  refine lv_iload hx hb d_Mo_feed_25 (lv_at hl 0 rfl) ?_
  refine lv_iconst (v := 4) hx hb d_Mo_feed_27 (by decide +kernel) ?_
  refine lv_icmp_ge (tgt := 35) hx hb d_Mo_feed_28 (by decide) (fun c_188 => ?_) (fun c_188 => absurd (by decide +kernel) c_188)
  refine lv_iload hx hb d_Mo_feed_35 (lv_at hl 0 rfl) ?_
  refine lv_bipush (v := 8) hx hb d_Mo_feed_37 (by decide +kernel) ?_
  refine lv_icmp_ge (tgt := 46) hx hb d_Mo_feed_39 (by decide) (fun c_189 => ?_) (fun c_189 => absurd (by decide +kernel) c_189)
  refine lv_iload hx hb d_Mo_feed_46 (lv_at hl 0 rfl) ?_
  refine lv_bipush (v := 12) hx hb d_Mo_feed_48 (by decide +kernel) ?_
  refine lv_icmp_ge (tgt := 57) hx hb d_Mo_feed_50 (by decide) (fun c_190 => ?_) (fun c_190 => absurd (by decide +kernel) c_190)
  refine lv_iload hx hb d_Mo_feed_57 (lv_at hl 0 rfl) ?_
  refine lv_bipush (v := 16) hx hb d_Mo_feed_59 (by decide +kernel) ?_
  refine lv_icmp_ge (tgt := 69) hx hb d_Mo_feed_61 (by decide) (fun c_191 => ?_) (fun c_191 => absurd (by decide +kernel) c_191)
  refine lv_iload hx hb d_Mo_feed_69 (lv_at hl 7 rfl) ?_
  refine lv_istore (lv' := [(7, .int p4), (6, .int 19), (0, .ref m0_), (1, .int p0), (2, .int p1), (3, .int p2), (4, .int p3), (5, .int p4)]) hx hb d_Mo_feed_71 hl (by decide) rfl (fun ls hl => ?_)
  refine lv_aload_n hx hb d_Mo_feed_73 rfl (lv_at hl 2 rfl) ?_
  refine va_get (D := D) (ci := 12) (v := .ref m0) (C := R_Mo) (T := F_Mo) (N := 55) hx hb hts i_Mo hown hK.1 hP 0 rfl rfl 0 (by decide) (hts _ k_1018) (fun _ h9 => h9) rfl d_Mo_feed_74 ?_
  refine lv_aload_n hx hb d_Mo_feed_77 rfl (lv_at hl 2 rfl) ?_
  refine va_get (D := D) (ci := 12) (v := .int 0) (C := R_Mo) (T := F_Mo) (N := 55) hx hb hts i_Mo hown hK.1 hP 0 rfl rfl 2 (by decide) (hts _ k_1020) (fun _ h9 => h9) rfl d_Mo_feed_78 ?_
  refine lv_iload hx hb d_Mo_feed_81 (lv_at hl 1 rfl) ?_
  refine lv_iadd hx hb d_Mo_feed_83 ?_
  refine nz_ctopi (v := 19) (by decide +kernel) ?_
  refine lv_iload hx hb d_Mo_feed_84 (lv_at hl 0 rfl) ?_
  refine lv_bipush (v := 24) hx hb d_Mo_feed_86 (by decide +kernel) ?_
  refine lv_bipush (v := 8) hx hb d_Mo_feed_88 (by decide +kernel) ?_
  refine lv_iload hx hb d_Mo_feed_90 (lv_at hl 1 rfl) ?_
  refine lv_iconst (v := 3) hx hb d_Mo_feed_92 (by decide +kernel) ?_
  refine lv_iand hx hb d_Mo_feed_93 ?_
  refine nz_ctopi (v := 3) (by decide +kernel) ?_
  refine lv_imul hx hb d_Mo_feed_94 ?_
  refine nz_ctopi (v := 24) (by decide +kernel) ?_
  refine lv_isub hx hb d_Mo_feed_95 ?_
  refine nz_ctopi (v := 0) (by decide +kernel) ?_
  refine lv_ishr hx hb d_Mo_feed_96 ?_
  refine lv_topi (fun x_192 e_193 => ?_)
  refine lv_i2b (v := x_192.toInt8.toInt32) hx hb d_Mo_feed_97 rfl ?_
  refine lv_topi (fun x_195 e_196 => ?_)
  refine nz_bastE hx hb hK.1 hP hD hS 1 0 rfl rfl (nz_vin (by decide +kernel)) d_Mo_feed_98 (fun H locs f_197 f_197_e hP hD hS => ?_)
  have hP : va_P D nz_cl [(m0_, .inr (12, [.ref m0, .ref m1, .int 0, .int 0, .int 0, .int (-1), .int 0, .int 0, .int 0, .int 0, .long 0, .ref m11, .ref m12, .ref m13, .ref m14, .ref m15, .ref m16, .ref m17, .ref m18, .ref m19, .ref m20, .ref m21, .ref m22, .ref m23, .ref m24, .ref m25, .ref m26, .ref m27, .ref m28, .ref m29, .ref m30, .ref m31, .ref m32, .ref m33, .ref m34, .ref m35, .ref m36, .ref m37, .ref m38, .int 0, .int 0, .ref m41, .ref m42, .ref m43, .ref m44, .int 0, .int 0, .ref m47, .ref m48, .ref m49, .ref m50, .ref m51, .ref m52, .ref m53, .ref m54])), (m0, .inl (cB, 1620, .inl f_197))] H := hP
  have hD : va_D A [(m0_, .inr (12, [.ref m0, .ref m1, .int 0, .int 0, .int 0, .int (-1), .int 0, .int 0, .int 0, .int 0, .long 0, .ref m11, .ref m12, .ref m13, .ref m14, .ref m15, .ref m16, .ref m17, .ref m18, .ref m19, .ref m20, .ref m21, .ref m22, .ref m23, .ref m24, .ref m25, .ref m26, .ref m27, .ref m28, .ref m29, .ref m30, .ref m31, .ref m32, .ref m33, .ref m34, .ref m35, .ref m36, .ref m37, .ref m38, .int 0, .int 0, .ref m41, .ref m42, .ref m43, .ref m44, .int 0, .int 0, .ref m47, .ref m48, .ref m49, .ref m50, .ref m51, .ref m52, .ref m53, .ref m54])), (m0, .inl (cB, 1620, .inl f_197))] := hD
  refine lv_iinc (v := 20) (lv' := [(6, .int 20), (7, .int p4), (0, .ref m0_), (1, .int p0), (2, .int p1), (3, .int p2), (4, .int p3), (5, .int p4)]) hx hb d_Mo_feed_99 hl (k := 1) rfl (by decide +kernel) (by decide) rfl (fun ls hl => ?_)
  refine lv_goto (tgt := 18) hx hb d_Mo_feed_102 (by decide) ?_
  refine lv_iload hx hb d_Mo_feed_18 (lv_at hl 0 rfl) ?_
  refine lv_bipush (v := 20) hx hb d_Mo_feed_20 (by decide +kernel) ?_
  refine lv_icmp_ge (tgt := 105) hx hb d_Mo_feed_22 (by decide) (fun c_198 => ?_) (fun c_198 => absurd (by decide +kernel) c_198)
  refine lv_aload_n hx hb d_Mo_feed_105 rfl (lv_at hl 2 rfl) ?_
  refine lv_dup hx hb d_Mo_feed_106 rfl ?_
  refine va_get (D := D) (ci := 12) (v := .int 0) (C := R_Mo) (T := F_Mo) (N := 55) hx hb hts i_Mo hown hK.1 hP 0 rfl rfl 2 (by decide) (hts _ k_1020) (fun _ h9 => h9) rfl d_Mo_feed_107 ?_
  refine lv_bipush (v := 20) hx hb d_Mo_feed_110 (by decide +kernel) ?_
  refine lv_iadd hx hb d_Mo_feed_112 ?_
  refine nz_ctopi (v := 20) (by decide +kernel) ?_
  refine va_put (D := D) (ci := 12) (v := .int 20) (ty := .int) (C := R_Mo) (T := F_Mo) (N := 55) hx hb hts i_Mo t_Mo t_Mo_ok n_Mo hown hK.1 hP hD hS 0 rfl rfl 2 (by decide) (hts _ k_1020) (fun _ h9 => h9) rfl (by decide +kernel) rfl rfl (Nat.le_of_ble_eq_true rfl) d_Mo_feed_113 (fun H locs hP hD hS => ?_)
  have hP : va_P D nz_cl [(m0_, .inr (12, [.ref m0, .ref m1, .int 20, .int 0, .int 0, .int (-1), .int 0, .int 0, .int 0, .int 0, .long 0, .ref m11, .ref m12, .ref m13, .ref m14, .ref m15, .ref m16, .ref m17, .ref m18, .ref m19, .ref m20, .ref m21, .ref m22, .ref m23, .ref m24, .ref m25, .ref m26, .ref m27, .ref m28, .ref m29, .ref m30, .ref m31, .ref m32, .ref m33, .ref m34, .ref m35, .ref m36, .ref m37, .ref m38, .int 0, .int 0, .ref m41, .ref m42, .ref m43, .ref m44, .int 0, .int 0, .ref m47, .ref m48, .ref m49, .ref m50, .ref m51, .ref m52, .ref m53, .ref m54])), (m0, .inl (cB, 1620, .inl f_197))] H := hP
  have hD : va_D A [(m0_, .inr (12, [.ref m0, .ref m1, .int 20, .int 0, .int 0, .int (-1), .int 0, .int 0, .int 0, .int 0, .long 0, .ref m11, .ref m12, .ref m13, .ref m14, .ref m15, .ref m16, .ref m17, .ref m18, .ref m19, .ref m20, .ref m21, .ref m22, .ref m23, .ref m24, .ref m25, .ref m26, .ref m27, .ref m28, .ref m29, .ref m30, .ref m31, .ref m32, .ref m33, .ref m34, .ref m35, .ref m36, .ref m37, .ref m38, .int 0, .int 0, .ref m41, .ref m42, .ref m43, .ref m44, .int 0, .int 0, .ref m47, .ref m48, .ref m49, .ref m50, .ref m51, .ref m52, .ref m53, .ref m54])), (m0, .inl (cB, 1620, .inl f_197))] := hD
  refine lv_aload_n hx hb d_Mo_feed_116 rfl (lv_at hl 2 rfl) ?_
  refine va_get (D := D) (ci := 12) (v := .int 20) (C := R_Mo) (T := F_Mo) (N := 55) hx hb hts i_Mo hown hK.1 hP 0 rfl rfl 2 (by decide) (hts _ k_1020) (fun _ h9 => h9) rfl d_Mo_feed_117 ?_
  exact nz_reti C0 (hP.sub (ws' := [(m0_, .inr (12, [.ref m0, .ref m1, .int 20, .int 0, .int 0, .int (-1), .int 0, .int 0, .int 0, .int 0, .long 0, .ref m11, .ref m12, .ref m13, .ref m14, .ref m15, .ref m16, .ref m17, .ref m18, .ref m19, .ref m20, .ref m21, .ref m22, .ref m23, .ref m24, .ref m25, .ref m26, .ref m27, .ref m28, .ref m29, .ref m30, .ref m31, .ref m32, .ref m33, .ref m34, .ref m35, .ref m36, .ref m37, .ref m38, .int 0, .int 0, .ref m41, .ref m42, .ref m43, .ref m44, .int 0, .int 0, .ref m47, .ref m48, .ref m49, .ref m50, .ref m51, .ref m52, .ref m53, .ref m54])), (m0, .inl (cB, 1620, .inl f_197))]) [0, 1] rfl) (hD.sub (ws' := [(m0_, .inr (12, [.ref m0, .ref m1, .int 20, .int 0, .int 0, .int (-1), .int 0, .int 0, .int 0, .int 0, .long 0, .ref m11, .ref m12, .ref m13, .ref m14, .ref m15, .ref m16, .ref m17, .ref m18, .ref m19, .ref m20, .ref m21, .ref m22, .ref m23, .ref m24, .ref m25, .ref m26, .ref m27, .ref m28, .ref m29, .ref m30, .ref m31, .ref m32, .ref m33, .ref m34, .ref m35, .ref m36, .ref m37, .ref m38, .int 0, .int 0, .ref m41, .ref m42, .ref m43, .ref m44, .int 0, .int 0, .ref m47, .ref m48, .ref m49, .ref m50, .ref m51, .ref m52, .ref m53, .ref m54])), (m0, .inl (cB, 1620, .inl f_197))]) [0, 1] (by decide) rfl) hS ⟨(f_197), rfl, rfl⟩ d_Mo_feed_120
