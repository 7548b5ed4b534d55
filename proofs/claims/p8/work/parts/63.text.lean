set_option maxHeartbeats 4000000 in
set_option maxRecDepth 100000 in
theorem c_Scanner_letterCode (l : Launch) (D : va_G) (cB cI cJ : ClassId) (p0 : Int32) (p1 : Int32) : nz_Cl l D cB cI cJ nz_x0 y_Scanner_letterCode b_Scanner_letterCode 2 (some .long) { frames := 0, cells := 0, slots := 0, locals := 0 } [.int p0, .int p1] [] (fun r w => ∃ (zr : Int64), r = zr ∧ w = []) := by
  refine nz_Cl.mk (by decide) (Nat.le_of_ble_eq_true rfl) ?_
  intro p e s m below meth c A ls C0 hnm hP hD hS hA hX hl
  have C0 : nz_Cx p s m _ meth c b_Scanner_letterCode 2 (some .long) R_Scanner D cB cI cJ := C0
  obtain ⟨hx, hb, hr, hml, hown, hts, hlk, hK⟩ := id C0
  have hl : lv_has ls 2 [(0, .int p0), (1, .int p1)] := hl
  refine lv_iload_n hx hb d_Scanner_letterCode_0 rfl (lv_at hl 0 rfl) ?_
  refine lv_bipush (v := 97) hx hb d_Scanner_letterCode_1 (by decide +kernel) ?_
  refine lv_isub hx hb d_Scanner_letterCode_3 ?_
  refine lv_topi (fun x_1 e_2 => ?_)
  refine lv_iconst (v := 1) hx hb d_Scanner_letterCode_4 (by decide +kernel) ?_
  refine lv_iadd hx hb d_Scanner_letterCode_5 ?_
  refine lv_topi (fun x_3 e_4 => ?_)
  refine lv_i2l (v := x_3.toInt64) hx hb d_Scanner_letterCode_6 rfl ?_
  refine lv_iconst (v := 5) hx hb d_Scanner_letterCode_7 (by decide +kernel) ?_
  refine lv_iload_n hx hb d_Scanner_letterCode_8 rfl (lv_at hl 1 rfl) ?_
  refine lv_imul hx hb d_Scanner_letterCode_9 ?_
  refine lv_topi (fun x_5 e_6 => ?_)
  refine lv_lshl (v := x_3.toInt64 <<< (x_5.toInt64 &&& 63)) hx hb d_Scanner_letterCode_10 rfl ?_
  exact nz_retl C0 (hP.sub (ws' := []) [] rfl) (hD.sub (ws' := []) [] (by decide) rfl) hS ⟨x_3.toInt64 <<< (x_5.toInt64 &&& 63), rfl, rfl⟩ d_Scanner_letterCode_11
def nz_lit : String := "place meaning word turn person talk custom all kin before alike near years back never any own means at called born of "
def nz_byt : List (List Int32) := [[112, 108, 97, 99, 101, 32, 109, 101, 97, 110, 105, 110, 103, 32, 119, 111, 114, 100, 32, 116, 117, 114, 110, 32, 112, 101, 114, 115, 111, 110, 32, 116, 97, 108, 107, 32, 99, 117, 115, 116, 111, 109, 32, 97, 108, 108, 32, 107, 105, 110, 32, 98, 101, 102, 111, 114, 101, 32, 97, 108, 105, 107, 101, 32, 110, 101, 97, 114, 32, 121, 101, 97, 114, 115, 32, 98, 97, 99, 107, 32, 110, 101, 118, 101, 114, 32, 97, 110, 121, 32, 111, 119, 110, 32, 109, 101, 97, 110, 115, 32, 97, 116, 32, 99, 97, 108, 108, 101, 100, 32, 98, 111, 114, 110, 32, 111, 102, 32]]
/-- the text of the Scanner's constant, and the statics that its members read -/
def nz_sx (ad av : Nat) (fv : Value) : nz_X := fun A U => vk_S 1 [118] nz_byt (fun _ => ad) (fun _ => av) A U U.heap ∧ vk_R R_Scanner 19 nz_lit ad U ∧ va_Z "java/lang/String" "COMPACT_STRINGS" "Z" (.int 1) A U U.heap ∧ va_Z "jdk/internal/util/Preconditions" "SIOOBE_FORMATTER" "Ljava/util/function/BiFunction;" fv A U U.heap
theorem nz_sxb (ad av : Nat) (fv : Value) : nz_xb (nz_sx ad av fv) := fun A a U g mk h => ⟨vk_S.moved (u := U) (U := U.calling g mk a) (Vm.Alike.refl U.vm) h.1, vk_R.same rfl h.2.1, va_Z.moved (u := U) (U := U.calling g mk a) (Vm.Alike.refl U.vm) h.2.2.1, va_Z.moved (u := U) (U := U.calling g mk a) (Vm.Alike.refl U.vm) h.2.2.2⟩
theorem nz_sxc {ad av : Nat} {fv : Value} {A B : Nat → Prop} {s : State} {H : Heap} {locs : List Loc} (hX : nz_sx ad av fv A s) (hS : va_S A s.heap H locs) (hF : ∀ q, B q → A q) (U : State) (hU : U.heap = H) (hW : s.WarmedH U.vm) : nz_sx ad av fv B U := by
  refine ⟨?_, vk_R.warm hW hX.2.1, ?_, ?_⟩
  · rw [hU]; exact vk_S.moved hW.alike ((hX.1.kept hS.2.1).narrow hF)
  · rw [hU]; exact va_Z.moved hW.alike ((hX.2.2.1.kept hS.2.1).narrow hF)
  · rw [hU]; exact va_Z.moved hW.alike ((hX.2.2.2.kept hS.2.1).narrow hF)
set_option maxRecDepth 100000 in
theorem c_Pre_checkIndex (l : Launch) (D : va_G) (cB cI cJ : ClassId) (k : Int32) (fv : Value) (hf : fv.category = 1) (h0 : ¬ k < 0) (h1 : k < 118) : nz_Ci l D cB cI cJ nz_x0 y_Pre_checkIndex b_Pre_checkIndex 3 (some .int) { frames := 0, cells := 0, slots := 0, locals := 0 } [.int k, .int 118, fv] [] (fun r w => r = k ∧ w = []) := by
  refine nz_Ci.mk (by decide) (by cases fv <;> first | exact Nat.le_of_ble_eq_true rfl | exact absurd hf (fun h => by cases h)) ?_
  intro p e s m below meth c A ls C0 hnm hP hD hS hA hX hl
  have C0 : nz_Cx p s m _ meth c b_Pre_checkIndex 3 (some .int) R_Pre D cB cI cJ := C0
  obtain ⟨hx, hb, hr, hml, hown, hts, hlk, hK⟩ := id C0
  have hl : lv_has ls 3 [(0, .int k), (1, .int 118), (2, fv)] := hl
  refine lv_iload_n hx hb d_Pre_checkIndex_0 rfl (lv_at hl 0 rfl) ?_
  refine lv_if_lt (tgt := 9) hx hb d_Pre_checkIndex_1 (by decide) (fun q => absurd q h0) (fun _ => ?_)
  refine lv_iload_n hx hb d_Pre_checkIndex_4 rfl (lv_at hl 0 rfl) ?_
  refine lv_iload_n hx hb d_Pre_checkIndex_5 rfl (lv_at hl 1 rfl) ?_
  refine lv_icmp_lt (tgt := 16) hx hb d_Pre_checkIndex_6 (by decide) (fun _ => ?_) (fun q => absurd h1 q)
  refine lv_iload_n hx hb d_Pre_checkIndex_16 rfl (lv_at hl 0 rfl) ?_
  exact nz_reti C0 hP hD hS ⟨rfl, rfl⟩ d_Pre_checkIndex_17
set_option maxRecDepth 100000 in
theorem c_Str_checkIndex (l : Launch) (D : va_G) (cB cI cJ : ClassId) (ad av : Nat) (fv : Value) (hf : fv.category = 1) (k : Int32) (h0 : ¬ k < 0) (h1 : k < 118) : nz_Cv l D cB cI cJ (nz_sx ad av fv) y_Str_checkIndex b_Str_checkIndex 2 none { frames := 1, cells := 0, slots := 0, locals := 22 } [.int k, .int 118] [] (fun w => w = []) := by
  refine nz_Cv.mk (by decide) (Nat.le_of_ble_eq_true rfl) ?_
  intro p e s m below meth c A ls C0 hnm hP hD hS hA hX hl
  have C0 : nz_Cx p s m _ meth c b_Str_checkIndex 2 none R_Str D cB cI cJ := C0
  obtain ⟨hx, hb, hr, hml, hown, hts, hlk, hK⟩ := id C0
  have hl : lv_has ls 2 [(0, .int k), (1, .int 118)] := hl
  refine lv_iload_n hx hb d_Str_checkIndex_0 rfl (lv_at hl 0 rfl) ?_
  refine lv_iload_n hx hb d_Str_checkIndex_1 rfl (lv_at hl 1 rfl) ?_
  refine va_gets hx hb hX.2.2.2 hS hown (hts _ k_305) (fun _ h9 => h9) d_Str_checkIndex_2 ?_
  refine nz_calSi (As := [.int k, .int 118, fv]) (rest := []) C0 (c_Pre_checkIndex l D cB cI cJ k fv hf h0 h1) g_Str_1059 rfl nz_xb0 (by decide) hl.1 hP hD hS hA [] [] rfl (wr := []) rfl (by decide) (by decide) (by decide) (fun _ _ _ => trivial) rfl (Nat.le_of_ble_eq_true rfl) d_Str_checkIndex_5 (by decide) (fun r u H locs hh hP hD hS => ?_)
  obtain ⟨rfl, rfl⟩ := hh
  refine lv_pop hx hb d_Str_checkIndex_8 rfl ?_
  exact nz_retv C0 hP hD hS rfl d_Str_checkIndex_9
set_option maxRecDepth 100000 in
theorem c_Lat_charAt (l : Launch) (D : va_G) (cB cI cJ : ClassId) (ad av : Nat) (fv : Value) (hf : fv.category = 1) (k : Int32) (h0 : ¬ k < 0) (h1 : k < 118) : nz_Ci l D cB cI cJ (nz_sx ad av fv) y_Lat_charAt b_Lat_charAt 2 (some .char) { frames := 2, cells := 0, slots := 0, locals := 43 } [.ref av, .int k] [] (fun r w => narrow .char (.int r) = .int r ∧ w = []) := by
  refine nz_Ci.mk (by decide) (Nat.le_of_ble_eq_true rfl) ?_
  intro p e s m below meth c A ls C0 hnm hP hD hS hA hX hl
  have C0 : nz_Cx p s m _ meth c b_Lat_charAt 2 (some .char) R_Lat D cB cI cJ := C0
  obtain ⟨hx, hb, hr, hml, hown, hts, hlk, hK⟩ := id C0
  have hl : lv_has ls 2 [(0, .ref av), (1, .int k)] := hl
  have hin : vp_in k 118 := by
    obtain ⟨j, hj, rfl⟩ := nI_of h0
    exact vp_in_nI ((nI_ltI hj (by decide)).mp (show nI j < nI 118 from h1)) (by decide)
  refine lv_iload_n hx hb d_Lat_charAt_0 rfl (lv_at hl 1 rfl) ?_
  refine lv_aload_n hx hb d_Lat_charAt_1 rfl (lv_at hl 0 rfl) ?_
  refine va_tlen (v := 118) hx hb (hX.1.1 0 (by decide)).2.2.2 hS rfl d_Lat_charAt_2 ?_
  refine nz_calSv (As := [.int k, .int 118]) (rest := []) C0 (c_Str_checkIndex l D cB cI cJ ad av fv hf k h0 h1) g_Lat_9 rfl (nz_sxb ad av fv) (by decide) hl.1 hP hD hS hA [] [] rfl (wr := []) rfl (by decide) (by decide) (by decide) (fun U hU hW => nz_sxc hX hS (va_free (wc := []) hD hS hA [] rfl) U hU hW) rfl (Nat.le_of_ble_eq_true rfl) d_Lat_charAt_3 (by decide) (fun u H locs hh hP hD hS => ?_)
  subst hh
  refine lv_aload_n hx hb d_Lat_charAt_6 rfl (lv_at hl 0 rfl) ?_
  refine lv_iload_n hx hb d_Lat_charAt_7 rfl (lv_at hl 1 rfl) ?_
  refine va_tb hx hb (hX.1.1 0 (by decide)).2.2.2 hS hin rfl d_Lat_charAt_8 ?_
  refine lv_sipush (v := 255) hx hb d_Lat_charAt_9 (by decide +kernel) ?_
  refine lv_iand hx hb d_Lat_charAt_12 ?_
  refine lv_topi (fun z ez => ?_)
  refine lv_i2c (v := (z.toUInt32 % 65536).toInt32) hx hb d_Lat_charAt_13 rfl ?_
  exact nz_retz C0 (pk_nc z) hP hD hS ⟨pk_nc z, rfl⟩ d_Lat_charAt_14
set_option maxRecDepth 100000 in
theorem c_Str_isLatin1 (l : Launch) (D : va_G) (cB cI cJ : ClassId) (ad av : Nat) (fv : Value) : nz_Ci l D cB cI cJ (nz_sx ad av fv) y_Str_isLatin1 b_Str_isLatin1 1 (some .boolean) { frames := 0, cells := 0, slots := 0, locals := 0 } [.ref ad] [] (fun r w => r = 1 ∧ w = []) := by
  refine nz_Ci.mk (by decide) (Nat.le_of_ble_eq_true rfl) ?_
  intro p e s m below meth c A ls C0 hnm hP hD hS hA hX hl
  have C0 : nz_Cx p s m _ meth c b_Str_isLatin1 1 (some .boolean) R_Str D cB cI cJ := C0
  obtain ⟨hx, hb, hr, hml, hown, hts, hlk, hK⟩ := id C0
  have hl : lv_has ls 1 [(0, .ref ad)] := hl
  refine va_gets hx hb hX.2.2.1 hS hown (hts _ k_289) (fun _ h9 => h9) d_Str_isLatin1_0 ?_
  refine lv_if_eq (tgt := 17) hx hb d_Str_isLatin1_3 (by decide) (fun q => absurd q (by decide +kernel)) (fun _ => ?_)
  refine lv_aload_n hx hb d_Str_isLatin1_6 rfl (lv_at hl 0 rfl) ?_
  refine vk_getf hx hb (hX.1.1 0 (by decide)).2.1 hS hown (hts _ k_1569) (fun _ h9 => h9) d_Str_isLatin1_7 ?_
  refine lv_if_ne (tgt := 17) hx hb d_Str_isLatin1_10 (by decide) (fun q => absurd rfl q) (fun _ => ?_)
  refine lv_iconst (v := 1) hx hb d_Str_isLatin1_13 (by decide +kernel) ?_
  refine lv_goto (tgt := 18) hx hb d_Str_isLatin1_14 (by decide) ?_
  exact nz_retz C0 (by decide +kernel) hP hD hS ⟨rfl, rfl⟩ d_Str_isLatin1_18
set_option maxRecDepth 100000 in
theorem c_Str_coder (l : Launch) (D : va_G) (cB cI cJ : ClassId) (ad av : Nat) (fv : Value) : nz_Ci l D cB cI cJ (nz_sx ad av fv) y_Str_coder b_Str_coder 1 (some .byte) { frames := 0, cells := 0, slots := 0, locals := 0 } [.ref ad] [] (fun r w => r = 0 ∧ w = []) := by
  refine nz_Ci.mk (by decide) (Nat.le_of_ble_eq_true rfl) ?_
  intro p e s m below meth c A ls C0 hnm hP hD hS hA hX hl
  have C0 : nz_Cx p s m _ meth c b_Str_coder 1 (some .byte) R_Str D cB cI cJ := C0
  obtain ⟨hx, hb, hr, hml, hown, hts, hlk, hK⟩ := id C0
  have hl : lv_has ls 1 [(0, .ref ad)] := hl
  refine va_gets hx hb hX.2.2.1 hS hown (hts _ k_289) (fun _ h9 => h9) d_Str_coder_0 ?_
  refine lv_if_eq (tgt := 13) hx hb d_Str_coder_3 (by decide) (fun q => absurd q (by decide +kernel)) (fun _ => ?_)
  refine lv_aload_n hx hb d_Str_coder_6 rfl (lv_at hl 0 rfl) ?_
  refine vk_getf hx hb (hX.1.1 0 (by decide)).2.1 hS hown (hts _ k_1569) (fun _ h9 => h9) d_Str_coder_7 ?_
  refine lv_goto (tgt := 14) hx hb d_Str_coder_10 (by decide) ?_
  exact nz_retz C0 (by decide +kernel) hP hD hS ⟨rfl, rfl⟩ d_Str_coder_14
set_option maxRecDepth 100000 in
theorem c_Str_length (l : Launch) (D : va_G) (cB cI cJ : ClassId) (ad av : Nat) (fv : Value) : nz_Ci l D cB cI cJ (nz_sx ad av fv) y_Str_length b_Str_length 1 (some .int) { frames := 1, cells := 0, slots := 0, locals := 20 } [.ref ad] [] (fun r w => r = 118 ∧ w = []) := by
  refine nz_Ci.mk (by decide) (Nat.le_of_ble_eq_true rfl) ?_
  intro p e s m below meth c A ls C0 hnm hP hD hS hA hX hl
  have C0 : nz_Cx p s m _ meth c b_Str_length 1 (some .int) R_Str D cB cI cJ := C0
  obtain ⟨hx, hb, hr, hml, hown, hts, hlk, hK⟩ := id C0
  have hl : lv_has ls 1 [(0, .ref ad)] := hl
  refine lv_aload_n hx hb d_Str_length_0 rfl (lv_at hl 0 rfl) ?_
  refine vk_getf hx hb (hX.1.1 0 (by decide)).2.2.1 hS hown (hts _ k_1568) (fun _ h9 => h9) d_Str_length_1 ?_
  refine va_tlen (v := 118) hx hb (hX.1.1 0 (by decide)).2.2.2 hS rfl d_Str_length_4 ?_
  refine lv_aload_n hx hb d_Str_length_5 rfl (lv_at hl 0 rfl) ?_
  refine nz_calVRi (As := []) (rest := [.int 118]) C0 (c_Str_coder l D cB cI cJ ad av fv) g_Str_335 rfl (nz_sxb ad av fv) (by decide) hl.1 hP hD hS hA [] [] rfl (wr := []) rfl (by decide) (by decide) (by decide) (vk_recv hX.1 (by decide : 0 < 1) hS) (fun U hU hW => nz_sxc hX hS (va_free (wc := []) hD hS hA [] rfl) U hU hW) rfl (Nat.le_of_ble_eq_true rfl) d_Str_length_6 (by decide) (fun r u H locs hh hP hD hS => ?_)
  obtain ⟨rfl, rfl⟩ := hh
  refine lv_ishr hx hb d_Str_length_9 ?_
  refine nz_ctopi (v := 118) (by decide +kernel) ?_
  exact nz_reti C0 hP hD hS ⟨rfl, rfl⟩ d_Str_length_10
set_option maxRecDepth 100000 in
theorem c_Str_charAt (l : Launch) (D : va_G) (cB cI cJ : ClassId) (ad av : Nat) (fv : Value) (hf : fv.category = 1) (k : Int32) (h0 : ¬ k < 0) (h1 : k < 118) : nz_Ci l D cB cI cJ (nz_sx ad av fv) y_Str_charAt b_Str_charAt 2 (some .char) { frames := 3, cells := 0, slots := 0, locals := 64 } [.ref ad, .int k] [] (fun _ w => w = []) := by
  refine nz_Ci.mk (by decide) (Nat.le_of_ble_eq_true rfl) ?_
  intro p e s m below meth c A ls C0 hnm hP hD hS hA hX hl
  have C0 : nz_Cx p s m _ meth c b_Str_charAt 2 (some .char) R_Str D cB cI cJ := C0
  obtain ⟨hx, hb, hr, hml, hown, hts, hlk, hK⟩ := id C0
  have hl : lv_has ls 2 [(0, .ref ad), (1, .int k)] := hl
  refine lv_aload_n hx hb d_Str_charAt_0 rfl (lv_at hl 0 rfl) ?_
  refine nz_calVRi (As := []) (rest := []) C0 (c_Str_isLatin1 l D cB cI cJ ad av fv) g_Str_492 rfl (nz_sxb ad av fv) (by decide) hl.1 hP hD hS hA [] [] rfl (wr := []) rfl (by decide) (by decide) (by decide) (vk_recv hX.1 (by decide : 0 < 1) hS) (fun U hU hW => nz_sxc hX hS (va_free (wc := []) hD hS hA [] rfl) U hU hW) rfl (Nat.le_of_ble_eq_true rfl) d_Str_charAt_1 (by decide) (fun r u H locs hh hP hD hS => ?_)
  obtain ⟨rfl, rfl⟩ := hh
  refine lv_if_eq (tgt := 16) hx hb d_Str_charAt_4 (by decide) (fun q => absurd q (by decide +kernel)) (fun _ => ?_)
  refine lv_aload_n hx hb d_Str_charAt_7 rfl (lv_at hl 0 rfl) ?_
  refine vk_getf hx hb (hX.1.1 0 (by decide)).2.2.1 hS hown (hts _ k_1568) (fun _ h9 => h9) d_Str_charAt_8 ?_
  refine lv_iload_n hx hb d_Str_charAt_11 rfl (lv_at hl 1 rfl) ?_
  refine nz_calSi (As := [.ref av, .int k]) (rest := []) C0 (c_Lat_charAt l D cB cI cJ ad av fv hf k h0 h1) g_Str_495 rfl (nz_sxb ad av fv) (by decide) hl.1 hP hD hS hA [] [] rfl (wr := []) rfl (by decide) (by decide) (by decide) (fun U hU hW => nz_sxc hX hS (va_free (wc := []) hD hS hA [] rfl) U hU hW) rfl (Nat.le_of_ble_eq_true rfl) d_Str_charAt_12 (by decide) (fun r u H locs hh hP hD hS => ?_)
  obtain ⟨hn, rfl⟩ := hh
  exact nz_retz C0 hn hP hD hS rfl d_Str_charAt_15

set_option maxHeartbeats 4000000 in
set_option maxRecDepth 100000 in
/-- the Scanner's loop over its constant: the row of keywords gets some longs -/
theorem nz_scan {p : Program} {l : Launch} {e : Env} {s : State} {m : MethodId} {args : Array Value} {below : List Frame} {meth : Method} {c : Code} {A : Nat → Prop} {D : va_G} {cB cI cJ : ClassId} {ad av : Nat} {fv : Value} (hf : fv.category = 1) (s0 o1 s1 : Nat) (C0 : nz_Cx p s m args meth c b_Scanner_init 5 none R_Scanner D cB cI cJ) (hA : ∀ q : Nat, s.heap.size ≤ q → A q) (hX : nz_sx ad av fv A s) :
    ∀ (n i k : Nat) (x2 x3 x4 : Int32) (f : Nat → Int64) (H : Heap) (locs : List Loc) (ls : Array Slot), 118 < i + n → i ≤ 118 → x4 = nI i → x2 = nI k → k ≤ 22 → va_P D nz_cl [(s0, .inr (8, [.int 0, .int 0, .long 0, .int 0, .int 0, .ref o1, .ref s1, .int 0, .int 0])), (s1, .inl (cJ, 22, .inr (.inl f)))] H → va_D A [(s0, .inr (8, [.int 0, .int 0, .long 0, .int 0, .int 0, .ref o1, .ref s1, .int 0, .int 0])), (s1, .inl (cJ, 22, .inr (.inl f)))] → va_S A s.heap H locs → lv_has ls 5 [(4, .int x4), (3, .int x3), (2, .int x2), (0, .ref s0), (1, .ref o1)] → W p l e { frames := 4, cells := 1, slots := 22, locals := 85 } s m args below meth c H locs 1 22 (MQ below (va_Qv (fun w => ∃ (s1 : Nat) (zf : Nat → Int64), w = [(s0, .inr (8, [.int 0, .int 0, .long 0, .int 0, .int 0, .ref o1, .ref s1, .int 0, .int 0])), (s1, .inl (cJ, 22, .inr (.inl zf)))]) (nz_bw D A) A) args s 1 22 A) (F0 m 24 ls []) := by
  obtain ⟨hx, hb, hr, hml, hown, hts, hlk, hK⟩ := id C0
  intro n
  induction n with
  | zero => intro i k x2 x3 x4 f H locs ls h1 h2; exact absurd h1 (by omega)
  | succ n ih =>
    intro i k x2 x3 x4 f H locs ls hin hi e4 e2 hk hP hD hS hl
    have tail : i < 118 → ∀ (k : Nat) (x2 x3 : Int32) (f : Nat → Int64) (H : Heap) (locs : List Loc) (ls : Array Slot), x2 = nI k → k ≤ 22 → va_P D nz_cl [(s0, .inr (8, [.int 0, .int 0, .long 0, .int 0, .int 0, .ref o1, .ref s1, .int 0, .int 0])), (s1, .inl (cJ, 22, .inr (.inl f)))] H → va_D A [(s0, .inr (8, [.int 0, .int 0, .long 0, .int 0, .int 0, .ref o1, .ref s1, .int 0, .int 0])), (s1, .inl (cJ, 22, .inr (.inl f)))] → va_S A s.heap H locs → lv_has ls 5 [(4, .int x4), (3, .int x3), (2, .int x2), (0, .ref s0), (1, .ref o1)] → W p l e { frames := 4, cells := 1, slots := 22, locals := 85 } s m args below meth c H locs 1 22 (MQ below (va_Qv (fun w => ∃ (s1 : Nat) (zf : Nat → Int64), w = [(s0, .inr (8, [.int 0, .int 0, .long 0, .int 0, .int 0, .ref o1, .ref s1, .int 0, .int 0])), (s1, .inl (cJ, 22, .inr (.inl zf)))]) (nz_bw D A) A) args s 1 22 A) (F0 m 86 ls []) := by
      intro hlt k x2 x3 f H locs ls e2 hk hP hD hS hl
      obtain ⟨x4b, e4b⟩ : ∃ y : Int32, y = x4 + 1 := ⟨_, rfl⟩
      refine lv_iinc (v := x4b) (lv' := [(4, .int x4b), (3, .int x3), (2, .int x2), (0, .ref s0), (1, .ref o1)]) hx hb d_Scanner_init_86 hl (k := 0) rfl (by rw [e4b]; rfl) (by decide) rfl (fun ls hl => ?_)
      refine lv_goto (tgt := 24) hx hb d_Scanner_init_89 (by decide) ?_
      exact ih (i + 1) k x2 x3 x4b f H locs ls (by omega) (by omega) (by rw [e4b, e4]; exact nI_1 i) e2 hk hP hD hS hl
    refine lv_iload hx hb d_Scanner_init_24 (lv_at hl 0 rfl) ?_
    refine va_ldcS hx hb hown hX.2.1 d_Scanner_init_26 ?_
    refine nz_calVRi (As := []) (rest := [.int x4]) C0 (c_Str_length l D cB cI cJ ad av fv) g_Scanner_21 rfl (nz_sxb ad av fv) (by decide) hl.1 hP hD hS hA [] [0, 1] rfl (wr := [(s0, .inr (8, [.int 0, .int 0, .long 0, .int 0, .int 0, .ref o1, .ref s1, .int 0, .int 0])), (s1, .inl (cJ, 22, .inr (.inl f)))]) rfl (by decide) (by decide) (by decide) (vk_recv hX.1 (by decide : 0 < 1) hS) (fun U hU hW => nz_sxc hX hS (va_free (wc := []) hD hS hA [] rfl) U hU hW) rfl (Nat.le_of_ble_eq_true rfl) d_Scanner_init_28 (by decide) (fun r u H locs hh hP hD hS => ?_)
    obtain ⟨rfl, rfl⟩ := hh
    have hP : va_P D nz_cl [(s0, .inr (8, [.int 0, .int 0, .long 0, .int 0, .int 0, .ref o1, .ref s1, .int 0, .int 0])), (s1, .inl (cJ, 22, .inr (.inl f)))] H := hP
    have hD : va_D A [(s0, .inr (8, [.int 0, .int 0, .long 0, .int 0, .int 0, .ref o1, .ref s1, .int 0, .int 0])), (s1, .inl (cJ, 22, .inr (.inl f)))] := hD
    refine lv_icmp_ge (tgt := 92) hx hb d_Scanner_init_31 (by decide) (fun c_1 => ?_) (fun c_1 => ?_)
    · exact nz_retv C0 hP hD hS ⟨s1, f, rfl⟩ d_Scanner_init_92
    refine lv_iload_n hx hb d_Scanner_init_34 rfl (lv_at hl 2 rfl) ?_
    refine lv_bipush (v := 22) hx hb d_Scanner_init_35 (by decide +kernel) ?_
    refine lv_icmp_ge (tgt := 92) hx hb d_Scanner_init_37 (by decide) (fun c_2 => ?_) (fun c_2 => ?_)
    · exact nz_retv C0 hP hD hS ⟨s1, f, rfl⟩ d_Scanner_init_92
    have hlt : i < 118 := by
      rcases Nat.lt_or_ge i 118 with q | q
      · exact q
      · exact absurd (by rw [e4]; exact (nI_le q (by omega) : nI 118 ≤ nI i)) c_1
    have hlk2 : k < 22 := by
      rcases Nat.lt_or_ge k 22 with q | q
      · exact q
      · exact absurd (by rw [e2]; exact (nI_le q (by omega) : nI 22 ≤ nI k)) c_2
    have g0 : ¬ x4 < 0 := by rw [e4]; exact nI_pos (by omega)
    have g1 : x4 < 118 := by rw [e4]; exact (nI_lt hlt (by omega) : nI i < nI 118)
    have gin : vp_in x2 22 := by rw [e2]; exact vp_in_nI hlk2 (by decide)
    refine va_ldcS hx hb hown hX.2.1 d_Scanner_init_40 ?_
    refine lv_iload hx hb d_Scanner_init_42 (lv_at hl 0 rfl) ?_
    refine nz_calVRi (As := [.int x4]) (rest := []) C0 (c_Str_charAt l D cB cI cJ ad av fv hf x4 g0 g1) g_Scanner_27 rfl (nz_sxb ad av fv) (by decide) hl.1 hP hD hS hA [] [0, 1] rfl (wr := [(s0, .inr (8, [.int 0, .int 0, .long 0, .int 0, .int 0, .ref o1, .ref s1, .int 0, .int 0])), (s1, .inl (cJ, 22, .inr (.inl f)))]) rfl (by decide) (by decide) (by decide) (vk_recv hX.1 (by decide : 0 < 1) hS) (fun U hU hW => nz_sxc hX hS (va_free (wc := []) hD hS hA [] rfl) U hU hW) rfl (Nat.le_of_ble_eq_true rfl) d_Scanner_init_44 (by decide) (fun r u H locs hh hP hD hS => ?_)
    subst hh
    have hP : va_P D nz_cl [(s0, .inr (8, [.int 0, .int 0, .long 0, .int 0, .int 0, .ref o1, .ref s1, .int 0, .int 0])), (s1, .inl (cJ, 22, .inr (.inl f)))] H := hP
    have hD : va_D A [(s0, .inr (8, [.int 0, .int 0, .long 0, .int 0, .int 0, .ref o1, .ref s1, .int 0, .int 0])), (s1, .inl (cJ, 22, .inr (.inl f)))] := hD
    refine lv_bipush (v := 32) hx hb d_Scanner_init_47 (by decide +kernel) ?_
    refine lv_icmp_ne (tgt := 63) hx hb d_Scanner_init_49 (by decide) (fun c_3 => ?_) (fun c_3 => ?_)
    · refine lv_aload_n hx hb d_Scanner_init_63 rfl (lv_at hl 3 rfl) ?_
      refine va_get (D := D) (ci := 8) (v := .ref s1) (C := R_Scanner) (T := F_Scanner) (N := 9) hx hb hts i_Scanner hown hK.1 hP 0 rfl rfl 6 (by decide) (hts _ k_343) (fun _ h9 => h9) rfl d_Scanner_init_64 ?_
      refine lv_iload_n hx hb d_Scanner_init_67 rfl (lv_at hl 2 rfl) ?_
      refine lv_dup2_11 hx hb d_Scanner_init_68 rfl rfl ?_
      refine va_lald hx hb hK.1 hP 1 2 rfl rfl gin d_Scanner_init_69 ?_
      refine lv_topl (fun y1 ey1 => ?_)
      refine va_ldcS hx hb hown hX.2.1 d_Scanner_init_70 ?_
      refine lv_iload hx hb d_Scanner_init_72 (lv_at hl 0 rfl) ?_
      refine nz_calVRi (As := [.int x4]) (rest := [.long y1, .int x2, .ref s1]) C0 (c_Str_charAt l D cB cI cJ ad av fv hf x4 g0 g1) g_Scanner_27 rfl (nz_sxb ad av fv) (by decide) hl.1 hP hD hS hA [] [0, 1] rfl (wr := [(s0, .inr (8, [.int 0, .int 0, .long 0, .int 0, .int 0, .ref o1, .ref s1, .int 0, .int 0])), (s1, .inl (cJ, 22, .inr (.inl f)))]) rfl (by decide) (by decide) (by decide) (vk_recv hX.1 (by decide : 0 < 1) hS) (fun U hU hW => nz_sxc hX hS (va_free (wc := []) hD hS hA [] rfl) U hU hW) rfl (Nat.le_of_ble_eq_true rfl) d_Scanner_init_74 (by decide) (fun r2 u H locs hh hP hD hS => ?_)
      subst hh
      have hP : va_P D nz_cl [(s0, .inr (8, [.int 0, .int 0, .long 0, .int 0, .int 0, .ref o1, .ref s1, .int 0, .int 0])), (s1, .inl (cJ, 22, .inr (.inl f)))] H := hP
      have hD : va_D A [(s0, .inr (8, [.int 0, .int 0, .long 0, .int 0, .int 0, .ref o1, .ref s1, .int 0, .int 0])), (s1, .inl (cJ, 22, .inr (.inl f)))] := hD
      refine lv_iload hx hb d_Scanner_init_77 (lv_at hl 0 rfl) ?_
      refine lv_iload_n hx hb d_Scanner_init_79 rfl (lv_at hl 1 rfl) ?_
      refine lv_isub hx hb d_Scanner_init_80 ?_
      refine lv_topi (fun y2 ey2 => ?_)
      refine nz_calSl (As := [.int r2, .int y2]) (rest := [.long y1, .int x2, .ref s1]) C0 (c_Scanner_letterCode l D cB cI cJ r2 y2) g_Scanner_31 rfl nz_xb0 (by decide) hl.1 hP hD hS hA [] [0, 1] rfl (wr := [(s0, .inr (8, [.int 0, .int 0, .long 0, .int 0, .int 0, .ref o1, .ref s1, .int 0, .int 0])), (s1, .inl (cJ, 22, .inr (.inl f)))]) rfl (by decide) (by decide) (by decide) (fun _ _ _ => trivial) rfl (Nat.le_of_ble_eq_true rfl) d_Scanner_init_81 (by decide) (fun r3 u H locs hh hP hD hS => ?_)
      obtain ⟨z3, -, rfl⟩ := hh
      have hP : va_P D nz_cl [(s0, .inr (8, [.int 0, .int 0, .long 0, .int 0, .int 0, .ref o1, .ref s1, .int 0, .int 0])), (s1, .inl (cJ, 22, .inr (.inl f)))] H := hP
      have hD : va_D A [(s0, .inr (8, [.int 0, .int 0, .long 0, .int 0, .int 0, .ref o1, .ref s1, .int 0, .int 0])), (s1, .inl (cJ, 22, .inr (.inl f)))] := hD
      refine lv_lor hx hb d_Scanner_init_84 ?_
      refine nz_lastE hx hb hK.1 hP hD hS 1 2 rfl rfl gin d_Scanner_init_85 (fun H locs g hP hD hS => ?_)
      exact tail hlt k x2 x3 g H locs ls e2 hk hP hD hS hl
    · obtain ⟨x2b, e2b⟩ : ∃ y : Int32, y = x2 + 1 := ⟨_, rfl⟩
      refine lv_iinc (v := x2b) (lv' := [(2, .int x2b), (4, .int x4), (3, .int x3), (0, .ref s0), (1, .ref o1)]) hx hb d_Scanner_init_52 hl (k := 2) rfl (by rw [e2b]; rfl) (by decide) rfl (fun ls hl => ?_)
      refine lv_iload hx hb d_Scanner_init_55 (lv_at hl 1 rfl) ?_
      refine lv_iconst (v := 1) hx hb d_Scanner_init_57 (by decide +kernel) ?_
      refine lv_iadd hx hb d_Scanner_init_58 ?_
      refine lv_topi (fun x3b e3b => ?_)
      refine lv_istore_n (lv' := [(3, .int x3b), (2, .int x2b), (4, .int x4), (0, .ref s0), (1, .ref o1)]) hx hb d_Scanner_init_59 rfl hl (by decide) rfl (fun ls hl => ?_)
      refine lv_goto (tgt := 86) hx hb d_Scanner_init_60 (by decide) ?_
      exact tail hlt (k + 1) x2b x3b f H locs ls (by rw [e2b, e2]; exact nI_1 k) (by omega) hP hD hS (lv_sub hl [2, 0, 1, 3, 4] rfl)
set_option maxHeartbeats 4000000 in
set_option maxRecDepth 100000 in
theorem c_Scanner_init (l : Launch) (D : va_G) (cB cI cJ : ClassId) (ad av : Nat) (fv : Value) (hf : fv.category = 1) (s0 o1 : Nat) : nz_Cv l D cB cI cJ (nz_sx ad av fv) y_Scanner_init b_Scanner_init 5 none { frames := 4, cells := 1, slots := 22, locals := 85 } [.ref s0, .ref o1] [(s0, .inr (8, [.int 0, .int 0, .long 0, .int 0, .int 0, .null, .null, .int 0, .int 0]))] (fun w => ∃ (s1 : Nat) (zf : Nat → Int64), w = [(s0, .inr (8, [.int 0, .int 0, .long 0, .int 0, .int 0, .ref o1, .ref s1, .int 0, .int 0])), (s1, .inl (cJ, 22, .inr (.inl zf)))]) := by
  refine nz_Cv.mk (by decide) (Nat.le_of_ble_eq_true rfl) ?_
  intro p e s m below meth c A ls C0 hnm hP hD hS hA hX hl
  have C0 : nz_Cx p s m _ meth c b_Scanner_init 5 none R_Scanner D cB cI cJ := C0
  obtain ⟨hx, hb, hr, hml, hown, hts, hlk, hK⟩ := id C0
  have hl : lv_has ls 5 [(0, .ref s0), (1, .ref o1)] := hl
  have hin : meth.name = "<init>" := hnm
  refine lv_aload_n hx hb d_Scanner_init_0 rfl (lv_at hl 0 rfl) ?_
  refine W.objInit hx hb hown (hts _ k_279) (hts _ k_26) (hts _ k_27) rfl (by rw [hml]; exact hl.1) rfl d_Scanner_init_1 (by decide) (Nat.le_of_ble_eq_true rfl) ?_
  refine W.eq (g2 := F0 m 4 ls []) rfl ?_
  refine lv_aload_n hx hb d_Scanner_init_4 rfl (lv_at hl 0 rfl) ?_
  refine lv_aload_n hx hb d_Scanner_init_5 rfl (lv_at hl 1 rfl) ?_
  refine va_putF (D := D) (ci := 8) (v := .ref o1) (ty := .array .byte) (C := R_Scanner) (T := F_Scanner) (N := 9) hx hb hts i_Scanner t_Scanner t_Scanner_ok n_Scanner hown hK.1 hP hD hS 0 rfl rfl 5 (by decide) (hts _ k_342) (fun _ h9 => h9) rfl hin rfl (by decide +kernel) rfl rfl (Nat.le_of_ble_eq_true rfl) d_Scanner_init_6 (fun H locs hP hD hS => ?_)
  have hP : va_P D nz_cl [(s0, .inr (8, [.int 0, .int 0, .long 0, .int 0, .int 0, .ref o1, .null, .int 0, .int 0]))] H := hP
  have hD : va_D A [(s0, .inr (8, [.int 0, .int 0, .long 0, .int 0, .int 0, .ref o1, .null, .int 0, .int 0]))] := hD
  refine lv_aload_n hx hb d_Scanner_init_9 rfl (lv_at hl 0 rfl) ?_
  refine lv_bipush (v := 22) hx hb d_Scanner_init_10 (by decide +kernel) ?_
  refine nz_newz C0 hP hD hS hA (ty := .long) (a0 := (22, .inr (.inl (fun _ => 0)))) k_82 rfl 2 rfl (fun _ => rfl) (by decide +kernel) (by decide +kernel) (by decide) (by decide) (by decide) d_Scanner_init_12 (fun q_1 H hP hD hS => ?_)
  have hP : va_P D nz_cl [(s0, .inr (8, [.int 0, .int 0, .long 0, .int 0, .int 0, .ref o1, .null, .int 0, .int 0])), (q_1, .inl (cJ, 22, .inr (.inl (fun _ => 0))))] H := hP
  have hD : va_D A [(s0, .inr (8, [.int 0, .int 0, .long 0, .int 0, .int 0, .ref o1, .null, .int 0, .int 0])), (q_1, .inl (cJ, 22, .inr (.inl (fun _ => 0))))] := hD
  refine W.widen (k := 1) (n := 22) (by decide) (by decide) ?_
  refine va_putF (D := D) (ci := 8) (v := .ref q_1) (ty := .array .long) (C := R_Scanner) (T := F_Scanner) (N := 9) hx hb hts i_Scanner t_Scanner t_Scanner_ok n_Scanner hown hK.1 hP hD hS 0 rfl rfl 6 (by decide) (hts _ k_343) (fun _ h9 => h9) rfl hin rfl (by decide +kernel) rfl rfl (Nat.le_of_ble_eq_true rfl) d_Scanner_init_14 (fun H locs hP hD hS => ?_)
  have hP : va_P D nz_cl [(s0, .inr (8, [.int 0, .int 0, .long 0, .int 0, .int 0, .ref o1, .ref q_1, .int 0, .int 0])), (q_1, .inl (cJ, 22, .inr (.inl (fun _ => 0))))] H := hP
  have hD : va_D A [(s0, .inr (8, [.int 0, .int 0, .long 0, .int 0, .int 0, .ref o1, .ref q_1, .int 0, .int 0])), (q_1, .inl (cJ, 22, .inr (.inl (fun _ => 0))))] := hD
  refine lv_iconst (v := 0) hx hb d_Scanner_init_17 (by decide +kernel) ?_
  refine lv_istore_n (lv' := [(2, .int 0), (0, .ref s0), (1, .ref o1)]) hx hb d_Scanner_init_18 rfl hl (by decide) rfl (fun ls hl => ?_)
  refine lv_iconst (v := 0) hx hb d_Scanner_init_19 (by decide +kernel) ?_
  refine lv_istore_n (lv' := [(3, .int 0), (2, .int 0), (0, .ref s0), (1, .ref o1)]) hx hb d_Scanner_init_20 rfl hl (by decide) rfl (fun ls hl => ?_)
  refine lv_iconst (v := 0) hx hb d_Scanner_init_21 (by decide +kernel) ?_
  refine lv_istore (lv' := [(4, .int 0), (3, .int 0), (2, .int 0), (0, .ref s0), (1, .ref o1)]) hx hb d_Scanner_init_22 hl (by decide) rfl (fun ls hl => ?_)
  refine W.widen (k := 1) (n := 22) (by decide) (by decide) ?_
  exact nz_scan hf s0 o1 _ C0 hA hX 119 0 0 0 0 0 _ _ _ ls (by omega) (by omega) nI_0.symm nI_0.symm (by omega) (hP.sub [0, 1] rfl) (hD.sub [0, 1] (by decide) rfl) hS hl

