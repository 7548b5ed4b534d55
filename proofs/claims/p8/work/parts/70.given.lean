theorem nz_nst_in : ∀ q ∈ nz_nst, Cond.methodLinkNest q.1 q.2.1 q.2.2.1 q.2.2.2 ∈ lw_tbl := by
  intro q hq
  simp only [nz_nst, List.mem_cons, List.not_mem_nil, or_false] at hq
  rcases hq with rfl | rfl | rfl | rfl | rfl | rfl | rfl | rfl | rfl | rfl | rfl | rfl | rfl | rfl | rfl
  · exact List.mem_of_getElem? (i := 122) (by decide +kernel)
  · exact List.mem_of_getElem? (i := 128) (by decide +kernel)
  · exact List.mem_of_getElem? (i := 178) (by decide +kernel)
  · exact List.mem_of_getElem? (i := 217) (by decide +kernel)
  · exact List.mem_of_getElem? (i := 240) (by decide +kernel)
  · exact List.mem_of_getElem? (i := 481) (by decide +kernel)
  · exact List.mem_of_getElem? (i := 530) (by decide +kernel)
  · exact List.mem_of_getElem? (i := 651) (by decide +kernel)
  · exact List.mem_of_getElem? (i := 682) (by decide +kernel)
  · exact List.mem_of_getElem? (i := 715) (by decide +kernel)
  · exact List.mem_of_getElem? (i := 750) (by decide +kernel)
  · exact List.mem_of_getElem? (i := 838) (by decide +kernel)
  · exact List.mem_of_getElem? (i := 921) (by decide +kernel)
  · exact List.mem_of_getElem? (i := 954) (by decide +kernel)
  · exact List.mem_of_getElem? (i := 1065) (by decide +kernel)
theorem nz_arr {args : Array Value} {s : State} {ty : FieldType} (h : (Cond.arrayClass ty).before args s = true) : ∃ cA : ClassId, ArrOfT s cA ty ∧ s.vm.findClass ("[" ++ ty.toString) = some cA := by
  obtain ⟨cA, kA, comp, h1, h2, h3⟩ := Cond.arrayClass_spec h
  exact ⟨cA, fun n z => ⟨fun k h => (by cases h), kA, h2, comp, h3⟩, h1⟩
abbrev nz_tm : Nat → Term := fun _ => Term.string "NameFall$Scanner" 19
theorem nz_el0 : ∀ j : Nat, j < 118 → (flatC (Jvm.Cond.and given_1 narrow_1))[13 + j]? = some (Cond.eq (.elem (.field (.string "NameFall$Scanner" 19) "java/lang/String" "value" "[B") (.int (Int32.ofNat j))) (.int ((nz_byt.getD 0 []).getD j 0))) := by decide +kernel
theorem nz_el : ∀ j : Nat, j < 118 → Cond.eq (.elem (.field (.string "NameFall$Scanner" 19) "java/lang/String" "value" "[B") (.int (Int32.ofNat j))) (.int ((nz_byt.getD 0 []).getD j 0)) ∈ flatC (Jvm.Cond.and given_1 narrow_1) := fun j hj => List.mem_of_getElem? (i := 13 + j) (nz_el0 j hj)
/-- the constant's text and the statics, as the Statement gives them -/
theorem nz_start {b : Nat} {s : State} (hts : ∀ w ∈ lw_tbl, w.before #[Value.ref b] s = true) (hgv : (Jvm.Cond.and given_1 narrow_1).before #[Value.ref b] s = true) : ∃ (ad av : Nat) (fv : Value), fv.category = 1 ∧ nz_sx ad av fv (fun q : Nat => s.heap.size ≤ q) s := by
  have hs := flat_of_before _ hgv
  have hA : ∀ a : Nat, a < s.heap.size → ¬ (fun q : Nat => s.heap.size ≤ q) a := fun a h => Nat.not_le.mpr h
  have i0 : ∀ i : Nat, i < 1 → i = 0 := fun i h => by omega
  obtain ⟨adK, adV, hSx, hev⟩ := vk_Sof (args := #[Value.ref b]) (s := s) (N := 1) (tm := nz_tm) (len := [118]) (byt := nz_byt) (A := fun q : Nat => s.heap.size ≤ q) (fun i h => by rw [i0 i h]; decide) (fun i h => by rw [i0 i h]; exact hs _ (List.mem_of_getElem? (i := 9) (by decide +kernel))) (fun i h => by rw [i0 i h]; exact hs _ (List.mem_of_getElem? (i := 10) (by decide +kernel))) (fun i h => by rw [i0 i h]; exact hs _ (List.mem_of_getElem? (i := 11) (by decide +kernel))) (fun i h => by rw [i0 i h]; exact hs _ (List.mem_of_getElem? (i := 12) (by decide +kernel))) (fun i h j hj => by rw [i0 i h] at hj ⊢; exact hs _ (nz_el j hj)) (fun i j hi hj hne => absurd ((i0 i hi).trans (i0 j hj).symm) hne) hA
  have hR : vk_R R_Scanner 19 nz_lit (adK 0) s := vk_R.of (hts (.stringRef R_Scanner 19 nz_lit) (List.mem_of_getElem? (i := 372) (by decide +kernel))) (hev 0 (by decide))
  have hSx0 : vk_S 1 [118] nz_byt (fun _ => adK 0) (fun _ => adV 0) (fun q : Nat => s.heap.size ≤ q) s s.heap := ⟨fun i h => by rw [i0 i h]; exact hSx.1 0 (by decide), fun i j hi hj _ => (i0 i hi).trans (i0 j hj).symm⟩
  have hZ : va_Z "java/lang/String" "COMPACT_STRINGS" "Z" (.int 1) (fun q : Nat => s.heap.size ≤ q) s s.heap := va_Zof (hts _ (List.mem_of_getElem? (i := 382) (by decide +kernel))) (hts _ (List.mem_of_getElem? (i := 102) (by decide +kernel))) (va_eqi (hs _ (List.mem_of_getElem? (i := 4) (by decide +kernel)))) hA
  have hQ : va_Zq "jdk/internal/util/Preconditions" "SIOOBE_FORMATTER" "Ljava/util/function/BiFunction;" (fun q : Nat => s.heap.size ≤ q) s s.heap := va_Zqof (hts _ (List.mem_of_getElem? (i := 398) (by decide +kernel))) (hts _ (List.mem_of_getElem? (i := 104) (by decide +kernel))) (hs _ (List.mem_of_getElem? (i := 5) (by decide +kernel))) hA
  rcases hQ with hQ | ⟨t, hQ⟩
  · exact ⟨adK 0, adV 0, .null, rfl, hSx0, hR, hZ, hQ⟩
  · exact ⟨adK 0, adV 0, .ref t, rfl, hSx0, hR, hZ, hQ⟩
/-- the nz_cl' numbers, the arrays' nz_cl, the nest -/
theorem nz_kz {b : Nat} {s : State} (hts : ∀ w ∈ lw_tbl, w.before #[Value.ref b] s = true) : ∃ (D : va_G) (cB cI cJ : ClassId), nz_k D cB cI cJ s := by
  have htg : ∀ w ∈ nz_gd, w.before #[Value.ref b] s = true := fun w h => hts w (List.mem_filter.mp h).1
  obtain ⟨cc0, iS0, hKn0⟩ := u_known (C := R_Chances) (T := F_Chances) (N := 5) (n := 5) htg i_Chances (htg _ k_437)
  obtain ⟨cc1, iS1, hKn1⟩ := u_known (C := R_Deaths) (T := F_Deaths) (N := 6) (n := 6) htg i_Deaths (htg _ k_388)
  obtain ⟨cc2, iS2, hKn2⟩ := u_known (C := R_Falls) (T := F_Falls) (N := 7) (n := 7) htg i_Falls (htg _ k_245)
  obtain ⟨cc3, iS3, hKn3⟩ := u_known (C := R_Land) (T := F_Land) (N := 5) (n := 5) htg i_Land (htg _ k_29)
  obtain ⟨cc4, iS4, hKn4⟩ := u_known (C := R_Meanings) (T := F_Meanings) (N := 6) (n := 6) htg i_Meanings (htg _ k_85)
  obtain ⟨cc5, iS5, hKn5⟩ := u_known (C := R_Persons) (T := F_Persons) (N := 11) (n := 11) htg i_Persons (htg _ k_147)
  obtain ⟨cc6, iS6, hKn6⟩ := u_known (C := R_Places) (T := F_Places) (N := 8) (n := 8) htg i_Places (htg _ k_35)
  obtain ⟨cc7, iS7, hKn7⟩ := u_known (C := R_Reader) (T := F_Reader) (N := 5) (n := 5) htg i_Reader (htg _ k_273)
  obtain ⟨cc8, iS8, hKn8⟩ := u_known (C := R_Scanner) (T := F_Scanner) (N := 9) (n := 9) htg i_Scanner (htg _ k_275)
  obtain ⟨cc9, iS9, hKn9⟩ := u_known (C := R_Speech) (T := F_Speech) (N := 5) (n := 5) htg i_Speech (htg _ k_415)
  obtain ⟨cc10, iS10, hKn10⟩ := u_known (C := R_Words) (T := F_Words) (N := 3) (n := 3) htg i_Words (htg _ k_124)
  obtain ⟨cc11, iS11, hKn11⟩ := u_known (C := R_NF) (T := F_NF) (N := 11) (n := 11) htg i_NF (htg _ k_21)
  obtain ⟨cc12, iS12, hKn12⟩ := u_known (C := R_Mo) (T := F_Mo) (N := 55) (n := 55) htg i_Mo (htg _ k_1013)
  obtain ⟨cB, hB1, hB2⟩ := nz_arr (htg _ k_81)
  obtain ⟨cI, hI1, hI2⟩ := nz_arr (htg _ k_83)
  obtain ⟨cJ, hJ1, hJ2⟩ := nz_arr (htg _ k_82)
  refine ⟨(fun k => [cc0, cc1, cc2, cc3, cc4, cc5, cc6, cc7, cc8, cc9, cc10, cc11, cc12].getD k 0, fun k => [iS0, iS1, iS2, iS3, iS4, iS5, iS6, iS7, iS8, iS9, iS10, iS11, iS12].getD k (fun _ => 0)), cB, cI, cJ, ⟨?_, ?_⟩, fun q hq => va_Nw.of rfl (hts _ (nz_nst_in q hq))⟩
  · intro k q hq
    match k, hq with
    | 0, hq => cases hq; exact hKn0
    | 1, hq => cases hq; exact hKn1
    | 2, hq => cases hq; exact hKn2
    | 3, hq => cases hq; exact hKn3
    | 4, hq => cases hq; exact hKn4
    | 5, hq => cases hq; exact hKn5
    | 6, hq => cases hq; exact hKn6
    | 7, hq => cases hq; exact hKn7
    | 8, hq => cases hq; exact hKn8
    | 9, hq => cases hq; exact hKn9
    | 10, hq => cases hq; exact hKn10
    | 11, hq => cases hq; exact hKn11
    | 12, hq => cases hq; exact hKn12
    | k + 13, hq => simp [nz_cl] at hq
  · intro k q hq
    match k, hq with
    | 0, hq => cases hq; exact ⟨hB1, hB2⟩
    | 1, hq => cases hq; exact ⟨hI1, hI2⟩
    | 2, hq => cases hq; exact ⟨hJ1, hJ2⟩
    | k + 3, hq => simp [nz_ty] at hq
