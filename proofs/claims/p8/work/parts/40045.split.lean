/-! a large method's check, a known place at a time -/
theorem ab_cks_nil {C : ab_C} : ab_cks C [] [] = true := rfl
theorem ab_cks_cons {C : ab_C} {nd : ab_N} {ns : List ab_N} {ts : List Nat} {tss : List (List Nat)} (h : (ab_le 0 (ab_lo nd.2.1.1 nd.2.2) && ab_ck C nd.2.2 ts [(nd.1, nd.2.1)]) = true) (t : ab_cks C ns tss = true) : ab_cks C (nd :: ns) (ts :: tss) = true := by
  unfold ab_cks
  rw [h, t]
  rfl
theorem ab_mok_mk {C : ab_C} {nL N0 : Nat} {t0 : List Nat} {tss : List (List Nat)} (h : (Nat.ble (ab_c8 C.2.2.2.2.1.1) nL && ab_ck C (ab_cn N0) t0 [(0, ab_a0 C.2.2.2.2.1)]) = true) (t : ab_cks C C.2.2.2.1 tss = true) : ab_mok C nL N0 t0 tss = true := by
  unfold ab_mok
  rw [h, t]
  rfl
