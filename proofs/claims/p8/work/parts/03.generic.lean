/-! one list of words for all methods; a contract's form; calls and returns by one row each -/
def nz_gd : List Cond := lw_tbl.filter goodWord
theorem nz_gm {w : Cond} (h : w ∈ lw_tbl) (hg : goodWord w = true) : w ∈ nz_gd := List.mem_filter.mpr ⟨h, hg⟩
abbrev nz_bg (y : MethodName) (cc : ByteArray) (n : Nat) (r : Option FieldType) : List Cond := Cond.code y cc n r :: nz_gd
theorem nz_good {y : MethodName} {cc : ByteArray} {n : Nat} {r : Option FieldType} (h : Cond.code y cc n r ∈ nz_gd) : GoodIn nz_gd (nz_bg y cc n r) := fun w hw => by
  rcases List.mem_cons.mp hw with rfl | hw
  · exact ⟨h, good_of_word (List.mem_filter.mp h).2⟩
  · exact ⟨hw, good_of_word (List.mem_filter.mp hw).2⟩
abbrev nz_ty (cB cI cJ : ClassId) : List (ClassId × FieldType) := [(cB, .byte), (cI, .int), (cJ, .long)]
/-- what holds of the tables in every state: the nz_cl, the array nz_cl, the nest's links -/
def nz_k (D : va_G) (cB cI cJ : ClassId) (U : State) : Prop := va_K D nz_cl (nz_ty cB cI cJ) U ∧ ∀ q ∈ nz_nst, va_Nw (.methodLinkNest q.1 q.2.1 q.2.2.1 q.2.2.2) U
theorem nz_k.call {D : va_G} {cB cI cJ : ClassId} {U : State} {g : JFrame} {mk : MethodId} {a : Array Value} (h : nz_k D cB cI cJ U) : nz_k D cB cI cJ (U.calling g mk a) := ⟨va_K.moved (u := U) (U := U.calling g mk a) (Vm.Alike.refl U.vm) h.1, fun q hq => va_Nw.same rfl rfl (h.2 q hq)⟩
theorem nz_k.warm {D : va_G} {cB cI cJ : ClassId} {s U : State} (hW : s.WarmedH U.vm) (h : nz_k D cB cI cJ s) : nz_k D cB cI cJ U := ⟨va_K.moved hW.alike h.1, fun q hq => va_Nw.warmM hW (h.2 q hq)⟩
/-- what else a contract's start asks (of the cells that it doesn't change) -/
abbrev nz_X : Type := (Nat → Prop) → State → Prop
abbrev nz_x0 : nz_X := fun _ _ => True
def nz_xb (X : nz_X) : Prop := ∀ (A : Nat → Prop) (a : Array Value) (U : State) (g : JFrame) (mk : MethodId), X A U → X A (U.calling g mk a)
theorem nz_xb0 : nz_xb nz_x0 := fun _ _ _ _ _ h => h
def nz_pr (D : va_G) (cB cI cJ : ClassId) (X : nz_X) (av : List Value) (ws : va_W) (sz : Nat) : Array Value → State → Prop := va_Pc av (fun U => U.heap.size = sz ∧ va_P D nz_cl ws U.heap ∧ nz_k D cB cI cJ U ∧ va_D (fun _ => True) ws ∧ X (va_A ws sz) U)
theorem nz_blind {D : va_G} {cB cI cJ : ClassId} {X : nz_X} {av : List Value} {ws : va_W} {sz : Nat} (hX : nz_xb X) : FrameBlind (nz_pr D cB cI cJ X av ws sz) := fun a U g mk q => by
  obtain ⟨q0, q1, qP, qK, qD, qX⟩ := q
  exact ⟨q0, q1, qP, nz_k.call qK, qD, hX _ _ _ _ _ qX⟩
abbrev nz_bw (D : va_G) (A : Nat → Prop) : va_W → State → Prop := fun w t => va_P D nz_cl w t.heap ∧ va_D A w
def nz_Ci (l : Launch) (D : va_G) (cB cI cJ : ClassId) (X : nz_X) (y : MethodName) (cc : ByteArray) (n : Nat) (r : Option FieldType) (rm : Room) (av : List Value) (ws : va_W) (post : Int32 → va_W → Prop) : Prop := ∀ sz : Nat, Met l y (nz_bg y cc n r) rm (nz_pr D cB cI cJ X av ws sz) (va_Qi post (nz_bw D (va_A ws sz)) (va_A ws sz)) rm.cells rm.slots (va_A ws sz)
def nz_Cl (l : Launch) (D : va_G) (cB cI cJ : ClassId) (X : nz_X) (y : MethodName) (cc : ByteArray) (n : Nat) (r : Option FieldType) (rm : Room) (av : List Value) (ws : va_W) (post : Int64 → va_W → Prop) : Prop := ∀ sz : Nat, Met l y (nz_bg y cc n r) rm (nz_pr D cB cI cJ X av ws sz) (va_Ql post (nz_bw D (va_A ws sz)) (va_A ws sz)) rm.cells rm.slots (va_A ws sz)
def nz_Cv (l : Launch) (D : va_G) (cB cI cJ : ClassId) (X : nz_X) (y : MethodName) (cc : ByteArray) (n : Nat) (r : Option FieldType) (rm : Room) (av : List Value) (ws : va_W) (post : va_W → Prop) : Prop := ∀ sz : Nat, Met l y (nz_bg y cc n r) rm (nz_pr D cB cI cJ X av ws sz) (va_Qv post (nz_bw D (va_A ws sz)) (va_A ws sz)) rm.cells rm.slots (va_A ws sz)
/-- what a body stands on -/
def nz_Cx (p : Program) (s : State) (m : MethodId) (args : Array Value) (meth : Method) (c : Code) (cc : ByteArray) (n : Nat) (r : Option FieldType) (own : String) (D : va_G) (cB cI cJ : ClassId) : Prop :=
  p.tables.exec = Jvm.exec ∧ c.code = cc ∧ meth.sig.returnType = r ∧ c.maxLocals = n ∧ s.vm.findClass own = some m.cls ∧ (∀ w ∈ nz_gd, w.before args s = true) ∧ meth.locks = false ∧ nz_k D cB cI cJ s
section GENB
variable {l : Launch} {D : va_G} {cB cI cJ : ClassId} {X : nz_X} {y : MethodName} {cc : ByteArray} {n : Nat} {r : Option FieldType} {rm : Room} {av : List Value} {ws : va_W}
theorem nz_Ci.mk {post : Int32 → va_W → Prop} (hy : plainName y.cls = true) (hav : (lg_sl av).length ≤ n)
    (body : ∀ (p : Program) (e : Env) (s : State) (m : MethodId) (below : List Frame) (meth : Method) (c : Code) (A : Nat → Prop) (ls : Array Slot), nz_Cx p s m av.toArray meth c cc n r y.cls D cB cI cJ → meth.name = y.name → va_P D nz_cl ws s.heap → va_D A ws → va_S A s.heap s.heap [] → (∀ q : Nat, s.heap.size ≤ q → A q) → X A s → lv_has ls n (lv_args 0 av) →
      W p l e rm s m av.toArray below meth c s.heap [] 0 0 (MQ below (va_Qi post (nz_bw D A) A) av.toArray s rm.cells rm.slots A) (F0 m 0 ls [])) : nz_Ci l D cB cI cJ X y cc n r rm av ws post := by
  intro sz
  refine Met.ofW (cc := cc) (maxL := n) (ret := r) hy rfl ?_
  intro p e s m args below meth c s₁ B hml hv
  obtain ⟨rfl, hsz, hP, hK, hD0, hX⟩ := hv
  subst hsz
  have hts := atoms_spec (ws := nz_bg y cc n r) B.pre
  rw [lg_entry_eq]
  exact body p e s m below meth c _ _ ⟨B.exec, B.bytes, B.returns, hml, findClass_of_methodNamed B.named, fun w h => hts w (List.mem_cons_of_mem _ h), B.notSynchronized, hK⟩ (name_of_methodNamed B.named B.method).1 hP (hD0.self (sz := s.heap.size)) va_S.rf (fun q h => Or.inr h) hX (lv_entry av hav)
theorem nz_Cl.mk {post : Int64 → va_W → Prop} (hy : plainName y.cls = true) (hav : (lg_sl av).length ≤ n)
    (body : ∀ (p : Program) (e : Env) (s : State) (m : MethodId) (below : List Frame) (meth : Method) (c : Code) (A : Nat → Prop) (ls : Array Slot), nz_Cx p s m av.toArray meth c cc n r y.cls D cB cI cJ → meth.name = y.name → va_P D nz_cl ws s.heap → va_D A ws → va_S A s.heap s.heap [] → (∀ q : Nat, s.heap.size ≤ q → A q) → X A s → lv_has ls n (lv_args 0 av) →
      W p l e rm s m av.toArray below meth c s.heap [] 0 0 (MQ below (va_Ql post (nz_bw D A) A) av.toArray s rm.cells rm.slots A) (F0 m 0 ls [])) : nz_Cl l D cB cI cJ X y cc n r rm av ws post := by
  intro sz
  refine Met.ofW (cc := cc) (maxL := n) (ret := r) hy rfl ?_
  intro p e s m args below meth c s₁ B hml hv
  obtain ⟨rfl, hsz, hP, hK, hD0, hX⟩ := hv
  subst hsz
  have hts := atoms_spec (ws := nz_bg y cc n r) B.pre
  rw [lg_entry_eq]
  exact body p e s m below meth c _ _ ⟨B.exec, B.bytes, B.returns, hml, findClass_of_methodNamed B.named, fun w h => hts w (List.mem_cons_of_mem _ h), B.notSynchronized, hK⟩ (name_of_methodNamed B.named B.method).1 hP (hD0.self (sz := s.heap.size)) va_S.rf (fun q h => Or.inr h) hX (lv_entry av hav)
theorem nz_Cv.mk {post : va_W → Prop} (hy : plainName y.cls = true) (hav : (lg_sl av).length ≤ n)
    (body : ∀ (p : Program) (e : Env) (s : State) (m : MethodId) (below : List Frame) (meth : Method) (c : Code) (A : Nat → Prop) (ls : Array Slot), nz_Cx p s m av.toArray meth c cc n r y.cls D cB cI cJ → meth.name = y.name → va_P D nz_cl ws s.heap → va_D A ws → va_S A s.heap s.heap [] → (∀ q : Nat, s.heap.size ≤ q → A q) → X A s → lv_has ls n (lv_args 0 av) →
      W p l e rm s m av.toArray below meth c s.heap [] 0 0 (MQ below (va_Qv post (nz_bw D A) A) av.toArray s rm.cells rm.slots A) (F0 m 0 ls [])) : nz_Cv l D cB cI cJ X y cc n r rm av ws post := by
  intro sz
  refine Met.ofW (cc := cc) (maxL := n) (ret := r) hy rfl ?_
  intro p e s m args below meth c s₁ B hml hv
  obtain ⟨rfl, hsz, hP, hK, hD0, hX⟩ := hv
  subst hsz
  have hts := atoms_spec (ws := nz_bg y cc n r) B.pre
  rw [lg_entry_eq]
  exact body p e s m below meth c _ _ ⟨B.exec, B.bytes, B.returns, hml, findClass_of_methodNamed B.named, fun w h => hts w (List.mem_cons_of_mem _ h), B.notSynchronized, hK⟩ (name_of_methodNamed B.named B.method).1 hP (hD0.self (sz := s.heap.size)) va_S.rf (fun q h => Or.inr h) hX (lv_entry av hav)
end GENB
/-- the words of a call: virtual, static, of a constructor; the same through the nest -/
def nz_wV (own : String) (i : Nat) (y : MethodName) (cc : ByteArray) (n : Nat) (r : Option FieldType) (k : Nat) : Prop := Cond.methodLink own i y ∈ nz_gd ∧ Cond.instanceMethod y ∈ nz_gd ∧ Cond.selects y.cls y y ∈ nz_gd ∧ Cond.initialized y.cls ∈ nz_gd ∧ Cond.code y cc n r ∈ nz_gd ∧ y.cls ≠ "java/lang/invoke/MethodHandle" ∧ y.cls ≠ "java/lang/invoke/VarHandle" ∧ (parseMethodDescriptor y.desc).map (fun d => d.parameters.length) = some k
def nz_wS (own : String) (i : Nat) (y : MethodName) (cc : ByteArray) (n : Nat) (r : Option FieldType) (k : Nat) : Prop := Cond.methodLink own i y ∈ nz_gd ∧ Cond.static y ∈ nz_gd ∧ Cond.initialized y.cls ∈ nz_gd ∧ Cond.code y cc n r ∈ nz_gd ∧ y.cls ≠ "java/lang/invoke/MethodHandle" ∧ y.cls ≠ "java/lang/invoke/VarHandle" ∧ (parseMethodDescriptor y.desc).map (fun d => d.parameters.length) = some k
def nz_wI (own : String) (i : Nat) (y : MethodName) (cc : ByteArray) (n : Nat) (k : Nat) : Prop := Cond.methodLink own i y ∈ nz_gd ∧ Cond.instanceMethod y ∈ nz_gd ∧ Cond.initialized y.cls ∈ nz_gd ∧ Cond.code y cc n none ∈ nz_gd ∧ y.name = "<init>" ∧ y.cls ≠ "java/lang/invoke/MethodHandle" ∧ y.cls ≠ "java/lang/invoke/VarHandle" ∧ (parseMethodDescriptor y.desc).map (fun d => d.parameters.length) = some k
def nz_wSN (own : String) (i : Nat) (y : MethodName) (host : String) (cc : ByteArray) (n : Nat) (r : Option FieldType) (k : Nat) : Prop := (own, i, y, host) ∈ nz_nst ∧ Cond.static y ∈ nz_gd ∧ Cond.initialized y.cls ∈ nz_gd ∧ Cond.code y cc n r ∈ nz_gd ∧ y.cls ≠ "java/lang/invoke/MethodHandle" ∧ y.cls ≠ "java/lang/invoke/VarHandle" ∧ (parseMethodDescriptor y.desc).map (fun d => d.parameters.length) = some k
def nz_wIN (own : String) (i : Nat) (y : MethodName) (host : String) (cc : ByteArray) (n : Nat) (k : Nat) : Prop := (own, i, y, host) ∈ nz_nst ∧ Cond.instanceMethod y ∈ nz_gd ∧ Cond.initialized y.cls ∈ nz_gd ∧ Cond.code y cc n none ∈ nz_gd ∧ y.name = "<init>" ∧ y.cls ≠ "java/lang/invoke/MethodHandle" ∧ y.cls ≠ "java/lang/invoke/VarHandle" ∧ (parseMethodDescriptor y.desc).map (fun d => d.parameters.length) = some k
theorem nz_fm {ws : va_W} : ∀ (is : List Nat) (wc : va_W), is.map (fun i => ws[i]?) = wc.map some → is.filterMap (fun i => ws[i]?) = wc := by
  intro is
  induction is with
  | nil => intro wc h; cases wc with
    | nil => rfl
    | cons _ _ => simp at h
  | cons i is ih => intro wc h; cases wc with
    | nil => simp at h
    | cons q wc =>
      simp only [List.map_cons, List.cons.injEq] at h
      simp only [List.filterMap_cons, h.1, ih wc h.2]
section GENC
variable {p : Program} {l : Launch} {e : Env} {R : Room} {s : State} {m : MethodId} {args : Array Value} {below : List Frame} {meth : Method} {c : Code} {H : Heap} {locs : List Loc} {cells slots : Nat} {Q : State → Prop} {pc : Nat} {ls : Array Slot} {rest st0 : List Value}
variable {D : va_G} {cB cI cJ : ClassId} {X : nz_X} {cc : ByteArray} {n : Nat} {r : Option FieldType} {own : String} {A : Nat → Prop} {ws wr : va_W} {y : MethodName} {cc1 : ByteArray} {n1 k1 idx : Nat} {r1 : Option FieldType} {rm1 : Room} {b : Nat} {As : List Value} {wc : va_W} {host : String}
theorem nz_calVi {post : Int32 → va_W → Prop} (C0 : nz_Cx p s m args meth c cc n r own D cB cI cJ) (hM : nz_Ci l D cB cI cJ X y cc1 n1 r1 rm1 (.ref b :: As) wc post) (hw : nz_wV own idx y cc1 n1 r1 k1) (hn : As.length = k1) (hXb : nz_xb X) (hR : rm1.frames + 1 ≤ R.frames ∧ 8 + (n1 + 11) + rm1.locals ≤ R.locals) (hls : ls.size = n) (hP : va_P D nz_cl ws H) (hD : va_D A ws) (hS : va_S A s.heap H locs) (hA : ∀ q : Nat, s.heap.size ≤ q → A q) (isC isR : List Nat) (hC : isC.map (fun i => ws[i]?) = wc.map some) (hRr : isR.map (fun i => ws[i]?) = wr.map some) (hnC : va_nd isC = true) (hnR : va_nd isR = true) (hdis : ∀ i ∈ isR, i ∉ isC) {ci N1 : Nat} {T1 : u_T} {fs : List Value} (hci : nz_cl[ci]? = some (y.cls, T1, N1)) (he : wc[0]? = some (b, .inr (ci, fs))) (hX : ∀ U : State, U.heap = H → s.WarmedH U.vm → X (va_A wc H.size) U) (hst : st0 = As.reverse ++ .ref b :: rest) (hcat : (rest.map fun v => v.category).sum ≤ 8) (hdg : decode cc pc = .ok (.invokevirtual idx, 3)) (hf : cells + rm1.cells ≤ R.cells ∧ slots + rm1.slots ≤ R.slots)
    (kk : ∀ (a : Int32) (u : va_W) (H1 : Heap) (locs1 : List Loc), post a u → va_P D nz_cl (wr ++ u) H1 → va_D A (wr ++ u) → va_S A s.heap H1 locs1 → W p l e R s m args below meth c H1 locs1 (cells + rm1.cells) (slots + rm1.slots) Q (F0 m (pc + 3) ls (.int a :: rest))) : W p l e R s m args below meth c H locs cells slots Q (F0 m pc ls st0) := by
  obtain ⟨hx, hb, -, hml, hown, hts, -, hK⟩ := C0
  obtain ⟨w1, w2, w3, w4, w5, w6⟩ := hw
  have hPc := hP.sub (ws' := wc) isC (nz_fm isC wc hC)
  have hDc := hD.sub (ws' := wc) isC hnC hC
  have hFc := va_free (wc := wc) hD hS hA isC hC
  refine va_calli (va_runV (As := As) (rest := rest) ⟨hx, hb, hml, hown, hts⟩ (hM H.size) ⟨callB_of k1 hts (nz_good w5) rfl rfl rfl (hts _ w4) (hts _ w1) w6 hR, hts _ w2, hts _ w3⟩ ⟨nz_blind hXb, va_recv hK.1 hPc hci he, fun U hU hW => ⟨rfl, by rw [hU], by rw [hU]; exact hPc, nz_k.warm hW hK, hDc.weaken (fun _ _ _ _ => trivial), hX U hU hW⟩⟩ rfl hn hls hst (lv_room hcat) hdg hf) hS (fun q _ h => hFc q h) hFc (fun a u t H1 locs1 ht hvm hw hB hz1 hk1 hS1 => ?_)
  obtain ⟨hP1, hD1⟩ := hB
  rw [ht] at hP1
  obtain ⟨hP2, hD2⟩ := va_join (wr := wr) (w1 := u) hP hD isC isR hC hRr hnR hdis hk1 hFc hP1 hD1
  exact kk a u H1 locs1 hw hP2 hD2 hS1
theorem nz_calVl {post : Int64 → va_W → Prop} (C0 : nz_Cx p s m args meth c cc n r own D cB cI cJ) (hM : nz_Cl l D cB cI cJ X y cc1 n1 r1 rm1 (.ref b :: As) wc post) (hw : nz_wV own idx y cc1 n1 r1 k1) (hn : As.length = k1) (hXb : nz_xb X) (hR : rm1.frames + 1 ≤ R.frames ∧ 8 + (n1 + 11) + rm1.locals ≤ R.locals) (hls : ls.size = n) (hP : va_P D nz_cl ws H) (hD : va_D A ws) (hS : va_S A s.heap H locs) (hA : ∀ q : Nat, s.heap.size ≤ q → A q) (isC isR : List Nat) (hC : isC.map (fun i => ws[i]?) = wc.map some) (hRr : isR.map (fun i => ws[i]?) = wr.map some) (hnC : va_nd isC = true) (hnR : va_nd isR = true) (hdis : ∀ i ∈ isR, i ∉ isC) {ci N1 : Nat} {T1 : u_T} {fs : List Value} (hci : nz_cl[ci]? = some (y.cls, T1, N1)) (he : wc[0]? = some (b, .inr (ci, fs))) (hX : ∀ U : State, U.heap = H → s.WarmedH U.vm → X (va_A wc H.size) U) (hst : st0 = As.reverse ++ .ref b :: rest) (hcat : (rest.map fun v => v.category).sum ≤ 8) (hdg : decode cc pc = .ok (.invokevirtual idx, 3)) (hf : cells + rm1.cells ≤ R.cells ∧ slots + rm1.slots ≤ R.slots)
    (kk : ∀ (a : Int64) (u : va_W) (H1 : Heap) (locs1 : List Loc), post a u → va_P D nz_cl (wr ++ u) H1 → va_D A (wr ++ u) → va_S A s.heap H1 locs1 → W p l e R s m args below meth c H1 locs1 (cells + rm1.cells) (slots + rm1.slots) Q (F0 m (pc + 3) ls (.long a :: rest))) : W p l e R s m args below meth c H locs cells slots Q (F0 m pc ls st0) := by
  obtain ⟨hx, hb, -, hml, hown, hts, -, hK⟩ := C0
  obtain ⟨w1, w2, w3, w4, w5, w6⟩ := hw
  have hPc := hP.sub (ws' := wc) isC (nz_fm isC wc hC)
  have hDc := hD.sub (ws' := wc) isC hnC hC
  have hFc := va_free (wc := wc) hD hS hA isC hC
  refine va_calll (va_runV (As := As) (rest := rest) ⟨hx, hb, hml, hown, hts⟩ (hM H.size) ⟨callB_of k1 hts (nz_good w5) rfl rfl rfl (hts _ w4) (hts _ w1) w6 hR, hts _ w2, hts _ w3⟩ ⟨nz_blind hXb, va_recv hK.1 hPc hci he, fun U hU hW => ⟨rfl, by rw [hU], by rw [hU]; exact hPc, nz_k.warm hW hK, hDc.weaken (fun _ _ _ _ => trivial), hX U hU hW⟩⟩ rfl hn hls hst (lv_room hcat) hdg hf) hS (fun q _ h => hFc q h) hFc (fun a u t H1 locs1 ht hvm hw hB hz1 hk1 hS1 => ?_)
  obtain ⟨hP1, hD1⟩ := hB
  rw [ht] at hP1
  obtain ⟨hP2, hD2⟩ := va_join (wr := wr) (w1 := u) hP hD isC isR hC hRr hnR hdis hk1 hFc hP1 hD1
  exact kk a u H1 locs1 hw hP2 hD2 hS1
theorem nz_calVv {post : va_W → Prop} (C0 : nz_Cx p s m args meth c cc n r own D cB cI cJ) (hM : nz_Cv l D cB cI cJ X y cc1 n1 r1 rm1 (.ref b :: As) wc post) (hw : nz_wV own idx y cc1 n1 r1 k1) (hn : As.length = k1) (hXb : nz_xb X) (hR : rm1.frames + 1 ≤ R.frames ∧ 8 + (n1 + 11) + rm1.locals ≤ R.locals) (hls : ls.size = n) (hP : va_P D nz_cl ws H) (hD : va_D A ws) (hS : va_S A s.heap H locs) (hA : ∀ q : Nat, s.heap.size ≤ q → A q) (isC isR : List Nat) (hC : isC.map (fun i => ws[i]?) = wc.map some) (hRr : isR.map (fun i => ws[i]?) = wr.map some) (hnC : va_nd isC = true) (hnR : va_nd isR = true) (hdis : ∀ i ∈ isR, i ∉ isC) {ci N1 : Nat} {T1 : u_T} {fs : List Value} (hci : nz_cl[ci]? = some (y.cls, T1, N1)) (he : wc[0]? = some (b, .inr (ci, fs))) (hX : ∀ U : State, U.heap = H → s.WarmedH U.vm → X (va_A wc H.size) U) (hst : st0 = As.reverse ++ .ref b :: rest) (hcat : (rest.map fun v => v.category).sum ≤ 8) (hdg : decode cc pc = .ok (.invokevirtual idx, 3)) (hf : cells + rm1.cells ≤ R.cells ∧ slots + rm1.slots ≤ R.slots)
    (kk : ∀ (u : va_W) (H1 : Heap) (locs1 : List Loc), post u → va_P D nz_cl (wr ++ u) H1 → va_D A (wr ++ u) → va_S A s.heap H1 locs1 → W p l e R s m args below meth c H1 locs1 (cells + rm1.cells) (slots + rm1.slots) Q (F0 m (pc + 3) ls (rest))) : W p l e R s m args below meth c H locs cells slots Q (F0 m pc ls st0) := by
  obtain ⟨hx, hb, -, hml, hown, hts, -, hK⟩ := C0
  obtain ⟨w1, w2, w3, w4, w5, w6⟩ := hw
  have hPc := hP.sub (ws' := wc) isC (nz_fm isC wc hC)
  have hDc := hD.sub (ws' := wc) isC hnC hC
  have hFc := va_free (wc := wc) hD hS hA isC hC
  refine va_callv (va_runV (As := As) (rest := rest) ⟨hx, hb, hml, hown, hts⟩ (hM H.size) ⟨callB_of k1 hts (nz_good w5) rfl rfl rfl (hts _ w4) (hts _ w1) w6 hR, hts _ w2, hts _ w3⟩ ⟨nz_blind hXb, va_recv hK.1 hPc hci he, fun U hU hW => ⟨rfl, by rw [hU], by rw [hU]; exact hPc, nz_k.warm hW hK, hDc.weaken (fun _ _ _ _ => trivial), hX U hU hW⟩⟩ rfl hn hls hst (lv_room hcat) hdg hf) hS (fun q _ h => hFc q h) hFc (fun u t H1 locs1 ht hvm hw hB hz1 hk1 hS1 => ?_)
  obtain ⟨hP1, hD1⟩ := hB
  rw [ht] at hP1
  obtain ⟨hP2, hD2⟩ := va_join (wr := wr) (w1 := u) hP hD isC isR hC hRr hnR hdis hk1 hFc hP1 hD1
  exact kk u H1 locs1 hw hP2 hD2 hS1
theorem nz_calVRi {post : Int32 → va_W → Prop} (C0 : nz_Cx p s m args meth c cc n r own D cB cI cJ) (hM : nz_Ci l D cB cI cJ X y cc1 n1 r1 rm1 (.ref b :: As) wc post) (hw : nz_wV own idx y cc1 n1 r1 k1) (hn : As.length = k1) (hXb : nz_xb X) (hR : rm1.frames + 1 ≤ R.frames ∧ 8 + (n1 + 11) + rm1.locals ≤ R.locals) (hls : ls.size = n) (hP : va_P D nz_cl ws H) (hD : va_D A ws) (hS : va_S A s.heap H locs) (hA : ∀ q : Nat, s.heap.size ≤ q → A q) (isC isR : List Nat) (hC : isC.map (fun i => ws[i]?) = wc.map some) (hRr : isR.map (fun i => ws[i]?) = wr.map some) (hnC : va_nd isC = true) (hnR : va_nd isR = true) (hdis : ∀ i ∈ isR, i ∉ isC) (hrc : ∃ cell : Cell, H[b]? = some cell ∧ cell.vm.isStatics = false ∧ s.vm.findClass y.cls = some cell.cls) (hX : ∀ U : State, U.heap = H → s.WarmedH U.vm → X (va_A wc H.size) U) (hst : st0 = As.reverse ++ .ref b :: rest) (hcat : (rest.map fun v => v.category).sum ≤ 8) (hdg : decode cc pc = .ok (.invokevirtual idx, 3)) (hf : cells + rm1.cells ≤ R.cells ∧ slots + rm1.slots ≤ R.slots)
    (kk : ∀ (a : Int32) (u : va_W) (H1 : Heap) (locs1 : List Loc), post a u → va_P D nz_cl (wr ++ u) H1 → va_D A (wr ++ u) → va_S A s.heap H1 locs1 → W p l e R s m args below meth c H1 locs1 (cells + rm1.cells) (slots + rm1.slots) Q (F0 m (pc + 3) ls (.int a :: rest))) : W p l e R s m args below meth c H locs cells slots Q (F0 m pc ls st0) := by
  obtain ⟨hx, hb, -, hml, hown, hts, -, hK⟩ := C0
  obtain ⟨w1, w2, w3, w4, w5, w6⟩ := hw
  have hPc := hP.sub (ws' := wc) isC (nz_fm isC wc hC)
  have hDc := hD.sub (ws' := wc) isC hnC hC
  have hFc := va_free (wc := wc) hD hS hA isC hC
  refine va_calli (va_runV (As := As) (rest := rest) ⟨hx, hb, hml, hown, hts⟩ (hM H.size) ⟨callB_of k1 hts (nz_good w5) rfl rfl rfl (hts _ w4) (hts _ w1) w6 hR, hts _ w2, hts _ w3⟩ ⟨nz_blind hXb, hrc, fun U hU hW => ⟨rfl, by rw [hU], by rw [hU]; exact hPc, nz_k.warm hW hK, hDc.weaken (fun _ _ _ _ => trivial), hX U hU hW⟩⟩ rfl hn hls hst (lv_room hcat) hdg hf) hS (fun q _ h => hFc q h) hFc (fun a u t H1 locs1 ht hvm hw hB hz1 hk1 hS1 => ?_)
  obtain ⟨hP1, hD1⟩ := hB
  rw [ht] at hP1
  obtain ⟨hP2, hD2⟩ := va_join (wr := wr) (w1 := u) hP hD isC isR hC hRr hnR hdis hk1 hFc hP1 hD1
  exact kk a u H1 locs1 hw hP2 hD2 hS1
theorem nz_calSi {post : Int32 → va_W → Prop} (C0 : nz_Cx p s m args meth c cc n r own D cB cI cJ) (hM : nz_Ci l D cB cI cJ X y cc1 n1 r1 rm1 As wc post) (hw : nz_wS own idx y cc1 n1 r1 k1) (hn : As.length = k1) (hXb : nz_xb X) (hR : rm1.frames + 1 ≤ R.frames ∧ 8 + (n1 + 11) + rm1.locals ≤ R.locals) (hls : ls.size = n) (hP : va_P D nz_cl ws H) (hD : va_D A ws) (hS : va_S A s.heap H locs) (hA : ∀ q : Nat, s.heap.size ≤ q → A q) (isC isR : List Nat) (hC : isC.map (fun i => ws[i]?) = wc.map some) (hRr : isR.map (fun i => ws[i]?) = wr.map some) (hnC : va_nd isC = true) (hnR : va_nd isR = true) (hdis : ∀ i ∈ isR, i ∉ isC) (hX : ∀ U : State, U.heap = H → s.WarmedH U.vm → X (va_A wc H.size) U) (hst : st0 = As.reverse ++ rest) (hcat : (rest.map fun v => v.category).sum ≤ 8) (hdg : decode cc pc = .ok (.invokestatic idx, 3)) (hf : cells + rm1.cells ≤ R.cells ∧ slots + rm1.slots ≤ R.slots)
    (kk : ∀ (a : Int32) (u : va_W) (H1 : Heap) (locs1 : List Loc), post a u → va_P D nz_cl (wr ++ u) H1 → va_D A (wr ++ u) → va_S A s.heap H1 locs1 → W p l e R s m args below meth c H1 locs1 (cells + rm1.cells) (slots + rm1.slots) Q (F0 m (pc + 3) ls (.int a :: rest))) : W p l e R s m args below meth c H locs cells slots Q (F0 m pc ls st0) := by
  obtain ⟨hx, hb, -, hml, hown, hts, -, hK⟩ := C0
  obtain ⟨w1, w2, w4, w5, w6⟩ := hw
  have hPc := hP.sub (ws' := wc) isC (nz_fm isC wc hC)
  have hDc := hD.sub (ws' := wc) isC hnC hC
  have hFc := va_free (wc := wc) hD hS hA isC hC
  refine va_calli (va_runS (As := As) (rest := rest) ⟨hx, hb, hml, hown, hts⟩ (hM H.size) ⟨callB_of k1 hts (nz_good w5) rfl rfl rfl (hts _ w4) (hts _ w1) w6 hR, hts _ w2⟩ ⟨nz_blind hXb, fun U hU hW => ⟨rfl, by rw [hU], by rw [hU]; exact hPc, nz_k.warm hW hK, hDc.weaken (fun _ _ _ _ => trivial), hX U hU hW⟩⟩ rfl hn hls hst (lv_room hcat) hdg hf) hS (fun q _ h => hFc q h) hFc (fun a u t H1 locs1 ht hvm hw hB hz1 hk1 hS1 => ?_)
  obtain ⟨hP1, hD1⟩ := hB
  rw [ht] at hP1
  obtain ⟨hP2, hD2⟩ := va_join (wr := wr) (w1 := u) hP hD isC isR hC hRr hnR hdis hk1 hFc hP1 hD1
  exact kk a u H1 locs1 hw hP2 hD2 hS1
theorem nz_calSl {post : Int64 → va_W → Prop} (C0 : nz_Cx p s m args meth c cc n r own D cB cI cJ) (hM : nz_Cl l D cB cI cJ X y cc1 n1 r1 rm1 As wc post) (hw : nz_wS own idx y cc1 n1 r1 k1) (hn : As.length = k1) (hXb : nz_xb X) (hR : rm1.frames + 1 ≤ R.frames ∧ 8 + (n1 + 11) + rm1.locals ≤ R.locals) (hls : ls.size = n) (hP : va_P D nz_cl ws H) (hD : va_D A ws) (hS : va_S A s.heap H locs) (hA : ∀ q : Nat, s.heap.size ≤ q → A q) (isC isR : List Nat) (hC : isC.map (fun i => ws[i]?) = wc.map some) (hRr : isR.map (fun i => ws[i]?) = wr.map some) (hnC : va_nd isC = true) (hnR : va_nd isR = true) (hdis : ∀ i ∈ isR, i ∉ isC) (hX : ∀ U : State, U.heap = H → s.WarmedH U.vm → X (va_A wc H.size) U) (hst : st0 = As.reverse ++ rest) (hcat : (rest.map fun v => v.category).sum ≤ 8) (hdg : decode cc pc = .ok (.invokestatic idx, 3)) (hf : cells + rm1.cells ≤ R.cells ∧ slots + rm1.slots ≤ R.slots)
    (kk : ∀ (a : Int64) (u : va_W) (H1 : Heap) (locs1 : List Loc), post a u → va_P D nz_cl (wr ++ u) H1 → va_D A (wr ++ u) → va_S A s.heap H1 locs1 → W p l e R s m args below meth c H1 locs1 (cells + rm1.cells) (slots + rm1.slots) Q (F0 m (pc + 3) ls (.long a :: rest))) : W p l e R s m args below meth c H locs cells slots Q (F0 m pc ls st0) := by
  obtain ⟨hx, hb, -, hml, hown, hts, -, hK⟩ := C0
  obtain ⟨w1, w2, w4, w5, w6⟩ := hw
  have hPc := hP.sub (ws' := wc) isC (nz_fm isC wc hC)
  have hDc := hD.sub (ws' := wc) isC hnC hC
  have hFc := va_free (wc := wc) hD hS hA isC hC
  refine va_calll (va_runS (As := As) (rest := rest) ⟨hx, hb, hml, hown, hts⟩ (hM H.size) ⟨callB_of k1 hts (nz_good w5) rfl rfl rfl (hts _ w4) (hts _ w1) w6 hR, hts _ w2⟩ ⟨nz_blind hXb, fun U hU hW => ⟨rfl, by rw [hU], by rw [hU]; exact hPc, nz_k.warm hW hK, hDc.weaken (fun _ _ _ _ => trivial), hX U hU hW⟩⟩ rfl hn hls hst (lv_room hcat) hdg hf) hS (fun q _ h => hFc q h) hFc (fun a u t H1 locs1 ht hvm hw hB hz1 hk1 hS1 => ?_)
  obtain ⟨hP1, hD1⟩ := hB
  rw [ht] at hP1
  obtain ⟨hP2, hD2⟩ := va_join (wr := wr) (w1 := u) hP hD isC isR hC hRr hnR hdis hk1 hFc hP1 hD1
  exact kk a u H1 locs1 hw hP2 hD2 hS1
theorem nz_calSv {post : va_W → Prop} (C0 : nz_Cx p s m args meth c cc n r own D cB cI cJ) (hM : nz_Cv l D cB cI cJ X y cc1 n1 r1 rm1 As wc post) (hw : nz_wS own idx y cc1 n1 r1 k1) (hn : As.length = k1) (hXb : nz_xb X) (hR : rm1.frames + 1 ≤ R.frames ∧ 8 + (n1 + 11) + rm1.locals ≤ R.locals) (hls : ls.size = n) (hP : va_P D nz_cl ws H) (hD : va_D A ws) (hS : va_S A s.heap H locs) (hA : ∀ q : Nat, s.heap.size ≤ q → A q) (isC isR : List Nat) (hC : isC.map (fun i => ws[i]?) = wc.map some) (hRr : isR.map (fun i => ws[i]?) = wr.map some) (hnC : va_nd isC = true) (hnR : va_nd isR = true) (hdis : ∀ i ∈ isR, i ∉ isC) (hX : ∀ U : State, U.heap = H → s.WarmedH U.vm → X (va_A wc H.size) U) (hst : st0 = As.reverse ++ rest) (hcat : (rest.map fun v => v.category).sum ≤ 8) (hdg : decode cc pc = .ok (.invokestatic idx, 3)) (hf : cells + rm1.cells ≤ R.cells ∧ slots + rm1.slots ≤ R.slots)
    (kk : ∀ (u : va_W) (H1 : Heap) (locs1 : List Loc), post u → va_P D nz_cl (wr ++ u) H1 → va_D A (wr ++ u) → va_S A s.heap H1 locs1 → W p l e R s m args below meth c H1 locs1 (cells + rm1.cells) (slots + rm1.slots) Q (F0 m (pc + 3) ls (rest))) : W p l e R s m args below meth c H locs cells slots Q (F0 m pc ls st0) := by
  obtain ⟨hx, hb, -, hml, hown, hts, -, hK⟩ := C0
  obtain ⟨w1, w2, w4, w5, w6⟩ := hw
  have hPc := hP.sub (ws' := wc) isC (nz_fm isC wc hC)
  have hDc := hD.sub (ws' := wc) isC hnC hC
  have hFc := va_free (wc := wc) hD hS hA isC hC
  refine va_callv (va_runS (As := As) (rest := rest) ⟨hx, hb, hml, hown, hts⟩ (hM H.size) ⟨callB_of k1 hts (nz_good w5) rfl rfl rfl (hts _ w4) (hts _ w1) w6 hR, hts _ w2⟩ ⟨nz_blind hXb, fun U hU hW => ⟨rfl, by rw [hU], by rw [hU]; exact hPc, nz_k.warm hW hK, hDc.weaken (fun _ _ _ _ => trivial), hX U hU hW⟩⟩ rfl hn hls hst (lv_room hcat) hdg hf) hS (fun q _ h => hFc q h) hFc (fun u t H1 locs1 ht hvm hw hB hz1 hk1 hS1 => ?_)
  obtain ⟨hP1, hD1⟩ := hB
  rw [ht] at hP1
  obtain ⟨hP2, hD2⟩ := va_join (wr := wr) (w1 := u) hP hD isC isR hC hRr hnR hdis hk1 hFc hP1 hD1
  exact kk u H1 locs1 hw hP2 hD2 hS1
theorem nz_calIv {post : va_W → Prop} (C0 : nz_Cx p s m args meth c cc n r own D cB cI cJ) (hM : nz_Cv l D cB cI cJ X y cc1 n1 none rm1 (.ref b :: As) wc post) (hw : nz_wI own idx y cc1 n1 k1) (hn : As.length = k1) (hXb : nz_xb X) (hR : rm1.frames + 1 ≤ R.frames ∧ 8 + (n1 + 11) + rm1.locals ≤ R.locals) (hls : ls.size = n) (hP : va_P D nz_cl ws H) (hD : va_D A ws) (hS : va_S A s.heap H locs) (hA : ∀ q : Nat, s.heap.size ≤ q → A q) (isC isR : List Nat) (hC : isC.map (fun i => ws[i]?) = wc.map some) (hRr : isR.map (fun i => ws[i]?) = wr.map some) (hnC : va_nd isC = true) (hnR : va_nd isR = true) (hdis : ∀ i ∈ isR, i ∉ isC) (hX : ∀ U : State, U.heap = H → s.WarmedH U.vm → X (va_A wc H.size) U) (hst : st0 = As.reverse ++ .ref b :: rest) (hcat : (rest.map fun v => v.category).sum ≤ 8) (hdg : decode cc pc = .ok (.invokespecial idx, 3)) (hf : cells + rm1.cells ≤ R.cells ∧ slots + rm1.slots ≤ R.slots)
    (kk : ∀ (u : va_W) (H1 : Heap) (locs1 : List Loc), post u → va_P D nz_cl (wr ++ u) H1 → va_D A (wr ++ u) → va_S A s.heap H1 locs1 → W p l e R s m args below meth c H1 locs1 (cells + rm1.cells) (slots + rm1.slots) Q (F0 m (pc + 3) ls (rest))) : W p l e R s m args below meth c H locs cells slots Q (F0 m pc ls st0) := by
  obtain ⟨hx, hb, -, hml, hown, hts, -, hK⟩ := C0
  obtain ⟨w1, w2, w4, w5, w3, w6⟩ := hw
  have hPc := hP.sub (ws' := wc) isC (nz_fm isC wc hC)
  have hDc := hD.sub (ws' := wc) isC hnC hC
  have hFc := va_free (wc := wc) hD hS hA isC hC
  refine va_callv (va_runI (As := As) (rest := rest) ⟨hx, hb, hml, hown, hts⟩ (hM H.size) ⟨callB_of k1 hts (nz_good w5) rfl rfl rfl (hts _ w4) (hts _ w1) w6 hR, w3, hts _ w2⟩ ⟨nz_blind hXb, fun U hU hW => ⟨rfl, by rw [hU], by rw [hU]; exact hPc, nz_k.warm hW hK, hDc.weaken (fun _ _ _ _ => trivial), hX U hU hW⟩⟩ rfl hn hls hst (lv_room hcat) hdg hf) hS (fun q _ h => hFc q h) hFc (fun u t H1 locs1 ht hvm hw hB hz1 hk1 hS1 => ?_)
  obtain ⟨hP1, hD1⟩ := hB
  rw [ht] at hP1
  obtain ⟨hP2, hD2⟩ := va_join (wr := wr) (w1 := u) hP hD isC isR hC hRr hnR hdis hk1 hFc hP1 hD1
  exact kk u H1 locs1 hw hP2 hD2 hS1
theorem nz_calSNi {post : Int32 → va_W → Prop} (C0 : nz_Cx p s m args meth c cc n r own D cB cI cJ) (hM : nz_Ci l D cB cI cJ X y cc1 n1 r1 rm1 As wc post) (hw : nz_wSN own idx y host cc1 n1 r1 k1) (hn : As.length = k1) (hXb : nz_xb X) (hR : rm1.frames + 1 ≤ R.frames ∧ 8 + (n1 + 11) + rm1.locals ≤ R.locals) (hls : ls.size = n) (hP : va_P D nz_cl ws H) (hD : va_D A ws) (hS : va_S A s.heap H locs) (hA : ∀ q : Nat, s.heap.size ≤ q → A q) (isC isR : List Nat) (hC : isC.map (fun i => ws[i]?) = wc.map some) (hRr : isR.map (fun i => ws[i]?) = wr.map some) (hnC : va_nd isC = true) (hnR : va_nd isR = true) (hdis : ∀ i ∈ isR, i ∉ isC) (hX : ∀ U : State, U.heap = H → s.WarmedH U.vm → X (va_A wc H.size) U) (hst : st0 = As.reverse ++ rest) (hcat : (rest.map fun v => v.category).sum ≤ 8) (hdg : decode cc pc = .ok (.invokestatic idx, 3)) (hf : cells + rm1.cells ≤ R.cells ∧ slots + rm1.slots ≤ R.slots)
    (kk : ∀ (a : Int32) (u : va_W) (H1 : Heap) (locs1 : List Loc), post a u → va_P D nz_cl (wr ++ u) H1 → va_D A (wr ++ u) → va_S A s.heap H1 locs1 → W p l e R s m args below meth c H1 locs1 (cells + rm1.cells) (slots + rm1.slots) Q (F0 m (pc + 3) ls (.int a :: rest))) : W p l e R s m args below meth c H locs cells slots Q (F0 m pc ls st0) := by
  obtain ⟨hx, hb, -, hml, hown, hts, -, hK⟩ := C0
  obtain ⟨w1, w2, w4, w5, w6⟩ := hw
  have hPc := hP.sub (ws' := wc) isC (nz_fm isC wc hC)
  have hDc := hD.sub (ws' := wc) isC hnC hC
  have hFc := va_free (wc := wc) hD hS hA isC hC
  refine va_calli (va_runSN (As := As) (rest := rest) ⟨hx, hb, hml, hown, hts⟩ (hM H.size) ⟨va_cnB (host := host) k1 hts (nz_good w5) rfl rfl rfl (hK.2 _ w1) (hts _ w4) w6 hR, hts _ w2, trivial⟩ ⟨nz_blind hXb, fun U hU hW => ⟨rfl, by rw [hU], by rw [hU]; exact hPc, nz_k.warm hW hK, hDc.weaken (fun _ _ _ _ => trivial), hX U hU hW⟩⟩ rfl hn hls hst (lv_room hcat) hdg hf) hS (fun q _ h => hFc q h) hFc (fun a u t H1 locs1 ht hvm hw hB hz1 hk1 hS1 => ?_)
  obtain ⟨hP1, hD1⟩ := hB
  rw [ht] at hP1
  obtain ⟨hP2, hD2⟩ := va_join (wr := wr) (w1 := u) hP hD isC isR hC hRr hnR hdis hk1 hFc hP1 hD1
  exact kk a u H1 locs1 hw hP2 hD2 hS1
theorem nz_calSNl {post : Int64 → va_W → Prop} (C0 : nz_Cx p s m args meth c cc n r own D cB cI cJ) (hM : nz_Cl l D cB cI cJ X y cc1 n1 r1 rm1 As wc post) (hw : nz_wSN own idx y host cc1 n1 r1 k1) (hn : As.length = k1) (hXb : nz_xb X) (hR : rm1.frames + 1 ≤ R.frames ∧ 8 + (n1 + 11) + rm1.locals ≤ R.locals) (hls : ls.size = n) (hP : va_P D nz_cl ws H) (hD : va_D A ws) (hS : va_S A s.heap H locs) (hA : ∀ q : Nat, s.heap.size ≤ q → A q) (isC isR : List Nat) (hC : isC.map (fun i => ws[i]?) = wc.map some) (hRr : isR.map (fun i => ws[i]?) = wr.map some) (hnC : va_nd isC = true) (hnR : va_nd isR = true) (hdis : ∀ i ∈ isR, i ∉ isC) (hX : ∀ U : State, U.heap = H → s.WarmedH U.vm → X (va_A wc H.size) U) (hst : st0 = As.reverse ++ rest) (hcat : (rest.map fun v => v.category).sum ≤ 8) (hdg : decode cc pc = .ok (.invokestatic idx, 3)) (hf : cells + rm1.cells ≤ R.cells ∧ slots + rm1.slots ≤ R.slots)
    (kk : ∀ (a : Int64) (u : va_W) (H1 : Heap) (locs1 : List Loc), post a u → va_P D nz_cl (wr ++ u) H1 → va_D A (wr ++ u) → va_S A s.heap H1 locs1 → W p l e R s m args below meth c H1 locs1 (cells + rm1.cells) (slots + rm1.slots) Q (F0 m (pc + 3) ls (.long a :: rest))) : W p l e R s m args below meth c H locs cells slots Q (F0 m pc ls st0) := by
  obtain ⟨hx, hb, -, hml, hown, hts, -, hK⟩ := C0
  obtain ⟨w1, w2, w4, w5, w6⟩ := hw
  have hPc := hP.sub (ws' := wc) isC (nz_fm isC wc hC)
  have hDc := hD.sub (ws' := wc) isC hnC hC
  have hFc := va_free (wc := wc) hD hS hA isC hC
  refine va_calll (va_runSN (As := As) (rest := rest) ⟨hx, hb, hml, hown, hts⟩ (hM H.size) ⟨va_cnB (host := host) k1 hts (nz_good w5) rfl rfl rfl (hK.2 _ w1) (hts _ w4) w6 hR, hts _ w2, trivial⟩ ⟨nz_blind hXb, fun U hU hW => ⟨rfl, by rw [hU], by rw [hU]; exact hPc, nz_k.warm hW hK, hDc.weaken (fun _ _ _ _ => trivial), hX U hU hW⟩⟩ rfl hn hls hst (lv_room hcat) hdg hf) hS (fun q _ h => hFc q h) hFc (fun a u t H1 locs1 ht hvm hw hB hz1 hk1 hS1 => ?_)
  obtain ⟨hP1, hD1⟩ := hB
  rw [ht] at hP1
  obtain ⟨hP2, hD2⟩ := va_join (wr := wr) (w1 := u) hP hD isC isR hC hRr hnR hdis hk1 hFc hP1 hD1
  exact kk a u H1 locs1 hw hP2 hD2 hS1
theorem nz_calINv {post : va_W → Prop} (C0 : nz_Cx p s m args meth c cc n r own D cB cI cJ) (hM : nz_Cv l D cB cI cJ X y cc1 n1 none rm1 (.ref b :: As) wc post) (hw : nz_wIN own idx y host cc1 n1 k1) (hn : As.length = k1) (hXb : nz_xb X) (hR : rm1.frames + 1 ≤ R.frames ∧ 8 + (n1 + 11) + rm1.locals ≤ R.locals) (hls : ls.size = n) (hP : va_P D nz_cl ws H) (hD : va_D A ws) (hS : va_S A s.heap H locs) (hA : ∀ q : Nat, s.heap.size ≤ q → A q) (isC isR : List Nat) (hC : isC.map (fun i => ws[i]?) = wc.map some) (hRr : isR.map (fun i => ws[i]?) = wr.map some) (hnC : va_nd isC = true) (hnR : va_nd isR = true) (hdis : ∀ i ∈ isR, i ∉ isC) (hX : ∀ U : State, U.heap = H → s.WarmedH U.vm → X (va_A wc H.size) U) (hst : st0 = As.reverse ++ .ref b :: rest) (hcat : (rest.map fun v => v.category).sum ≤ 8) (hdg : decode cc pc = .ok (.invokespecial idx, 3)) (hf : cells + rm1.cells ≤ R.cells ∧ slots + rm1.slots ≤ R.slots)
    (kk : ∀ (u : va_W) (H1 : Heap) (locs1 : List Loc), post u → va_P D nz_cl (wr ++ u) H1 → va_D A (wr ++ u) → va_S A s.heap H1 locs1 → W p l e R s m args below meth c H1 locs1 (cells + rm1.cells) (slots + rm1.slots) Q (F0 m (pc + 3) ls (rest))) : W p l e R s m args below meth c H locs cells slots Q (F0 m pc ls st0) := by
  obtain ⟨hx, hb, -, hml, hown, hts, -, hK⟩ := C0
  obtain ⟨w1, w2, w4, w5, w3, w6⟩ := hw
  have hPc := hP.sub (ws' := wc) isC (nz_fm isC wc hC)
  have hDc := hD.sub (ws' := wc) isC hnC hC
  have hFc := va_free (wc := wc) hD hS hA isC hC
  refine va_callv (va_runIN (As := As) (rest := rest) ⟨hx, hb, hml, hown, hts⟩ (hM H.size) ⟨va_cnB (host := host) k1 hts (nz_good w5) rfl rfl rfl (hK.2 _ w1) (hts _ w4) w6 hR, w3, hts _ w2⟩ ⟨nz_blind hXb, fun U hU hW => ⟨rfl, by rw [hU], by rw [hU]; exact hPc, nz_k.warm hW hK, hDc.weaken (fun _ _ _ _ => trivial), hX U hU hW⟩⟩ rfl hn hls hst (lv_room hcat) hdg hf) hS (fun q _ h => hFc q h) hFc (fun u t H1 locs1 ht hvm hw hB hz1 hk1 hS1 => ?_)
  obtain ⟨hP1, hD1⟩ := hB
  rw [ht] at hP1
  obtain ⟨hP2, hD2⟩ := va_join (wr := wr) (w1 := u) hP hD isC isR hC hRr hnR hdis hk1 hFc hP1 hD1
  exact kk u H1 locs1 hw hP2 hD2 hS1
/-- returns -/
theorem nz_reti {post : Int32 → va_W → Prop} {v : Int32} {w : va_W} (C0 : nz_Cx p s m args meth c cc n (some .int) own D cB cI cJ) (hP : va_P D nz_cl w H) (hD : va_D A w) (hS : va_S A s.heap H locs) (hp : post v w) (hdg : decode cc pc = .ok (.ireturn, 1)) : W p l e R s m args below meth c H locs cells slots (MQ below (va_Qi post (nz_bw D A) A) args s cells slots A) (F0 m pc ls [.int v]) :=
  W.iret C0.1 C0.2.1 C0.2.2.1 (fun t ht hW => ⟨⟨v, w, rfl, hp, by rw [ht]; exact hP, hD⟩, hS.F ht⟩) hS.2.2 hdg C0.2.2.2.2.2.2.1
theorem nz_retz {post : Int32 → va_W → Prop} {v : Int32} {w : va_W} {ty : FieldType} (C0 : nz_Cx p s m args meth c cc n (some ty) own D cB cI cJ) (hn : narrow ty (.int v) = .int v) (hP : va_P D nz_cl w H) (hD : va_D A w) (hS : va_S A s.heap H locs) (hp : post v w) (hdg : decode cc pc = .ok (.ireturn, 1)) : W p l e R s m args below meth c H locs cells slots (MQ below (va_Qi post (nz_bw D A) A) args s cells slots A) (F0 m pc ls [.int v]) :=
  W.zret C0.1 C0.2.1 C0.2.2.1 hn (fun t ht hW => ⟨⟨v, w, rfl, hp, by rw [ht]; exact hP, hD⟩, hS.F ht⟩) hS.2.2 hdg C0.2.2.2.2.2.2.1
theorem nz_retl {post : Int64 → va_W → Prop} {v : Int64} {w : va_W} (C0 : nz_Cx p s m args meth c cc n (some .long) own D cB cI cJ) (hP : va_P D nz_cl w H) (hD : va_D A w) (hS : va_S A s.heap H locs) (hp : post v w) (hdg : decode cc pc = .ok (.lreturn, 1)) : W p l e R s m args below meth c H locs cells slots (MQ below (va_Ql post (nz_bw D A) A) args s cells slots A) (F0 m pc ls [.long v]) :=
  W.lret C0.1 C0.2.1 C0.2.2.1 (fun t ht hW => ⟨⟨v, w, rfl, hp, by rw [ht]; exact hP, hD⟩, hS.F ht⟩) hS.2.2 hdg C0.2.2.2.2.2.2.1
theorem nz_retv {post : va_W → Prop} {w : va_W} (C0 : nz_Cx p s m args meth c cc n none own D cB cI cJ) (hP : va_P D nz_cl w H) (hD : va_D A w) (hS : va_S A s.heap H locs) (hp : post w) (hdg : decode cc pc = .ok (.return_, 1)) : W p l e R s m args below meth c H locs cells slots (MQ below (va_Qv post (nz_bw D A) A) args s cells slots A) (F0 m pc ls []) :=
  W.vret C0.1 C0.2.1 C0.2.2.1 (fun t ht hW => ⟨⟨w, rfl, hp, by rw [ht]; exact hP, hD⟩, hS.F ht⟩) hS.2.2 hdg C0.2.2.2.2.2.2.1
/-- a new array -/
theorem nz_newz (C0 : nz_Cx p s m args meth c cc n r own D cB cI cJ) (hP : va_P D nz_cl ws H) (hD : va_D A ws) (hS : va_S A s.heap H locs) (hA : ∀ q : Nat, s.heap.size ≤ q → A q) {atype : ArrayType} {ty : FieldType} (harr : Cond.arrayClass ty ∈ nz_gd) (hty : newarray.typeOf atype = ty) (t0 : Nat) {cA : ClassId} (ht : (nz_ty cB cI cJ)[t0]? = some (cA, ty)) {k : Int32} {N' : Nat} {a0 : vp_A} (ha : ∀ cA : ClassId, vp_cell cA a0 = arrV cA N' (fun _ => defaultValue ty)) (hk0 : ¬ k < 0) (hN : k.toNatClampNeg = N') (hbytes : N' * componentBytes ty ≤ 536870912) (hcells : cells + 1 ≤ R.cells) (hslots : slots + N' ≤ R.slots) (hdg : decode cc pc = .ok (.newarray atype, 2))
    (kk : ∀ (q : Nat) (H1 : Heap), va_P D nz_cl (ws ++ [(q, .inl (cA, a0))]) H1 → va_D A (ws ++ [(q, .inl (cA, a0))]) → va_S A s.heap H1 locs → W p l e R s m args below meth c H1 locs (cells + 1) (slots + N') Q (F0 m (pc + 2) ls (.ref q :: rest))) : W p l e R s m args below meth c H locs cells slots Q (F0 m pc ls (.int k :: rest)) := by
  obtain ⟨hx, hb, -, hml, hown, hts, -, hK⟩ := C0
  refine va_newa hx hb (ty := ty) (by rw [hty]; exact hts _ harr) hty hK.1 hP hD hS hA ha hk0 hN hbytes hcells hslots hdg (fun q cB1 H1 hK1 hP1 hD1 hS1 => ?_)
  have e1 := (hK1.2 t0 (cA, ty) (by
    match t0, ht with
    | 0, ht => exact ht
    | 1, ht => exact ht
    | 2, ht => exact ht
    | t + 3, ht => simp [nz_ty] at ht)).2
  have e2 := (hK1.2 3 (cB1, ty) rfl).2
  have e : cB1 = cA := by
    subst hty
    cases atype <;> exact Option.some.inj (e2.symm.trans e1)
  subst e
  exact kk q H1 hP1 hD1 hS1
end GENC
section GENS
variable {p : Program} {l : Launch} {e : Env} {R : Room} {s : State} {m : MethodId} {args : Array Value} {below : List Frame} {meth : Method} {c : Code} {H : Heap} {locs : List Loc} {cells slots : Nat} {Q : State → Prop}
variable {cc : ByteArray} {pc : Nat} {ls : Array Slot} {rest : List Value} {D : va_G} {cl : List vw_C} {A : Nat → Prop} {a : Nat} {tys : List (ClassId × FieldType)} {ws : va_W} {H0 : Heap}
theorem nz_ctopi {x v : Int32} (h : x = v) (k : W p l e R s m args below meth c H locs cells slots Q (F0 m pc ls (.int v :: rest))) : W p l e R s m args below meth c H locs cells slots Q (F0 m pc ls (.int x :: rest)) := by subst h; exact k
theorem nz_ctopl {x v : Int64} (h : x = v) (k : W p l e R s m args below meth c H locs cells slots Q (F0 m pc ls (.long v :: rest))) : W p l e R s m args below meth c H locs cells slots Q (F0 m pc ls (.long x :: rest)) := by subst h; exact k
theorem nz_iastE (hexec : p.tables.exec = Jvm.exec) (hb : c.code = cc) (hK : va_K D cl tys s) (hP : va_P D cl ws H) (hD : va_D A ws) (hS : va_S A H0 H locs) (q0 t0 : Nat) {cA : ClassId} {n : Nat} {f : Nat → Int32} (ha : ws[q0]? = some (a, .inl (cA, n, .inl f))) (ht : tys[t0]? = some (cA, .int)) {i : Int32} {x : Int32} (hin : vp_in i n) (hdg : decode cc pc = .ok (.iastore, 1))
    (kk : ∀ (H1 : Heap) (locs1 : List Loc) (g : Nat → Int32), g = upd f i.toNatClampNeg x → va_P D cl (ws.set q0 (a, .inl (cA, n, .inl g))) H1 → va_D A (ws.set q0 (a, .inl (cA, n, .inl g))) → va_S A H0 H1 locs1 → W p l e R s m args below meth c H1 locs1 cells slots Q (F0 m (pc + 1) ls rest)) : W p l e R s m args below meth c H locs cells slots Q (F0 m pc ls (.int x :: .int i :: .ref a :: rest)) :=
  va_iast hexec hb hK hP hD hS q0 t0 ha ht hin hdg (fun H1 locs1 h1 h2 h3 => kk H1 locs1 _ rfl h1 h2 h3)
theorem nz_bastE (hexec : p.tables.exec = Jvm.exec) (hb : c.code = cc) (hK : va_K D cl tys s) (hP : va_P D cl ws H) (hD : va_D A ws) (hS : va_S A H0 H locs) (q0 t0 : Nat) {cA : ClassId} {n : Nat} {f : Nat → Int32} (ha : ws[q0]? = some (a, .inl (cA, n, .inl f))) (ht : tys[t0]? = some (cA, .byte)) {i : Int32} {x : Int32} (hin : vp_in i n) (hdg : decode cc pc = .ok (.bastore, 1))
    (kk : ∀ (H1 : Heap) (locs1 : List Loc) (g : Nat → Int32), g = upd f i.toNatClampNeg (vp_nar .byte x) → va_P D cl (ws.set q0 (a, .inl (cA, n, .inl g))) H1 → va_D A (ws.set q0 (a, .inl (cA, n, .inl g))) → va_S A H0 H1 locs1 → W p l e R s m args below meth c H1 locs1 cells slots Q (F0 m (pc + 1) ls rest)) : W p l e R s m args below meth c H locs cells slots Q (F0 m pc ls (.int x :: .int i :: .ref a :: rest)) :=
  va_bast hexec hb hK hP hD hS q0 t0 ha ht hin hdg (fun H1 locs1 h1 h2 h3 => kk H1 locs1 _ rfl h1 h2 h3)
theorem nz_lastE (hexec : p.tables.exec = Jvm.exec) (hb : c.code = cc) (hK : va_K D cl tys s) (hP : va_P D cl ws H) (hD : va_D A ws) (hS : va_S A H0 H locs) (q0 t0 : Nat) {cA : ClassId} {n : Nat} {f : Nat → Int64} (ha : ws[q0]? = some (a, .inl (cA, n, .inr (.inl f)))) (ht : tys[t0]? = some (cA, .long)) {i : Int32} {x : Int64} (hin : vp_in i n) (hdg : decode cc pc = .ok (.lastore, 1))
    (kk : ∀ (H1 : Heap) (locs1 : List Loc) (g : Nat → Int64), va_P D cl (ws.set q0 (a, .inl (cA, n, .inr (.inl g)))) H1 → va_D A (ws.set q0 (a, .inl (cA, n, .inr (.inl g)))) → va_S A H0 H1 locs1 → W p l e R s m args below meth c H1 locs1 cells slots Q (F0 m (pc + 1) ls rest)) : W p l e R s m args below meth c H locs cells slots Q (F0 m pc ls (.long x :: .int i :: .ref a :: rest)) :=
  va_last hexec hb hK hP hD hS q0 t0 ha ht hin hdg (fun H1 locs1 h1 h2 h3 => kk H1 locs1 _ h1 h2 h3)
theorem nz_upd0 (k : Nat) : upd (fun _ => 0) k 0 = (fun _ => (0 : Int32)) := by funext j; unfold upd; split <;> rfl
theorem nz_iastZ (hexec : p.tables.exec = Jvm.exec) (hb : c.code = cc) (hK : va_K D cl tys s) (hP : va_P D cl ws H) (hD : va_D A ws) (hS : va_S A H0 H locs) (q0 t0 : Nat) {cA : ClassId} {n : Nat} (ha : ws[q0]? = some (a, .inl (cA, n, .inl (fun _ => 0)))) (ht : tys[t0]? = some (cA, .int)) {i : Int32} (hin : vp_in i n) (hdg : decode cc pc = .ok (.iastore, 1))
    (kk : ∀ (H1 : Heap) (locs1 : List Loc) (g : Nat → Int32), g = (fun _ => 0) → va_P D cl (ws.set q0 (a, .inl (cA, n, .inl g))) H1 → va_D A (ws.set q0 (a, .inl (cA, n, .inl g))) → va_S A H0 H1 locs1 → W p l e R s m args below meth c H1 locs1 cells slots Q (F0 m (pc + 1) ls rest)) : W p l e R s m args below meth c H locs cells slots Q (F0 m pc ls (.int 0 :: .int i :: .ref a :: rest)) :=
  va_iast hexec hb hK hP hD hS q0 t0 ha ht hin hdg (fun H1 locs1 h1 h2 h3 => kk H1 locs1 _ (nz_upd0 _) h1 h2 h3)
theorem nz_vin {i : Int32} {n : Nat} (h : ¬ i < 0 ∧ i.toNatClampNeg < n) : vp_in i n := fun q => q.elim h.1 (fun q => absurd h.2 (Nat.not_lt.mpr q))
theorem nz_cmp_self (x : Int64) : lg_cmp x x = 0 := (lg_cmp_eq x x).mpr rfl
end GENS

