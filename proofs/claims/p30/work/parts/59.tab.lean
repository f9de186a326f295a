/-! ===== the three tables: static arrays that nobody writes ===== -/
def zFi (j : Nat) : Int32 := if j = 0 then 4 else if j = 1 then 5 else if j = 2 then 100 else if j = 3 then 1 else if j = 4 then 2 else 0
def zLe (j : Nat) : Int32 := if j = 0 then 2 else if j = 1 then 1 else if j = 2 then 1 else 0
def zGr (j : Nat) : Int32 := if j = 0 then 8 else if j = 1 then 50 else if j = 2 then 1000 else if j = 3 then 20 else if j = 4 then 50 else 1
def zTabs (A : Nat → Prop) (U : State) (H : Heap) : Prop := ∃ t1 t2 t3 : Nat, (va_Z "ClusterField$Network" "FIRST" "[I" (.ref t1) A U H ∧ va_T .int t1 6 (fun j => .int (zFi j)) A U H) ∧ (va_Z "ClusterField$Network" "LEAST" "[I" (.ref t2) A U H ∧ va_T .int t2 6 (fun j => .int (zLe j)) A U H) ∧ (va_Z "ClusterField$Network" "GREATEST" "[I" (.ref t3) A U H ∧ va_T .int t3 6 (fun j => .int (zGr j)) A U H)
theorem zTabs.moved {A : Nat → Prop} {u U : State} {H : Heap} (hvm : u.vm.Alike U.vm) (h : zTabs A u H) : zTabs A U H := by
  obtain ⟨t1, t2, t3, ⟨a1, a2⟩, ⟨b1, b2⟩, c1, c2⟩ := h
  exact ⟨t1, t2, t3, ⟨a1.moved hvm, a2.moved hvm⟩, ⟨b1.moved hvm, b2.moved hvm⟩, c1.moved hvm, c2.moved hvm⟩
theorem zTabs.kept {A : Nat → Prop} {U : State} {H H1 : Heap} (h : zTabs A U H) (hq : ∀ a : Nat, a < H.size → ¬ A a → H1[a]? = H[a]?) : zTabs A U H1 := by
  obtain ⟨t1, t2, t3, ⟨a1, a2⟩, ⟨b1, b2⟩, c1, c2⟩ := h
  exact ⟨t1, t2, t3, ⟨a1.kept hq, a2.kept hq⟩, ⟨b1.kept hq, b2.kept hq⟩, c1.kept hq, c2.kept hq⟩
theorem zTabs.narrow {A B : Nat → Prop} {U : State} {H : Heap} (h : zTabs A U H) (hAB : ∀ q, B q → A q) : zTabs B U H := by
  obtain ⟨t1, t2, t3, ⟨a1, a2⟩, ⟨b1, b2⟩, c1, c2⟩ := h
  exact ⟨t1, t2, t3, ⟨a1.narrow hAB, a2.narrow hAB⟩, ⟨b1.narrow hAB, b2.narrow hAB⟩, c1.narrow hAB, c2.narrow hAB⟩
theorem zTabs_of {args : Array Value} {s : State} {A : Nat → Prop} (hA : ∀ a : Nat, a < s.heap.size → ¬ A a) (hi : (Cond.initialized "ClusterField$Network").before args s = true) (hl1 : (Cond.laysStatic "ClusterField$Network" "FIRST" "[I").before args s = true) (hl2 : (Cond.laysStatic "ClusterField$Network" "LEAST" "[I").before args s = true) (hl3 : (Cond.laysStatic "ClusterField$Network" "GREATEST" "[I").before args s = true) (h : (Jvm.Cond.and given_1 narrow_1).before args s = true) : zTabs A s s.heap := by
  have hs := flat_of_before _ h
  have six : ∀ j : Nat, j < 6 → j = 0 ∨ j = 1 ∨ j = 2 ∨ j = 3 ∨ j = 4 ∨ j = 5 := fun j hj => by omega
  obtain ⟨t1, e1, T1⟩ := va_Tof (A := A) (tm := .static "ClusterField$Network" "FIRST" "[I") (ty := .int) (N := 6) (f := fun j => .int (zFi j)) (by decide) (hs _ (by decide +kernel)) (va_eqt (hs _ (by decide +kernel))) (fun j hj => by rcases six j hj with rfl | rfl | rfl | rfl | rfl | rfl <;> exact va_eqt (hs _ (by decide +kernel))) hA
  obtain ⟨t2, e2, T2⟩ := va_Tof (A := A) (tm := .static "ClusterField$Network" "LEAST" "[I") (ty := .int) (N := 6) (f := fun j => .int (zLe j)) (by decide) (hs _ (by decide +kernel)) (va_eqt (hs _ (by decide +kernel))) (fun j hj => by rcases six j hj with rfl | rfl | rfl | rfl | rfl | rfl <;> exact va_eqt (hs _ (by decide +kernel))) hA
  obtain ⟨t3, e3, T3⟩ := va_Tof (A := A) (tm := .static "ClusterField$Network" "GREATEST" "[I") (ty := .int) (N := 6) (f := fun j => .int (zGr j)) (by decide) (hs _ (by decide +kernel)) (va_eqt (hs _ (by decide +kernel))) (fun j hj => by rcases six j hj with rfl | rfl | rfl | rfl | rfl | rfl <;> exact va_eqt (hs _ (by decide +kernel))) hA
  exact ⟨t1, t2, t3, ⟨va_Zref hl1 hi e1 hA, T1⟩, ⟨va_Zref hl2 hi e2 hA, T2⟩, va_Zref hl3 hi e3 hA, T3⟩
/-- a contract whose entry also has the tables -/
abbrev zPreT (G : zG) (A : Nat → Prop) (av : List Value) (P : Heap → Prop) : Array Value → State → Prop := fun a U => zPre G av P a U ∧ zTabs A U U.heap
abbrev zMiT (l : Launch) (G : zG) (A : Nat → Prop) (y : MethodName) (ws : List Cond) (fr lo : Nat) (av : List Value) (P : Heap → Prop) (r : Int32) (P2 : Heap → Prop) : Prop := Met l y ws ({ frames := fr, cells := 0, slots := 0, locals := lo } : Room) (zPreT G A av P) (zQi G r P2 A) 0 0 A
theorem z_blindT {G : zG} {A : Nat → Prop} {av : List Value} {P : Heap → Prop} : FrameBlind (zPreT G A av P) := fun a U g mk q => ⟨z_blind a U g mk q.1, zTabs.moved (u := U) (U := U.calling g mk a) (Vm.Alike.refl U.vm) q.2⟩
set_option maxHeartbeats 4000000 in
theorem z_metT {l : Launch} {y : MethodName} {ws ws' : List Cond} {rm : Room} {G : zG} {A : Nat → Prop} {av : List Value} {P : Heap → Prop} {Qc : Array Value → State → Outcome → State → Prop} {cc : ByteArray} {maxL mc ms : Nat} {ret : Option FieldType} (hy : plainName y.cls = true) (hw : ws = Cond.code y cc maxL ret :: ws') (hsl : (lg_sl av).length ≤ maxL)
    (body : ∀ (p : Program) (e : Env) (s : State) (m : MethodId) (below : List Frame) (meth : Method) (c : Code) (ls : Array Slot), CallFix p m c cc maxL s av.toArray ws y.cls → meth.sig.returnType = ret → meth.locks = false → meth.name = y.name → P s.heap → zK G s → zTabs A s s.heap → lv_has ls maxL (lv_args 0 av) →
      W p l e rm s m av.toArray below meth c s.heap [] 0 0 (MQ below Qc av.toArray s mc ms A) (F0 m 0 ls [])) : Met l y ws rm (zPreT G A av P) Qc mc ms A := by
  refine Met.ofW (cc := cc) (maxL := maxL) (ret := ret) hy hw ?_
  intro p e s m args below meth c s₁ B hml hv
  obtain ⟨⟨rfl, hP, hK⟩, hT⟩ := hv
  have hts := atoms_spec (ws := ws) B.pre
  have hl := lv_entry av (n := maxL) hsl
  rw [lg_entry_eq]
  generalize (lg_sl av ++ List.replicate (maxL - (lg_sl av).length) Slot.unset).toArray = ls at hl ⊢
  exact body p e s m below meth c ls ⟨B.exec, B.bytes, hml, findClass_of_methodNamed B.named, hts⟩ B.returns B.notSynchronized (name_of_methodNamed B.named B.method).1 hP hK hT hl
