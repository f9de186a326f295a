/-! ===== contracts over heap predicates; one wrapper for a method's entry, for calls and for returns ===== -/
def zBi (P : Prop) [Decidable P] : Int32 := if P then 1 else 0
theorem zBi_t {P : Prop} [Decidable P] (h : P) : zBi P = 1 := if_pos h
theorem zBi_f {P : Prop} [Decidable P] (h : ¬ P) : zBi P = 0 := if_neg h
theorem zBi_0 {P : Prop} [Decidable P] : zBi P = 0 ↔ ¬ P := by
  unfold zBi
  split
  · rename_i h
    exact ⟨fun q => absurd q (by decide), fun q => absurd h q⟩
  · rename_i h
    exact ⟨fun _ => h, fun _ => rfl⟩
theorem zBi_n0 {P : Prop} [Decidable P] : ¬ zBi P = 0 ↔ P := by
  rw [zBi_0]
  exact Decidable.not_not
theorem zBi_1 {P : Prop} [Decidable P] : zBi P = 1 ↔ P := by
  unfold zBi
  split
  · rename_i h
    exact ⟨fun _ => h, fun _ => rfl⟩
  · rename_i h
    exact ⟨fun q => absurd q (by decide), fun q => absurd q h⟩
theorem zBi_n1 {P : Prop} [Decidable P] : ¬ zBi P = 1 ↔ ¬ P := not_congr zBi_1
theorem zBi_bi {P : Prop} [Decidable P] : zBi (zBi P = 1) = zBi P := by
  unfold zBi
  split <;> simp
theorem zBi_fit {P : Prop} [Decidable P] : fits .boolean (.int (zBi P)) = true := by
  unfold zBi
  split <;> decide
theorem zBi_nar {P : Prop} [Decidable P] : narrow .boolean (.int (zBi P)) = .int (zBi P) := by
  unfold zBi
  split <;> decide
theorem zBi_vnar {P : Prop} [Decidable P] : vp_nar .boolean (zBi P) = zBi P := by
  unfold zBi
  split <;> decide
theorem zBi_iff {P R : Prop} [Decidable P] [Decidable R] (h : P ↔ R) : zBi P = zBi R := by
  unfold zBi
  simp only [h]
/-- the ids of the tables: objects' classes and slots; Sensor[], int[], Network[], boolean[] -/
abbrev zG : Type := va_G × ClassId × ClassId × ClassId × ClassId
def zTys (G : zG) : List (ClassId × FieldType) := [(G.2.1, .object RX3), (G.2.2.1, .int), (G.2.2.2.1, .object RX1), (G.2.2.2.2, .boolean)]
abbrev zK (G : zG) (s : State) : Prop := va_K G.1 vwCl (zTys G) s
def zB (G : zG) (P : Heap → Prop) (U : State) : Prop := P U.heap ∧ zK G U
abbrev zPre (G : zG) (av : List Value) (P : Heap → Prop) : Array Value → State → Prop := va_Pc av (zB G P)
abbrev zQi (G : zG) (r : Int32) (P : Heap → Prop) (A : Nat → Prop) : Array Value → State → Outcome → State → Prop := va_Qi (fun (v : Int32) (_ : Unit) => v = r) (fun _ => zB G P) A
abbrev zQv (G : zG) (P : Heap → Prop) (A : Nat → Prop) : Array Value → State → Outcome → State → Prop := va_Qv (fun (_ : Unit) => True) (fun _ => zB G P) A
/-- a method that answers r and takes the heap's P to P2, writing cells of A alone, making none -/
abbrev zMi (l : Launch) (G : zG) (A : Nat → Prop) (y : MethodName) (ws : List Cond) (fr lo : Nat) (av : List Value) (P : Heap → Prop) (r : Int32) (P2 : Heap → Prop) : Prop := Met l y ws ({ frames := fr, cells := 0, slots := 0, locals := lo } : Room) (zPre G av P) (zQi G r P2 A) 0 0 A
abbrev zMv (l : Launch) (G : zG) (A : Nat → Prop) (y : MethodName) (ws : List Cond) (fr lo : Nat) (av : List Value) (P P2 : Heap → Prop) : Prop := Met l y ws ({ frames := fr, cells := 0, slots := 0, locals := lo } : Room) (zPre G av P) (zQv G P2 A) 0 0 A
theorem z_blind {G : zG} {av : List Value} {P : Heap → Prop} : FrameBlind (zPre G av P) := fun a U g mk q => ⟨q.1, q.2.1, va_K.moved (u := U) (U := U.calling g mk a) (Vm.Alike.refl U.vm) q.2.2⟩
set_option maxHeartbeats 4000000 in
theorem z_met {l : Launch} {y : MethodName} {ws ws' : List Cond} {rm : Room} {G : zG} {A : Nat → Prop} {av : List Value} {P : Heap → Prop} {Qc : Array Value → State → Outcome → State → Prop} {cc : ByteArray} {maxL mc ms : Nat} {ret : Option FieldType} (hy : plainName y.cls = true) (hw : ws = Cond.code y cc maxL ret :: ws') (hsl : (lg_sl av).length ≤ maxL)
    (body : ∀ (p : Program) (e : Env) (s : State) (m : MethodId) (below : List Frame) (meth : Method) (c : Code) (ls : Array Slot), CallFix p m c cc maxL s av.toArray ws y.cls → meth.sig.returnType = ret → meth.locks = false → meth.name = y.name → P s.heap → zK G s → lv_has ls maxL (lv_args 0 av) →
      W p l e rm s m av.toArray below meth c s.heap [] 0 0 (MQ below Qc av.toArray s mc ms A) (F0 m 0 ls [])) : Met l y ws rm (zPre G av P) Qc mc ms A := by
  refine Met.ofW (cc := cc) (maxL := maxL) (ret := ret) hy hw ?_
  intro p e s m args below meth c s₁ B hml hv
  obtain ⟨rfl, hP, hK⟩ := hv
  have hts := atoms_spec (ws := ws) B.pre
  have hl := lv_entry av (n := maxL) hsl
  rw [lg_entry_eq]
  generalize (lg_sl av ++ List.replicate (maxL - (lg_sl av).length) Slot.unset).toArray = ls at hl ⊢
  exact body p e s m below meth c ls ⟨B.exec, B.bytes, hml, findClass_of_methodNamed B.named, hts⟩ B.returns B.notSynchronized (name_of_methodNamed B.named B.method).1 hP hK hl
section ZBASE
variable {p : Program} {l : Launch} {e : Env} {R : Room} {s : State} {m : MethodId} {args : Array Value} {below : List Frame} {meth : Method} {c : Code} {H : Heap} {locs : List Loc} {cells slots : Nat} {Q : State → Prop}
variable {cc : ByteArray} {pc : Nat} {ls : Array Slot} {st0 rest : List Value} {G : zG} {A A0 : Nat → Prop} {H0 : Heap} {P P2 : Heap → Prop} {nL : Nat} {Ts ws : List Cond} {own C : String} {y : MethodName} {bytes : ByteArray} {maxL index n : Nat} {ret : Option FieldType} {fr lo : Nat} {b : Nat} {As : List Value} {r : Int32}
/-- returns -/
theorem z_iret (hx : p.tables.exec = Jvm.exec) (hb : c.code = cc) (hr : meth.sig.returnType = some .int) (hlk : meth.locks = false) (hK : zK G s) (hS : va_S A s.heap H locs) (hP : P2 H) (hdg : decode cc pc = .ok (.ireturn, 1)) :
    W p l e R s m args below meth c H locs cells slots (MQ below (zQi G r P2 A) args s cells slots A) (F0 m pc ls [.int r]) :=
  W.iret hx hb hr (fun t ht hW => ⟨⟨r, (), rfl, rfl, by rw [ht]; exact hP, va_K.moved hW.alike hK⟩, hS.F ht⟩) hS.2.2 hdg hlk
theorem z_zret (hx : p.tables.exec = Jvm.exec) (hb : c.code = cc) (hr : meth.sig.returnType = some .boolean) (hlk : meth.locks = false) (hn : narrow .boolean (.int r) = .int r) (hK : zK G s) (hS : va_S A s.heap H locs) (hP : P2 H) (hdg : decode cc pc = .ok (.ireturn, 1)) :
    W p l e R s m args below meth c H locs cells slots (MQ below (zQi G r P2 A) args s cells slots A) (F0 m pc ls [.int r]) :=
  W.zret hx hb hr hn (fun t ht hW => ⟨⟨r, (), rfl, rfl, by rw [ht]; exact hP, va_K.moved hW.alike hK⟩, hS.F ht⟩) hS.2.2 hdg hlk
theorem z_vret (hx : p.tables.exec = Jvm.exec) (hb : c.code = cc) (hr : meth.sig.returnType = none) (hlk : meth.locks = false) (hK : zK G s) (hS : va_S A s.heap H locs) (hP : P2 H) (hdg : decode cc pc = .ok (.return_, 1)) :
    W p l e R s m args below meth c H locs cells slots (MQ below (zQv G P2 A) args s cells slots A) (F0 m pc ls []) :=
  W.vret hx hb hr (fun t ht hW => ⟨⟨(), rfl, trivial, by rw [ht]; exact hP, va_K.moved hW.alike hK⟩, hS.F ht⟩) hS.2.2 hdg hlk
/-- the top of the stack is another name of the same int -/
theorem z_top {x x2 : Int32} (h : x = x2) (k : W p l e R s m args below meth c H locs cells slots Q (F0 m pc ls (.int x2 :: rest))) : W p l e R s m args below meth c H locs cells slots Q (F0 m pc ls (.int x :: rest)) := by
  subst h
  exact k
/-- a call of an instance method that answers an int (or a boolean) -/
theorem z_vi (S : CallFix p m c cc nL s args Ts own) (hM : zMi l G A y ws fr lo (.ref b :: As) P r P2) (cw : CallW R s args own C index y bytes maxL ret ws ({ frames := fr, cells := 0, slots := 0, locals := lo } : Room) 0 0 n)
    (hrec : ∃ cell : Cell, H[b]? = some cell ∧ cell.vm.isStatics = false ∧ s.vm.findClass C = some cell.cls) (hP : P H) (hK : zK G s) (hS : va_S A0 H0 H locs) (hA : ∀ q, q < H.size → A q → A0 q) (hA2 : ∀ q, A q → A0 q) (hsz : ls.size = nL) (hn : As.length = n) (hst : st0 = As.reverse ++ .ref b :: rest) (hrm : (rest.map fun v => v.category).sum ≤ 8) (hdg : decode cc pc = .ok (.invokevirtual index, 3)) (hf : cells ≤ R.cells ∧ slots ≤ R.slots)
    (kk : ∀ (H1 : Heap) (locs1 : List Loc), P2 H1 → va_S A0 H0 H1 locs1 → (H.size ≤ H1.size ∧ ∀ q : Nat, q < H.size → ¬ A q → H1[q]? = H[q]?) → W p l e R s m args below meth c H1 locs1 cells slots Q (F0 m (pc + 3) ls (.int r :: rest))) : W p l e R s m args below meth c H locs cells slots Q (F0 m pc ls st0) := by
  refine va_calli (va_runV S hM cw ⟨z_blind, hrec, fun U hU hW => ⟨rfl, by rw [hU]; exact hP, va_K.moved hW.alike hK⟩⟩ rfl hn hsz hst (lv_room hrm) hdg hf) hS hA hA2 (fun r1 u t H1 locs1 ht hvm hw hB hz hk hS1 => ?_)
  cases hw
  exact kk H1 locs1 (ht ▸ hB.1) hS1 ⟨hz, hk⟩
theorem z_vv (S : CallFix p m c cc nL s args Ts own) (hM : zMv l G A y ws fr lo (.ref b :: As) P P2) (cw : CallW R s args own C index y bytes maxL ret ws ({ frames := fr, cells := 0, slots := 0, locals := lo } : Room) 0 0 n)
    (hrec : ∃ cell : Cell, H[b]? = some cell ∧ cell.vm.isStatics = false ∧ s.vm.findClass C = some cell.cls) (hP : P H) (hK : zK G s) (hS : va_S A0 H0 H locs) (hA : ∀ q, q < H.size → A q → A0 q) (hA2 : ∀ q, A q → A0 q) (hsz : ls.size = nL) (hn : As.length = n) (hst : st0 = As.reverse ++ .ref b :: rest) (hrm : (rest.map fun v => v.category).sum ≤ 8) (hdg : decode cc pc = .ok (.invokevirtual index, 3)) (hf : cells ≤ R.cells ∧ slots ≤ R.slots)
    (kk : ∀ (H1 : Heap) (locs1 : List Loc), P2 H1 → va_S A0 H0 H1 locs1 → (H.size ≤ H1.size ∧ ∀ q : Nat, q < H.size → ¬ A q → H1[q]? = H[q]?) → W p l e R s m args below meth c H1 locs1 cells slots Q (F0 m (pc + 3) ls rest)) : W p l e R s m args below meth c H locs cells slots Q (F0 m pc ls st0) := by
  refine va_callv (va_runV S hM cw ⟨z_blind, hrec, fun U hU hW => ⟨rfl, by rw [hU]; exact hP, va_K.moved hW.alike hK⟩⟩ rfl hn hsz hst (lv_room hrm) hdg hf) hS hA hA2 (fun u t H1 locs1 ht hvm hw hB hz hk hS1 => ?_)
  exact kk H1 locs1 (ht ▸ hB.1) hS1 ⟨hz, hk⟩
/-- a call of a static method of the own class that answers an int (or a boolean) -/
theorem z_si (S : CallFix p m c cc nL s args Ts own) (hM : zMi l G A y ws fr lo As P r P2) (cw : CallB R s args own index y bytes maxL ret ws ({ frames := fr, cells := 0, slots := 0, locals := lo } : Room) 0 0 n ∧ (Cond.static y).before args s = true)
    (hP : P H) (hK : zK G s) (hS : va_S A0 H0 H locs) (hA : ∀ q, q < H.size → A q → A0 q) (hA2 : ∀ q, A q → A0 q) (hsz : ls.size = nL) (hn : As.length = n) (hst : st0 = As.reverse ++ rest) (hrm : (rest.map fun v => v.category).sum ≤ 8) (hdg : decode cc pc = .ok (.invokestatic index, 3)) (hf : cells ≤ R.cells ∧ slots ≤ R.slots)
    (kk : ∀ (H1 : Heap) (locs1 : List Loc), P2 H1 → va_S A0 H0 H1 locs1 → (H.size ≤ H1.size ∧ ∀ q : Nat, q < H.size → ¬ A q → H1[q]? = H[q]?) → W p l e R s m args below meth c H1 locs1 cells slots Q (F0 m (pc + 3) ls (.int r :: rest))) : W p l e R s m args below meth c H locs cells slots Q (F0 m pc ls st0) := by
  refine va_calli (va_runS S hM cw ⟨z_blind, fun U hU hW => ⟨rfl, by rw [hU]; exact hP, va_K.moved hW.alike hK⟩⟩ rfl hn hsz hst (lv_room hrm) hdg hf) hS hA hA2 (fun r1 u t H1 locs1 ht hvm hw hB hz hk hS1 => ?_)
  cases hw
  exact kk H1 locs1 (ht ▸ hB.1) hS1 ⟨hz, hk⟩
end ZBASE
/-- int branches by the naturals behind -/
theorem z_ltI {a b : Nat} (ha : a < 2147483648) (hb : b < 2147483648) : nI a < nI b ↔ a < b := nI_ltI ha hb
theorem z_leI {a b : Nat} (ha : a < 2147483648) (hb : b < 2147483648) : nI a ≤ nI b ↔ a ≤ b := nI_leI ha hb
theorem z_eqI {a b : Nat} (ha : a < 2147483648) (hb : b < 2147483648) : nI a = nI b ↔ a = b := nI_eq ha hb
/-- step f 0, step f 1 .. -/
def zIt {α : Type} (f : Nat → α → α) : Nat → α → α
  | 0, a => a
  | k + 1, a => f k (zIt f k a)
theorem zIt_0 {α : Type} (f : Nat → α → α) (a : α) : zIt f 0 a = a := rfl
theorem zIt_s {α : Type} (f : Nat → α → α) (k : Nat) (a : α) : zIt f (k + 1) a = f k (zIt f k a) := rfl
