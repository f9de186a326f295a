/-! THE CLAIM OUT OF ONE WALK OF THE LAW'S BODY. Your part is whole_start (and what it stands on); all else here is the same for every law, but numbers. -/
def R_law : String := "ClusterFieldLaw"
def lw_P (b : Addr) (xs : List Int32) (args : Array Value) (s : State) : Prop := args = #[.ref b] ∧ s.IntsAt b xs ∧ xs.length ≤ 260 ∧ (Jvm.Cond.and given_1 narrow_1).before args s = true
def lw_Q (_ : Array Value) (s : State) (o : Outcome) (t : State) : Prop := o = .returned (some (.int 1)) ∧ Framed s o t [] 600000 7302250
def lw_Z (below : List Frame) (a : Array Value) (s : State) : State → Prop := fun t => ∃ o, t.status = .running ∧ Ended t below o ∧ lw_Q a s o t
/-- the law's own end, with 1 on the stack, nothing written that was there before, its room as the claim has it -/
theorem lw_ret {p : Program} {l : Launch} {e : Env} {s : State} {m : MethodId} {below : List Frame} {meth : Method} {c : Code} {b : Nat} (hx : p.tables.exec = Jvm.exec) (hb : c.code = code) (hr : meth.sig.returnType = ret) (hlocks : meth.locks = false) {pc : Nat} {H : Heap} {ls : Array Slot} (hdg : decode code pc = .ok (.ireturn, 1)) : W p l e room_1 s m #[Value.ref b] below meth c H [] 600000 7302250 (lw_Z below #[Value.ref b] s) (F0 m pc ls [.int 1]) := by
  intro T hT X
  obtain ⟨fs, hret, hrun, hended, hW, hframe⟩ := X.leave (v := some (.int 1)) (hlocks := hlocks) (fun h => by rw [hr] at h; cases h)
  have hmeth' : T.vm.method? m = some meth := X.method'
  refine ⟨T.setFrames fs, ?_, .returned (some (.int 1)), hrun, hended, rfl, ⟨_, rfl⟩, hW, hframe⟩
  jvm_step X.here [X.here.top, hx, hb, hdg, hmeth', hr, ret, narrow_b1]
  (try refine ⟨rfl, ?_⟩); (try refine ⟨rfl, ?_⟩)
  first | (intro acts; rw [hret _ acts rfl rfl rfl]) | rw [hret _ _ rfl rfl rfl]
  exact Steps.refl _
/-- what holds at the law's entry: the machine, the code, the tables' words (any of lw_tbl by 'hts w (by decide +kernel)'), the script of L ints xs at the cell b, what the Statement gives of the start (any of its parts by flat_of_before) -/
def lw_At (p : Program) (s : State) (m : MethodId) (meth : Method) (c : Code) (b L : Nat) (xs : Nat → Int32) : Prop :=
  p.tables.exec = Jvm.exec ∧ c.code = code ∧ meth.sig.returnType = ret ∧ c.maxLocals = 15 ∧ s.vm.findClass R_law = some m.cls ∧ (∀ w ∈ lw_tbl, w.before #[Value.ref b] s = true) ∧ va_X b L xs s s.heap ∧ b < s.heap.size ∧ meth.locks = false ∧ (Jvm.Cond.and given_1 narrow_1).before #[Value.ref b] s = true
theorem zTx {w : Cond} {i : Nat} (h : tables_1[i]? = some w) : w ∈ lw_tbl := List.mem_append_right _ (List.mem_of_getElem? h)
/-- the classes' and the arrays' ids -/
theorem zK_start {s : State} {args : Array Value} (hts : ∀ w ∈ lw_tbl, w.before args s = true) : ∃ G : zG, zK G s := by
  obtain ⟨c0, i0, k0⟩ := u_known (C := RX0) (T := TX0) (N := 2) (n := 2) hts inX0 (hts (.instantiable RX0 2) (zTx (i := 151) (by decide +kernel)))
  obtain ⟨c1, i1, k1⟩ := u_known (C := RX1) (T := TX1) (N := 11) (n := 11) hts inX1 (hts (.instantiable RX1 11) (zTx (i := 16) (by decide +kernel)))
  obtain ⟨c2, i2, k2⟩ := u_known (C := RX2) (T := TX2) (N := 1) (n := 1) hts inX2 (hts (.instantiable RX2 1) (zTx (i := 141) (by decide +kernel)))
  obtain ⟨c3, i3, k3⟩ := u_known (C := RX3) (T := TX3) (N := 11) (n := 11) hts inX3 (hts (.instantiable RX3 11) (zTx (i := 23) (by decide +kernel)))
  obtain ⟨c4, i4, k4⟩ := u_known (C := RX4) (T := TX4) (N := 7) (n := 7) hts inX4 (hts (.instantiable RX4 7) (zTx (i := 8) (by decide +kernel)))
  obtain ⟨dC, dI, hKc⟩ : ∃ (dC : Nat → ClassId) (dI : Nat → Nat → Nat), ∀ (k : Nat) (q : vw_C), vwCl[k]? = some q → u_Kn s q.1 q.2.1 q.2.2 (dC k) (dI k) := by
    refine ⟨fun k => if k = 0 then c0 else if k = 1 then c1 else if k = 2 then c2 else if k = 3 then c3 else c4, fun k => if k = 0 then i0 else if k = 1 then i1 else if k = 2 then i2 else if k = 3 then i3 else i4, ?_⟩
    intro k q hq
    match k, hq with
    | 0, hq => cases hq; exact k0
    | 1, hq => cases hq; exact k1
    | 2, hq => cases hq; exact k2
    | 3, hq => cases hq; exact k3
    | 4, hq => cases hq; exact k4
    | k + 5, hq => cases hq
  obtain ⟨p1, a1, q1, b1, b2, b3, b4, b5⟩ := Cond.arrayOver_spec (hts (.arrayOver (.object RX3)) (zTx (i := 22) (by decide +kernel)))
  obtain ⟨p3, a3, q3, d1, d2, d3, d4, d5⟩ := Cond.arrayOver_spec (hts (.arrayOver (.object RX1)) (zTx (i := 157) (by decide +kernel)))
  obtain ⟨a2, q2, p2, e1, e2, e3⟩ := Cond.arrayClass_spec (hts (.arrayClass .int) (zTx (i := 80) (by decide +kernel)))
  obtain ⟨a4, q4, p4, f1, f2, f3⟩ := Cond.arrayClass_spec (hts (.arrayClass .boolean) (zTx (i := 189) (by decide +kernel)))
  refine ⟨((dC, dI), a1, a2, a3, a4), hKc, fun k q hq => ?_⟩
  match k, hq with
  | 0, hq =>
    cases hq
    exact ⟨fun N z => ⟨(fun k h => by cases h), q1, b3, p1, b4⟩, q1, p1, b3, b4, b1, b5⟩
  | 1, hq =>
    cases hq
    exact ⟨fun N z => ⟨(fun k h => by cases h), q2, e2, p2, e3⟩, e1⟩
  | 2, hq =>
    cases hq
    exact ⟨fun N z => ⟨(fun k h => by cases h), q3, d3, p3, d4⟩, q3, p3, d3, d4, d1, d5⟩
  | 3, hq =>
    cases hq
    exact ⟨fun N z => ⟨(fun k h => by cases h), q4, f2, p4, f3⟩, f1⟩
  | k + 4, hq => cases hq
/-- the law's free cells -/
abbrev zLa (s : State) : Nat → Prop := fun q => s.heap.size ≤ q
theorem zEn_start {s : State} {args : Array Value} (hts : ∀ w ∈ lw_tbl, w.before args s = true) (hgv : (Jvm.Cond.and given_1 narrow_1).before args s = true) : zEn (zLa s) s s.heap := by
  have hA : ∀ a : Nat, a < s.heap.size → ¬ zLa s a := fun a h q => Nat.not_le.mpr h q
  exact ⟨zTabs_of hA (hts (.initialized "ClusterField$Network") (zTx (i := 2) (by decide +kernel))) (hts (.laysStatic "ClusterField$Network" "FIRST" "[I") (zTx (i := 82) (by decide +kernel))) (hts (.laysStatic "ClusterField$Network" "LEAST" "[I") (zTx (i := 198) (by decide +kernel))) (hts (.laysStatic "ClusterField$Network" "GREATEST" "[I") (zTx (i := 200) (by decide +kernel))) hgv, va_AO.of (hts (.arrayOver (.object RX3)) (zTx (i := 22) (by decide +kernel))), va_AO.of (hts (.arrayOver (.object RX1)) (zTx (i := 157) (by decide +kernel))), va_Nw.of rfl (hts (.methodLinkNest RX1 31 yX3_init RX4) (zTx (i := 24) (by decide +kernel)))⟩
section ZARM
variable {p : Program} {l : Launch} {e : Env} {s : State} {m : MethodId} {below : List Frame} {meth : Method} {c : Code} {Q : State → Prop} {b : Nat} {G : zG} {H : Heap} {locs : List Loc} {cells slots : Nat} {ls : Array Slot} {r : Int32} {As : List Value} {pc : Nat} {rest : List Value}
/-- a call that also wants the tables -/
theorem z_viT {R : Room} {args : Array Value} {nL : Nat} {cc : ByteArray} {A A0 : Nat → Prop} {P P2 : Heap → Prop} {Ts ws : List Cond} {own C : String} {y : MethodName} {bytes : ByteArray} {maxL index n : Nat} {ret : Option FieldType} {fr lo : Nat} {st0 : List Value} (X : CallFix p m c cc nL s args Ts own) (hM : zMiT l G A y ws fr lo (.ref b :: As) P r P2) (cw : CallW R s args own C index y bytes maxL ret ws ({ frames := fr, cells := 0, slots := 0, locals := lo } : Room) 0 0 n)
    (hrec : ∃ cell : Cell, H[b]? = some cell ∧ cell.vm.isStatics = false ∧ s.vm.findClass C = some cell.cls) (hP : P H) (hK : zK G s) (hT : zTabs A0 s s.heap) (hS : va_S A0 s.heap H locs) (hA2 : ∀ q, A q → A0 q) (hsz : ls.size = nL) (hn : As.length = n) (hst : st0 = As.reverse ++ .ref b :: rest) (hrm : (rest.map fun v => v.category).sum ≤ 8) (hdg : decode cc pc = .ok (.invokevirtual index, 3)) (hf : cells ≤ R.cells ∧ slots ≤ R.slots)
    (kk : ∀ (H1 : Heap) (locs1 : List Loc), P2 H1 → va_S A0 s.heap H1 locs1 → (H.size ≤ H1.size ∧ ∀ q : Nat, q < H.size → ¬ A q → H1[q]? = H[q]?) → W p l e R s m args below meth c H1 locs1 cells slots Q (F0 m (pc + 3) ls (.int r :: rest))) : W p l e R s m args below meth c H locs cells slots Q (F0 m pc ls st0) := by
  refine va_calli (va_runV X hM cw ⟨z_blindT, hrec, fun U hU hW => ⟨⟨rfl, by rw [hU]; exact hP, va_K.moved hW.alike hK⟩, by rw [hU]; exact ((hT.kept hS.2.1).moved hW.alike).narrow hA2⟩⟩ rfl hn hsz hst (lv_room hrm) hdg hf) hS (fun q _ h => hA2 q h) hA2 (fun r1 u t H1 locs1 ht hvm hw hB hz hk hS1 => ?_)
  cases hw
  exact kk H1 locs1 (ht ▸ hB.1) hS1 ⟨hz, hk⟩
end ZARM
/-- what is the same all along the law -/
def zFx (G : zG) (ad : Nat → Nat) (na : Nat → Nat → Nat) (ma : Nat → Nat) (mm : Nat) (s : State) : Prop := zK G s ∧ zTd ad na ma ∧ ¬ zAll ad na ma mm ∧ (∀ q, zAw ad na ma mm q → s.heap.size ≤ q) ∧ zTabs (zLa s) s s.heap
