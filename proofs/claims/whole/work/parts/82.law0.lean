/-! THE CLAIM OUT OF ONE WALK OF THE LAW'S BODY. Your part is whole_start (and what it stands on); all else here is the same for every law, but numbers. -/
def R_law : String := "ClusterFieldLaw"
def lw_P (b : Addr) (xs : List Int32) (args : Array Value) (s : State) : Prop := args = #[.ref b] ∧ s.IntsAt b xs ∧ xs.length ≤ 2048 ∧ (Jvm.Cond.and given_1 narrow_1).before args s = true
def lw_Q (_ : Array Value) (s : State) (o : Outcome) (t : State) : Prop := o = .returned (some (.int 1)) ∧ Framed s o t [] 600000 7302250
def lw_Z (below : List Frame) (a : Array Value) (s : State) : State → Prop := fun t => ∃ o, t.status = .running ∧ Ended t below o ∧ lw_Q a s o t
/-- the law's own end, with 1 on the stack, nothing written that was there before, its room as the claim has it -/
theorem lw_ret {p : Program} {l : Launch} {e : Env} {s : State} {m : MethodId} {below : List Frame} {meth : Method} {c : Code} {b : Nat} (hx : p.tables.exec = Jvm.exec) (hb : c.code = code) (hr : meth.sig.returnType = ret) (hlocks : meth.locks = false) {pc : Nat} {H : Heap} {ls : Array Slot} (hdg : decode code pc = .ok (.ireturn, 1)) : W p l e room_1 s m #[Value.ref b] below meth c H [] 600000 7302250 (lw_Z below #[Value.ref b] s) (F0 m pc ls [.int 1]) := by
  intro T hT X
  obtain ⟨fs, hret, hrun, hended, hW, hframe⟩ := X.leave (v := some (.int 1)) (hlocks := hlocks) (fun h => by rw [hr] at h; cases h)
  have hmeth' : T.vm.method? m = some meth := X.method'
  refine ⟨T.setFrames fs, ?_, .returned (some (.int 1)), hrun, hended, rfl, ⟨_, rfl⟩, hW, hframe⟩
  jvm_step X.here [X.here.top, hx, hb, hdg, hmeth', hr, ret, narrow_b1]
  (try refine ⟨rfl, ?_⟩); (try refine ⟨rfl, ?_⟩)
  first | (intro acts; rw [hret _ acts rfl rfl rfl]) | rw [hret _ _ rfl rfl rfl]
  exact Steps.refl _
/-- what holds at the law's entry: the machine, the code, the tables' words (any of lw_tbl by 'hts w (by decide +kernel)'), the script of L ints xs at the cell b, what the Statement gives of the start (any of its parts by flat_of_before) -/
def lw_At (p : Program) (s : State) (m : MethodId) (meth : Method) (c : Code) (b L : Nat) (xs : Nat → Int32) : Prop :=
  p.tables.exec = Jvm.exec ∧ c.code = code ∧ meth.sig.returnType = ret ∧ c.maxLocals = 4 ∧ s.vm.findClass R_law = some m.cls ∧ (∀ w ∈ lw_tbl, w.before #[Value.ref b] s = true) ∧ va_X b L xs s s.heap ∧ b < s.heap.size ∧ meth.locks = false ∧ (Jvm.Cond.and given_1 narrow_1).before #[Value.ref b] s = true
/-! ===== what stands at the law's start ===== -/
theorem zTx {w : Cond} {i : Nat} (h : tables_1[i]? = some w) : w ∈ lw_tbl := List.mem_append_right _ (List.mem_of_getElem? h)
/-- the classes' and the arrays' ids -/
theorem zK_start {s : State} {args : Array Value} (hts : ∀ w ∈ lw_tbl, w.before args s = true) : ∃ G : zG, zK G s := by
  obtain ⟨c0, i0, k0⟩ := u_known (C := RX0) (T := TX0) (N := 2) (n := 2) hts inX0 (hts (.instantiable RX0 2) (zTx (i := 157) (by decide +kernel)))
  obtain ⟨c1, i1, k1⟩ := u_known (C := RX1) (T := TX1) (N := 11) (n := 11) hts inX1 (hts (.instantiable RX1 11) (zTx (i := 17) (by decide +kernel)))
  obtain ⟨c2, i2, k2⟩ := u_known (C := RX2) (T := TX2) (N := 1) (n := 1) hts inX2 (hts (.instantiable RX2 1) (zTx (i := 147) (by decide +kernel)))
  obtain ⟨c3, i3, k3⟩ := u_known (C := RX3) (T := TX3) (N := 11) (n := 11) hts inX3 (hts (.instantiable RX3 11) (zTx (i := 24) (by decide +kernel)))
  obtain ⟨c4, i4, k4⟩ := u_known (C := RX4) (T := TX4) (N := 7) (n := 7) hts inX4 (hts (.instantiable RX4 7) (zTx (i := 9) (by decide +kernel)))
  obtain ⟨c5, i5, k5⟩ := u_known (C := RX5) (T := TX5) (N := 9) (n := 9) hts inX5 (hts (.instantiable RX5 9) (zTx (i := 461) (by decide +kernel)))
  obtain ⟨dC, dI, hKc⟩ : ∃ (dC : Nat → ClassId) (dI : Nat → Nat → Nat), ∀ (k : Nat) (q : vw_C), vwCl[k]? = some q → u_Kn s q.1 q.2.1 q.2.2 (dC k) (dI k) := by
    refine ⟨fun k => if k = 0 then c0 else if k = 1 then c1 else if k = 2 then c2 else if k = 3 then c3 else if k = 4 then c4 else c5, fun k => if k = 0 then i0 else if k = 1 then i1 else if k = 2 then i2 else if k = 3 then i3 else if k = 4 then i4 else i5, ?_⟩
    intro k q hq
    match k, hq with
    | 0, hq => cases hq; exact k0
    | 1, hq => cases hq; exact k1
    | 2, hq => cases hq; exact k2
    | 3, hq => cases hq; exact k3
    | 4, hq => cases hq; exact k4
    | 5, hq => cases hq; exact k5
    | k + 6, hq => cases hq
  obtain ⟨p1, a1, q1, b1, b2, b3, b4, b5⟩ := Cond.arrayOver_spec (hts (.arrayOver (.object RX3)) (zTx (i := 23) (by decide +kernel)))
  obtain ⟨p3, a3, q3, d1, d2, d3, d4, d5⟩ := Cond.arrayOver_spec (hts (.arrayOver (.object RX1)) (zTx (i := 163) (by decide +kernel)))
  obtain ⟨a2, q2, p2, e1, e2, e3⟩ := Cond.arrayClass_spec (hts (.arrayClass .int) (zTx (i := 84) (by decide +kernel)))
  obtain ⟨a4, q4, p4, f1, f2, f3⟩ := Cond.arrayClass_spec (hts (.arrayClass .boolean) (zTx (i := 195) (by decide +kernel)))
  refine ⟨((dC, dI), a1, a2, a3, a4), hKc, fun k q hq => ?_⟩
  match k, hq with
  | 0, hq =>
    cases hq
    exact ⟨fun N z => ⟨(fun k h => by cases h), q1, b3, p1, b4⟩, q1, p1, b3, b4, b1, b5⟩
  | 1, hq =>
    cases hq
    exact ⟨fun N z => ⟨(fun k h => by cases h), q2, e2, p2, e3⟩, e1⟩
  | 2, hq =>
    cases hq
    exact ⟨fun N z => ⟨(fun k h => by cases h), q3, d3, p3, d4⟩, q3, p3, d3, d4, d1, d5⟩
  | 3, hq =>
    cases hq
    exact ⟨fun N z => ⟨(fun k h => by cases h), q4, f2, p4, f3⟩, f1⟩
  | k + 4, hq => cases hq
/-- the law's free cells -/
abbrev zLa (s : State) : Nat → Prop := fun q => s.heap.size ≤ q
theorem zEn_start {s : State} {args : Array Value} (hts : ∀ w ∈ lw_tbl, w.before args s = true) (hgv : (Jvm.Cond.and given_1 narrow_1).before args s = true) : zEn (zLa s) s s.heap := by
  have hA : ∀ a : Nat, a < s.heap.size → ¬ zLa s a := fun a h q => Nat.not_le.mpr h q
  exact ⟨zTabs_of hA (hts (.initialized "ClusterField$Network") (zTx (i := 2) (by decide +kernel))) (hts (.laysStatic "ClusterField$Network" "FIRST" "[I") (zTx (i := 86) (by decide +kernel))) (hts (.laysStatic "ClusterField$Network" "LEAST" "[I") (zTx (i := 237) (by decide +kernel))) (hts (.laysStatic "ClusterField$Network" "GREATEST" "[I") (zTx (i := 239) (by decide +kernel))) hgv, va_AO.of (hts (.arrayOver (.object RX3)) (zTx (i := 23) (by decide +kernel))), va_AO.of (hts (.arrayOver (.object RX1)) (zTx (i := 163) (by decide +kernel))), va_Nw.of rfl (hts (.methodLinkNest RX1 31 yX3_init RX4) (zTx (i := 25) (by decide +kernel)))⟩
/-! ===== both pictures at once: a call of the one keeps the other ===== -/
theorem zCP.kept {G : zG} {ad : Nat → Nat} {na : Nat → Nat → Nat} {ma : Nat → Nat} {S : zSg} {H H1 : Heap} (hd : zTd ad na ma) (h : zCP G ad na ma S H) (hq : ∀ q, q < H.size → zAll ad na ma q → H1[q]? = H[q]?) : zCP G ad na ma S H1 := by
  obtain ⟨π, T, n, g, τ, fl, h1, h2, h3, h4, h5, τ2, h6, h7⟩ := h
  refine ⟨π, T, n, g, τ, fl, h1, h2, h3, h4, h5, τ2, h6, h7.kept fun k q hk => hq q.1 (h7 k q hk).lt ?_⟩
  exact (zAp_top (G := G) hd π S.2.1 fl T n g τ2).2 k q hk
theorem zRP.kept {G : zG} {am : Nat → Nat} {Ar : Nat → Prop} {S : zSg} {H H1 : Heap} (hA : zAm G am Ar) (h : zRP G am S H) (hq : ∀ q, q < H.size → Ar q → H1[q]? = H[q]?) : zRP G am S H1 := by
  obtain ⟨th, cp, hf, sl, sv, h1, h2, h3⟩ := h
  have h3 : va_P G.1 vwCl (zMW G am _ _ _ _) H := h3
  exact ⟨th, cp, hf, sl, sv, h1, h2, h3.kept fun k q hk => hq q.1 (h3 k q hk).lt ((hA _ _ _ _).2 k q hk)⟩
theorem zCP.rcv {G : zG} {ad : Nat → Nat} {na : Nat → Nat → Nat} {ma : Nat → Nat} {S : zSg} {H : Heap} {s : State} (hK : zK G s) (h : zCP G ad na ma S H) : ∃ cell : Cell, H[ma 0]? = some cell ∧ cell.vm.isStatics = false ∧ s.vm.findClass RX4 = some cell.cls := by
  obtain ⟨π, T, n, g, τ, fl, h1, h2, h3, h4, h5, h6⟩ := h
  exact z_recF hK h6
theorem zRP.rcv {G : zG} {am : Nat → Nat} {S : zSg} {H : Heap} {s : State} (hK : zK G s) (h : zRP G am S H) : ∃ cell : Cell, H[am 0]? = some cell ∧ cell.vm.isStatics = false ∧ s.vm.findClass RX5 = some cell.cls := by
  obtain ⟨th, cp, hf, sl, sv, h1, h2, h3⟩ := h
  have h3 : va_P G.1 vwCl (zMW G am _ _ _ _) H := h3
  exact va_recv hK h3 (ci := 5) (q0 := 0) rfl rfl
/-- what is the same at every turn of the law's loop -/
def zFx (G : zG) (ad : Nat → Nat) (na : Nat → Nat → Nat) (ma am : Nat → Nat) (Ar : Nat → Prop) (s : State) : Prop := zK G s ∧ zTd ad na ma ∧ zAm G am Ar ∧ (∀ q, zAll ad na ma q → s.heap.size ≤ q) ∧ (∀ q, Ar q → s.heap.size ≤ q) ∧ (∀ q, zAll ad na ma q → ¬ Ar q) ∧ zTabs (zLa s) s s.heap
