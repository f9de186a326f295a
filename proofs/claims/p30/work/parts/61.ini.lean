/-! ===== constructors of the class ===== -/
def zEn (A : Nat → Prop) (U : State) (H : Heap) : Prop := zTabs A U H ∧ va_AO RX3 U ∧ va_AO RX1 U ∧ va_Nw (.methodLinkNest RX1 31 yX3_init RX4) U
theorem zEn.warm {A : Nat → Prop} {u U : State} {H : Heap} (hW : u.WarmedH U.vm) (h : zEn A u H) : zEn A U H := ⟨h.1.moved hW.alike, h.2.1.moved hW.alike, h.2.2.1.moved hW.alike, h.2.2.2.warmM hW⟩
theorem zEn.same {A : Nat → Prop} {u U : State} {H : Heap} (hv : u.vm = U.vm) (h : zEn A u H) : zEn A U H := by
  have hvm : u.vm.Alike U.vm := by rw [hv]; exact Vm.Alike.refl _
  exact ⟨h.1.moved hvm, h.2.1.moved hvm, h.2.2.1.moved hvm, h.2.2.2.same rfl hv⟩
theorem zEn.kept {A : Nat → Prop} {U : State} {H H1 : Heap} (h : zEn A U H) (hq : ∀ a : Nat, a < H.size → ¬ A a → H1[a]? = H[a]?) : zEn A U H1 := ⟨h.1.kept hq, h.2⟩
theorem zEn.narrow {A B : Nat → Prop} {U : State} {H : Heap} (h : zEn A U H) (hAB : ∀ q, B q → A q) : zEn B U H := ⟨h.1.narrow hAB, h.2⟩
abbrev zPreC (G : zG) (A : Nat → Prop) (av : List Value) (P : Heap → Prop) : Array Value → State → Prop := fun a U => zPre G av P a U ∧ zEn A U U.heap
theorem z_blindC {G : zG} {A : Nat → Prop} {av : List Value} {P : Heap → Prop} : FrameBlind (zPreC G A av P) := fun a U g mk q => ⟨z_blind a U g mk q.1, zEn.same (u := U) (U := U.calling g mk a) rfl q.2⟩
/-- a constructor: its new cells mc of ms slots -/
abbrev zMc (l : Launch) (G : zG) (A : Nat → Prop) (y : MethodName) (ws : List Cond) (fr lo mc ms : Nat) (av : List Value) (P P2 : Heap → Prop) : Prop := Met l y ws ({ frames := fr, cells := mc, slots := ms, locals := lo } : Room) (zPreC G A av P) (zQv G P2 A) mc ms A
set_option maxHeartbeats 4000000 in
theorem z_metC {l : Launch} {y : MethodName} {ws ws' : List Cond} {rm : Room} {G : zG} {A : Nat → Prop} {av : List Value} {P : Heap → Prop} {Qc : Array Value → State → Outcome → State → Prop} {cc : ByteArray} {maxL mc ms : Nat} {ret : Option FieldType} (hy : plainName y.cls = true) (hw : ws = Cond.code y cc maxL ret :: ws') (hsl : (lg_sl av).length ≤ maxL)
    (body : ∀ (p : Program) (e : Env) (s : State) (m : MethodId) (below : List Frame) (meth : Method) (c : Code) (ls : Array Slot), CallFix p m c cc maxL s av.toArray ws y.cls → meth.sig.returnType = ret → meth.locks = false → meth.name = y.name → P s.heap → zK G s → zEn A s s.heap → lv_has ls maxL (lv_args 0 av) →
      W p l e rm s m av.toArray below meth c s.heap [] 0 0 (MQ below Qc av.toArray s mc ms A) (F0 m 0 ls [])) : Met l y ws rm (zPreC G A av P) Qc mc ms A := by
  refine Met.ofW (cc := cc) (maxL := maxL) (ret := ret) hy hw ?_
  intro p e s m args below meth c s₁ B hml hv
  obtain ⟨⟨rfl, hP, hK⟩, hT⟩ := hv
  have hts := atoms_spec (ws := ws) B.pre
  have hl := lv_entry av (n := maxL) hsl
  rw [lg_entry_eq]
  generalize (lg_sl av ++ List.replicate (maxL - (lg_sl av).length) Slot.unset).toArray = ls at hl ⊢
  exact body p e s m below meth c ls ⟨B.exec, B.bytes, hml, findClass_of_methodNamed B.named, hts⟩ B.returns B.notSynchronized (name_of_methodNamed B.named B.method).1 hP hK hT hl
section ZINI
variable {p : Program} {l : Launch} {e : Env} {R : Room} {s : State} {m : MethodId} {args : Array Value} {below : List Frame} {meth : Method} {c : Code} {H : Heap} {locs : List Loc} {cells slots : Nat} {Q : State → Prop}
variable {cc : ByteArray} {pc : Nat} {ls : Array Slot} {st0 rest : List Value} {G : zG} {A A0 : Nat → Prop} {H0 : Heap} {P P2 : Heap → Prop} {nL : Nat} {Ts ws : List Cond} {own C : String} {y : MethodName} {bytes : ByteArray} {maxL index n mc ms : Nat} {rm : Room} {Pc : Array Value → State → Prop} {b : Nat} {As : List Value}
theorem z_preP (hP : P H) (hK : zK G s) : PreS s H (zPre G (.ref b :: As) P) (.ref b :: As) := ⟨z_blind, fun U hU hW => ⟨rfl, by rw [hU]; exact hP, va_K.moved hW.alike hK⟩⟩
theorem z_preC (hP : P H) (hK : zK G s) (hE : zEn A0 s s.heap) (hS : va_S A0 s.heap H locs) (hA : ∀ q, A q → A0 q) : PreS s H (zPreC G A (.ref b :: As) P) (.ref b :: As) := ⟨z_blindC, fun U hU hW => ⟨⟨rfl, by rw [hU]; exact hP, va_K.moved hW.alike hK⟩, by rw [hU]; exact ((hE.kept hS.2.1).warm hW).narrow hA⟩⟩
/-- a call of a constructor -/
theorem z_ic (S : CallFix p m c cc nL s args Ts own) (hM : Met l y ws rm Pc (zQv G P2 A) mc ms A) (cw : CallB R s args own index y bytes maxL none ws rm mc ms n ∧ y.name = "<init>" ∧ (Cond.instanceMethod y).before args s = true) (hp : PreS s H Pc (.ref b :: As)) (hS : va_S A0 H0 H locs) (hA2 : ∀ q, A q → A0 q) (hsz : ls.size = nL) (hn : As.length = n) (hst : st0 = As.reverse ++ .ref b :: rest) (hrm : (rest.map fun v => v.category).sum ≤ 8) (hdg : decode cc pc = .ok (.invokespecial index, 3)) (hf : cells + mc ≤ R.cells ∧ slots + ms ≤ R.slots)
    (kk : ∀ (H1 : Heap) (locs1 : List Loc), P2 H1 → va_S A0 H0 H1 locs1 → (H.size ≤ H1.size ∧ ∀ q : Nat, q < H.size → ¬ A q → H1[q]? = H[q]?) → W p l e R s m args below meth c H1 locs1 (cells + mc) (slots + ms) Q (F0 m (pc + 3) ls rest)) : W p l e R s m args below meth c H locs cells slots Q (F0 m pc ls st0) := by
  refine va_callv (va_runI S hM cw hp rfl hn hsz hst (lv_room hrm) hdg hf) hS (fun q _ h => hA2 q h) hA2 (fun u t H1 locs1 ht hvm hw hB hz hk hS1 => ?_)
  exact kk H1 locs1 (ht ▸ hB.1) hS1 ⟨hz, hk⟩
/-- a call of a nest mate's constructor -/
theorem z_nic {host : String} (S : CallFix p m c cc nL s args Ts own) (hM : Met l y ws rm Pc (zQv G P2 A) mc ms A) (cw : va_CN R s args own index y host bytes maxL none ws rm mc ms n ∧ y.name = "<init>" ∧ (Cond.instanceMethod y).before args s = true) (hp : PreS s H Pc (.ref b :: As)) (hS : va_S A0 H0 H locs) (hA2 : ∀ q, A q → A0 q) (hsz : ls.size = nL) (hn : As.length = n) (hst : st0 = As.reverse ++ .ref b :: rest) (hrm : (rest.map fun v => v.category).sum ≤ 8) (hdg : decode cc pc = .ok (.invokespecial index, 3)) (hf : cells + mc ≤ R.cells ∧ slots + ms ≤ R.slots)
    (kk : ∀ (H1 : Heap) (locs1 : List Loc), P2 H1 → va_S A0 H0 H1 locs1 → (H.size ≤ H1.size ∧ ∀ q : Nat, q < H.size → ¬ A q → H1[q]? = H[q]?) → W p l e R s m args below meth c H1 locs1 (cells + mc) (slots + ms) Q (F0 m (pc + 3) ls rest)) : W p l e R s m args below meth c H locs cells slots Q (F0 m pc ls st0) := by
  refine va_callv (va_runIN S hM cw hp rfl hn hsz hst (lv_room hrm) hdg hf) hS (fun q _ h => hA2 q h) hA2 (fun u t H1 locs1 ht hvm hw hB hz hk hS1 => ?_)
  exact kk H1 locs1 (ht ▸ hB.1) hS1 ⟨hz, hk⟩
/-- the table of first settings, copied over -/
theorem z_copyF (hexec : p.tables.exec = Jvm.exec) (hb : c.code = cc) (hml : c.maxLocals = ls.size) (hown : s.vm.findClass own = some m.cls) (hlink : (Cond.methodLink own index arraycopyName).before args s = true) (hnat : (Cond.native arraycopyName).before args s = true) (hstat : (Cond.static arraycopyName).before args s = true) (hini : (Cond.initialized "java/lang/System").before args s = true)
    (hK : zK G s) {X : va_W} (hP : va_P G.1 vwCl X H) (hD : va_D A X) (hS : va_S A s.heap H locs) {t1 a : Nat} (hX : va_T .int t1 6 (fun j => .int (zFi j)) A s s.heap) {g : Nat → Int32} (ha1 : X[2]? = some (a, .inl (G.2.2.1, 6, .inl g)))
    (hframes : 1 ≤ R.frames) (hlocals : (rest.map fun v => v.category).sum + (nativeFrameWords "java/lang/System" "arraycopy" 5 + 11) ≤ R.locals) (hdg : decode cc pc = .ok (.invokestatic index, 3))
    (kk : ∀ (H1 : Heap) (locs1 : List Loc), va_P G.1 vwCl (X.set 2 (a, .inl (G.2.2.1, 6, .inl (va_cpy zFi g 0 0 6)))) H1 → va_D A (X.set 2 (a, .inl (G.2.2.1, 6, .inl (va_cpy zFi g 0 0 6)))) → va_S A s.heap H1 locs1 → W p l e R s m args below meth c H1 locs1 cells slots Q (F0 m (pc + 3) ls rest)) : W p l e R s m args below meth c H locs cells slots Q (F0 m pc ls (.int 6 :: .int 0 :: .ref a :: .int 0 :: .ref t1 :: rest)) := by
  intro T hT Y
  obtain ⟨scr, hs1, hs2, hs3, hs4, -, hs5, hs7⟩ := hX
  have hc0 : H[t1]? = some scr := (hS.2.1 t1 (Array.getElem?_eq_some_iff.mp hs1).1 hs7).trans hs1
  have hc1 : H[a]? = some (vp_cell G.2.2.1 (6, .inl g)) := hP 2 _ ha1
  obtain ⟨hs6, k0, hk0, cm0, hkk0⟩ := hs2
  obtain ⟨-, k1, hk1, cm1, hkk1⟩ := (hK.2 1 _ rfl).1 6 (fun j => .int (g j))
  have six : ((6 : Int32).toInt) = 6 := by decide
  have zero : ((0 : Int32).toInt) = 0 := by decide
  have six2 : (6 : Int32).toNatClampNeg = 6 := by decide
  have zero2 : (0 : Int32).toNatClampNeg = 0 := by decide
  obtain ⟨vm', X', step⟩ := Y.arraycopy hexec hown hlink hnat hstat hini (src := t1) (dst := a) (cs := scr) (cd := vp_cell G.2.2.1 (6, .inl g)) (srcPos := 0) (destPos := 0) (n := 6) (by rw [hT]; exact hc0) (by rw [hT]; exact hc1)
    hs6 (fun _ h => by cases h) hs3 (fun h => by cases h) hk0 hk1 hkk0 hkk1 (by simp [refKind]) (by decide) (by decide) (by decide)
    (by rw [six, zero]; omega)
    (by rw [six, zero]; show ¬ _ > ((arrV G.2.2.1 6 (fun j => .int (g j))).slots.size : Int); rw [arrV_size]; omega)
    (fun vm₁ _ i hi => by
      rw [six2] at hi
      have e : scr.slots.getD ((0 : Int32).toNatClampNeg + i) .null = .int (zFi i) := by
        rw [Array.getD_eq_getD_getElem?, zero2, Nat.zero_add, hs5 i hi]
        rfl
      rw [e]
      exact ⟨rfl, trivial⟩)
    (g := F0 m pc ls (.int 6 :: .int 0 :: .ref a :: .int 0 :: .ref t1 :: rest)) rfl (by rw [hml]) (rest := rest) rfl (by rw [hb]; exact hdg) hframes (by show 2 * 0 + _ + _ ≤ _; omega)
  have e1 : copied scr (vp_cell G.2.2.1 (6, .inl g)) 0 0 6 = vp_cell G.2.2.1 (6, .inl (va_cpy zFi g 0 0 6)) := va_copiedX (fun z => .int z) scr G.2.2.1 zFi g (n0 := 6) (sp := 0) (dp := 0) (n := 6) (fun j hj => hs5 j hj) (Nat.le_refl 6)
  rw [e1] at X' step
  have hl : a < H.size := (Array.getElem?_eq_some_iff.mp hc1).1
  generalize hnew : vp_cell G.2.2.1 (6, .inl (va_cpy zFi g 0 0 6)) = new at X' step
  have hheap : ((T.setVm vm').setCell a new).heap = H.setIfInBounds a new := by rw [← hT]; rfl
  have oq : ∀ q : Nat, q ≠ a → (H.setIfInBounds a new)[q]? = H[q]? := fun q hq => by simp [Array.getElem?_setIfInBounds, Ne.symm hq]
  have at1 : va_at G.1 vwCl (a, .inl (G.2.2.1, 6, .inl (va_cpy zFi g 0 0 6))) (H.setIfInBounds a new) := by
    show (H.setIfInBounds a new)[a]? = some _
    rw [hnew]
    simp [Array.getElem?_setIfInBounds, hl]
  have hAa : A a := hD.2 2 _ ha1
  obtain ⟨t, a1, b1⟩ := kk _ _ (hP.set hD ha1 at1 oq) (hD.set ha1) ⟨by simp; exact hS.1, fun q g1 g2 => (oq q (fun e => g2 (e ▸ hAa))).trans (hS.2.1 q g1 g2), fun q hq => (List.mem_append.mp hq).elim (hS.2.2 q) (fun h => by
    obtain ⟨z, -, hz⟩ := List.mem_map.mp h
    rw [← hz]
    exact hAa)⟩ _ hheap X'
  exact ⟨t, step t a1, b1⟩
end ZINI
/-- the class of an array of references is told by its element's name -/
theorem zCA_o {U : State} {a b : ClassId} {C : String} (h1 : va_RA U a (.object C)) (h2 : va_RA U b (.object C)) : a = b := by
  obtain ⟨-, -, -, -, -, q1⟩ := h1
  obtain ⟨-, -, -, -, -, q2⟩ := h2
  exact Option.some.inj (q1.symm.trans q2)
theorem zCA_i {U : State} {a b : ClassId} (h1 : va_RA U a .int) (h2 : va_RA U b .int) : a = b := Option.some.inj (h1.symm.trans h2)
theorem zCA_z {U : State} {a b : ClassId} (h1 : va_RA U a .boolean) (h2 : va_RA U b .boolean) : a = b := Option.some.inj (h1.symm.trans h2)
theorem zK_of {G : zG} {s : State} {x : ClassId × FieldType} (h : va_K G.1 vwCl (zTys G ++ [x]) s) : va_RA s x.1 x.2 := (h.2 4 x rfl).2
/-- an object with its fields at their first values -/
abbrev zO1 : List Value := [.null, .null, .int 0, .int 0, .int 0, .int 0, .int 0, .int 0, .int 0, .int 0, .int 0]
abbrev zO3 : List Value := [.int 0, .int 0, .int 0, .int 0, .int 0, .int 0, .int 0, .int 0, .int 0, .int 0, .int 0]
def zτ0 : zT := fun f i => if f = 11 ∧ i = 9 then 1 else 0
def zg0 : Nat → Int32 := fun j => if j = 1 then 50 else if j = 2 then 150 else if 3 ≤ j ∧ j < 9 then zFi (j - 3) else 0
theorem zSen_0 (i : Nat) : zSen zτ0 i = zO3 := by
  simp [zSen, zτ0, zBi]
/-- from one address, and the new ones -/
def zFr (a sz : Nat) : Nat → Prop := fun q => q = a ∨ sz ≤ q
/-- a network that is being made: k sensors -/
def zNk (G : zG) (ad : Nat → Nat) (k : Nat) : va_W := (ad 0, .inr (1, [.ref (ad 1), .ref (ad 2), .int 0, .int 50, .int 150, .int 1, .int 0, .int 0, .int 0, .int 0, .int 0])) :: (ad 1, .inl (G.2.1, 12, .inr (.inr (.inr (.inr (fun i => if i < k then some (ad (3 + i)) else none)))))) :: (ad 2, .inl (G.2.2.1, 6, .inl (fun _ => 0))) :: (List.range k).map (zSenC ad zτ0)
theorem zNk_up (G : zG) (ad : Nat → Nat) (k q : Nat) : zNk G (va_up ad (3 + k) q) k = zNk G ad k := by
  have e : ∀ j, j < 3 + k → va_up ad (3 + k) q j = ad j := fun j hj => va_up_ne _ _ (by omega)
  unfold zNk
  rw [e 0 (by omega), e 1 (by omega), e 2 (by omega)]
  congr 1
  congr 1
  · congr 7
    refine congrArg Sum.inr ?_
    funext i
    by_cases h : i < k
    · rw [if_pos h, if_pos h, e _ (by omega)]
    · rw [if_neg h, if_neg h]
  · congr 1
    apply List.map_congr_left
    intro i hi
    unfold zSenC
    rw [e _ (by have := List.mem_range.mp hi; omega)]
theorem zNk_len (G : zG) (ad : Nat → Nat) (k : Nat) : (zNk G ad k).length = 3 + k := by
  simp [zNk]
  omega
theorem zNk_s (G : zG) (ad : Nat → Nat) (k : Nat) : (zNk G ad k ++ [((ad (3 + k), .inr (3, zO3)) : Nat × va_E)]).set 1 (ad 1, .inl (G.2.1, 12, .inr (.inr (.inr (.inr (va_up (fun i => if i < k then some (ad (3 + i)) else none) k (some (ad (3 + k))))))))) = zNk G ad (k + 1) := by
  unfold zNk
  rw [List.range_succ, List.map_append]
  have e : va_up (fun i => if i < k then some (ad (3 + i)) else none) k (some (ad (3 + k))) = fun i => if i < k + 1 then some (ad (3 + i)) else none := by
    funext i
    by_cases h : i = k
    · subst h
      rw [va_up_self, if_pos (by omega)]
    · rw [va_up_ne _ _ h]
      by_cases h2 : i < k
      · rw [if_pos h2, if_pos (by omega)]
      · rw [if_neg h2, if_neg (by omega)]
  rw [e]
  have e2 : zSenC ad zτ0 k = ((ad (3 + k), .inr (3, zO3)) : Nat × va_E) := by
    unfold zSenC
    rw [zSen_0]
  simp [e2]
