/-! ===== rows that stood among the reference's in whole ===== -/
theorem zCell_ext {cA : ClassId} {len : Nat} {f g : Nat → Int32} (h : ∀ j, j < len → f j = g j) : vp_cell cA (len, .inl f) = vp_cell cA (len, .inl g) := by
  rw [vp_cell_i, vp_cell_i]
  unfold arrV
  congr 2
  funext j
  exact congrArg Value.int (h j.1 j.2)
def zMx (τ1 τ : zT) : zT := fun f i => if f = 9 ∨ f = 10 then τ f i else τ1 f i
theorem zMx_e9 (τ1 τ : zT) : zE9 (zMx τ1 τ) τ1 := fun f i h9 h10 => by simp [zMx, h9, h10]
/-! ===== returns with cases; ints that the caller gives ===== -/
theorem zIf_t {C : Prop} [Decidable C] {P Q : Heap → Prop} {H : Heap} (h : C) (k : P H) : (if C then P else Q) H := by
  rw [if_pos h]
  exact k
theorem zIf_n {C : Prop} [Decidable C] {P Q : Heap → Prop} {H : Heap} (h : ¬ C) (k : Q H) : (if C then P else Q) H := by
  rw [if_neg h]
  exact k
theorem zIr_t {C : Prop} [Decidable C] {v a b : Int32} (h : C) (k : v = a) : v = if C then a else b := by
  rw [if_pos h]
  exact k
theorem zIr_n {C : Prop} [Decidable C] {v a b : Int32} (h : ¬ C) (k : v = b) : v = if C then a else b := by
  rw [if_neg h]
  exact k
section ZPUB
variable {p : Program} {l : Launch} {e : Env} {R : Room} {s : State} {m : MethodId} {args : Array Value} {below : List Frame} {meth : Method} {c : Code} {H : Heap} {locs : List Loc} {cells slots : Nat}
variable {cc : ByteArray} {pc : Nat} {ls : Array Slot} {G : zG} {A : Nat → Prop} {P2 : Heap → Prop} {r v : Int32}
theorem z_iretE (hx : p.tables.exec = Jvm.exec) (hb : c.code = cc) (hr : meth.sig.returnType = some .int) (hlk : meth.locks = false) (hK : zK G s) (hS : va_S A s.heap H locs) (ev : v = r) (hP : P2 H) (hdg : decode cc pc = .ok (.ireturn, 1)) :
    W p l e R s m args below meth c H locs cells slots (MQ below (zQi G r P2 A) args s cells slots A) (F0 m pc ls [.int v]) := by
  subst ev
  exact z_iret hx hb hr hlk hK hS hP hdg
theorem z_zretE (hx : p.tables.exec = Jvm.exec) (hb : c.code = cc) (hr : meth.sig.returnType = some .boolean) (hlk : meth.locks = false) (hK : zK G s) (hS : va_S A s.heap H locs) (ev : v = r) (hn : narrow .boolean (.int v) = .int v) (hP : P2 H) (hdg : decode cc pc = .ok (.ireturn, 1)) :
    W p l e R s m args below meth c H locs cells slots (MQ below (zQi G r P2 A) args s cells slots A) (F0 m pc ls [.int v]) := by
  subst ev
  exact z_zret hx hb hr hlk hn hK hS hP hdg
end ZPUB
theorem zIn_of {n : Nat} (hn : n < 2147483648) {x : Int32} (h : ¬ x < 0 ∧ x < nI n) : ∃ k : Nat, k < n ∧ x = nI k := by
  obtain ⟨j, hj, rfl⟩ := nI_of h.1
  exact ⟨j, (nI_ltI hj hn).mp h.2, rfl⟩
theorem zLe_of {a b : Nat} (ha : a < 2147483648) (hb : b < 2147483648) {x : Int32} (h : ¬ x < nI a ∧ ¬ nI b < x) : ∃ k : Nat, a ≤ k ∧ k ≤ b ∧ x = nI k := by
  have h0 : ¬ x < 0 := by
    intro q
    apply h.1
    rw [Int32.lt_iff_toInt_lt] at q ⊢
    rw [nI_toInt ha]
    have : (0 : Int32).toInt = 0 := by decide
    omega
  obtain ⟨j, hj, rfl⟩ := nI_of h0
  refine ⟨j, ?_, ?_, rfl⟩
  · have := (not_congr (nI_ltI hj ha)).mp h.1
    omega
  · have := (not_congr (nI_ltI hb hj)).mp h.2
    omega
/-- a new sensor n -/
def zNs (τ : zT) (n : Nat) (x y b : Int32) : zT := zSt (zSt (zSt (zSt (zSt (zSt (zSt (zSt (zSt τ 0 n x) 1 n y) 2 n b) 3 n 1) 4 n 1) 5 n 0) 6 n (-9)) 7 n (-9)) 8 n (-9)
abbrev zC3 (x y b : Int32) : Prop := (¬ x < 0 ∧ ¬ 99 < x) ∧ (¬ y < 0 ∧ ¬ 99 < y) ∧ (¬ b < 0 ∧ ¬ 100000 < b)
/-- a sensor's number, or -1 -/
def zVl (n : Nat) (τ : zT) (x : Int32) (w : Nat) : Int32 := if ¬ x < 0 ∧ x < nI n then τ w x.toNatClampNeg else -1
