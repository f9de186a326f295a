/-! ===== returns with cases; ints that the caller gives ===== -/
theorem zIf_t {C : Prop} [Decidable C] {P Q : Heap → Prop} {H : Heap} (h : C) (k : P H) : (if C then P else Q) H := by
  rw [if_pos h]
  exact k
theorem zIf_n {C : Prop} [Decidable C] {P Q : Heap → Prop} {H : Heap} (h : ¬ C) (k : Q H) : (if C then P else Q) H := by
  rw [if_neg h]
  exact k
theorem zIr_t {C : Prop} [Decidable C] {v a b : Int32} (h : C) (k : v = a) : v = if C then a else b := by
  rw [if_pos h]
  exact k
theorem zIr_n {C : Prop} [Decidable C] {v a b : Int32} (h : ¬ C) (k : v = b) : v = if C then a else b := by
  rw [if_neg h]
  exact k
section ZPUB
variable {p : Program} {l : Launch} {e : Env} {R : Room} {s : State} {m : MethodId} {args : Array Value} {below : List Frame} {meth : Method} {c : Code} {H : Heap} {locs : List Loc} {cells slots : Nat}
variable {cc : ByteArray} {pc : Nat} {ls : Array Slot} {G : zG} {A : Nat → Prop} {P2 : Heap → Prop} {r v : Int32}
theorem z_iretE (hx : p.tables.exec = Jvm.exec) (hb : c.code = cc) (hr : meth.sig.returnType = some .int) (hlk : meth.locks = false) (hK : zK G s) (hS : va_S A s.heap H locs) (ev : v = r) (hP : P2 H) (hdg : decode cc pc = .ok (.ireturn, 1)) :
    W p l e R s m args below meth c H locs cells slots (MQ below (zQi G r P2 A) args s cells slots A) (F0 m pc ls [.int v]) := by
  subst ev
  exact z_iret hx hb hr hlk hK hS hP hdg
theorem z_zretE (hx : p.tables.exec = Jvm.exec) (hb : c.code = cc) (hr : meth.sig.returnType = some .boolean) (hlk : meth.locks = false) (hK : zK G s) (hS : va_S A s.heap H locs) (ev : v = r) (hn : narrow .boolean (.int v) = .int v) (hP : P2 H) (hdg : decode cc pc = .ok (.ireturn, 1)) :
    W p l e R s m args below meth c H locs cells slots (MQ below (zQi G r P2 A) args s cells slots A) (F0 m pc ls [.int v]) := by
  subst ev
  exact z_zret hx hb hr hlk hn hK hS hP hdg
end ZPUB
theorem zIn_of {n : Nat} (hn : n < 2147483648) {x : Int32} (h : ¬ x < 0 ∧ x < nI n) : ∃ k : Nat, k < n ∧ x = nI k := by
  obtain ⟨j, hj, rfl⟩ := nI_of h.1
  exact ⟨j, (nI_ltI hj hn).mp h.2, rfl⟩
theorem zLe_of {a b : Nat} (ha : a < 2147483648) (hb : b < 2147483648) {x : Int32} (h : ¬ x < nI a ∧ ¬ nI b < x) : ∃ k : Nat, a ≤ k ∧ k ≤ b ∧ x = nI k := by
  have h0 : ¬ x < 0 := by
    intro q
    apply h.1
    rw [Int32.lt_iff_toInt_lt] at q ⊢
    rw [nI_toInt ha]
    have : (0 : Int32).toInt = 0 := by decide
    omega
  obtain ⟨j, hj, rfl⟩ := nI_of h0
  refine ⟨j, ?_, ?_, rfl⟩
  · have := (not_congr (nI_ltI hj ha)).mp h.1
    omega
  · have := (not_congr (nI_ltI hb hj)).mp h.2
    omega
/-- a new sensor n -/
def zNs (τ : zT) (n : Nat) (x y b : Int32) : zT := zSt (zSt (zSt (zSt (zSt (zSt (zSt (zSt (zSt τ 0 n x) 1 n y) 2 n b) 3 n 1) 4 n 1) 5 n 0) 6 n (-9)) 7 n (-9)) 8 n (-9)
abbrev zC3 (x y b : Int32) : Prop := (¬ x < 0 ∧ ¬ 99 < x) ∧ (¬ y < 0 ∧ ¬ 99 < y) ∧ (¬ b < 0 ∧ ¬ 100000 < b)
/-- a sensor's number, or -1 -/
def zVl (n : Nat) (τ : zT) (x : Int32) (w : Nat) : Int32 := if ¬ x < 0 ∧ x < nI n then τ w x.toNatClampNeg else -1
theorem zCp_rt (σ cp σ2 : Nat → Int32) {j : Nat} (hj : j < 123) : va_cpy (va_cpy σ cp 0 0 123) σ2 0 0 123 j = σ j := by
  unfold va_cpy
  rw [if_pos (by omega)]
  simp only [Nat.zero_add, Nat.sub_zero]
  rw [if_pos (by omega)]
/-- which values a setting may have -/
def zLo (j : Nat) : Int32 := if j = 0 then 2 else if j = 1 then 1 else if j = 2 then 1 else 0
def zHi (j : Nat) : Int32 := if j = 0 then 8 else if j = 1 then 50 else if j = 2 then 1000 else if j = 3 then 20 else if j = 4 then 50 else 1
def zSv (x v : Int32) : Prop := ∃ j : Nat, j < 6 ∧ x = nI j ∧ ¬ v < zLo j ∧ ¬ zHi j < v
