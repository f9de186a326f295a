/-! ===== returns with cases; ints that the caller gives ===== -/
theorem zIf_t {C : Prop} [Decidable C] {P Q : Heap → Prop} {H : Heap} (h : C) (k : P H) : (if C then P else Q) H := by
  rw [if_pos h]
  exact k
theorem zIf_n {C : Prop} [Decidable C] {P Q : Heap → Prop} {H : Heap} (h : ¬ C) (k : Q H) : (if C then P else Q) H := by
  rw [if_neg h]
  exact k
theorem zIr_t {C : Prop} [Decidable C] {v a b : Int32} (h : C) (k : v = a) : v = if C then a else b := by
  rw [if_pos h]
  exact k
theorem zIr_n {C : Prop} [Decidable C] {v a b : Int32} (h : ¬ C) (k : v = b) : v = if C then a else b := by
  rw [if_neg h]
  exact k
section ZPUB
variable {p : Program} {l : Launch} {e : Env} {R : Room} {s : State} {m : MethodId} {args : Array Value} {below : List Frame} {meth : Method} {c : Code} {H : Heap} {locs : List Loc} {cells slots : Nat}
variable {cc : ByteArray} {pc : Nat} {ls : Array Slot} {G : zG} {A : Nat → Prop} {P2 : Heap → Prop} {r v : Int32}
theorem z_iretE (hx : p.tables.exec = Jvm.exec) (hb : c.code = cc) (hr : meth.sig.returnType = some .int) (hlk : meth.locks = false) (hK : zK G s) (hS : va_S A s.heap H locs) (ev : v = r) (hP : P2 H) (hdg : decode cc pc = .ok (.ireturn, 1)) :
    W p l e R s m args below meth c H locs cells slots (MQ below (zQi G r P2 A) args s cells slots A) (F0 m pc ls [.int v]) := by
  subst ev
  exact z_iret hx hb hr hlk hK hS hP hdg
theorem z_zretE (hx : p.tables.exec = Jvm.exec) (hb : c.code = cc) (hr : meth.sig.returnType = some .boolean) (hlk : meth.locks = false) (hK : zK G s) (hS : va_S A s.heap H locs) (ev : v = r) (hn : narrow .boolean (.int v) = .int v) (hP : P2 H) (hdg : decode cc pc = .ok (.ireturn, 1)) :
    W p l e R s m args below meth c H locs cells slots (MQ below (zQi G r P2 A) args s cells slots A) (F0 m pc ls [.int v]) := by
  subst ev
  exact z_zret hx hb hr hlk hn hK hS hP hdg
end ZPUB
theorem zIn_of {n : Nat} (hn : n < 2147483648) {x : Int32} (h : ¬ x < 0 ∧ x < nI n) : ∃ k : Nat, k < n ∧ x = nI k := by
  obtain ⟨j, hj, rfl⟩ := nI_of h.1
  exact ⟨j, (nI_ltI hj hn).mp h.2, rfl⟩
theorem zLe_of {a b : Nat} (ha : a < 2147483648) (hb : b < 2147483648) {x : Int32} (h : ¬ x < nI a ∧ ¬ nI b < x) : ∃ k : Nat, a ≤ k ∧ k ≤ b ∧ x = nI k := by
  have h0 : ¬ x < 0 := by
    intro q
    apply h.1
    rw [Int32.lt_iff_toInt_lt] at q ⊢
    rw [nI_toInt ha]
    have : (0 : Int32).toInt = 0 := by decide
    omega
  obtain ⟨j, hj, rfl⟩ := nI_of h0
  refine ⟨j, ?_, ?_, rfl⟩
  · have := (not_congr (nI_ltI hj ha)).mp h.1
    omega
  · have := (not_congr (nI_ltI hb hj)).mp h.2
    omega
/-- a new sensor n -/
def zNs (τ : zT) (n : Nat) (x y b : Int32) : zT := zSt (zSt (zSt (zSt (zSt (zSt (zSt (zSt (zSt τ 0 n x) 1 n y) 2 n b) 3 n 1) 4 n 1) 5 n 0) 6 n (-9)) 7 n (-9)) 8 n (-9)
abbrev zC3 (x y b : Int32) : Prop := (¬ x < 0 ∧ ¬ 99 < x) ∧ (¬ y < 0 ∧ ¬ 99 < y) ∧ (¬ b < 0 ∧ ¬ 100000 < b)
/-- a sensor's number, or -1 -/
def zVl (n : Nat) (τ : zT) (x : Int32) (w : Nat) : Int32 := if ¬ x < 0 ∧ x < nI n then τ w x.toNatClampNeg else -1
theorem zCp_rt (σ cp σ2 : Nat → Int32) {j : Nat} (hj : j < 123) : va_cpy (va_cpy σ cp 0 0 123) σ2 0 0 123 j = σ j := by
  unfold va_cpy
  rw [if_pos (by omega)]
  simp only [Nat.zero_add, Nat.sub_zero]
  rw [if_pos (by omega)]
/-- which values a setting may have -/
def zLo (j : Nat) : Int32 := if j = 0 then 2 else if j = 1 then 1 else if j = 2 then 1 else 0
def zHi (j : Nat) : Int32 := if j = 0 then 8 else if j = 1 then 50 else if j = 2 then 1000 else if j = 3 then 20 else if j = 4 then 50 else 1
def zSv (x v : Int32) : Prop := ∃ j : Nat, j < 6 ∧ x = nI j ∧ ¬ v < zLo j ∧ ¬ zHi j < v
/-- 0 but where v is a value of setting x -/
def zSvB (x v : Int32) : Int32 := if x = 0 then zBi (¬ v < 2 ∧ ¬ 8 < v) else if x = 1 then zBi (¬ v < 1 ∧ ¬ 50 < v) else if x = 2 then zBi (¬ v < 1 ∧ ¬ 1000 < v) else if x = 3 then zBi (¬ v < 0 ∧ ¬ 20 < v) else if x = 4 then zBi (¬ v < 0 ∧ ¬ 50 < v) else if x = 5 then zBi (¬ v < 0 ∧ ¬ 1 < v) else 0
theorem zSvB_of {x v : Int32} (h : ¬ zSvB x v = 0) : ∃ j : Nat, j < 6 ∧ x = nI j := by
  unfold zSvB at h
  by_cases h0 : x = 0
  · exact ⟨0, by decide, h0⟩
  by_cases h1 : x = 1
  · exact ⟨1, by decide, h1⟩
  by_cases h2 : x = 2
  · exact ⟨2, by decide, h2⟩
  by_cases h3 : x = 3
  · exact ⟨3, by decide, h3⟩
  by_cases h4 : x = 4
  · exact ⟨4, by decide, h4⟩
  by_cases h5 : x = 5
  · exact ⟨5, by decide, h5⟩
  rw [if_neg h0, if_neg h1, if_neg h2, if_neg h3, if_neg h4, if_neg h5] at h
  exact absurd rfl h
theorem zTb {x : Int32} (h0 : ¬ x = 0) (h1 : ¬ x = 1) (h2 : ¬ x = 2) (h3 : ¬ x = 3) (h4 : ¬ x = 4) : x.toInt < 0 ∨ 4 < x.toInt := by
  have e0 := lv_neT (a := 0) h0 (by decide)
  have e1 := lv_neT (a := 1) h1 (by decide)
  have e2 := lv_neT (a := 2) h2 (by decide)
  have e3 := lv_neT (a := 3) h3 (by decide)
  have e4 := lv_neT (a := 4) h4 (by decide)
  omega
theorem zMA_g (n : Nat) (g : Nat → Int32) (τ : zT) {j : Nat} (h1 : 1 ≤ j) (h9 : j < 9) : zMA n g τ j = g j := by
  unfold zMA
  rw [if_pos (by omega), if_neg (by omega), if_pos h9]
