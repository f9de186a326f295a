/-! ===== what the class's methods do to a network's state: n sensors; g: 1, 2 base, 3 cycle, 4 electronics, 5 divisor, 6 aggregation, 7 announcement, 8 routing ===== -/
def zDi (x y u v : Int32) : Int32 := (x - u) * (x - u) + (y - v) * (y - v)
def zDs (τ : zT) (i j : Nat) : Int32 := zDi (τ 0 i) (τ 1 i) (τ 0 j) (τ 1 j)
def zDb (g : Nat → Int32) (τ : zT) (i : Nat) : Int32 := zDi (τ 0 i) (τ 1 i) (g 1) (g 2)
def zCo (g : Nat → Int32) (d : Int32) : Int32 := g 4 + d / g 5
def zPh (g : Nat → Int32) (τ : zT) : Int32 := τ 11 10 - τ 11 10 / g 3 * g 3
def zDie (τ : zT) (i : Nat) : zT := zSt (zSt τ 3 i 0) 6 i (τ 11 10)
def zPd (τ : zT) (i : Nat) (c : Int32) : zT := zSt (zSt τ 2 i (τ 2 i - c)) 11 14 (τ 11 14 + c)
def zPay (τ : zT) (i : Nat) (c : Int32) : zT := if τ 2 i < c then zDie τ i else zPd τ i c
def zBr (τ : zT) (i : Nat) : zT := zSt (zSt (zSt (zSt τ 7 i (-9)) 8 i (-9)) 10 i 0) 9 i 0
def zBgC (ph : Int32) (k : Nat) (τ : zT) : zT := if ph = 0 then zSt (zBr τ k) 4 k 1 else zBr τ k
def zBg (n : Nat) (g : Nat → Int32) (τ : zT) : zT := zSt (zSt (zIt (zBgC (zPh g τ)) n τ) 11 11 0) 11 12 0
def zNx (x : Int32) : Int32 := (x * 1103515245 + 12345) &&& 2147483647
def zDr (x : Int32) : Int32 := x / 65536 - x / 65536 / 1000 * 1000
def zDw (τ : zT) : zT := zSt τ 11 9 (zNx (τ 11 9))
def zElS (left : Int32) (k : Nat) (τ : zT) : zT := if τ 3 k = 1 ∧ τ 4 k = 1 then zSt (zDw τ) 10 k (zBi (zDr (zNx (τ 11 9)) * left < 1000)) else τ
def zEl (n : Nat) (g : Nat → Int32) (τ : zT) : zT := zIt (zElS (g 3 - zPh g τ)) n τ
def zAnY (g : Nat → Int32) (k : Nat) (τ : zT) : zT := zSt (zSt (zSt (zSt (zPd τ k (g 7)) 7 k (nI k)) 4 k 0) 5 k (τ 5 k + 1)) 11 11 (τ 11 11 + 1)
def zAnS (g : Nat → Int32) (k : Nat) (τ : zT) : zT := if τ 10 k = 1 then (if τ 2 k < g 7 then zDie τ k else zAnY g k τ) else τ
def zOi (o : Option Nat) : Int32 := match o with
  | none => -9
  | some b => nI b
/-- a distance that is none yet is 0 -/
def zOd (τ : zT) (x y : Int32) (o : Option Nat) : Int32 := match o with
  | none => 0
  | some b => zDi (τ 0 b) (τ 1 b) x y
def zNeS (τ : zT) (x y : Int32) (h : Nat) (o : Option Nat) : Option Nat := if (τ 3 h = 1 ∧ τ 7 h = nI h) ∧ (o = none ∨ zDi (τ 0 h) (τ 1 h) x y < zOd τ x y o) then some h else o
def zNe (n : Nat) (τ : zT) (x y : Int32) : Option Nat := zIt (zNeS τ x y) n none
def zJ1S (n : Nat) (k : Nat) (τ : zT) : zT := if τ 3 k = 1 ∧ ¬ τ 7 k = nI k then zSt τ 7 k (zOi (zNe n τ (τ 0 k) (τ 1 k))) else τ
def zGsS (h : Nat) (k : Nat) (u : Int32 × zT) : Int32 × zT := if k ≠ h ∧ u.2 7 k = nI h then (u.1 + 1, zSt u.2 8 k u.1) else u
def zGs (n h : Nat) (τ : zT) : zT := (zIt (zGsS h) n (0, τ)).2
def zJ2S (n : Nat) (h : Nat) (τ : zT) : zT := if τ 7 h = nI h then zGs n h τ else τ
def zJo (n : Nat) (τ : zT) : zT := zIt (zJ2S n) n (zIt (zJ1S n) n τ)
/-- taking a message in: the state, and whether it was paid for -/
def zTk (g : Nat → Int32) (τ : zT) (h : Nat) : zT × Int32 := if τ 3 h = 1 then (if τ 2 h < g 4 then (zDie τ h, 0) else (if (zPd τ h (g 4)) 2 h < g 6 then (zDie (zPd τ h (g 4)) h, 0) else (zPd (zPd τ h (g 4)) h (g 6), 1))) else (τ, 0)
/-- sending a message from i to h -/
def zSd (g : Nat → Int32) (τ : zT) (i h : Nat) : zT × Int32 := if τ 2 i < zCo g (zDs τ i h) then (zDie τ i, 0) else zTk g (zPd τ i (zCo g (zDs τ i h))) h
def zRpS (g : Nat → Int32) (h k : Nat) (τ : zT) : zT := if (k ≠ h ∧ τ 7 k = nI h) ∧ τ 3 k = 1 then (if (zSd g τ k h).2 = 0 then (zSd g τ k h).1 else zSt (zSd g τ k h).1 9 h ((zSd g τ k h).1 9 h + 1)) else τ
def zRhS (n : Nat) (g : Nat → Int32) (h : Nat) (τ : zT) : zT := if τ 7 h = nI h then zIt (zRpS g h) n τ else τ
def zOwS (g : Nat → Int32) (h : Nat) (τ : zT) : zT := if τ 3 h = 1 ∧ τ 7 h = nI h then (if τ 2 h < g 6 then zDie τ h else zSt (zPd τ h (g 6)) 9 h (τ 9 h + 1)) else τ
def zSb (g : Nat → Int32) (τ : zT) (i : Nat) (w : Int32) : zT := if τ 2 i < zCo g (zDb g τ i) then zDie τ i else zSt (zPd τ i (zCo g (zDb g τ i))) 11 12 (τ 11 12 + w)
def zDdS (g : Nat → Int32) (h : Nat) (τ : zT) : zT := if τ 3 h = 1 ∧ τ 7 h = nI h then zSb g τ h (τ 9 h) else τ
def zRlS (g : Nat → Int32) (r h : Nat) (τ : zT) : zT := if h ≠ r ∧ (τ 3 h = 1 ∧ τ 7 h = nI h) then (if (zSd g τ h r).2 = 0 then (zSd g τ h r).1 else zSt (zSd g τ h r).1 9 r ((zSd g τ h r).1 9 r + (zSd g τ h r).1 9 h)) else τ
def zRlE (g : Nat → Int32) (r : Nat) (τ : zT) : zT := if τ 3 r = 1 then zSb g τ r (τ 9 r) else τ
def zRl (n : Nat) (g : Nat → Int32) (τ : zT) : zT := match zNe n τ (g 1) (g 2) with
  | none => τ
  | some r => zRlE g r (zIt (zRlS g r) n τ)
def zDv (n : Nat) (g : Nat → Int32) (τ : zT) : zT := if g 8 = 1 then zRl n g τ else zIt (zDdS g) n τ
def zRbS (g : Nat → Int32) (k : Nat) (τ : zT) : zT := if τ 3 k = 1 then zSb g τ k 1 else τ
def zR2 (n : Nat) (g : Nat → Int32) (τ : zT) : zT := if τ 11 11 = 0 then zIt (zRbS g) n τ else zDv n g (zIt (zOwS g) n (zIt (zRhS n g) n (zJo n τ)))
def zR3 (τ : zT) : zT := zSt (zSt τ 11 13 (τ 11 13 + τ 11 12)) 11 10 (τ 11 10 + 1)
/-- a round from behind its beginning on; a round -/
def zR1 (n : Nat) (g : Nat → Int32) (τ : zT) : zT := zR3 (zR2 n g (zIt (zAnS g) n (zEl n g τ)))
def zCaS (τ : zT) (k : Nat) (v : Int32) : Int32 := if τ 3 k = 1 then v + 1 else v
def zCa (n : Nat) (τ : zT) : Int32 := zIt (zCaS τ) n 0
/-- how a state is made, told by its readings -/
theorem zOi_lt {b : Nat} (h : b < 12) : ¬ zOi (some b) = -9 := by
  show ¬ nI b = -9
  intro q
  have := congrArg Int32.toInt q
  rw [nI_toInt (by omega)] at this
  have h9 : (-9 : Int32).toInt = -9 := by decide
  omega
theorem zNe_lt (n : Nat) (τ : zT) (x y : Int32) : ∀ k b, zIt (zNeS τ x y) k none = some b → b < k := by
  intro k
  induction k with
  | zero => intro b h; cases h
  | succ k ih =>
    intro b h
    rw [zIt_s] at h
    unfold zNeS at h
    split at h
    · cases h
      omega
    · have := ih b h
      omega
theorem zIt_inv {α : Type} (f : Nat → α → α) (I : α → Prop) (a : α) (h0 : I a) (hs : ∀ k a, I a → I (f k a)) : ∀ k, I (zIt f k a) := by
  intro k
  induction k with
  | zero => exact h0
  | succ k ih => exact hs k _ ih
theorem zPay_n {τ : zT} {i : Nat} {c : Int32} (h : τ 2 i < c) : zPay τ i c = zDie τ i := if_pos h
theorem zPay_y {τ : zT} {i : Nat} {c : Int32} (h : ¬ τ 2 i < c) : zPay τ i c = zPd τ i c := if_neg h
theorem zTk_bit (g : Nat → Int32) (τ : zT) (h : Nat) : (zTk g τ h).2 = 0 ∨ (zTk g τ h).2 = 1 := by
  unfold zTk
  split
  · split
    · exact Or.inl rfl
    · split
      · exact Or.inl rfl
      · exact Or.inr rfl
  · exact Or.inl rfl
theorem zSd_bit (g : Nat → Int32) (τ : zT) (i h : Nat) : (zSd g τ i h).2 = 0 ∨ (zSd g τ i h).2 = 1 := by
  unfold zSd
  split
  · exact Or.inl rfl
  · exact zTk_bit g _ h
