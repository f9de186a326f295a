/-! ===== what the reference's methods do to its state, where they go another way than the class ===== -/
def zBgM (ph : Int32) (k : Nat) (τ : zT) : zT := zSt (zSt (zSt (zSt τ 4 k (if ph = 0 then 1 else τ 4 k)) 7 k (-9)) 8 k (-9)) 9 k 0
def zElM (left : Int32) (k : Nat) (τ : zT) : zT := if τ 3 k = 1 ∧ τ 4 k = 1 then zSt (zDw τ) 10 k (zBi (zDr (zNx (τ 11 9)) * left < 1000)) else zSt τ 10 k 0
def zEm (n : Nat) (g : Nat → Int32) (τ : zT) : zT := zIt (zElM (g 3 - zPh g τ)) n (zIt (zBgM (zPh g τ)) n τ)
def zDsO (τ : zT) (k : Nat) (o : Option Nat) : Int32 := match o with
  | none => 0
  | some b => zDs τ k b
def zNmS (τ : zT) (k : Nat) (h : Nat) (o : Option Nat) : Option Nat := if τ 7 h = nI h ∧ (o = none ∨ zDs τ k h < zDsO τ k o) then some h else o
def zNm (n : Nat) (τ : zT) (k : Nat) : Option Nat := zIt (zNmS τ k) n none
theorem zNm_lt (n : Nat) (τ : zT) (k : Nat) : ∀ h b, zIt (zNmS τ k) h none = some b → b < h := by
  intro h
  induction h with
  | zero => intro b q; cases q
  | succ h ih =>
    intro b q
    rw [zIt_s] at q
    generalize zIt (zNmS τ k) h none = o at q ih
    unfold zNmS at q
    split at q
    · cases q
      omega
    · have := ih b q
      omega
def zSlS (τ : zT) (r : Int32) (i : Nat) (v : Int32) : Int32 := if ¬ τ 7 i = nI i ∧ τ 7 i = r then v + 1 else v
def zSl (τ : zT) (r : Int32) (k : Nat) : Int32 := zIt (zSlS τ r) k 0
def zJmO (τ : zT) (k : Nat) (o : Option Nat) : zT := match o with
  | none => zSt (zSt τ 7 k (-9)) 8 k (-9)
  | some b => zSt (zSt τ 7 k (nI b)) 8 k (zSl τ (nI b) k)
def zJmS (n k : Nat) (τ : zT) : zT := if τ 3 k = 1 ∧ ¬ τ 7 k = nI k then zJmO τ k (zNm n τ k) else τ
def zRqS (g : Nat → Int32) (h k : Nat) (τ : zT) : zT := if τ 7 h = nI h then zRpS g h k τ else τ
theorem zRq_stop {g : Nat → Int32} {h k : Nat} {τ : zT} (hh : ¬ (zIt (zRqS g h) k τ) 7 h = nI h) : ∀ j, zIt (zRqS g h) (k + j) τ = zIt (zRqS g h) k τ := by
  intro j
  induction j with
  | zero => rfl
  | succ j ih =>
    rw [show k + (j + 1) = (k + j) + 1 by omega, zIt_s, ih]
    generalize zIt (zRqS g h) k τ = u at hh ⊢
    unfold zRqS
    rw [if_neg hh]
def zRm (n : Nat) (g : Nat → Int32) (h : Nat) (τ : zT) : zT := zIt (zRqS g h) n τ
def zDmS (g : Nat → Int32) (h : Nat) (τ : zT) : zT := if τ 3 h = 1 then zSb g τ h (τ 9 h) else τ
def zAlS (g : Nat → Int32) (k : Nat) (τ : zT) : zT := zDmS g k (zSt τ 9 k 1)
def zAm2 (n : Nat) (g : Nat → Int32) (τ : zT) : zT := zIt (zAnS g) n (zSt τ 11 11 0)
def zM2 (n : Nat) (g : Nat → Int32) (τ : zT) : zT := if τ 11 11 = 0 then zIt (zAlS g) n (zSt τ 11 12 0) else zDv n g (zIt (zOwS g) n (zIt (zRm n g) n (zSt τ 11 12 0)))
def zMd (n : Nat) (g : Nat → Int32) (τ : zT) : zT := zR3 (zM2 n g (zIt (zJmS n) n (zAm2 n g (zEm n g τ))))
def zLvS (τ : zT) (k : Nat) (v : Int32) : Int32 := v + τ 3 k
def zLv (n : Nat) (τ : zT) : Int32 := zIt (zLvS τ) n 0
def zPmS (n : Nat) (g : Nat → Int32) (_ : Nat) (u : Nat × zT) : Nat × zT := if 0 < zLv n u.2 then (u.1 + 1, zMd n g u.2) else u
def zPm (n : Nat) (g : Nat → Int32) (lim : Nat) (τ : zT) : Nat × zT := zIt (zPmS n g) lim (0, τ)
theorem zPm_stop {n : Nat} {g : Nat → Int32} {τ : zT} {k : Nat} (h : ¬ 0 < zLv n (zIt (zPmS n g) k (0, τ)).2) : ∀ j, zIt (zPmS n g) (k + j) (0, τ) = zIt (zPmS n g) k (0, τ) := by
  intro j
  induction j with
  | zero => rfl
  | succ j ih =>
    rw [show k + (j + 1) = (k + j) + 1 by omega, zIt_s, ih]
    generalize zIt (zPmS n g) k (0, τ) = u at h ⊢
    unfold zPmS
    rw [if_neg h]
theorem zIsS {n : Nat} (hn : n ≤ 12) (x : Int32) : (¬ x < 0 ∧ ¬ nI n - 1 < x) ↔ (¬ x < 0 ∧ x < nI n) := by
  refine and_congr_right (fun h => ?_)
  obtain ⟨j, hj, rfl⟩ := nI_of h
  have hj : j < 2147483648 := hj
  cases n with
  | zero =>
    have e : nI 0 - 1 = -1 := by decide
    rw [e]
    refine iff_of_false (fun q => q (Int32.lt_iff_toInt_lt.mpr ?_)) ?_
    · rw [nI_toInt hj]
      have : (-1 : Int32).toInt = -1 := by decide
      omega
    · rw [nI_ltI hj (by omega)]
      omega
  | succ n =>
    rw [nI_pred, nI_ltI (by omega) hj, nI_ltI hj (by omega)]
    omega
theorem zDb_f (g : Nat → Int32) (τ : zT) (i : Nat) : zDi (τ 0 i) (τ 1 i) (g 1) (g 2) = zDb g τ i := rfl
