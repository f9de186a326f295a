/-! ===== the history's row, turned by one ===== -/
def zRo (π : Nat → Nat) (i : Nat) : Nat → Nat := fun x => if x + 1 < i then π (x + 1) else π x
def zRot (π : Nat → Nat) : Nat → Nat := va_up (zRo π 6) 5 (π 0)
theorem zRo_1 (π : Nat → Nat) : zRo π 1 = π := by
  funext x
  unfold zRo
  rw [if_neg (by omega)]
theorem zRo_s (π : Nat → Nat) {i : Nat} (hi : 1 ≤ i) : va_up (zRo π i) (i - 1) ((zRo π i) i) = zRo π (i + 1) := by
  funext x
  unfold va_up zRo
  by_cases h : x = i - 1
  · rw [if_pos h, if_neg (by omega), if_pos (by omega), h, show i - 1 + 1 = i by omega]
  · rw [if_neg h]
    by_cases h2 : x + 1 < i
    · rw [if_pos h2, if_pos (by omega)]
    · rw [if_neg h2, if_neg (by omega)]
def zPi (π : Nat → Nat) : Prop := (∀ i, i < 6 → 2 ≤ π i ∧ π i < 8) ∧ ∀ i j, i < 6 → j < 6 → π i = π j → i = j
theorem zRo_b {π : Nat → Nat} (h : zPi π) {i : Nat} (hi : i < 6) : 1 ≤ zRo π i i ∧ zRo π i i < 10 := by
  unfold zRo
  rw [if_neg (by omega)]
  have := h.1 i hi
  omega
theorem zRot_at (π : Nat → Nat) {i : Nat} (hi : i < 6) : zRot π i = if i < 5 then π (i + 1) else π 0 := by
  unfold zRot va_up zRo
  by_cases h : i = 5
  · rw [if_pos h, if_neg (by omega)]
  · rw [if_neg h, if_pos (by omega), if_pos (by omega)]
theorem zRot_pi {π : Nat → Nat} (h : zPi π) : zPi (zRot π) := by
  refine ⟨fun i hi => ?_, fun i j hi hj e => ?_⟩
  · rw [zRot_at π hi]
    split
    · exact h.1 _ (by omega)
    · exact h.1 _ (by omega)
  · rw [zRot_at π hi, zRot_at π hj] at e
    by_cases hi5 : i < 5 <;> by_cases hj5 : j < 5
    · rw [if_pos hi5, if_pos hj5] at e
      have := h.2 _ _ (by omega) (by omega) e
      omega
    · rw [if_pos hi5, if_neg hj5] at e
      have := h.2 _ _ (by omega) (by omega) e
      omega
    · rw [if_neg hi5, if_pos hj5] at e
      have := h.2 _ _ (by omega) (by omega) e
      omega
    · omega
def zPp (d : Nat) (π : Nat → Nat) : Nat → Nat := if d < 6 then π else zRot π
def zPd2 (d : Nat) : Nat := if d < 6 then d else 5
theorem zPp_pi {d : Nat} {π : Nat → Nat} (h : zPi π) : zPi (zPp d π) := by
  unfold zPp
  split
  · exact h
  · exact zRot_pi h
/-- a copy of the live network -/
def zCpy (n : Nat) (g : Nat → Int32) (τ : zT) (t : zS3) : zS3 := (n, g, zCpG τ (zIt (zCpS τ) n t.2.2))
