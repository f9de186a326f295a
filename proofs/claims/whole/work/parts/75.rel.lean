/-! ===== the class and the reference side by side ===== -/
/-- what holds of every state that a run of calls meets -/
def zGd (t : zS3) : Prop := t.1 ≤ 12 ∧ 0 < t.2.1 3 ∧ 0 < t.2.1 5 ∧ 0 ≤ t.2.2 11 9 ∧ zBit t.1 t.2.2
/-- the class's exact network t2 stands for the reference's state t -/
def zSm (t t2 : zS3) : Prop := t2.1 = t.1 ∧ (∀ j, 1 ≤ j → j < 9 → t2.2.1 j = t.2.1 j) ∧ zRp t.1 t.2.2 t2.2.2
theorem zSm.cpy {n : Nat} {g : Nat → Int32} {τ : zT} {t : zS3} (h : zSm t (n, g, τ)) (u : zS3) : zSm t (zCpy n g τ u) := by
  obtain ⟨h1, h2, h3⟩ := h
  have h1 : n = t.1 := h1
  subst h1
  exact ⟨rfl, h2, h3.cpy u⟩
/-- a block of 123 numbers holds a state -/
def zBk (hf : Nat → Int32) (o : Nat) (t : zS3) : Prop := ∀ j, j < 123 → hf (o + j) = zMA t.1 t.2.1 t.2.2 j
/-- the history behind a push -/
def zHp (d : Nat) (t : zS3) (hs : Nat → zS3) : Nat → zS3 := fun i => if i = zKd d then t else if d = 6 then hs (i + 1) else hs i
theorem zKd_P {d : Nat} (h : d ≤ 6) : zPd2 d = zKd d := by
  unfold zPd2 zKd
  by_cases e : d = 6
  · rw [if_neg (by omega), if_pos e]
  · rw [if_pos (by omega), if_neg e]
theorem zKd_lt {d : Nat} (h : d ≤ 6) : zKd d < 6 := by
  unfold zKd
  split <;> omega
theorem zBk_push {d : Nat} {hf : Nat → Int32} {hs : Nat → zS3} {t : zS3} (hd : d ≤ 6) (h : ∀ i, i < d → zBk hf (123 * i) (hs i)) : ∀ i, i < zKd d + 1 → zBk (zKf d (zMA t.1 t.2.1 t.2.2) hf) (123 * i) (zHp d t hs i) := by
  intro i hi j hj
  unfold zHp zKf va_cpy
  have hk : zKd d = if d = 6 then 5 else d := rfl
  by_cases e : i = zKd d
  · rw [if_pos e, if_pos (by omega)]
    congr 1
    omega
  · rw [if_neg e, if_neg (by omega)]
    by_cases e6 : d = 6
    · rw [if_pos e6] at hk
      rw [if_pos e6, if_pos e6, if_pos (by omega)]
      have := h (i + 1) (by omega) j hj
      rw [← this]
      congr 1
      omega
    · rw [if_neg e6] at hk
      rw [if_neg e6, if_neg e6]
      exact h i (by omega) j hj
theorem zSm_push {d : Nat} {π : Nat → Nat} {T : Nat → zS3} {hs : Nat → zS3} {t : zS3} {n : Nat} {g : Nat → Int32} {τ : zT} (hd : d ≤ 6) (hπ : zPi π) (hc : zSm t (n, g, τ)) (h : ∀ i, i < d → zSm (hs i) (T (π i))) : ∀ i, i < zKd d + 1 → zSm (zHp d t hs i) ((va_up T ((zPp d π) (zPd2 d)) (zCpy n g τ (T ((zPp d π) (zPd2 d))))) ((zPp d π) i)) := by
  intro i hi
  have hp := zPp_pi (d := d) hπ
  have hk := zKd_lt hd
  rw [zKd_P hd]
  unfold zHp
  by_cases e : i = zKd d
  · rw [if_pos e, e, va_up_self]
    exact hc.cpy _
  · rw [if_neg e, va_up_ne _ _ (fun q => e (hp.2 i (zKd d) (by omega) hk q))]
    have hkd : zKd d = if d = 6 then 5 else d := rfl
    unfold zPp
    by_cases e6 : d = 6
    · rw [if_pos e6] at hkd
      rw [if_pos e6, if_neg (by omega), zRot_at π (by omega), if_pos (by omega)]
      exact h (i + 1) (by omega)
    · rw [if_neg e6] at hkd
      rw [if_neg e6, if_pos (by omega)]
      exact h i (by omega)
/-- what is known: current, depth, history, saved flags, saved states -/
abbrev zSg : Type := zS3 × Nat × (Nat → zS3) × (Nat → Int32) × (Nat → zS3)
def zOk (S : zSg) : Prop := zGd S.1 ∧ S.2.1 ≤ 6 ∧ (∀ i, i < S.2.1 → zGd (S.2.2.1 i)) ∧ ∀ x, x < 2 → ¬ S.2.2.2.1 x = 0 → zGd (S.2.2.2.2 x)
/-- the class's picture -/
def zCP (G : zG) (ad : Nat → Nat) (na : Nat → Nat → Nat) (ma : Nat → Nat) (S : zSg) (H : Heap) : Prop := ∃ (π : Nat → Nat) (T : Nat → zS3) (n : Nat) (g : Nat → Int32) (τ : zT) (fl : Nat → Int32), zPi π ∧ zSm S.1 (n, g, τ) ∧ (∀ i, i < S.2.1 → zSm (S.2.2.1 i) (T (π i))) ∧ (∀ x, x < 2 → fl x = S.2.2.2.1 x ∧ (¬ S.2.2.2.1 x = 0 → zSm (S.2.2.2.2 x) (T (8 + x)))) ∧ (∀ j, 1 ≤ j → j < 10 → (T j).1 ≤ 12) ∧ zNA G ad n 12 g (zRest G ad na ma π S.2.1 fl T) τ H
/-- the reference's picture -/
def zRP (G : zG) (am : Nat → Nat) (S : zSg) (H : Heap) : Prop := ∃ (th : Int32) (cp hf sl sv : Nat → Int32), (∀ i, i < S.2.1 → zBk hf (123 * i) (S.2.2.1 i)) ∧ (∀ x, x < 2 → sv x = S.2.2.2.1 x ∧ (¬ S.2.2.2.1 x = 0 → zBk sl (123 * x) (S.2.2.2.2 x))) ∧ zMP G am (th, cp, hf, nI S.2.1, sl, sv) S.1.1 S.1.2.1 S.1.2.2 H
/-- a setting and its value: the reference's test is the class's -/
theorem zSv_iff (x v : Int32) : ¬ zSvB x v = 0 ↔ (¬ x < 0 ∧ ¬ 5 < x) ∧ (¬ v < zLe x.toNatClampNeg ∧ ¬ zGr x.toNatClampNeg < v) := by
  constructor
  · intro h
    obtain ⟨j, hj, rfl⟩ := zSvB_of h
    have cs : j = 0 ∨ j = 1 ∨ j = 2 ∨ j = 3 ∨ j = 4 ∨ j = 5 := by omega
    rcases cs with rfl | rfl | rfl | rfl | rfl | rfl <;> exact ⟨by decide, zBi_n0.mp h⟩
  · intro ⟨h1, h2⟩
    obtain ⟨j, hj, hj2, rfl⟩ := zLe_of (a := 0) (b := 5) (by omega) (by omega) h1
    have cs : j = 0 ∨ j = 1 ∨ j = 2 ∨ j = 3 ∨ j = 4 ∨ j = 5 := by omega
    rcases cs with rfl | rfl | rfl | rfl | rfl | rfl <;> exact zBi_n0.mpr h2
