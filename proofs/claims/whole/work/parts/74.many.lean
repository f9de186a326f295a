/-! ===== many rounds ===== -/
/-- alive is a truth value -/
def zBit (n : Nat) (τ : zT) : Prop := ∀ i, i < n → τ 3 i = 0 ∨ τ 3 i = 1
theorem zBit.e9 {n : Nat} {a b : zT} (h : zE9 a b) (q : zBit n a) : zBit n b := fun i hi => by
  rw [← h 3 i (by decide) (by decide)]
  exact q i hi
theorem zBit.rd {n : Nat} {g : Nat → Int32} {a : zT} (q : zBit n a) : zBit n (zRd n g a) := fun i hi => by
  rcases zRd_3 n g a i with h | h
  · rw [h]
    exact q i hi
  · exact Or.inl h
theorem zCa_Lv {n : Nat} {a b : zT} (h : zE9 a b) (q : zBit n a) : zCa n a = zLv n b := by
  unfold zCa zLv
  refine zIt_cong (fun k v hk => ?_) n (Nat.le_refl n)
  unfold zCaS zLvS
  rw [← h 3 k (by decide) (by decide)]
  rcases q k hk with e | e
  · rw [e, if_neg (by decide)]
    exact (Int32.add_zero v).symm
  · rw [e, if_pos rfl]
theorem zPf_Pm {n : Nat} {g : Nat → Int32} {a b : zT} (hn : n ≤ 12) (h : zE9 a b) (q : zBit n a) : ∀ lim, (zPf n g lim a).1 = (zPm n g lim b).1 ∧ zE9 (zPf n g lim a).2 (zPm n g lim b).2 ∧ zBit n (zPf n g lim a).2 := by
  intro lim
  unfold zPf zPm
  induction lim with
  | zero => exact ⟨rfl, h, q⟩
  | succ k ih =>
    rw [zIt_s, zIt_s]
    generalize zIt (zPfS n g) k ((0, a) : Nat × zT) = u at ih
    generalize zIt (zPmS n g) k ((0, b) : Nat × zT) = v at ih
    obtain ⟨i1, i2, i3⟩ := ih
    unfold zPfS zPmS
    rw [zCa_Lv i2 i3]
    split
    · exact ⟨by show u.1 + 1 = v.1 + 1; rw [i1], zRd_zMd hn i2, i3.rd⟩
    · exact ⟨i1, i2, i3⟩
