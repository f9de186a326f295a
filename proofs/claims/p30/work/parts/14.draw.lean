/-! ===== the drawn number: the class's longs and the reference's ints ===== -/
theorem zDraw_eq {x : Int32} (h : 0 ≤ x) : Int64.toInt32 ((Int32.toInt64 x * 1103515245 + 12345) - (Int32.toInt64 x * 1103515245 + 12345) / 2147483648 * 2147483648) = zNx x := by
  obtain ⟨j, hj, rfl⟩ := nI_of (Int32.not_lt.mpr h)
  have hj : j < 2147483648 := hj
  rw [nI_l hj]
  have e1 : (1103515245 : Int64) = lN 1103515245 := by decide
  have e2 : (12345 : Int64) = lN 12345 := by decide
  have e3 : (2147483648 : Int64) = lN 2147483648 := by decide
  rw [e1, e2, e3, lN_mul, lN_add]
  have hb : j * 1103515245 + 12345 < 2 ^ 63 := by omega
  rw [pk_lRem hb (by omega) (by omega), lN_i]
  unfold zNx
  have f1 : (1103515245 : Int32) = nI 1103515245 := by decide
  have f2 : (12345 : Int32) = nI 12345 := by decide
  rw [f1, f2, pk_mul, nI_add, pk_and _ 31 (by decide)]
  have hm : (nI (j * 1103515245 + 12345)).toBitVec.toNat = (j * 1103515245 + 12345) % 2 ^ 32 := BitVec.toNat_ofNat _ 32
  rw [hm]
  exact congrArg nI (by omega)
theorem zNx_ge (x : Int32) : 0 ≤ zNx x := by
  unfold zNx
  rw [pk_and _ 31 (by decide)]
  exact nI_pos' (Nat.mod_lt _ (by decide))
theorem zEl_gen (left : Int32) (τ : zT) (h : 0 ≤ τ 11 9) (k : Nat) : 0 ≤ (zIt (zElS left) k τ) 11 9 := by
  refine zIt_inv (zElS left) (fun t => 0 ≤ t 11 9) τ h (fun k t ht => ?_) k
  show 0 ≤ zElS left k t 11 9
  unfold zElS
  split
  · rw [zSt_nf _ _ _ _ (by decide)]
    unfold zDw
    rw [zSt_self]
    exact zNx_ge _
  · exact ht
