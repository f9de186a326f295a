/-! ===== election and announcement ===== -/
theorem zDr_lt (x : Int32) : zDr (zNx x) < 1000 := by
  unfold zNx
  obtain ⟨j, hj, e⟩ := pk_andE (x * 1103515245 + 12345) (m := 2147483647) 31 (by decide)
  rw [e]
  have e1 : nI j / 65536 = nI (j / 65536) := pk_div (d := 65536) hj (by decide) (by decide)
  have hq : j / 65536 < 2 ^ 31 := by omega
  have e2 : nI (j / 65536) - nI (j / 65536) / 1000 * 1000 = nI (j / 65536 % 1000) := pk_rem (d := 1000) hq (by decide) (by decide)
  unfold zDr
  rw [e1, e2]
  exact nI_lt (b := 1000) (Nat.mod_lt _ (by decide)) (by decide)
theorem zElS_e {L : Int32} {k : Nat} {τ : zT} {f i : Nat} (h1 : f ≠ 10) (h2 : ¬ (f = 11 ∧ i = 9)) : (zElS L k τ) f i = τ f i := by
  unfold zElS
  split
  · rw [zSt_nf _ _ _ _ h1]
    unfold zDw
    rw [zSt_ap, if_neg h2]
  · rfl
theorem zEl_all {n : Nat} (L : Int32) {τ0 : zT} (h10 : ∀ i, i < n → τ0 10 i = 0) : (∀ f i, f ≠ 10 → ¬ (f = 11 ∧ i = 9) → (zIt (zElS L) n τ0) f i = τ0 f i) ∧ ∀ i, i < n → ((zIt (zElS L) n τ0) 10 i = 1 → τ0 3 i = 1 ∧ τ0 4 i = 1) ∧ (L = 1 → τ0 3 i = 1 → τ0 4 i = 1 → (zIt (zElS L) n τ0) 10 i = 1) := by
  have key := zIt_inv2 (f := zElS L) (n := n) (a := τ0) (fun k τ => (∀ f i, f ≠ 10 → ¬ (f = 11 ∧ i = 9) → τ f i = τ0 f i) ∧ ∀ i, i < n → (τ 10 i = 1 → τ0 3 i = 1 ∧ τ0 4 i = 1) ∧ (L = 1 → i < k → τ0 3 i = 1 → τ0 4 i = 1 → τ 10 i = 1)) ⟨fun _ _ _ _ => rfl, fun i hi => ⟨fun q => absurd ((h10 i hi).symm.trans q) (by decide), fun _ q => absurd q (by omega)⟩⟩ (fun k τ hk hI => ?_) n (Nat.le_refl n)
  · exact ⟨key.1, fun i hi => ⟨(key.2 i hi).1, fun a b c => (key.2 i hi).2 a hi b c⟩⟩
  · obtain ⟨i1, i2⟩ := hI
    refine ⟨fun f i a b => (zElS_e a b).trans (i1 f i a b), fun i hi => ?_⟩
    have e3 := i1 3 k (by decide) (by omega)
    have e4 := i1 4 k (by decide) (by omega)
    unfold zElS
    by_cases c : τ 3 k = 1 ∧ τ 4 k = 1
    · rw [if_pos c, zSt_ap]
      have hd : (zDw τ) 10 i = τ 10 i := by
        unfold zDw
        exact zSt_nf _ _ _ _ (by decide)
      by_cases e : i = k
      · subst e
        rw [if_pos ⟨rfl, rfl⟩]
        refine ⟨fun _ => ⟨e3.symm.trans c.1, e4.symm.trans c.2⟩, fun hL _ _ _ => ?_⟩
        rw [hL, Int32.mul_one]
        exact zBi_t (zDr_lt _)
      · rw [if_neg (fun q => e q.2), hd]
        exact ⟨(i2 i hi).1, fun hL hik => (i2 i hi).2 hL (by omega)⟩
    · rw [if_neg c]
      refine ⟨(i2 i hi).1, fun hL hik a b => ?_⟩
      by_cases e : i = k
      · subst e
        exact absurd ⟨e3.trans a, e4.trans b⟩ c
      · exact (i2 i hi).2 hL (by omega) a b
theorem zM9 {i : Nat} (h : i < 12) : ¬ (-9 : Int32) = nI i := fun q => zOi_lt h q.symm
def zFa (f i : Nat) : Prop := f = 0 ∨ f = 1 ∨ f = 8 ∨ f = 9 ∨ f = 10 ∨ (f = 11 ∧ (i = 9 ∨ i = 12))
theorem zFa_z : zFz zFa := fun f i h => by
  unfold zFa at h
  omega
/-- is a head -/
def zHd (τ : zT) (i : Nat) : Nat := if τ 7 i = nI i then 1 else 0
section ZANN
variable {g : Nat → Int32} {k : Nat} {τ : zT}
theorem zDie_3 (i : Nat) : (zDie τ k) 3 i = if i = k then 0 else τ 3 i := by
  unfold zDie
  rw [zSt_nf _ _ _ _ (by decide), zSt_ap]
  simp
theorem zAnY_7 (i : Nat) : (zAnY g k τ) 7 i = if i = k then nI k else τ 7 i := by
  unfold zAnY
  rw [zSt_nf _ _ _ _ (by decide), zSt_nf _ _ _ _ (by decide), zSt_nf _ _ _ _ (by decide), zSt_ap, zPd_e (f := 7) ⟨by decide, by decide, by decide, by omega⟩]
  simp
theorem zAnY_4 (i : Nat) : (zAnY g k τ) 4 i = if i = k then 0 else τ 4 i := by
  unfold zAnY
  rw [zSt_nf _ _ _ _ (by decide), zSt_nf _ _ _ _ (by decide), zSt_ap, zSt_nf _ _ _ _ (by decide), zPd_e (f := 4) ⟨by decide, by decide, by decide, by omega⟩]
  simp
theorem zAnY_3 (i : Nat) : (zAnY g k τ) 3 i = τ 3 i := by
  unfold zAnY zPd
  rw [zSt_nf _ _ _ _ (by decide), zSt_nf _ _ _ _ (by decide), zSt_nf _ _ _ _ (by decide), zSt_nf _ _ _ _ (by decide), zSt_nf _ _ _ _ (by decide), zSt_nf _ _ _ _ (by decide)]
theorem zAnY_c : (zAnY g k τ) 11 11 = τ 11 11 + 1 := by
  unfold zAnY
  exact zSt_self _ _ _ _
end ZANN
/-- what stands behind the announcement -/
def zAnI (n : Nat) (τe : zT) (k : Nat) (τ : zT) : Prop := (∀ i, i < n → ((τ 7 i = -9 ∧ τ 4 i = τe 4 i) ∨ (τ 7 i = nI i ∧ i < k ∧ τe 10 i = 1 ∧ τ 4 i = 0 ∧ τ 3 i = 1)) ∧ (i < k → τe 10 i = 1 → τ 7 i = nI i ∨ τ 3 i = 0) ∧ (k ≤ i → τ 3 i = τe 3 i)) ∧ τ 11 11 = nI (zSu (zHd τ) k)
theorem zAn_all {n : Nat} (hn : n ≤ 12) {E : Int32} {R : Nat} {a0 : Nat → Bool} {g : Nat → Int32} (hg : zSe g) {τe : zT} (h0 : zIv n E R a0 zFa τe τe) (h7 : ∀ i, i < n → τe 7 i = -9) (h11 : τe 11 11 = 0) (hE : ∀ i, i < n → τe 10 i = 1 → τe 3 i = 1) : zIv n E R a0 zFa τe (zIt (zAnS g) n τe) ∧ zAnI n τe n (zIt (zAnS g) n τe) := by
  have h7' : g 7 = nI 2 := hg.2.2.2.2.1
  refine zIt_inv2 (f := zAnS g) (n := n) (a := τe) (fun k τ => zIv n E R a0 zFa τe τ ∧ zAnI n τe k τ) ⟨h0, fun i hi => ⟨Or.inl ⟨h7 i hi, rfl⟩, fun q => absurd q (by omega), fun _ => rfl⟩, h11⟩ (fun k τ hk hI => ?_) n (Nat.le_refl n)
  obtain ⟨i1, i2, i3⟩ := hI
  have e10 : τ 10 k = τe 10 k := i1.fz (by unfold zFa; omega)
  have k7 : τ 7 k = -9 := by
    rcases (i2 k hk).1 with q | q
    · exact q.1
    · exact absurd q.2.1 (by omega)
  have k7' : ¬ τ 7 k = nI k := fun q => zM9 (by omega) (k7.symm.trans q)
  have keepS : ∀ τ2 : zT, (∀ i, i < k → τ2 7 i = τ 7 i) → zSu (zHd τ2) k = zSu (zHd τ) k := fun τ2 e => zSu_eq k fun i hi => by
    unfold zHd
    rw [e i hi]
  unfold zAnS
  by_cases c : τ 10 k = 1
  · rw [if_pos c, h7']
    by_cases c2 : τ 2 k < nI 2
    · rw [if_pos c2]
      have e7 : ∀ i, (zDie τ k) 7 i = τ 7 i := fun i => zDie_e ⟨by decide, by decide, by decide, by omega⟩
      refine ⟨i1.die zFa_z k, fun i hi => ?_, ?_⟩
      · rw [e7 i, zDie_e (f := 4) ⟨by decide, by decide, by decide, by omega⟩, zDie_3]
        by_cases e : i = k
        · subst e
          rw [if_pos rfl]
          refine ⟨Or.inl ⟨k7, ?_⟩, fun _ _ => Or.inr rfl, fun q => absurd q (by omega)⟩
          rcases (i2 i hi).1 with q | q
          · exact q.2
          · exact absurd q.1 k7'
        · rw [if_neg e]
          obtain ⟨j1, j2, j3⟩ := i2 i hi
          refine ⟨j1.elim Or.inl fun q => Or.inr ⟨q.1, by omega, q.2.2⟩, fun q => j2 (by omega), fun q => j3 (by omega)⟩
      · rw [zDie_e (f := 11) (i := 11) ⟨by decide, by decide, by decide, by omega⟩, i3]
        have e8 : zHd (zDie τ k) k = 0 := if_neg (by rw [e7 k]; exact k7')
        show _ = nI (zSu (zHd (zDie τ k)) k + zHd (zDie τ k) k)
        rw [e8, keepS _ fun i _ => e7 i]
        rfl
    · rw [if_neg c2]
      have p1 := i1.pd zFa_z hk (by omega) c2
      have iv : zIv n E R a0 zFa τe (zAnY g k τ) := by
        unfold zAnY
        rw [h7']
        exact (((p1.st 7 k _ (by unfold zFa; omega) (by decide) (by decide) (by decide) (by omega)).st 4 k _ (by unfold zFa; omega) (by decide) (by decide) (by decide) (by omega)).st 5 k _ (by unfold zFa; omega) (by decide) (by decide) (by decide) (by omega)).st 11 11 _ (by unfold zFa; omega) (by decide) (by decide) (by decide) (by omega)
      refine ⟨iv, fun i hi => ?_, ?_⟩
      · rw [zAnY_7, zAnY_4, zAnY_3]
        by_cases e : i = k
        · subst e
          rw [if_pos rfl, if_pos rfl]
          have e3 : τ 3 i = 1 := ((i2 i hi).2.2 (Nat.le_refl i)).trans (hE i hi (e10.symm.trans c))
          exact ⟨Or.inr ⟨rfl, by omega, e10.symm.trans c, rfl, e3⟩, fun _ _ => Or.inl rfl, fun q => absurd q (by omega)⟩
        · rw [if_neg e, if_neg e]
          obtain ⟨j1, j2, j3⟩ := i2 i hi
          refine ⟨j1.elim Or.inl fun q => Or.inr ⟨q.1, by omega, q.2.2⟩, fun q => j2 (by omega), fun q => j3 (by omega)⟩
      · rw [zAnY_c, i3]
        have e8 : zHd (zAnY g k τ) k = 1 := if_pos (by rw [zAnY_7, if_pos rfl])
        show _ = nI (zSu (zHd (zAnY g k τ)) k + zHd (zAnY g k τ) k)
        rw [e8, keepS (zAnY g k τ) (fun i hi => by rw [zAnY_7, if_neg (by omega)])]
        exact nI_1 _
  · rw [if_neg c]
    refine ⟨i1, fun i hi => ?_, ?_⟩
    · obtain ⟨j1, j2, j3⟩ := i2 i hi
      refine ⟨j1.elim Or.inl fun q => Or.inr ⟨q.1, by omega, q.2.2⟩, fun q z => ?_, fun q => j3 (by omega)⟩
      by_cases e : i = k
      · subst e
        exact absurd (e10.trans z) c
      · exact j2 (by omega) z
    · rw [i3]
      have e8 : zHd τ k = 0 := if_neg k7'
      show _ = nI (zSu (zHd τ) k + zHd τ k)
      rw [e8]
      rfl
