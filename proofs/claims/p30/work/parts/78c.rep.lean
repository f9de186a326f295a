/-! ===== reports, own readings, delivery: who is told of is counted once ===== -/
def zF2 (f i : Nat) : Prop := f = 0 ∨ f = 1 ∨ f = 4 ∨ f = 5 ∨ f = 7 ∨ f = 8 ∨ f = 10 ∨ (f = 11 ∧ (i = 9 ∨ i = 11))
def zFr9 (f i : Nat) : Prop := zF2 f i ∨ (f = 11 ∧ i = 12)
def zFd (f i : Nat) : Prop := zF2 f i ∨ f = 9
theorem zFr9_z : zFz zFr9 := fun f i h => by
  unfold zFr9 zF2 at h
  omega
theorem zFd_z : zFz zFd := fun f i h => by
  unfold zFd zF2 at h
  omega
theorem zFr9_01 (i : Nat) : zFr9 0 i ∧ zFr9 1 i := ⟨Or.inl (Or.inl rfl), Or.inl (Or.inr (Or.inl rfl))⟩
theorem zFd_01 (i : Nat) : zFd 0 i ∧ zFd 1 i := ⟨Or.inl (Or.inl rfl), Or.inl (Or.inr (Or.inl rfl))⟩
theorem zFr9_7 (i : Nat) : zFr9 7 i := Or.inl (by unfold zF2; omega)
theorem zFd_7 (i : Nat) : zFd 7 i := Or.inl (by unfold zF2; omega)
theorem zFr9_9 (i : Nat) : ¬ zFr9 9 i := by
  unfold zFr9 zF2
  omega
theorem zFd_12 : ¬ zFd 11 12 := by
  unfold zFd zF2
  omega
theorem zOt_9 (i : Nat) : zOt 9 i := ⟨by decide, by decide, by decide, by omega⟩
theorem zOt_12 : zOt 11 12 := ⟨by decide, by decide, by decide, by omega⟩
/-- i joined h, and was alive; i belongs to h, and was alive -/
def zJi (K : zT) (a0 : Nat → Bool) (h i : Nat) : Nat := if i ≠ h ∧ K 7 i = nI h ∧ a0 i = true then 1 else 0
def zCi (K : zT) (a0 : Nat → Bool) (h i : Nat) : Nat := if K 7 i = nI h ∧ a0 i = true then 1 else 0
theorem zJC (K : zT) (a0 : Nat → Bool) (h i : Nat) : zJi K a0 h i ≤ zCi K a0 h i := by
  unfold zJi zCi
  split
  · rename_i c
    rw [if_pos c.2]
    exact Nat.le_refl 1
  · exact Nat.zero_le _
section ZREP
variable {n : Nat} {E : Int32} {R : Nat} {a0 : Nat → Bool} {K : zT} {g : Nat → Int32}
theorem zRp_in (hg : zSe g) (hxy : zXy n K) {h : Nat} (hh : h < n) {τ0 : zT} (h0 : zIv n E R a0 zFr9 K τ0) (h9 : τ0 9 h = 0) : zIv n E R a0 zFr9 K (zIt (zRpS g h) n τ0) ∧ (∀ j, j ≠ h → (zIt (zRpS g h) n τ0) 9 j = τ0 9 j) ∧ ∃ q, q ≤ zSu (zJi K a0 h) n ∧ (zIt (zRpS g h) n τ0) 9 h = nI q := by
  refine zIt_inv2 (f := zRpS g h) (fun k τ => zIv n E R a0 zFr9 K τ ∧ (∀ j, j ≠ h → τ 9 j = τ0 9 j) ∧ ∃ q, q ≤ zSu (zJi K a0 h) k ∧ τ 9 h = nI q) ⟨h0, fun _ _ => rfl, 0, Nat.le_refl 0, h9⟩ (fun k τ hk hI => ?_) n (Nat.le_refl n)
  obtain ⟨i1, i2, q, hq, eq⟩ := hI
  have hs : zSu (zJi K a0 h) (k + 1) = zSu (zJi K a0 h) k + zJi K a0 h k := rfl
  unfold zRpS
  by_cases c : (k ≠ h ∧ τ 7 k = nI h) ∧ τ 3 k = 1
  · rw [if_pos c]
    have i3 := i1.sd zFr9_z hg zFr9_01 hxy hk hh
    have hj : zJi K a0 h k = 1 := if_pos ⟨c.1.1, (i1.fz (zFr9_7 k)).symm.trans c.1.2, (i1.2.2.2.1 k hk).2 c.2⟩
    by_cases c2 : (zSd g τ k h).2 = 0
    · rw [if_pos c2]
      exact ⟨i3, fun j hj => (zSd_e (zOt_9 j)).trans (i2 j hj), q, by omega, (zSd_e (zOt_9 h)).trans eq⟩
    · rw [if_neg c2]
      refine ⟨i3.st 9 h _ (zFr9_9 h) (by decide) (by decide) (by decide) (by omega), fun j hj => ?_, q + 1, by omega, ?_⟩
      · rw [zSt_ni _ _ _ _ hj]
        exact (zSd_e (zOt_9 j)).trans (i2 j hj)
      · rw [zSt_self, zSd_e (zOt_9 h), eq]
        exact nI_1 q
  · rw [if_neg c]
    exact ⟨i1, i2, q, by omega, eq⟩
theorem zRh_all (hg : zSe g) (hxy : zXy n K) {τ0 : zT} (h0 : zIv n E R a0 zFr9 K τ0) (h9 : ∀ j, j < n → τ0 9 j = 0) : zIv n E R a0 zFr9 K (zIt (zRhS n g) n τ0) ∧ ∀ j, j < n → ∃ q, q ≤ zSu (zJi K a0 j) n ∧ (zIt (zRhS n g) n τ0) 9 j = nI q := by
  have key := zIt_inv2 (f := zRhS n g) (n := n) (a := τ0) (fun h τ => zIv n E R a0 zFr9 K τ ∧ ∀ j, j < n → (h ≤ j → τ 9 j = 0) ∧ ∃ q, q ≤ zSu (zJi K a0 j) n ∧ τ 9 j = nI q) ⟨h0, fun j hj => ⟨fun _ => h9 j hj, 0, Nat.zero_le _, h9 j hj⟩⟩ (fun h τ hh hI => ?_) n (Nat.le_refl n)
  · exact ⟨key.1, fun j hj => (key.2 j hj).2⟩
  · obtain ⟨i1, i2⟩ := hI
    unfold zRhS
    by_cases c : τ 7 h = nI h
    · rw [if_pos c]
      obtain ⟨r1, r2, r3⟩ := zRp_in hg hxy hh i1 ((i2 h hh).1 (Nat.le_refl h))
      refine ⟨r1, fun j hj => ?_⟩
      by_cases e : j = h
      · subst e
        exact ⟨fun z => absurd z (by omega), r3⟩
      · rw [r2 j e]
        exact ⟨fun z => (i2 j hj).1 (by omega), (i2 j hj).2⟩
    · rw [if_neg c]
      exact ⟨i1, fun j hj => ⟨fun z => (i2 j hj).1 (by omega), (i2 j hj).2⟩⟩
theorem zOw_all (hn : n ≤ 12) (hg : zSe g) {τ0 : zT} (h0 : zIv n E R a0 zFr9 K τ0) (h9 : ∀ j, j < n → ∃ q, q ≤ zSu (zJi K a0 j) n ∧ τ0 9 j = nI q) : zIv n E R a0 zFr9 K (zIt (zOwS g) n τ0) ∧ ∀ j, j < n → ∃ q, q ≤ zSu (zCi K a0 j) n ∧ (zIt (zOwS g) n τ0) 9 j = nI q := by
  have h6 : g 6 = nI 1 := hg.2.2.2.1
  have key := zIt_inv2 (f := zOwS g) (n := n) (a := τ0) (fun h τ => zIv n E R a0 zFr9 K τ ∧ ∀ j, j < n → ∃ q, q ≤ zSu (zCi K a0 j) n ∧ τ 9 j = nI q ∧ (h ≤ j → q ≤ zSu (zJi K a0 j) n)) ⟨h0, fun j hj => ?_⟩ (fun h τ hh hI => ?_) n (Nat.le_refl n)
  · refine ⟨key.1, fun j hj => ?_⟩
    obtain ⟨q, q1, q2, -⟩ := key.2 j hj
    exact ⟨q, q1, q2⟩
  · obtain ⟨q, q1, q2⟩ := h9 j hj
    exact ⟨q, Nat.le_trans q1 (zSu_le n fun i _ => zJC K a0 j i), q2, fun _ => q1⟩
  · obtain ⟨i1, i2⟩ := hI
    have keep : ∀ τ2 : zT, (∀ j, τ2 9 j = τ 9 j) → ∀ j, j < n → ∃ q, q ≤ zSu (zCi K a0 j) n ∧ τ2 9 j = nI q ∧ (h + 1 ≤ j → q ≤ zSu (zJi K a0 j) n) := fun τ2 e j hj => by
      obtain ⟨q, q1, q2, q3⟩ := i2 j hj
      exact ⟨q, q1, (e j).trans q2, fun z => q3 (by omega)⟩
    unfold zOwS
    by_cases c : τ 3 h = 1 ∧ τ 7 h = nI h
    · rw [if_pos c, h6]
      by_cases c2 : τ 2 h < nI 1
      · rw [if_pos c2]
        exact ⟨i1.die zFr9_z h, keep _ fun j => zDie_e (zOt_9 j)⟩
      · rw [if_neg c2]
        refine ⟨(i1.pd zFr9_z hh (by omega) c2).st 9 h _ (zFr9_9 h) (by decide) (by decide) (by decide) (by omega), fun j hj => ?_⟩
        by_cases e : j = h
        · subst e
          obtain ⟨q, q1, q2, q3⟩ := i2 j hj
          have hlt : zSu (zJi K a0 j) n < zSu (zCi K a0 j) n := by
            refine zSu_lt (j := j) ?_ n hj fun i _ => zJC K a0 j i
            have e1 : zJi K a0 j j = 0 := if_neg (fun z => z.1 rfl)
            have e2 : zCi K a0 j j = 1 := if_pos ⟨(i1.fz (zFr9_7 j)).symm.trans c.2, (i1.2.2.2.1 j hj).2 c.1⟩
            omega
          have := q3 (Nat.le_refl j)
          refine ⟨q + 1, by omega, ?_, fun z => absurd z (by omega)⟩
          rw [zSt_self, q2]
          exact nI_1 q
        · obtain ⟨q, q1, q2, q3⟩ := i2 j hj
          refine ⟨q, q1, ?_, fun z => q3 (by omega)⟩
          rw [zSt_ni _ _ _ _ e]
          exact (zPd_e (zOt_9 j)).trans q2
    · rw [if_neg c]
      exact ⟨i1, keep _ fun _ => rfl⟩
/-- direct delivery -/
theorem zDd_all (hg : zSe g) (hxy : zXy n K) {τ0 : zT} (h0 : zIv n E R a0 zFd K τ0) (h9 : ∀ j, j < n → ∃ q, q ≤ zSu (zCi K a0 j) n ∧ K 9 j = nI q) (h12 : τ0 11 12 = 0) : zIv n E R a0 zFd K (zIt (zDdS g) n τ0) ∧ ∃ d, d ≤ zSu (fun j => zSu (zCi K a0 j) n) n ∧ (zIt (zDdS g) n τ0) 11 12 = nI d := by
  refine zIt_inv2 (f := zDdS g) (n := n) (a := τ0) (fun h τ => zIv n E R a0 zFd K τ ∧ ∃ d, d ≤ zSu (fun j => zSu (zCi K a0 j) n) h ∧ τ 11 12 = nI d) ⟨h0, 0, Nat.le_refl 0, h12⟩ (fun h τ hh hI => ?_) n (Nat.le_refl n)
  obtain ⟨i1, d, d1, d2⟩ := hI
  have hs : zSu (fun j => zSu (zCi K a0 j) n) (h + 1) = zSu (fun j => zSu (zCi K a0 j) n) h + zSu (zCi K a0 h) n := rfl
  unfold zDdS
  by_cases c : τ 3 h = 1 ∧ τ 7 h = nI h
  · rw [if_pos c]
    refine ⟨i1.sb zFd_z hg zFd_01 hxy hh _ zFd_12, ?_⟩
    obtain ⟨q, q1, q2⟩ := h9 h hh
    have e9 : τ 9 h = nI q := (i1.fz (Or.inr rfl)).trans q2
    rcases zSb_12 (g := g) (τ := τ) h (τ 9 h) with e | e
    · exact ⟨d, by omega, e.trans d2⟩
    · refine ⟨d + q, by omega, ?_⟩
      rw [e, d2, e9, nI_add]
  · rw [if_neg c]
    exact ⟨i1, d, by omega, d2⟩
/-- the relay -/
theorem zRl_in (hg : zSe g) (hxy : zXy n K) {r : Nat} (hr : r < n) {τ0 : zT} (h0 : zIv n E R a0 zFr9 K τ0) (h9 : ∀ j, j < n → ∃ q, q ≤ zSu (zCi K a0 j) n ∧ τ0 9 j = nI q) : zIv n E R a0 zFr9 K (zIt (zRlS g r) n τ0) ∧ ∃ q, q ≤ zSu (fun j => zSu (zCi K a0 j) n) n ∧ (zIt (zRlS g r) n τ0) 9 r = nI q := by
  have key := zIt_inv2 (f := zRlS g r) (n := n) (a := τ0) (fun h τ => zIv n E R a0 zFr9 K τ ∧ (∀ j, j ≠ r → τ 9 j = τ0 9 j) ∧ ∃ q, q ≤ zSu (zCi K a0 r) n + zSu (fun j => if j = r then 0 else zSu (zCi K a0 j) n) h ∧ τ 9 r = nI q) ⟨h0, fun _ _ => rfl, ?_⟩ (fun h τ hh hI => ?_) n (Nat.le_refl n)
  · obtain ⟨k1, -, q, q1, q2⟩ := key
    refine ⟨k1, q, ?_, q2⟩
    have := zSu_cut (f := fun j => zSu (zCi K a0 j) n) n hr
    omega
  · obtain ⟨q, q1, q2⟩ := h9 r hr
    exact ⟨q, q1, q2⟩
  · obtain ⟨i1, i2, q, q1, q2⟩ := hI
    have hs : zSu (fun j => if j = r then 0 else zSu (zCi K a0 j) n) (h + 1) = zSu (fun j => if j = r then 0 else zSu (zCi K a0 j) n) h + (if h = r then 0 else zSu (zCi K a0 h) n) := rfl
    unfold zRlS
    by_cases c : h ≠ r ∧ (τ 3 h = 1 ∧ τ 7 h = nI h)
    · rw [if_pos c]
      rw [if_neg c.1] at hs
      have i3 := i1.sd zFr9_z hg zFr9_01 hxy hh hr
      by_cases c2 : (zSd g τ h r).2 = 0
      · rw [if_pos c2]
        exact ⟨i3, fun j hj => (zSd_e (zOt_9 j)).trans (i2 j hj), q, by omega, (zSd_e (zOt_9 r)).trans q2⟩
      · rw [if_neg c2]
        obtain ⟨w, w1, w2⟩ := h9 h hh
        refine ⟨i3.st 9 r _ (zFr9_9 r) (by decide) (by decide) (by decide) (by omega), fun j hj => ?_, q + w, by omega, ?_⟩
        · rw [zSt_ni _ _ _ _ hj]
          exact (zSd_e (zOt_9 j)).trans (i2 j hj)
        · rw [zSt_self, zSd_e (zOt_9 r), zSd_e (zOt_9 h), q2, i2 h c.1, w2, nI_add]
    · rw [if_neg c]
      exact ⟨i1, i2, q, by omega, q2⟩
theorem zRl_all (hg : zSe g) (hxy : zXy n K) {τ0 : zT} (h0 : zIv n E R a0 zFr9 K τ0) (h9 : ∀ j, j < n → ∃ q, q ≤ zSu (zCi K a0 j) n ∧ τ0 9 j = nI q) (h12 : τ0 11 12 = 0) : zIv n E R a0 zF2 K (zRl n g τ0) ∧ ∃ d, d ≤ zSu (fun j => zSu (zCi K a0 j) n) n ∧ (zRl n g τ0) 11 12 = nI d := by
  have wk : ∀ τ : zT, zIv n E R a0 zFr9 K τ → zIv n E R a0 zF2 K τ := fun τ h => ⟨h.1, h.2.1, h.2.2.1, h.2.2.2.1, fun f i hf => h.2.2.2.2.1 f i (Or.inl hf), h.2.2.2.2.2⟩
  have e12 : ∀ τ : zT, zIv n E R a0 zFr9 K τ → τ 11 12 = 0 := fun τ h => (h.fz (Or.inr ⟨rfl, rfl⟩)).trans ((h0.fz (Or.inr ⟨rfl, rfl⟩)).symm.trans h12)
  have z2 : zFz zF2 := fun f i h => by
    unfold zF2 at h
    omega
  have z12 : ¬ zF2 11 12 := by
    unfold zF2
    omega
  unfold zRl
  cases hr : zNe n τ0 (g 1) (g 2) with
  | none => exact ⟨wk _ h0, 0, Nat.zero_le _, h12⟩
  | some r =>
    have hr2 : r < n := zNe_lt n τ0 (g 1) (g 2) n r hr
    obtain ⟨i1, q, q1, q2⟩ := zRl_in hg hxy hr2 h0 h9
    have e := e12 _ i1
    show zIv n E R a0 zF2 K (zRlE g r _) ∧ ∃ d, d ≤ _ ∧ (zRlE g r _) 11 12 = nI d
    unfold zRlE
    split
    · refine ⟨(wk _ i1).sb z2 hg (fun i => ⟨Or.inl rfl, Or.inr (Or.inl rfl)⟩) hxy hr2 _ z12, ?_⟩
      rcases zSb_12 (g := g) (τ := zIt (zRlS g r) n τ0) r ((zIt (zRlS g r) n τ0) 9 r) with e2 | e2
      · exact ⟨0, Nat.zero_le _, e2.trans e⟩
      · refine ⟨q, q1, ?_⟩
        rw [e2, e, q2]
        exact Int32.zero_add _
    · exact ⟨wk _ i1, 0, Nat.zero_le _, e⟩
/-- a sensor belongs to one head at most -/
theorem zCi_sum (hn : n ≤ 12) (K : zT) (a0 : Nat → Bool) : zSu (fun j => zSu (zCi K a0 j) n) n ≤ zSu (fun i => if a0 i = true then 1 else 0) n := by
  rw [zSu_swap]
  refine zSu_le n fun i hi => ?_
  by_cases c : a0 i = true
  · rw [if_pos c]
    by_cases e : ∃ a, a < n ∧ K 7 i = nI a
    · obtain ⟨a, ha, ea⟩ := e
      refine (zSu_one (f := fun h => zCi K a0 h i) (a := a) (N := n) (fun h => ?_) (fun h hh q => ?_) n (Nat.le_refl n)).1
      · unfold zCi
        split <;> omega
      · have : K 7 i = nI h ∧ a0 i = true := Classical.byContradiction fun z => q (if_neg z)
        exact ((nI_eq (by omega) (by omega)).mp (ea.symm.trans this.1)).symm
    · have := zSu_eq (f := fun h => zCi K a0 h i) (g := fun _ => 0) n (fun h hh => if_neg (fun z => e ⟨h, hh, z.1⟩))
      rw [this, zSu_0]
      exact Nat.zero_le _
  · rw [if_neg c]
    have := zSu_eq (f := fun h => zCi K a0 h i) (g := fun _ => 0) n (fun h hh => if_neg (fun z => c z.2))
    rw [this, zSu_0]
    exact Nat.le_refl 0
/-- no head: each for itself -/
theorem zRb_all (hg : zSe g) (hxy : zXy n K) {τ0 : zT} (h0 : zIv n E R a0 zFd K τ0) (h12 : τ0 11 12 = 0) : zIv n E R a0 zFd K (zIt (zRbS g) n τ0) ∧ ∃ d, d ≤ zSu (fun i => if a0 i = true then 1 else 0) n ∧ (zIt (zRbS g) n τ0) 11 12 = nI d := by
  refine zIt_inv2 (f := zRbS g) (n := n) (a := τ0) (fun h τ => zIv n E R a0 zFd K τ ∧ ∃ d, d ≤ zSu (fun i => if a0 i = true then 1 else 0) h ∧ τ 11 12 = nI d) ⟨h0, 0, Nat.le_refl 0, h12⟩ (fun h τ hh hI => ?_) n (Nat.le_refl n)
  obtain ⟨i1, d, d1, d2⟩ := hI
  have hs : zSu (fun i => if a0 i = true then 1 else 0) (h + 1) = zSu (fun i => if a0 i = true then 1 else 0) h + (if a0 h = true then 1 else 0) := rfl
  unfold zRbS
  by_cases c : τ 3 h = 1
  · rw [if_pos c]
    rw [if_pos ((i1.2.2.2.1 h hh).2 c)] at hs
    refine ⟨i1.sb zFd_z hg zFd_01 hxy hh _ zFd_12, ?_⟩
    rcases zSb_12 (g := g) (τ := τ) h 1 with e | e
    · exact ⟨d, by omega, e.trans d2⟩
    · refine ⟨d + 1, by omega, ?_⟩
      rw [e, d2]
      exact nI_1 d
  · rw [if_neg c]
    exact ⟨i1, d, by omega, d2⟩
end ZREP
