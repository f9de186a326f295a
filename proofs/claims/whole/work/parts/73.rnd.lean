/-! ===== slots: the class's way; the joins are alike ===== -/
theorem zGs_at {n h : Nat} {A B : zT} (hB : ∀ i, i < n → B 7 i = zF7 n A i) : ∀ j, j ≤ n → (zIt (zGsS h) j ((0, B) : Int32 × zT)).1 = zCn n A h j ∧ ∀ f i, (zIt (zGsS h) j ((0, B) : Int32 × zT)).2 f i = if f = 8 ∧ i < j ∧ i ≠ h ∧ zF7 n A i = nI h then zCn n A h i else B f i := by
  intro j
  induction j with
  | zero =>
    intro _
    refine ⟨rfl, fun f i => ?_⟩
    rw [if_neg (by omega)]
    rfl
  | succ j ih =>
    intro hj
    obtain ⟨i1, i2⟩ := ih (by omega)
    rw [zIt_s]
    generalize zIt (zGsS h) j ((0, B) : Int32 × zT) = u at i1 i2
    have e7 : u.2 7 j = zF7 n A j := by rw [i2 7 j, if_neg (by omega), hB j (by omega)]
    have ec : zCn n A h (j + 1) = zCnS n A h j (zCn n A h j) := rfl
    unfold zGsS
    rw [e7, ec]
    unfold zCnS
    by_cases c : j ≠ h ∧ zF7 n A j = nI h
    · rw [if_pos c, if_pos c]
      refine ⟨by show u.1 + 1 = _; rw [i1], fun f i => ?_⟩
      show zSt u.2 8 j u.1 f i = _
      rw [zSt_ap, i1]
      by_cases e : f = 8 ∧ i = j
      · rw [if_pos e, if_pos ⟨e.1, by omega, by rw [e.2]; exact c⟩, e.2]
      · rw [if_neg e, i2 f i]
        by_cases q : f = 8 ∧ i < j ∧ i ≠ h ∧ zF7 n A i = nI h
        · rw [if_pos q, if_pos ⟨q.1, by omega, q.2.2⟩]
        · rw [if_neg q, if_neg (fun z => q ⟨z.1, by omega, z.2.2⟩)]
    · rw [if_neg c, if_neg c]
      refine ⟨i1, fun f i => ?_⟩
      rw [i2 f i]
      by_cases q : f = 8 ∧ i < j ∧ i ≠ h ∧ zF7 n A i = nI h
      · rw [if_pos q, if_pos ⟨q.1, by omega, q.2.2⟩]
      · rw [if_neg q, if_neg (fun z => q ⟨z.1, by
          by_cases e : i = j
          · exact absurd (e ▸ z.2.2) c
          · omega, z.2.2⟩)]
theorem zJ2_at {n : Nat} {A B : zT} (hn : n ≤ 12) (hB : ∀ i, i < n → B 7 i = zF7 n A i) : ∀ k, k ≤ n → (∀ f i, f ≠ 8 ∨ n ≤ i → (zIt (zJ2S n) k B) f i = B f i) ∧ ∀ i, i < n → (∀ b, b < k → zF7 n A b = nI b → i ≠ b → zF7 n A i = nI b → (zIt (zJ2S n) k B) 8 i = zCn n A b i) ∧ ((∀ b, b < k → zF7 n A b = nI b → i ≠ b → ¬ zF7 n A i = nI b) → (zIt (zJ2S n) k B) 8 i = B 8 i) := by
  intro k
  induction k with
  | zero => exact fun _ => ⟨fun _ _ _ => rfl, fun i _ => ⟨fun b q => absurd q (by omega), fun _ => rfl⟩⟩
  | succ k ih =>
    intro hk
    obtain ⟨i1, i2⟩ := ih (by omega)
    rw [zIt_s]
    generalize zIt (zJ2S n) k B = u at i1 i2
    have e7 : ∀ i, i < n → u 7 i = zF7 n A i := fun i hi => (i1 7 i (Or.inl (by decide))).trans (hB i hi)
    unfold zJ2S
    rw [e7 k (by omega)]
    by_cases c : zF7 n A k = nI k
    · rw [if_pos c]
      have gs : ∀ f i, (zGs n k u) f i = if f = 8 ∧ i < n ∧ i ≠ k ∧ zF7 n A i = nI k then zCn n A k i else u f i := (zGs_at (h := k) e7 n (Nat.le_refl n)).2
      refine ⟨fun f i q => ?_, fun i hi => ⟨fun b b1 b2 b3 b4 => ?_, fun q => ?_⟩⟩
      · rw [gs f i, if_neg (by omega)]
        exact i1 f i q
      · rw [gs 8 i]
        by_cases e : b = k
        · subst e
          rw [if_pos ⟨rfl, hi, b3, b4⟩]
        · rw [if_neg (fun z => e ((nI_eq (by omega) (by omega)).mp (b4.symm.trans z.2.2.2)))]
          exact (i2 i hi).1 b (by omega) b2 b3 b4
      · rw [gs 8 i, if_neg (fun z => q k (Nat.lt_succ_self k) c z.2.2.1 z.2.2.2)]
        exact (i2 i hi).2 (fun b b1 => q b (by omega))
    · rw [if_neg c]
      refine ⟨i1, fun i hi => ⟨fun b b1 b2 => ?_, fun q => (i2 i hi).2 (fun b b1 => q b (by omega))⟩⟩
      by_cases e : b = k
      · exact absurd (e ▸ b2) c
      · exact (i2 i hi).1 b (by omega) b2
theorem zJoin_eq {n : Nat} {A : zT} (hn : n ≤ 12) (hA : zAI n n A) : zJo n A = zIt (zJmS n) n A := by
  have hal : ∀ i, i < n → A 7 i = nI i → A 3 i = 1 := fun i hi q => by
    rcases (hA.1 i hi).2 with z | z
    · exact absurd (z.symm.trans q) (zN9i (by omega))
    · exact z.2.2
  have hJ := zJ1_at (A := A) hn n (Nat.le_refl n)
  have hM := zJm_at hn hal n (Nat.le_refl n)
  have hB : ∀ i, i < n → (zIt (zJ1S n) n A) 7 i = zF7 n A i := fun i hi => by rw [hJ 7 i, if_pos ⟨rfl, hi⟩]
  obtain ⟨r1, r2⟩ := zJ2_at hn hB n (Nat.le_refl n)
  funext f i
  show (zIt (zJ2S n) n (zIt (zJ1S n) n A)) f i = _
  rw [hM f i]
  by_cases q : f ≠ 8 ∨ n ≤ i
  · rw [r1 f i q, hJ f i]
    by_cases h7 : f = 7 ∧ i < n
    · rw [if_pos h7, if_pos h7]
    · rw [if_neg h7, if_neg h7, if_neg (by omega)]
  · have hf : f = 8 := by omega
    have hi : i < n := by omega
    subst hf
    rw [if_neg (by omega), if_pos ⟨rfl, hi⟩]
    have b8 : (zIt (zJ1S n) n A) 8 i = A 8 i := by rw [hJ 8 i, if_neg (by omega)]
    obtain ⟨a8, a7⟩ := hA.1 i hi
    unfold zS8
    by_cases c : A 3 i = 1 ∧ ¬ A 7 i = nI i
    · rw [if_pos c]
      have f7 : zF7 n A i = zOi (zNh n A i) := if_pos c
      cases hb : zNh n A i with
      | none =>
        rw [hb] at f7
        rw [(r2 i hi).2 (fun b b1 _ _ z => zN9i (by omega) (f7.symm.trans z)), b8, a8]
      | some b =>
        rw [hb] at f7
        obtain ⟨b1, b2, b3⟩ := zNe_head n A _ _ n (Nat.le_refl n) b hb
        exact (r2 i hi).1 b b1 ((zF7_head hn b1).mpr b3) (fun e => c.2 (e ▸ b3)) f7
    · rw [if_neg c]
      have f7 : zF7 n A i = A 7 i := if_neg c
      refine ((r2 i hi).2 (fun b b1 _ b3 z => ?_)).trans b8
      rw [f7] at z
      rcases a7 with a7 | a7
      · exact zN9i (by omega) (a7.symm.trans z)
      · exact b3 ((nI_eq (by omega) (by omega)).mp (a7.2.1.symm.trans z))
theorem zJoin_0 {n : Nat} {A : zT} (hn : n ≤ 12) (hA : zAI n n A) (h0 : A 11 11 = 0) : zIt (zJmS n) n A = A := by
  obtain ⟨a1, -, m, m1, m2, m3, -⟩ := hA
  have hm : m = 0 := (nI_eq (a := m) (b := 0) (by omega) (by omega)).mp (m2.symm.trans h0)
  have h7 := m3 hm
  have hM := zJm_at (A := A) hn (fun i hi q => absurd ((h7 i hi).symm.trans q) (zN9i (by omega))) n (Nat.le_refl n)
  have nh : ∀ i, zNh n A i = none := fun i => by
    cases hb : zNh n A i with
    | none => rfl
    | some b =>
      obtain ⟨b1, -, b3⟩ := zNe_head n A _ _ n (Nat.le_refl n) b hb
      exact absurd ((h7 b b1).symm.trans b3) (zN9i (by omega))
  funext f i
  rw [hM f i]
  by_cases q7 : f = 7 ∧ i < n
  · rw [if_pos q7, q7.1]
    unfold zF7
    rw [nh, h7 i q7.2]
    split <;> rfl
  · rw [if_neg q7]
    by_cases q8 : f = 8 ∧ i < n
    · rw [if_pos q8, q8.1]
      unfold zS8
      rw [nh, (a1 i q8.2).1]
      split <;> rfl
    · rw [if_neg q8]
theorem zEq.f7 {n : Nat} {a b : zT} (h : zEq n a b) (i : Nat) : zF7 n a i = zF7 n b i := by
  unfold zF7 zNh
  rw [h.lo i (f := 3) (by decide) (by decide), h.lo i (f := 7) (by decide) (by decide), h.lo i (f := 0) (by decide) (by decide), h.lo i (f := 1) (by decide) (by decide), h.ne]
theorem zEq.s8 {n : Nat} {a b : zT} (h : zEq n a b) (i : Nat) : zS8 n a i = zS8 n b i := by
  have ec : ∀ x y, zCn n a x y = zCn n b x y := fun x y => by
    have e : zCnS n a x = zCnS n b x := by
      funext j v
      unfold zCnS
      rw [h.f7 j]
    unfold zCn
    rw [e]
  unfold zS8 zNh
  rw [h.lo i (f := 3) (by decide) (by decide), h.lo i (f := 7) (by decide) (by decide), h.lo i (f := 0) (by decide) (by decide), h.lo i (f := 1) (by decide) (by decide), h.lo i (f := 8) (by decide) (by decide), h.ne]
  simp only [ec]
theorem zAI.eq {n k : Nat} {a b : zT} (h : zEq n a b) (q : zAI n k a) : zAI n k b := by
  obtain ⟨q1, q2, m, m1, m2, m3, m4⟩ := q
  have l7 : ∀ i, b 7 i = a 7 i := fun i => (h.lo i (by decide) (by decide)).symm
  have l8 : ∀ i, b 8 i = a 8 i := fun i => (h.lo i (by decide) (by decide)).symm
  have l3 : ∀ i, b 3 i = a 3 i := fun i => (h.lo i (by decide) (by decide)).symm
  refine ⟨fun i hi => by rw [l7, l8, l3]; exact q1 i hi, fun i x y z => by rw [l3]; exact q2 i x y (by rw [h.hi 10 y]; exact z), m, m1, (h.lo 11 (by decide) (by decide)).symm.trans m2, fun z i hi => (l7 i).trans (m3 z i hi), fun z => ?_⟩
  obtain ⟨x, x1, x2⟩ := m4 z
  exact ⟨x, x1, (l7 x).trans x2⟩
theorem zEq.jm {n : Nat} {a b : zT} (hn : n ≤ 12) (h : zEq n a b) (q : zAI n n a) : zEq n (zIt (zJmS n) n a) (zIt (zJmS n) n b) := by
  have hal : ∀ u : zT, zAI n n u → ∀ i, i < n → u 7 i = nI i → u 3 i = 1 := fun u hu i hi z => by
    rcases (hu.1 i hi).2 with w | w
    · exact absurd (w.symm.trans z) (zN9i (by omega))
    · exact w.2.2
  intro f i w
  rw [zJm_at hn (hal a q) n (Nat.le_refl n) f i, zJm_at hn (hal b (q.eq h)) n (Nat.le_refl n) f i, h.f7, h.s8, h f i w]
/-! ===== a round ===== -/
theorem zEl_AI (n : Nat) (g : Nat → Int32) (a : zT) : zAI n 0 (zEl n g (zBg n g a)) := by
  have key : (fun u : zT => (∀ i, i < n → u 7 i = -9 ∧ u 8 i = -9 ∧ (u 10 i = 1 → u 3 i = 1)) ∧ u 11 11 = 0) (zEl n g (zBg n g a)) := by
    unfold zEl
    refine zIt_inv (zElS (g 3 - zPh g (zBg n g a))) (fun u : zT => (∀ i, i < n → u 7 i = -9 ∧ u 8 i = -9 ∧ (u 10 i = 1 → u 3 i = 1)) ∧ u 11 11 = 0) (zBg n g a) ⟨fun i hi => ?_, ?_⟩ (fun k u hu => ?_) n
    · rw [zBg_f n g a (by decide), zBg_f n g a (by decide), zBg_f n g a (by decide), if_pos hi, if_pos hi, if_pos hi]
      exact ⟨rfl, rfl, fun q => absurd q (by show ¬ (0 : Int32) = 1; decide)⟩
    · rw [zBg_11, if_neg (by decide), if_pos rfl]
    · unfold zElS zDw
      split
      · rename_i c
        refine ⟨fun i hi => ?_, ?_⟩
        · rw [zSt_nf _ _ _ _ (by decide), zSt_nf _ _ _ _ (by decide), zSt_nf _ _ _ _ (by decide), zSt_nf _ _ _ _ (by decide), zSt_ap, zSt_nf _ _ _ _ (by decide), zSt_nf _ _ _ _ (by decide), zSt_nf _ _ _ _ (by decide)]
          refine ⟨(hu.1 i hi).1, (hu.1 i hi).2.1, fun q => ?_⟩
          by_cases e : i = k
          · rw [e]
            exact c.1
          · rw [if_neg (fun z => e z.2)] at q
            exact (hu.1 i hi).2.2 q
        · rw [zSt_nf _ _ _ _ (by decide), zSt_ni _ _ _ _ (by decide)]
          exact hu.2
      · exact hu
  exact ⟨fun i hi => ⟨(key.1 i hi).2.1, Or.inl (key.1 i hi).1⟩, fun i _ hi q => (key.1 i hi).2.2 q, 0, Nat.le_refl 0, key.2, fun _ i hi => (key.1 i hi).1, fun q => absurd rfl q⟩
theorem zRd_zMd {n : Nat} {g : Nat → Int32} {a b : zT} (hn : n ≤ 12) (h : zE9 a b) : zE9 (zRd n g a) (zMd n g b) := by
  have h1 := zEm_eq (n := n) (g := g) h
  have h2 := zEq.it (F := zAnS g) (K := zAnS g) (fun k x y hk q => q.anS g hk) h1 n (Nat.le_refl n)
  have hAI := (zEl_AI n g a).all (g := g) hn n (Nat.le_refl n)
  have hAI2 := hAI.eq h2
  rw [z12_an] at h2 hAI2
  have e3 : ∀ u v : zT, zE9 u v → zE9 (zR3 u) (zR3 v) := fun u v q => by
    unfold zR3
    exact (q.st 11 13 (by rw [q 11 13 (by decide) (by decide), q 11 12 (by decide) (by decide)])).st 11 10 (by rw [q 11 10 (by decide) (by decide)])
  unfold zRd zR1 zMd
  refine e3 _ _ ?_
  unfold zR2 zM2 zAm2
  generalize zIt (zAnS g) n (zEl n g (zBg n g a)) = cA at h2 hAI
  generalize zIt (zAnS g) n (zSt (zEm n g b) 11 11 0) = m2 at h2 hAI2
  have eJ := z12_jm m2 0 n n
  have e11 : (zIt (zJmS n) n m2) 11 11 = cA 11 11 := by
    rw [h2.lo 11 (by decide) (by decide)]
    have hal : ∀ i, i < n → (zSt m2 11 12 0) 7 i = nI i → (zSt m2 11 12 0) 3 i = 1 := fun i hi z => by
      rcases (hAI2.1 i hi).2 with w | w
      · exact absurd (w.symm.trans z) (zN9i (by omega))
      · exact w.2.2
    have := zJm_at hn hal n (Nat.le_refl n) 11 11
    rw [if_neg (by omega), if_neg (by omega), eJ, zSt_ni _ _ _ _ (by decide)] at this
    exact this
  rw [e11, ← eJ]
  by_cases c : cA 11 11 = 0
  · rw [if_pos c, if_pos c, zJoin_0 hn hAI2 ((h2.lo 11 (by decide) (by decide)).symm.trans c)]
    exact h2.e9.als g n
  · rw [if_neg c, if_neg c, zJoin_eq hn hAI]
    have j := h2.jm hn hAI
    have r := zEq.it (F := zRhS n g) (K := zRm n g) (fun k x y hk q => q.rh g hk) j n (Nat.le_refl n)
    have o := zEq.it (F := zOwS g) (K := zOwS g) (fun k x y hk q => q.owS g hk) r n (Nat.le_refl n)
    exact (o.dv g).e9
