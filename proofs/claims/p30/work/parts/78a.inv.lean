/-! ===== numbers of the law: energy, sums; what a round keeps ===== -/
theorem zIt_inv2 {α : Type} {f : Nat → α → α} {n : Nat} (I : Nat → α → Prop) {a : α} (h0 : I 0 a) (hs : ∀ k a, k < n → I k a → I (k + 1) (f k a)) : ∀ k, k ≤ n → I k (zIt f k a) := by
  intro k
  induction k with
  | zero => exact fun _ => h0
  | succ k ih => exact fun hk => hs k _ (by omega) (ih (by omega))
/-- the energy that the law counts -/
def zEgS (τ : zT) (k : Nat) (v : Int32) : Int32 := v + τ 2 k
def zEg (n : Nat) (τ : zT) : Int32 := zIt (zEgS τ) n (τ 11 14)
theorem zEg_eq {n : Nat} {τ τ2 : zT} (h : ∀ i, i < n → τ2 2 i = τ 2 i) (h2 : τ2 11 14 = τ 11 14) : zEg n τ2 = zEg n τ := by
  unfold zEg
  rw [h2]
  refine zIt_cong (fun k b hk => ?_) n (Nat.le_refl n)
  unfold zEgS
  rw [h k hk]
theorem zEg_mv {τ τ2 : zT} {i : Nat} {c b : Int32} (h1 : τ2 2 i = τ 2 i - c) (h2 : ∀ j, j ≠ i → τ2 2 j = τ 2 j) : ∀ k, zIt (zEgS τ2) k (b + c) = zIt (zEgS τ) k b + (if i < k then 0 else c) := by
  intro k
  induction k with
  | zero => rfl
  | succ k ih =>
    rw [zIt_s, zIt_s, ih]
    unfold zEgS
    by_cases hi : i < k
    · rw [if_pos hi, if_pos (by omega), h2 k (by omega)]
      grind
    · rw [if_neg hi]
      by_cases e : i = k
      · subst e
        rw [if_pos (by omega), h1]
        grind
      · rw [if_neg (by omega), h2 k (fun q => e q.symm)]
        grind
theorem zEg_pd {n i : Nat} (hi : i < n) (τ : zT) (c : Int32) : zEg n (zPd τ i c) = zEg n τ := by
  unfold zEg
  have e : (zPd τ i c) 11 14 = τ 11 14 + c := by
    unfold zPd
    exact zSt_self _ _ _ _
  rw [e, zEg_mv (τ := τ) (i := i), if_pos hi]
  · exact Int32.add_zero _
  · unfold zPd
    rw [zSt_nf _ _ _ _ (by decide), zSt_self]
  · intro j hj
    unfold zPd
    rw [zSt_nf _ _ _ _ (by decide), zSt_ni _ _ _ _ hj]
theorem zEg_add {n i : Nat} (hi : i < n) (τ : zT) (c : Int32) : zEg n (zSt τ 2 i (τ 2 i + c)) = zEg n τ + c := by
  have h := zEg_mv (τ := zSt τ 2 i (τ 2 i + c)) (τ2 := τ) (i := i) (c := c) (b := τ 11 14 + 0) (by rw [zSt_self]; grind) (fun j hj => by rw [zSt_ni _ _ _ _ hj]) n
  rw [if_pos hi] at h
  have h3 : ∀ (k : Nat) (b c : Int32), zIt (zEgS τ) k (b + c) = zIt (zEgS τ) k b + c := by
    intro k b c
    induction k with
    | zero => rfl
    | succ k ih =>
      rw [zIt_s, zIt_s, ih]
      unfold zEgS
      grind
  unfold zEg
  rw [show (zSt τ 2 i (τ 2 i + c)) 11 14 = τ 11 14 from zSt_nf _ _ _ _ (by decide)]
  rw [h3] at h
  have h0 : τ 11 14 + 0 = τ 11 14 := Int32.add_zero _
  rw [h0] at h
  rw [h]
  grind
/-- sums of naturals -/
def zSu (f : Nat → Nat) : Nat → Nat
  | 0 => 0
  | k + 1 => zSu f k + f k
theorem zSu_le {f g : Nat → Nat} : ∀ n, (∀ i, i < n → f i ≤ g i) → zSu f n ≤ zSu g n := by
  intro n
  induction n with
  | zero => exact fun _ => Nat.le_refl _
  | succ n ih => exact fun h => Nat.add_le_add (ih fun i hi => h i (by omega)) (h n (by omega))
theorem zSu_lt {f g : Nat → Nat} {j : Nat} (hj : f j < g j) : ∀ n, j < n → (∀ i, i < n → f i ≤ g i) → zSu f n < zSu g n := by
  intro n
  induction n with
  | zero => exact fun h => absurd h (by omega)
  | succ n ih =>
    intro h h2
    show zSu f n + f n < zSu g n + g n
    by_cases e : j = n
    · subst e
      have := zSu_le (f := f) (g := g) j (fun i hi => h2 i (by omega))
      omega
    · have := ih (by omega) (fun i hi => h2 i (by omega))
      have := h2 n (by omega)
      omega
theorem zSu_eq {f g : Nat → Nat} : ∀ n, (∀ i, i < n → f i = g i) → zSu f n = zSu g n := fun n h => Nat.le_antisymm (zSu_le n fun i hi => Nat.le_of_eq (h i hi)) (zSu_le n fun i hi => Nat.le_of_eq (h i hi).symm)
theorem zSu_add (f g : Nat → Nat) : ∀ n, zSu (fun i => f i + g i) n = zSu f n + zSu g n := by
  intro n
  induction n with
  | zero => rfl
  | succ n ih =>
    show zSu (fun i => f i + g i) n + (f n + g n) = zSu f n + f n + (zSu g n + g n)
    rw [ih]
    omega
theorem zSu_0 : ∀ n, zSu (fun _ => 0) n = 0 := by
  intro n
  induction n with
  | zero => rfl
  | succ n ih => exact ih
theorem zSu_swap (f : Nat → Nat → Nat) (m : Nat) : ∀ n, zSu (fun h => zSu (f h) m) n = zSu (fun i => zSu (fun h => f h i) n) m := by
  intro n
  induction n with
  | zero => exact (zSu_0 m).symm
  | succ n ih =>
    show zSu (fun h => zSu (f h) m) n + zSu (f n) m = zSu (fun i => zSu (fun h => f h i) n + f n i) m
    rw [ih, zSu_add]
theorem zSu_b {f : Nat → Nat} {c : Nat} : ∀ n, (∀ i, i < n → f i ≤ c) → zSu f n ≤ n * c := by
  intro n
  induction n with
  | zero => exact fun _ => Nat.zero_le _
  | succ n ih =>
    intro h
    have := ih fun i hi => h i (by omega)
    have := h n (by omega)
    show zSu f n + f n ≤ (n + 1) * c
    rw [Nat.succ_mul]
    omega
/-- at most one place counts -/
theorem zSu_one {f : Nat → Nat} {a N : Nat} (h1 : ∀ i, f i ≤ 1) (h2 : ∀ i, i < N → f i ≠ 0 → i = a) : ∀ n, n ≤ N → zSu f n ≤ 1 ∧ (n ≤ a → zSu f n = 0) := by
  intro n
  induction n with
  | zero => exact fun _ => ⟨Nat.zero_le 1, fun _ => rfl⟩
  | succ n ih =>
    intro hn
    have ih := ih (by omega)
    show zSu f n + f n ≤ 1 ∧ (n + 1 ≤ a → zSu f n + f n = 0)
    by_cases e : n = a
    · have := ih.2 (by omega)
      have := h1 n
      exact ⟨by omega, fun q => by omega⟩
    · have : f n = 0 := Classical.byContradiction fun q => e (h2 n (by omega) q)
      exact ⟨by have := ih.1; omega, fun q => by have := ih.2 (by omega); omega⟩
theorem zSu_cut {f : Nat → Nat} {r : Nat} : ∀ n, r < n → zSu (fun j => if j = r then 0 else f j) n + f r = zSu f n := by
  intro n
  induction n with
  | zero => exact fun h => absurd h (by omega)
  | succ n ih =>
    intro h
    show zSu (fun j => if j = r then 0 else f j) n + (if n = r then 0 else f n) + f r = zSu f n + f n
    by_cases e : n = r
    · subst e
      rw [if_pos rfl]
      have := zSu_eq (f := fun j => if j = n then 0 else f j) (g := f) n (fun i hi => if_neg (by omega))
      omega
    · rw [if_neg e]
      have := ih (by omega)
      omega
/-- a counter of int32 -/
def zCnS (P : Nat → Bool) (i : Nat) (v : Int32) : Int32 := v + (if P i = true then 1 else 0)
theorem zCn_nI (P : Nat → Bool) : ∀ k, zIt (zCnS P) k 0 = nI (zSu (fun i => if P i = true then 1 else 0) k) := by
  intro k
  induction k with
  | zero => rfl
  | succ k ih =>
    rw [zIt_s, ih]
    unfold zCnS
    show _ = nI (zSu (fun i => if P i = true then 1 else 0) k + (if P k = true then 1 else 0))
    split
    · exact nI_1 _
    · exact Int32.add_zero _
/-- a sensor's life: what the round's number is R -/
def zLf (τ : zT) (R : Nat) (i : Nat) : Prop := (τ 3 i = 1 ∧ τ 6 i = -9) ∨ (τ 3 i = 0 ∧ ∃ d, d ≤ R ∧ τ 6 i = nI d)
/-- inside round R: energy E; a0: who was alive when it began; what is frozen (F) is as K has it -/
def zIv (n : Nat) (E : Int32) (R : Nat) (a0 : Nat → Bool) (F : Nat → Nat → Prop) (K : zT) (τ : zT) : Prop := zEg n τ = E ∧ τ 11 10 = nI R ∧ (∀ i, i < n → ∃ b, b ≤ 1000000 ∧ τ 2 i = nI b) ∧ (∀ i, i < n → zLf τ R i ∧ (τ 3 i = 1 → a0 i = true)) ∧ (∀ f i, F f i → τ f i = K f i) ∧ τ 11 13 = K 11 13
/-- what may be frozen -/
def zFz (F : Nat → Nat → Prop) : Prop := ∀ f i, F f i → f ≠ 2 ∧ f ≠ 3 ∧ f ≠ 6 ∧ ¬ (f = 11 ∧ i = 14)
section ZIV
variable {n : Nat} {E : Int32} {R : Nat} {a0 : Nat → Bool} {F : Nat → Nat → Prop} {K τ : zT}
theorem zIv.st (h : zIv n E R a0 F K τ) (f i : Nat) (v : Int32) (h1 : ¬ F f i) (h2 : f ≠ 2) (h3 : f ≠ 3) (h6 : f ≠ 6) (h11 : ¬ (f = 11 ∧ (i = 10 ∨ i = 13 ∨ i = 14))) : zIv n E R a0 F K (zSt τ f i v) := by
  obtain ⟨q1, q2, q3, q4, q5, q6⟩ := h
  refine ⟨(zEg_eq (fun j _ => zSt_nf _ _ _ _ (Ne.symm h2)) (by rw [zSt_ap, if_neg (by omega)])).trans q1, by rw [zSt_ap, if_neg (by omega)]; exact q2, fun j hj => by rw [zSt_nf _ _ _ _ (Ne.symm h2)]; exact q3 j hj, fun j hj => ?_, fun f2 i2 hF => ?_, by rw [zSt_ap, if_neg (by omega)]; exact q6⟩
  · have := q4 j hj
    unfold zLf at this ⊢
    rw [zSt_nf _ _ _ _ (Ne.symm h3), zSt_nf _ _ _ _ (Ne.symm h6)]
    exact this
  · rw [zSt_ap, if_neg (fun q => h1 (by rw [← q.1, ← q.2]; exact hF))]
    exact q5 f2 i2 hF
theorem zIv.die (h : zIv n E R a0 F K τ) (hF : zFz F) (i : Nat) : zIv n E R a0 F K (zDie τ i) := by
  obtain ⟨q1, q2, q3, q4, q5, q6⟩ := h
  have e : ∀ f j, f ≠ 3 → f ≠ 6 → (zDie τ i) f j = τ f j := fun f j a b => by
    unfold zDie
    rw [zSt_nf _ _ _ _ b, zSt_nf _ _ _ _ a]
  refine ⟨(zEg_eq (fun j _ => e 2 j (by decide) (by decide)) (e 11 14 (by decide) (by decide))).trans q1, (e 11 10 (by decide) (by decide)).trans q2, fun j hj => by rw [e 2 j (by decide) (by decide)]; exact q3 j hj, fun j hj => ?_, fun f2 i2 hf => (e f2 i2 (hF _ _ hf).2.1 (hF _ _ hf).2.2.1).trans (q5 f2 i2 hf), (e 11 13 (by decide) (by decide)).trans q6⟩
  have e3 : (zDie τ i) 3 j = if j = i then 0 else τ 3 j := by
    unfold zDie
    rw [zSt_nf _ _ _ _ (by decide), zSt_ap]
    simp
  have e6 : (zDie τ i) 6 j = if j = i then τ 11 10 else τ 6 j := by
    unfold zDie
    rw [zSt_ap]
    simp only [true_and]
    rw [zSt_nf _ _ _ _ (by decide)]
  unfold zLf
  rw [e3, e6]
  by_cases c : j = i
  · rw [if_pos c, if_pos c]
    exact ⟨Or.inr ⟨rfl, R, Nat.le_refl R, q2⟩, fun z => absurd z (by decide)⟩
  · rw [if_neg c, if_neg c]
    exact q4 j hj
theorem zIv.pd (h : zIv n E R a0 F K τ) (hF : zFz F) {i : Nat} (hi : i < n) {c : Nat} (hc : c < 1000000) (h2 : ¬ τ 2 i < nI c) : zIv n E R a0 F K (zPd τ i (nI c)) := by
  obtain ⟨q1, q2, q3, q4, q5, q6⟩ := h
  have e : ∀ f j, f ≠ 2 → ¬ (f = 11 ∧ j = 14) → (zPd τ i (nI c)) f j = τ f j := fun f j a b => by
    unfold zPd
    rw [zSt_ap, if_neg b, zSt_nf _ _ _ _ a]
  refine ⟨(zEg_pd hi τ _).trans q1, (e 11 10 (by decide) (by decide)).trans q2, fun j hj => ?_, fun j hj => ?_, fun f2 i2 hf => (e f2 i2 (hF _ _ hf).1 (hF _ _ hf).2.2.2).trans (q5 f2 i2 hf), (e 11 13 (by decide) (by decide)).trans q6⟩
  · obtain ⟨b, hb, eb⟩ := q3 j hj
    by_cases cj : j = i
    · subst cj
      rw [eb] at h2
      have hle : c ≤ b := by
        have := (not_congr (nI_ltI (a := b) (b := c) (by omega) (by omega))).mp h2
        omega
      refine ⟨b - c, by omega, ?_⟩
      unfold zPd
      rw [zSt_nf _ _ _ _ (by decide), zSt_self, eb, pk_sub hle]
    · refine ⟨b, hb, ?_⟩
      unfold zPd
      rw [zSt_nf _ _ _ _ (by decide), zSt_ni _ _ _ _ cj]
      exact eb
  · have := q4 j hj
    unfold zLf at this ⊢
    rw [e 3 j (by decide) (by omega), e 6 j (by decide) (by omega)]
    exact this
theorem zIv.fz (h : zIv n E R a0 F K τ) {f i : Nat} (hf : F f i) : τ f i = K f i := h.2.2.2.2.1 f i hf
/-- freeze other places -/
theorem zIv.re (h : zIv n E R a0 F K τ) (F2 : Nat → Nat → Prop) : zIv n E R a0 F2 τ τ := ⟨h.1, h.2.1, h.2.2.1, h.2.2.2.1, fun _ _ _ => rfl, rfl⟩
end ZIV
