/-! ===== a round's beginning, place by place; what no step of a round changes ===== -/
def zBgP (ph : Int32) (τ : zT) (f i : Nat) : Int32 := if f = 7 ∨ f = 8 then -9 else if f = 9 ∨ f = 10 then 0 else if f = 4 ∧ ph = 0 then 1 else τ f i
theorem zBgC_at (ph : Int32) (τ : zT) (f i : Nat) : ∀ k, (zIt (zBgC ph) k τ) f i = if i < k then zBgP ph τ f i else τ f i := by
  intro k
  induction k with
  | zero => simp [zIt]
  | succ k ih =>
    rw [zIt_s]
    generalize zIt (zBgC ph) k τ = t at ih ⊢
    by_cases hik : i = k
    · subst hik
      rw [if_pos (Nat.lt_succ_self i)]
      unfold zBgC zBr zBgP
      by_cases hp : ph = 0
      · rw [if_pos hp]
        by_cases h4 : f = 4
        · subst h4; simp [zSt_ap, hp]
        by_cases h7 : f = 7
        · subst h7; simp [zSt_ap]
        by_cases h8 : f = 8
        · subst h8; simp [zSt_ap]
        by_cases h9 : f = 9
        · subst h9; simp [zSt_ap]
        by_cases h10 : f = 10
        · subst h10; simp [zSt_ap]
        simp [zSt_ap, h4, h7, h8, h9, h10, ih]
      · rw [if_neg hp]
        by_cases h7 : f = 7
        · subst h7; simp [zSt_ap]
        by_cases h8 : f = 8
        · subst h8; simp [zSt_ap]
        by_cases h9 : f = 9
        · subst h9; simp [zSt_ap]
        by_cases h10 : f = 10
        · subst h10; simp [zSt_ap]
        simp [zSt_ap, h7, h8, h9, h10, hp, ih]
    · have hne : zBgC ph k t f i = t f i := by
        unfold zBgC zBr
        split <;> simp [zSt_ap, hik]
      rw [hne, ih]
      by_cases hlt : i < k
      · rw [if_pos hlt, if_pos (by omega)]
      · rw [if_neg hlt, if_neg (by omega)]
theorem zBg_11 (n : Nat) (g : Nat → Int32) (τ : zT) (j : Nat) : (zBg n g τ) 11 j = if j = 12 then 0 else if j = 11 then 0 else τ 11 j := by
  unfold zBg
  rw [zSt_ap, zSt_ap, zBgC_at]
  simp only [true_and, zBgP]
  simp
theorem zBg_f (n : Nat) (g : Nat → Int32) (τ : zT) {f : Nat} (hf : f ≠ 11) (i : Nat) : (zBg n g τ) f i = if i < n then zBgP (zPh g τ) τ f i else τ f i := by
  unfold zBg
  rw [zSt_ap, if_neg (fun q => hf q.1), zSt_ap, if_neg (fun q => hf q.1), zBgC_at]
/-- but for readings and elected, which mean nothing between rounds -/
def zE9 (τ τ2 : zT) : Prop := ∀ f i, f ≠ 9 → f ≠ 10 → τ f i = τ2 f i
theorem zE9.rf {τ : zT} : zE9 τ τ := fun _ _ _ _ => rfl
theorem zE9.symm {τ τ2 : zT} (h : zE9 τ τ2) : zE9 τ2 τ := fun f i a b => (h f i a b).symm
theorem zE9.trans {τ τ2 τ3 : zT} (h : zE9 τ τ2) (h2 : zE9 τ2 τ3) : zE9 τ τ3 := fun f i a b => (h f i a b).trans (h2 f i a b)
theorem zE9.ph {τ τ2 : zT} (g : Nat → Int32) (h : zE9 τ τ2) : zPh g τ = zPh g τ2 := by
  unfold zPh
  rw [h 11 10 (by decide) (by decide)]
theorem zBg_ag {n : Nat} {g : Nat → Int32} {τ τ9 : zT} (h : zE9 τ9 τ) : zAg n (zBg n g τ) (zBg n g τ9) := by
  refine ⟨fun k _ _ => ?_, fun f i hf hi => ?_⟩
  · rw [zBg_11, zBg_11, h 11 k (by decide) (by decide)]
  · rw [zBg_f n g τ (by omega), zBg_f n g τ9 (by omega), if_pos hi, if_pos hi, h.ph]
    unfold zBgP
    by_cases h9 : f = 9 ∨ f = 10
    · simp only [h9, if_true]
    · rw [h f i (fun q => h9 (Or.inl q)) (fun q => h9 (Or.inr q))]
theorem zBg_gen {n : Nat} {g : Nat → Int32} {τ : zT} (h : 0 ≤ τ 11 9) : 0 ≤ (zBg n g τ) 11 9 := by
  rw [zBg_11]
  exact h
/-- the generator stays; a sensor's life stays or ends -/
def zDn (τ τ2 : zT) : Prop := τ2 11 9 = τ 11 9 ∧ ∀ i, τ2 3 i = τ 3 i ∨ τ2 3 i = 0
theorem zDn.rf {τ : zT} : zDn τ τ := ⟨rfl, fun _ => Or.inl rfl⟩
theorem zDn.trans {τ τ2 τ3 : zT} (h : zDn τ τ2) (h2 : zDn τ2 τ3) : zDn τ τ3 := by
  refine ⟨h2.1.trans h.1, fun i => ?_⟩
  rcases h2.2 i with q | q
  · rw [q]
    exact h.2 i
  · exact Or.inr q
theorem zDn.st {τ τ2 : zT} (h : zDn τ τ2) {f i : Nat} {v : Int32} (h3 : f = 3 → v = 0) (h9 : ¬ (f = 11 ∧ i = 9)) : zDn τ (zSt τ2 f i v) := by
  refine ⟨?_, fun j => ?_⟩
  · rw [zSt_ap, if_neg (fun q => h9 ⟨q.1.symm, q.2.symm⟩)]
    exact h.1
  · rw [zSt_ap]
    by_cases q : 3 = f ∧ j = i
    · rw [if_pos q]
      exact Or.inr (h3 q.1.symm)
    · rw [if_neg q]
      exact h.2 j
theorem zDn.it {f : Nat → zT → zT} (hf : ∀ k τ, zDn τ (f k τ)) (τ : zT) : ∀ k, zDn τ (zIt f k τ) := by
  intro k
  induction k with
  | zero => exact zDn.rf
  | succ k ih => exact ih.trans (hf k _)
theorem zDie_dn {τ τ2 : zT} (h : zDn τ τ2) (i : Nat) : zDn τ (zDie τ2 i) := (h.st (fun _ => rfl) (by omega)).st (by omega) (by omega)
theorem zPd_dn {τ τ2 : zT} (h : zDn τ τ2) (i : Nat) (c : Int32) : zDn τ (zPd τ2 i c) := (h.st (by omega) (by omega)).st (by omega) (by omega)
theorem zAnS_dn (g : Nat → Int32) (k : Nat) (τ : zT) : zDn τ (zAnS g k τ) := by
  unfold zAnS
  split
  · split
    · exact zDie_dn zDn.rf k
    · exact ((((zPd_dn zDn.rf k _).st (by omega) (by omega)).st (by omega) (by omega)).st (by omega) (by omega)).st (by omega) (by omega)
  · exact zDn.rf
theorem zJ1S_dn (n k : Nat) (τ : zT) : zDn τ (zJ1S n k τ) := by
  unfold zJ1S
  split
  · exact zDn.rf.st (by omega) (by omega)
  · exact zDn.rf
theorem zGs_dn (n h : Nat) (τ : zT) : zDn τ (zGs n h τ) := by
  unfold zGs
  refine zIt_inv (zGsS h) (fun u => zDn τ u.2) (0, τ) zDn.rf (fun k u hu => ?_) n
  show zDn τ (zGsS h k u).2
  unfold zGsS
  split
  · exact hu.st (by omega) (by omega)
  · exact hu
theorem zJo_dn (n : Nat) (τ : zT) : zDn τ (zJo n τ) := by
  refine (zDn.it (zJ1S_dn n) τ n).trans (zDn.it (fun k t => ?_) _ n)
  unfold zJ2S
  split
  · exact zGs_dn n k t
  · exact zDn.rf
theorem zTk_dn (g : Nat → Int32) {τ τ2 : zT} (hd : zDn τ τ2) (h : Nat) : zDn τ (zTk g τ2 h).1 := by
  unfold zTk
  split
  · split
    · exact zDie_dn hd h
    · split
      · exact zDie_dn (zPd_dn hd h _) h
      · exact zPd_dn (zPd_dn hd h _) h _
  · exact hd
theorem zSd_dn (g : Nat → Int32) (τ : zT) (i h : Nat) : zDn τ (zSd g τ i h).1 := by
  unfold zSd
  split
  · exact zDie_dn zDn.rf i
  · exact zTk_dn g (zPd_dn zDn.rf i _) h
theorem zRhS_dn (n : Nat) (g : Nat → Int32) (h : Nat) (τ : zT) : zDn τ (zRhS n g h τ) := by
  unfold zRhS
  split
  · refine zDn.it (fun k t => ?_) τ n
    unfold zRpS
    split
    · split
      · exact zSd_dn g t k h
      · exact (zSd_dn g t k h).st (by omega) (by omega)
    · exact zDn.rf
  · exact zDn.rf
theorem zOwS_dn (g : Nat → Int32) (h : Nat) (τ : zT) : zDn τ (zOwS g h τ) := by
  unfold zOwS
  split
  · split
    · exact zDie_dn zDn.rf h
    · exact (zPd_dn zDn.rf h _).st (by omega) (by omega)
  · exact zDn.rf
theorem zSb_dn (g : Nat → Int32) (τ : zT) (i : Nat) (w : Int32) : zDn τ (zSb g τ i w) := by
  unfold zSb
  split
  · exact zDie_dn zDn.rf i
  · exact (zPd_dn zDn.rf i _).st (by omega) (by omega)
theorem zRl_dn (n : Nat) (g : Nat → Int32) (τ : zT) : zDn τ (zRl n g τ) := by
  unfold zRl
  split
  · exact zDn.rf
  · rename_i r _
    refine zDn.trans (zDn.it (f := zRlS g r) (fun k t => ?_) τ n) ?_
    · unfold zRlS
      split
      · split
        · exact zSd_dn g t k r
        · exact (zSd_dn g t k r).st (by omega) (by omega)
      · exact zDn.rf
    · unfold zRlE
      split
      · exact zSb_dn g _ r _
      · exact zDn.rf
theorem zR2_dn (n : Nat) (g : Nat → Int32) (τ : zT) : zDn τ (zR2 n g τ) := by
  unfold zR2
  split
  · refine zDn.it (fun k t => ?_) τ n
    unfold zRbS
    split
    · exact zSb_dn g t k 1
    · exact zDn.rf
  · refine (((zJo_dn n τ).trans (zDn.it (zRhS_dn n g) _ n)).trans (zDn.it (zOwS_dn g) _ n)).trans ?_
    unfold zDv
    split
    · exact zRl_dn n g _
    · refine zDn.it (fun k t => ?_) _ n
      unfold zDdS
      split
      · exact zSb_dn g t k _
      · exact zDn.rf
theorem zEl_3 (n : Nat) (g : Nat → Int32) (τ : zT) (i : Nat) : (zEl n g τ) 3 i = τ 3 i := by
  unfold zEl
  refine zIt_inv (zElS _) (fun t => t 3 i = τ 3 i) τ rfl (fun k t ht => ?_) n
  show zElS _ k t 3 i = τ 3 i
  unfold zElS zDw
  split
  · rw [zSt_nf _ _ _ _ (by decide), zSt_nf _ _ _ _ (by decide)]
    exact ht
  · exact ht
theorem zR1_gen {n : Nat} {g : Nat → Int32} {τ : zT} (h : 0 ≤ τ 11 9) : 0 ≤ (zR1 n g τ) 11 9 := by
  unfold zR1 zR3
  rw [zSt_ap, if_neg (by decide), zSt_ap, if_neg (by decide), (zR2_dn n g _).1, (zDn.it (zAnS_dn g) _ n).1]
  exact zEl_gen _ τ h n
theorem zR1_3 (n : Nat) (g : Nat → Int32) (τ : zT) (i : Nat) : (zR1 n g τ) 3 i = τ 3 i ∨ (zR1 n g τ) 3 i = 0 := by
  unfold zR1 zR3
  rw [zSt_nf _ _ _ _ (by decide), zSt_nf _ _ _ _ (by decide)]
  rcases (zR2_dn n g (zIt (zAnS g) n (zEl n g τ))).2 i with q | q
  · rw [q]
    rcases (zDn.it (zAnS_dn g) (zEl n g τ) n).2 i with q2 | q2
    · rw [q2, zEl_3]
      exact Or.inl rfl
    · exact Or.inr q2
  · exact Or.inr q
/-- a whole round -/
def zRd (n : Nat) (g : Nat → Int32) (τ : zT) : zT := zR1 n g (zBg n g τ)
theorem zRd_gen {n : Nat} {g : Nat → Int32} {τ : zT} (h : 0 ≤ τ 11 9) : 0 ≤ (zRd n g τ) 11 9 := zR1_gen (zBg_gen h)
theorem zRd_3 (n : Nat) (g : Nat → Int32) (τ : zT) (i : Nat) : (zRd n g τ) 3 i = τ 3 i ∨ (zRd n g τ) 3 i = 0 := by
  have h := zR1_3 n g (zBg n g τ) i
  have e : (zBg n g τ) 3 i = τ 3 i := by
    rw [zBg_f n g τ (by decide)]
    unfold zBgP
    simp
  rw [e] at h
  exact h
/-- the heap holds a network in the state τ, readings and elected apart -/
def zN9 (G : zG) (ad : Nat → Nat) (n : Nat) (g : Nat → Int32) (X : va_W) (τ : zT) (H : Heap) : Prop := ∃ τ9, zE9 τ9 τ ∧ zNA G ad n n g X τ9 H
theorem zN9.to {G : zG} {ad : Nat → Nat} {n : Nat} {g : Nat → Int32} {X : va_W} {τ τ2 : zT} {H : Heap} (h : zN9 G ad n g X τ H) (h2 : zE9 τ τ2) : zN9 G ad n g X τ2 H := by
  obtain ⟨τ9, h1, hN⟩ := h
  exact ⟨τ9, h1.trans h2, hN⟩
theorem zCaS_9 {τ τ2 : zT} (h : zE9 τ τ2) (n : Nat) : zCa n τ = zCa n τ2 := by
  unfold zCa
  have e : zCaS τ = zCaS τ2 := by
    funext k v
    unfold zCaS
    rw [h 3 k (by decide) (by decide)]
  rw [e]
/-- rounds until none is alive or the limit is reached: how many, and the state -/
def zPfS (n : Nat) (g : Nat → Int32) (_ : Nat) (u : Nat × zT) : Nat × zT := if 0 < zCa n u.2 then (u.1 + 1, zRd n g u.2) else u
def zPf (n : Nat) (g : Nat → Int32) (lim : Nat) (τ : zT) : Nat × zT := zIt (zPfS n g) lim (0, τ)
theorem zPf_gen {n : Nat} {g : Nat → Int32} {τ : zT} (h : 0 ≤ τ 11 9) (k : Nat) : 0 ≤ (zIt (zPfS n g) k (0, τ)).2 11 9 := by
  refine zIt_inv (zPfS n g) (fun u => 0 ≤ u.2 11 9) (0, τ) h (fun k u hu => ?_) k
  show 0 ≤ (zPfS n g k u).2 11 9
  unfold zPfS
  split
  · exact zRd_gen hu
  · exact hu
theorem zPf_stop {n : Nat} {g : Nat → Int32} {τ : zT} {k : Nat} (h : ¬ 0 < zCa n (zIt (zPfS n g) k (0, τ)).2) : ∀ j, zIt (zPfS n g) (k + j) (0, τ) = zIt (zPfS n g) k (0, τ) := by
  intro j
  induction j with
  | zero => rfl
  | succ j ih =>
    rw [show k + (j + 1) = (k + j) + 1 by omega, zIt_s, ih]
    generalize zIt (zPfS n g) k (0, τ) = u at h ⊢
    unfold zPfS
    rw [if_neg h]
theorem zPf_3 (n : Nat) (g : Nat → Int32) (τ : zT) (i k : Nat) : (zIt (zPfS n g) k (0, τ)).2 3 i = τ 3 i ∨ (zIt (zPfS n g) k (0, τ)).2 3 i = 0 := by
  refine zIt_inv (zPfS n g) (fun u => u.2 3 i = τ 3 i ∨ u.2 3 i = 0) (0, τ) (Or.inl rfl) (fun k u hu => ?_) k
  show (zPfS n g k u).2 3 i = τ 3 i ∨ (zPfS n g k u).2 3 i = 0
  unfold zPfS
  split
  · show zRd n g u.2 3 i = τ 3 i ∨ zRd n g u.2 3 i = 0
    rcases zRd_3 n g u.2 i with q | q
    · rw [q]
      exact hu
    · exact Or.inr q
  · exact hu
