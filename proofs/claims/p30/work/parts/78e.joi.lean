/-! ===== joining and slots ===== -/
theorem zNe_sp (n : Nat) (τ : zT) (x y : Int32) {b : Nat} (h : zNe n τ x y = some b) : b < n ∧ τ 3 b = 1 ∧ τ 7 b = nI b ∧ ∀ j, j < n → τ 3 j = 1 → τ 7 j = nI j → ¬ zDi (τ 0 j) (τ 1 j) x y < zDi (τ 0 b) (τ 1 b) x y ∧ (zDi (τ 0 j) (τ 1 j) x y = zDi (τ 0 b) (τ 1 b) x y → ¬ j < b) := by
  have key := zIt_inv2 (f := zNeS τ x y) (n := n) (a := none) (fun k o => (o = none → ∀ j, j < k → ¬ (τ 3 j = 1 ∧ τ 7 j = nI j)) ∧ ∀ b, o = some b → b < k ∧ τ 3 b = 1 ∧ τ 7 b = nI b ∧ ∀ j, j < k → τ 3 j = 1 → τ 7 j = nI j → ¬ zDi (τ 0 j) (τ 1 j) x y < zDi (τ 0 b) (τ 1 b) x y ∧ (zDi (τ 0 j) (τ 1 j) x y = zDi (τ 0 b) (τ 1 b) x y → ¬ j < b)) ⟨fun _ j hj => absurd hj (by omega), fun b q => by cases q⟩ (fun k o hk hI => ?_) n (Nat.le_refl n)
  · exact key.2 b h
  · obtain ⟨i1, i2⟩ := hI
    unfold zNeS
    by_cases c : (τ 3 k = 1 ∧ τ 7 k = nI k) ∧ (o = none ∨ zDi (τ 0 k) (τ 1 k) x y < zOd τ x y o)
    · rw [if_pos c]
      refine ⟨fun q => (by cases q), fun b q => ?_⟩
      cases q
      refine ⟨by omega, c.1.1, c.1.2, fun j hj a3 a7 => ?_⟩
      by_cases e : j = k
      · subst e
        exact ⟨Int32.lt_irrefl, fun _ => Nat.lt_irrefl j⟩
      · rcases c.2 with q | q
        · exact absurd ⟨a3, a7⟩ (i1 q j (by omega))
        · cases o with
          | none => exact absurd ⟨a3, a7⟩ (i1 rfl j (by omega))
          | some b0 =>
            have q : zDi (τ 0 k) (τ 1 k) x y < zDi (τ 0 b0) (τ 1 b0) x y := q
            have w := (i2 b0 rfl).2.2.2 j (by omega) a3 a7
            rw [Int32.lt_iff_toInt_lt] at q
            have w1 := w.1
            rw [Int32.lt_iff_toInt_lt] at w1
            refine ⟨fun z => ?_, fun z => ?_⟩
            · rw [Int32.lt_iff_toInt_lt] at z
              omega
            · rw [z] at w1
              omega
    · rw [if_neg c]
      refine ⟨fun q j hj z => ?_, fun b q => ?_⟩
      · by_cases e : j = k
        · subst e
          exact c ⟨z, Or.inl q⟩
        · exact i1 q j (by omega) z
      · obtain ⟨j1, j2, j3, j4⟩ := i2 b q
        refine ⟨by omega, j2, j3, fun j hj a3 a7 => ?_⟩
        by_cases e : j = k
        · subst e
          refine ⟨fun z => c ⟨⟨a3, a7⟩, Or.inr ?_⟩, fun _ => by omega⟩
          rw [q]
          exact z
        · exact j4 j (by omega) a3 a7
/-- h is the nearest head for i -/
def zNr (n : Nat) (τ : zT) (i h : Nat) : Prop := ∀ j, j < n → τ 7 j = nI j → ¬ zDs τ i j < zDs τ i h ∧ (zDs τ i j = zDs τ i h → ¬ j < h)
theorem zJ1_all {n : Nat} (hn : n ≤ 12) {τa : zT} (hA : ∀ i, i < n → τa 7 i = -9 ∨ (τa 7 i = nI i ∧ τa 3 i = 1)) : (∀ f i, f ≠ 7 → (zIt (zJ1S n) n τa) f i = τa f i) ∧ ∀ i, i < n → (τa 7 i = nI i → (zIt (zJ1S n) n τa) 7 i = nI i) ∧ (τa 7 i = -9 → (zIt (zJ1S n) n τa) 7 i = -9 ∨ ∃ h, h < n ∧ h ≠ i ∧ τa 7 h = nI h ∧ (zIt (zJ1S n) n τa) 7 i = nI h ∧ zNr n τa i h) := by
  refine zIt_inv2 (f := zJ1S n) (n := n) (a := τa) (fun _ τ => (∀ f i, f ≠ 7 → τ f i = τa f i) ∧ ∀ i, i < n → (τa 7 i = nI i → τ 7 i = nI i) ∧ (τa 7 i = -9 → τ 7 i = -9 ∨ ∃ h, h < n ∧ h ≠ i ∧ τa 7 h = nI h ∧ τ 7 i = nI h ∧ zNr n τa i h)) ⟨fun _ _ _ => rfl, fun i hi => ⟨fun q => q, fun q => Or.inl q⟩⟩ (fun k τ hk hI => ?_) n (Nat.le_refl n)
  obtain ⟨i1, i2⟩ := hI
  have hd : ∀ j, j < n → τ 7 j = nI j → τa 7 j = nI j := fun j hj q => by
    rcases hA j hj with w | w
    · rcases (i2 j hj).2 w with z | ⟨h, h1, h2, -, h4, -⟩
      · exact absurd (z.symm.trans q) (zM9 (by omega))
      · exact absurd ((nI_eq (by omega) (by omega)).mp (h4.symm.trans q)) h2
    · exact w.1
  unfold zJ1S
  by_cases c : τ 3 k = 1 ∧ ¬ τ 7 k = nI k
  · rw [if_pos c]
    refine ⟨fun f i hf => (zSt_nf _ _ _ _ hf).trans (i1 f i hf), fun i hi => ?_⟩
    by_cases e : i = k
    · subst e
      refine ⟨fun q => absurd ((i2 i hi).1 q) c.2, fun _ => ?_⟩
      rw [zSt_self]
      cases hb : zNe n τ (τ 0 i) (τ 1 i) with
      | none => exact Or.inl rfl
      | some b =>
        obtain ⟨b1, b2, b3, b4⟩ := zNe_sp n τ _ _ hb
        refine Or.inr ⟨b, b1, fun q => c.2 (q ▸ b3), hd b b1 b3, rfl, fun j hj a7 => ?_⟩
        have a3 : τ 3 j = 1 := by
          rw [i1 3 j (by decide)]
          rcases hA j hj with w | w
          · exact absurd (w.symm.trans a7) (zM9 (by omega))
          · exact w.2
        have w := b4 j hj a3 ((i2 j hj).1 a7)
        unfold zDs
        rw [zDi_sym (τa 0 i), zDi_sym (τa 0 i) (τa 1 i) (τa 0 b)]
        rw [i1 0 j (by decide), i1 1 j (by decide), i1 0 i (by decide), i1 1 i (by decide), i1 0 b (by decide), i1 1 b (by decide)] at w
        exact w
    · rw [zSt_ni _ _ _ _ e]
      exact i2 i hi
  · rw [if_neg c]
    exact ⟨i1, i2⟩
/-- how many joined h ahead of k -/
def zSlc (τ : zT) (h k : Nat) : Int32 := zIt (zCnS (fun i => decide (i ≠ h ∧ τ 7 i = nI h))) k 0
theorem zSlc_eq {τ τ2 : zT} (h : ∀ i, τ2 7 i = τ 7 i) : zSlc τ2 = zSlc τ := by
  funext a b
  unfold zSlc
  have e : (fun i => decide (i ≠ a ∧ τ2 7 i = nI a)) = fun i => decide (i ≠ a ∧ τ 7 i = nI a) := funext fun i => by rw [h i]
  rw [e]
theorem zGs_all (n h : Nat) (τ0 : zT) : (∀ f i, f ≠ 8 → (zGs n h τ0) f i = τ0 f i) ∧ ∀ i, (zGs n h τ0) 8 i = if i < n ∧ i ≠ h ∧ τ0 7 i = nI h then zSlc τ0 h i else τ0 8 i := by
  have key := zIt_inv2 (f := zGsS h) (n := n) (a := (0, τ0)) (fun k u => (∀ f i, f ≠ 8 → u.2 f i = τ0 f i) ∧ u.1 = zSlc τ0 h k ∧ ∀ i, u.2 8 i = if i < k ∧ i ≠ h ∧ τ0 7 i = nI h then zSlc τ0 h i else τ0 8 i) ⟨fun _ _ _ => rfl, rfl, fun i => (if_neg (fun q => absurd q.1 (by omega))).symm⟩ (fun k u hk hI => ?_) n (Nat.le_refl n)
  · exact ⟨key.1, key.2.2⟩
  · obtain ⟨i1, i2, i3⟩ := hI
    have hs : zSlc τ0 h (k + 1) = zSlc τ0 h k + (if decide (k ≠ h ∧ τ0 7 k = nI h) = true then 1 else 0) := rfl
    have e7 := i1 7 k (by decide)
    unfold zGsS
    rw [e7]
    by_cases c : k ≠ h ∧ τ0 7 k = nI h
    · rw [if_pos c]
      refine ⟨fun f i hf => (zSt_nf _ _ _ _ hf).trans (i1 f i hf), ?_, fun i => ?_⟩
      · rw [hs, if_pos (decide_eq_true c), ← i2]
      · show zSt u.2 8 k u.1 8 i = _
        rw [zSt_ap]
        by_cases e : i = k
        · subst e
          rw [if_pos ⟨rfl, rfl⟩, if_pos ⟨by omega, c⟩, i2]
        · rw [if_neg (fun q => e q.2), i3]
          by_cases w : i < k ∧ i ≠ h ∧ τ0 7 i = nI h
          · rw [if_pos w, if_pos ⟨by omega, w.2⟩]
          · rw [if_neg w, if_neg (fun q => w ⟨by omega, q.2⟩)]
    · rw [if_neg c]
      refine ⟨i1, ?_, fun i => ?_⟩
      · rw [hs, if_neg (fun q => c (of_decide_eq_true q)), i2]
        exact (Int32.add_zero _).symm
      · rw [i3]
        by_cases w : i < k ∧ i ≠ h ∧ τ0 7 i = nI h
        · rw [if_pos w, if_pos ⟨by omega, w.2⟩]
        · rw [if_neg w, if_neg (fun q => ?_)]
          by_cases e : i = k
          · subst e
            exact c q.2
          · exact w ⟨by omega, q.2⟩
theorem zJ2_all {n : Nat} (hn : n ≤ 12) (τ1 : zT) : (∀ f i, f ≠ 8 → (zIt (zJ2S n) n τ1) f i = τ1 f i) ∧ ∀ i, i < n → (∀ h, h < n → τ1 7 h = nI h → i ≠ h → τ1 7 i = nI h → (zIt (zJ2S n) n τ1) 8 i = zSlc τ1 h i) ∧ (τ1 7 i = -9 ∨ τ1 7 i = nI i → (zIt (zJ2S n) n τ1) 8 i = τ1 8 i) := by
  have key := zIt_inv2 (f := zJ2S n) (n := n) (a := τ1) (fun k τ => (∀ f i, f ≠ 8 → τ f i = τ1 f i) ∧ ∀ i, i < n → (∀ h, h < k → τ1 7 h = nI h → i ≠ h → τ1 7 i = nI h → τ 8 i = zSlc τ1 h i) ∧ (τ1 7 i = -9 ∨ τ1 7 i = nI i → τ 8 i = τ1 8 i)) ⟨fun _ _ _ => rfl, fun i hi => ⟨fun h q => absurd q (by omega), fun _ => rfl⟩⟩ (fun k τ hk hI => ?_) n (Nat.le_refl n)
  · exact key
  · obtain ⟨i1, i2⟩ := hI
    unfold zJ2S
    by_cases c : τ 7 k = nI k
    · rw [if_pos c]
      obtain ⟨g1, g2⟩ := zGs_all n k τ
      have es : zSlc τ = zSlc τ1 := zSlc_eq fun i => i1 7 i (by decide)
      refine ⟨fun f i hf => (g1 f i hf).trans (i1 f i hf), fun i hi => ⟨fun h hh a1 a2 a3 => ?_, fun q => ?_⟩⟩
      · rw [g2, i1 7 i (by decide), es]
        by_cases e : h = k
        · subst e
          exact if_pos ⟨hi, a2, a3⟩
        · rw [if_neg (fun z => e ((nI_eq (by omega) (by omega)).mp (a3.symm.trans z.2.2)))]
          exact (i2 i hi).1 h (by omega) a1 a2 a3
      · rw [g2, i1 7 i (by decide), if_neg (fun z => ?_)]
        · exact (i2 i hi).2 q
        · rcases q with q | q
          · exact zM9 (by omega) (q.symm.trans z.2.2)
          · exact z.2.1 ((nI_eq (by omega) (by omega)).mp (q.symm.trans z.2.2))
    · rw [if_neg c]
      refine ⟨i1, fun i hi => ⟨fun h hh a1 a2 a3 => ?_, (i2 i hi).2⟩⟩
      by_cases e : h = k
      · subst e
        exact absurd ((i1 7 h (by decide)).trans a1) c
      · exact (i2 i hi).1 h (by omega) a1 a2 a3
/-- what the law asks of clusters -/
def zCls (n : Nat) (τ : zT) : Prop := ∀ k, k < n → (τ 7 k = -9 ∧ τ 8 k = -9) ∨ (τ 7 k = nI k ∧ τ 8 k = -9) ∨ ∃ h, h < n ∧ h ≠ k ∧ τ 7 k = nI h ∧ τ 7 h = nI h ∧ τ 8 k = zSlc τ h k ∧ zNr n τ k h
theorem zCls_eq {n : Nat} {τ τ2 : zT} (h : zCls n τ) (e : ∀ f i, (f = 0 ∨ f = 1 ∨ f = 7 ∨ f = 8) → τ2 f i = τ f i) : zCls n τ2 := by
  intro k hk
  have es : zSlc τ2 = zSlc τ := zSlc_eq fun i => e 7 i (by omega)
  have er : ∀ a b, zDs τ2 a b = zDs τ a b := fun a b => by
    unfold zDs
    rw [e 0 a (by omega), e 1 a (by omega), e 0 b (by omega), e 1 b (by omega)]
  rw [e 7 k (by omega), e 8 k (by omega)]
  rcases h k hk with q | q | ⟨h, h1, h2, h3, h4, h5, h6⟩
  · exact Or.inl q
  · exact Or.inr (Or.inl q)
  · refine Or.inr (Or.inr ⟨h, h1, h2, h3, (e 7 h (by omega)).trans h4, es ▸ h5, fun j hj a => ?_⟩)
    rw [er, er]
    exact h6 j hj ((e 7 j (by omega)).symm.trans a)
theorem zJo_all {n : Nat} (hn : n ≤ 12) {τa : zT} (hA : ∀ i, i < n → τa 7 i = -9 ∨ (τa 7 i = nI i ∧ τa 3 i = 1)) (h8 : ∀ i, i < n → τa 8 i = -9) : (∀ f i, f ≠ 7 → f ≠ 8 → (zJo n τa) f i = τa f i) ∧ zCls n (zJo n τa) ∧ ∀ i, i < n → ((zJo n τa) 7 i = nI i ↔ τa 7 i = nI i) := by
  obtain ⟨a1, a2⟩ := zJ1_all hn hA
  obtain ⟨b1, b2⟩ := zJ2_all hn (zIt (zJ1S n) n τa)
  have e7 : ∀ i, (zJo n τa) 7 i = (zIt (zJ1S n) n τa) 7 i := fun i => b1 7 i (by decide)
  have hd : ∀ i, i < n → ((zJo n τa) 7 i = nI i ↔ τa 7 i = nI i) := fun i hi => by
    rw [e7]
    refine ⟨fun q => ?_, (a2 i hi).1⟩
    rcases hA i hi with w | w
    · rcases (a2 i hi).2 w with z | ⟨h, h1, h2, -, h4, -⟩
      · exact absurd (z.symm.trans q) (zM9 (by omega))
      · exact absurd ((nI_eq (by omega) (by omega)).mp (h4.symm.trans q)) h2
    · exact w.1
  refine ⟨fun f i h7 h8 => (b1 f i h8).trans (a1 f i h7), fun k hk => ?_, hd⟩
  have e8 : (zIt (zJ1S n) n τa) 8 k = -9 := (a1 8 k (by decide)).trans (h8 k hk)
  rcases hA k hk with w | w
  · rcases (a2 k hk).2 w with z | ⟨h, h1, h2, h3, h4, h5⟩
    · exact Or.inl ⟨(e7 k).trans z, ((b2 k hk).2 (Or.inl z)).trans e8⟩
    · have h3' := (a2 h h1).1 h3
      refine Or.inr (Or.inr ⟨h, h1, h2, (e7 k).trans h4, (e7 h).trans h3', ?_, fun j hj a => ?_⟩)
      · rw [zSlc_eq e7]
        exact (b2 k hk).1 h h1 h3' (Ne.symm h2) h4
      · have er : ∀ a b, zDs (zJo n τa) a b = zDs τa a b := fun a b => by
          unfold zDs
          have q0 : ∀ i, (zJo n τa) 0 i = τa 0 i := fun i => (b1 0 i (by decide)).trans (a1 0 i (by decide))
          have q1 : ∀ i, (zJo n τa) 1 i = τa 1 i := fun i => (b1 1 i (by decide)).trans (a1 1 i (by decide))
          rw [q0, q0, q1, q1]
        rw [er, er]
        exact h5 j hj ((hd j hj).mp a)
  · have z := (a2 k hk).1 w.1
    exact Or.inr (Or.inl ⟨(e7 k).trans z, ((b2 k hk).2 (Or.inr z)).trans e8⟩)
