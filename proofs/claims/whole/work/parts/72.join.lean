/-! ===== announce: what holds behind it ===== -/
def zAI (n k : Nat) (u : zT) : Prop := (∀ i, i < n → u 8 i = -9 ∧ (u 7 i = -9 ∨ (i < k ∧ u 7 i = nI i ∧ u 3 i = 1))) ∧ (∀ i, k ≤ i → i < n → u 10 i = 1 → u 3 i = 1) ∧ ∃ m, m ≤ k ∧ u 11 11 = nI m ∧ (m = 0 → ∀ i, i < n → u 7 i = -9) ∧ (m ≠ 0 → ∃ h, h < n ∧ u 7 h = nI h)
theorem zN9i {i : Nat} (h : i < 12) : ¬ (-9 : Int32) = nI i := fun q => zOi_lt h q.symm
theorem zAI.step {n k : Nat} {g : Nat → Int32} {u : zT} (hn : n ≤ 12) (hk : k < n) (h : zAI n k u) : zAI n (k + 1) (zAnS g k u) := by
  obtain ⟨h1, h2, m, m1, m2, m3, m4⟩ := h
  have keep : zAI n (k + 1) u := ⟨fun i hi => ⟨(h1 i hi).1, (h1 i hi).2.imp id (fun q => ⟨by omega, q.2⟩)⟩, fun i a b => h2 i (by omega) b, m, by omega, m2, m3, m4⟩
  unfold zAnS
  split
  · rename_i c10
    have a3 := h2 k (Nat.le_refl k) hk c10
    split
    · have r7 : ∀ i, (zDie u k) 7 i = u 7 i := fun i => by
        unfold zDie
        rw [zSt_nf _ _ _ _ (by decide), zSt_nf _ _ _ _ (by decide)]
      have r8 : ∀ i, (zDie u k) 8 i = u 8 i := fun i => by
        unfold zDie
        rw [zSt_nf _ _ _ _ (by decide), zSt_nf _ _ _ _ (by decide)]
      have r10 : ∀ i, (zDie u k) 10 i = u 10 i := fun i => by
        unfold zDie
        rw [zSt_nf _ _ _ _ (by decide), zSt_nf _ _ _ _ (by decide)]
      have r11 : (zDie u k) 11 11 = u 11 11 := by
        unfold zDie
        rw [zSt_nf _ _ _ _ (by decide), zSt_nf _ _ _ _ (by decide)]
      have r3 : ∀ i, i ≠ k → (zDie u k) 3 i = u 3 i := fun i hi => by
        unfold zDie
        rw [zSt_nf _ _ _ _ (by decide), zSt_ni _ _ _ _ hi]
      refine ⟨fun i hi => ?_, fun i a b c => ?_, m, by omega, r11.trans m2, fun q i hi => (r7 i).trans (m3 q i hi), fun q => ?_⟩
      · rw [r8, r7]
        refine ⟨(h1 i hi).1, (h1 i hi).2.imp id (fun q => ⟨by omega, q.2.1, ?_⟩)⟩
        rw [r3 i (by omega)]
        exact q.2.2
      · rw [r10] at c
        rw [r3 i (by omega)]
        exact h2 i (by omega) b c
      · obtain ⟨x, x1, x2⟩ := m4 q
        exact ⟨x, x1, (r7 x).trans x2⟩
    · have r7 : ∀ i, (zAnY g k u) 7 i = if i = k then nI k else u 7 i := fun i => by
        unfold zAnY zPd
        rw [zSt_nf _ _ _ _ (by decide), zSt_nf _ _ _ _ (by decide), zSt_nf _ _ _ _ (by decide), zSt_ap, zSt_nf _ _ _ _ (by decide), zSt_nf _ _ _ _ (by decide)]
        by_cases e : i = k
        · rw [if_pos ⟨rfl, e⟩, if_pos e]
        · rw [if_neg (fun q => e q.2), if_neg e]
      have r8 : ∀ i, (zAnY g k u) 8 i = u 8 i := fun i => by
        unfold zAnY zPd
        rw [zSt_nf _ _ _ _ (by decide), zSt_nf _ _ _ _ (by decide), zSt_nf _ _ _ _ (by decide), zSt_nf _ _ _ _ (by decide), zSt_nf _ _ _ _ (by decide), zSt_nf _ _ _ _ (by decide)]
      have r3 : ∀ i, (zAnY g k u) 3 i = u 3 i := fun i => by
        unfold zAnY zPd
        rw [zSt_nf _ _ _ _ (by decide), zSt_nf _ _ _ _ (by decide), zSt_nf _ _ _ _ (by decide), zSt_nf _ _ _ _ (by decide), zSt_nf _ _ _ _ (by decide), zSt_nf _ _ _ _ (by decide)]
      have r10 : ∀ i, (zAnY g k u) 10 i = u 10 i := fun i => by
        unfold zAnY zPd
        rw [zSt_nf _ _ _ _ (by decide), zSt_nf _ _ _ _ (by decide), zSt_nf _ _ _ _ (by decide), zSt_nf _ _ _ _ (by decide), zSt_nf _ _ _ _ (by decide), zSt_nf _ _ _ _ (by decide)]
      have r11 : (zAnY g k u) 11 11 = nI (m + 1) := by
        unfold zAnY
        rw [zSt_self, m2, nI_1]
      refine ⟨fun i hi => ?_, fun i a b c => ?_, m + 1, by omega, r11, fun q => absurd q (by omega), fun _ => ⟨k, hk, ?_⟩⟩
      · rw [r8, r7, r3]
        refine ⟨(h1 i hi).1, ?_⟩
        by_cases e : i = k
        · subst e
          rw [if_pos rfl]
          exact Or.inr ⟨Nat.lt_succ_self i, rfl, a3⟩
        · rw [if_neg e]
          exact (h1 i hi).2.imp id (fun q => ⟨by omega, q.2⟩)
      · rw [r10] at c
        rw [r3]
        exact h2 i (by omega) b c
      · rw [r7, if_pos rfl]
  · exact keep
theorem zAI.all {n : Nat} {g : Nat → Int32} {u : zT} (hn : n ≤ 12) (h : zAI n 0 u) : ∀ k, k ≤ n → zAI n k (zIt (zAnS g) k u) := by
  intro k
  induction k with
  | zero => exact fun _ => h
  | succ k ih => exact fun hk => (ih (by omega)).step hn (by omega)
/-! ===== join ===== -/
theorem zDi_sym (x y u v : Int32) : zDi x y u v = zDi u v x y := by
  unfold zDi
  grind
theorem zIt_cong {α : Type} {F K : Nat → α → α} {a : α} {n : Nat} (h : ∀ k b, k < n → F k b = K k b) : ∀ k, k ≤ n → zIt F k a = zIt K k a := by
  intro k
  induction k with
  | zero => exact fun _ => rfl
  | succ k ih =>
    intro hk
    rw [zIt_s, zIt_s, ih (by omega)]
    exact h k _ (by omega)
/-- the nearest head is a head -/
theorem zNe_head (n : Nat) (A : zT) (x y : Int32) : ∀ k, k ≤ n → ∀ b, zIt (zNeS A x y) k none = some b → b < k ∧ A 3 b = 1 ∧ A 7 b = nI b := by
  intro k
  induction k with
  | zero => intro _ b h; cases h
  | succ k ih =>
    intro hk b h
    rw [zIt_s] at h
    unfold zNeS at h
    split at h
    · rename_i c
      cases h
      exact ⟨Nat.lt_succ_self _, c.1⟩
    · obtain ⟨q1, q2⟩ := ih (by omega) b h
      exact ⟨by omega, q2⟩
def zNh (n : Nat) (A : zT) (k : Nat) : Option Nat := zNe n A (A 0 k) (A 1 k)
/-- row 7 in the end -/
def zF7 (n : Nat) (A : zT) (i : Nat) : Int32 := if A 3 i = 1 ∧ ¬ A 7 i = nI i then zOi (zNh n A i) else A 7 i
theorem zF7_head {n : Nat} {A : zT} (hn : n ≤ 12) {i : Nat} (hi : i < n) : zF7 n A i = nI i ↔ A 7 i = nI i := by
  unfold zF7
  split
  · rename_i c
    refine iff_of_false (fun q => ?_) c.2
    cases h : zNh n A i with
    | none =>
      rw [h] at q
      exact zN9i (by omega) q
    | some b =>
      rw [h] at q
      obtain ⟨b1, b2, b3⟩ := zNe_head n A _ _ n (Nat.le_refl n) b h
      have : b = i := (nI_eq (by omega) (by omega)).mp q
      exact c.2 (this ▸ b3)
  · exact Iff.rfl
/-- a state in which the first k have joined -/
def zJk (n k : Nat) (A u : zT) : Prop := ∀ f i, u f i = if f = 7 ∧ i < k then zF7 n A i else A f i
theorem zJk.head {n k : Nat} {A u : zT} (hn : n ≤ 12) (h : ∀ f i, f ≠ 8 → u f i = if f = 7 ∧ i < k then zF7 n A i else A f i) {i : Nat} (hi : i < n) : u 7 i = nI i ↔ A 7 i = nI i := by
  rw [h 7 i (by decide)]
  by_cases q : i < k
  · rw [if_pos ⟨rfl, q⟩]
    exact zF7_head hn hi
  · rw [if_neg (fun z => q z.2)]
theorem zJk.ne {n k : Nat} {A u : zT} (hn : n ≤ 12) (h : ∀ f i, f ≠ 8 → u f i = if f = 7 ∧ i < k then zF7 n A i else A f i) (x y : Int32) : zNe n u x y = zNe n A x y := by
  unfold zNe
  refine zIt_cong (fun j o hj => ?_) n (Nat.le_refl n)
  have e0 : ∀ i, u 0 i = A 0 i := fun i => by rw [h 0 i (by decide), if_neg (by omega)]
  have e1 : ∀ i, u 1 i = A 1 i := fun i => by rw [h 1 i (by decide), if_neg (by omega)]
  have e3 : u 3 j = A 3 j := by rw [h 3 j (by decide), if_neg (by omega)]
  have eo : zOd u x y o = zOd A x y o := by
    cases o with
    | none => rfl
    | some b =>
      show zDi _ _ x y = zDi _ _ x y
      rw [e0, e1]
  unfold zNeS
  rw [e0, e1, e3, eo]
  simp only [zJk.head hn h hj]
theorem zJ1_at {n : Nat} {A : zT} (hn : n ≤ 12) : ∀ k, k ≤ n → zJk n k A (zIt (zJ1S n) k A) := by
  intro k
  induction k with
  | zero =>
    intro _ f i
    rw [if_neg (by omega)]
    rfl
  | succ k ih =>
    intro hk
    have hI := ih (by omega)
    rw [zIt_s]
    generalize zIt (zJ1S n) k A = u at hI
    have hI8 : ∀ f i, f ≠ 8 → u f i = if f = 7 ∧ i < k then zF7 n A i else A f i := fun f i _ => hI f i
    have e3 : u 3 k = A 3 k := by rw [hI 3 k, if_neg (by omega)]
    have e7 : u 7 k = A 7 k := by rw [hI 7 k, if_neg (by omega)]
    have e0 : u 0 k = A 0 k := by rw [hI 0 k, if_neg (by omega)]
    have e1 : u 1 k = A 1 k := by rw [hI 1 k, if_neg (by omega)]
    unfold zJ1S
    rw [e3, e7, e0, e1, zJk.ne hn hI8]
    intro f i
    by_cases c : A 3 k = 1 ∧ ¬ A 7 k = nI k
    · rw [if_pos c, zSt_ap]
      by_cases e : f = 7 ∧ i = k
      · rw [if_pos e, if_pos ⟨e.1, by omega⟩, e.2]
        unfold zF7
        rw [if_pos c]
        rfl
      · rw [if_neg e, hI f i]
        by_cases q : f = 7 ∧ i < k
        · rw [if_pos q, if_pos ⟨q.1, by omega⟩]
        · rw [if_neg q, if_neg (by omega)]
    · rw [if_neg c, hI f i]
      by_cases q : f = 7 ∧ i < k
      · rw [if_pos q, if_pos ⟨q.1, by omega⟩]
      · rw [if_neg q]
        by_cases q2 : f = 7 ∧ i < k + 1
        · rw [if_pos q2, q2.1, show i = k by omega]
          unfold zF7
          rw [if_neg c]
        · rw [if_neg q2]
/-- how many before i have joined b -/
def zCnS (n : Nat) (A : zT) (b : Nat) (j : Nat) (v : Int32) : Int32 := if j ≠ b ∧ zF7 n A j = nI b then v + 1 else v
def zCn (n : Nat) (A : zT) (b i : Nat) : Int32 := zIt (zCnS n A b) i 0
/-- row 8 in the end, as the reference lays it -/
def zS8 (n : Nat) (A : zT) (i : Nat) : Int32 := if A 3 i = 1 ∧ ¬ A 7 i = nI i then (match zNh n A i with
  | none => -9
  | some b => zCn n A b i) else A 8 i
def zJr (n k : Nat) (A u : zT) : Prop := ∀ f i, u f i = if f = 7 ∧ i < k then zF7 n A i else if f = 8 ∧ i < k then zS8 n A i else A f i
theorem zNm_eq {n k j : Nat} {A u : zT} (hn : n ≤ 12) (hal : ∀ i, i < n → A 7 i = nI i → A 3 i = 1) (h : ∀ f i, f ≠ 8 → u f i = if f = 7 ∧ i < k then zF7 n A i else A f i) : zNm n u j = zNh n A j := by
  unfold zNm zNh zNe
  refine zIt_cong (fun x o hx => ?_) n (Nat.le_refl n)
  have e0 : ∀ i, u 0 i = A 0 i := fun i => by rw [h 0 i (by decide), if_neg (by omega)]
  have e1 : ∀ i, u 1 i = A 1 i := fun i => by rw [h 1 i (by decide), if_neg (by omega)]
  have eo : zDsO u j o = zOd A (A 0 j) (A 1 j) o := by
    cases o with
    | none => rfl
    | some b =>
      show zDi _ _ _ _ = zDi _ _ _ _
      rw [e0, e1, e0, e1, zDi_sym]
  unfold zNmS zNeS zDs
  rw [e0, e1, e0, e1, eo, zDi_sym (A 0 j) (A 1 j)]
  have hh := zJk.head hn h hx
  by_cases q : A 7 x = nI x
  · have a := hal x hx q
    simp only [hh, q, a, true_and, and_self]
  · have q2 : ¬ u 7 x = nI x := fun z => q (hh.mp z)
    rw [if_neg (fun z => q2 z.1), if_neg (fun z => q z.1.2)]
theorem zSl_eq {n k b : Nat} {A u : zT} (hn : n ≤ 12) (hb : b < n) (hk : k ≤ n) (h : ∀ f i, f ≠ 8 → u f i = if f = 7 ∧ i < k then zF7 n A i else A f i) : zSl u (nI b) k = zCn n A b k := by
  unfold zSl zCn
  refine zIt_cong (fun j v hj => ?_) k (Nat.le_refl k)
  unfold zSlS zCnS
  have e : u 7 j = zF7 n A j := by rw [h 7 j (by decide), if_pos ⟨rfl, hj⟩]
  rw [e]
  by_cases q : zF7 n A j = nI b
  · have : (¬ zF7 n A j = nI j) ↔ j ≠ b := by
      rw [q, nI_eq (by omega) (by omega)]
      exact not_congr eq_comm
    by_cases hjb : j = b
    · rw [if_neg (fun z => (this.mp z.1) hjb), if_neg (fun z => z.1 hjb)]
    · rw [if_pos ⟨this.mpr hjb, q⟩, if_pos ⟨hjb, q⟩]
  · rw [if_neg (fun z => q z.2), if_neg (fun z => q z.2)]
theorem zJm_at {n : Nat} {A : zT} (hn : n ≤ 12) (hal : ∀ i, i < n → A 7 i = nI i → A 3 i = 1) : ∀ k, k ≤ n → zJr n k A (zIt (zJmS n) k A) := by
  intro k
  induction k with
  | zero =>
    intro _ f i
    rw [if_neg (by omega), if_neg (by omega)]
    rfl
  | succ k ih =>
    intro hk
    have hI := ih (by omega)
    rw [zIt_s]
    generalize zIt (zJmS n) k A = u at hI
    have hI8 : ∀ f i, f ≠ 8 → u f i = if f = 7 ∧ i < k then zF7 n A i else A f i := fun f i q => by rw [hI f i, if_neg (show ¬ (f = 8 ∧ i < k) from fun z => q z.1)]
    have e3 : u 3 k = A 3 k := by rw [hI8 3 k (by decide), if_neg (by omega)]
    have e7 : u 7 k = A 7 k := by rw [hI8 7 k (by decide), if_neg (by omega)]
    have up : ∀ f i, ¬ i = k → (if f = 7 ∧ i < k then zF7 n A i else if f = 8 ∧ i < k then zS8 n A i else A f i) = if f = 7 ∧ i < k + 1 then zF7 n A i else if f = 8 ∧ i < k + 1 then zS8 n A i else A f i := fun f i q => by
      by_cases z : i < k
      · have z2 : i < k + 1 := by omega
        simp only [z, z2]
      · have z2 : ¬ i < k + 1 := by omega
        simp only [z, z2]
    unfold zJmS
    rw [e3, e7, zNm_eq hn hal hI8]
    intro f i
    by_cases c : A 3 k = 1 ∧ ¬ A 7 k = nI k
    · rw [if_pos c]
      have f7 : zF7 n A k = zOi (zNh n A k) := if_pos c
      have s8 : zS8 n A k = (match zNh n A k with
        | none => -9
        | some b => zCn n A b k) := if_pos c
      have both : zJmO u k (zNh n A k) = zSt (zSt u 7 k (zF7 n A k)) 8 k (zS8 n A k) := by
        rw [f7, s8]
        cases hb : zNh n A k with
        | none => rfl
        | some b =>
          obtain ⟨b1, -, -⟩ := zNe_head n A _ _ n (Nat.le_refl n) b hb
          show zSt (zSt u 7 k (nI b)) 8 k (zSl u (nI b) k) = zSt (zSt u 7 k (nI b)) 8 k (zCn n A b k)
          rw [zSl_eq hn b1 (by omega) hI8]
      rw [both, zSt_ap, zSt_ap]
      by_cases e : i = k
      · subst e
        by_cases h8 : f = 8
        · subst h8
          rw [if_pos ⟨rfl, rfl⟩, if_neg (by omega), if_pos ⟨rfl, by omega⟩]
        · rw [if_neg (fun q => h8 q.1)]
          by_cases h7 : f = 7
          · subst h7
            rw [if_pos ⟨rfl, rfl⟩, if_pos ⟨rfl, by omega⟩]
          · rw [if_neg (fun q => h7 q.1), if_neg (fun q => h7 q.1), if_neg (fun q => h8 q.1), hI f i, if_neg (fun q => h7 q.1), if_neg (fun q => h8 q.1)]
      · rw [if_neg (fun q => e q.2), if_neg (fun q => e q.2), hI f i]
        exact up f i e
    · rw [if_neg c]
      by_cases e : i = k
      · subst e
        have f7 : zF7 n A i = A 7 i := if_neg c
        have s8 : zS8 n A i = A 8 i := if_neg c
        rw [hI f i, if_neg (by omega), if_neg (by omega), f7, s8]
        by_cases h7 : f = 7
        · subst h7
          rw [if_pos ⟨rfl, by omega⟩]
        · rw [if_neg (fun q => h7 q.1)]
          by_cases h8 : f = 8
          · subst h8
            rw [if_pos ⟨rfl, by omega⟩]
          · rw [if_neg (fun q => h8 q.1)]
      · rw [hI f i]
        exact up f i e
