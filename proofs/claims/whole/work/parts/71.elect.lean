/-! ===== begin and elect ===== -/
def zBgQ (ph : Int32) (τ : zT) (f i : Nat) : Int32 := if f = 7 ∨ f = 8 then -9 else if f = 9 then 0 else if f = 4 ∧ ph = 0 then 1 else τ f i
theorem zBgM_s (ph : Int32) (k : Nat) (u : zT) : zBgM ph k u = zSt (zSt (zSt (zSt u 4 k (if ph = 0 then 1 else u 4 k)) 7 k (-9)) 8 k (-9)) 9 k 0 := rfl
theorem zBgM_at (ph : Int32) (τ : zT) (f i : Nat) : ∀ k, (zIt (zBgM ph) k τ) f i = if i < k then zBgQ ph τ f i else τ f i := by
  intro k
  induction k with
  | zero => rw [if_neg (by omega)]; rfl
  | succ k ih =>
    rw [zIt_s, zBgM_s, zSt_ap, zSt_ap, zSt_ap, zSt_ap, ih]
    by_cases hi : i = k
    · subst hi
      rw [if_neg (Nat.lt_irrefl i), if_pos (Nat.lt_succ_self i)]
      unfold zBgQ
      by_cases h9 : f = 9
      · subst h9
        simp
      · rw [if_neg (fun q => h9 q.1)]
        by_cases h8 : f = 8
        · subst h8
          simp
        · rw [if_neg (fun q => h8 q.1)]
          by_cases h7 : f = 7
          · subst h7
            simp
          · rw [if_neg (fun q => h7 q.1), if_neg (show ¬ (f = 7 ∨ f = 8) from fun q => q.elim h7 h8), if_neg h9]
            by_cases h4 : f = 4
            · subst h4
              have : (zIt (zBgM ph) i τ) 4 i = τ 4 i := by
                have key : ∀ j, j ≤ i → (zIt (zBgM ph) j τ) 4 i = τ 4 i := by
                  intro j
                  induction j with
                  | zero => exact fun _ => rfl
                  | succ j ihj =>
                    intro hj
                    rw [zIt_s, zBgM_s, zSt_ap, zSt_ap, zSt_ap, zSt_ap, if_neg (by omega), if_neg (by omega), if_neg (by omega), if_neg (by omega)]
                    exact ihj (by omega)
                exact key i (Nat.le_refl i)
              rw [this]
              simp
            · rw [if_neg (fun q => h4 q.1), if_neg (fun q => h4 q.1)]
    · rw [if_neg (fun q => hi q.2), if_neg (fun q => hi q.2), if_neg (fun q => hi q.2), if_neg (fun q => hi q.2)]
      by_cases h : i < k
      · rw [if_pos h, if_pos (by omega)]
      · rw [if_neg h, if_neg (by omega)]
def zElR (n k : Nat) (c m : zT) : Prop := ∀ f i, ((f = 9 ∨ f = 10) → i < n) → c f i = if f = 11 ∧ (i = 11 ∨ i = 12) then 0 else if f = 10 ∧ k ≤ i then 0 else m f i
theorem zElR.at {n k : Nat} {c m : zT} (h : zElR n k c m) (f i : Nat) (h1 : f ≠ 9) (h2 : f ≠ 10) (h3 : ¬ (f = 11 ∧ (i = 11 ∨ i = 12))) : c f i = m f i := by
  rw [h f i (fun q => q.elim (fun e => absurd e h1) (fun e => absurd e h2)), if_neg h3, if_neg (fun q => h2 q.1)]
theorem zElR.step {n k : Nat} {c m : zT} (h : zElR n k c m) (hk : k < n) (L : Int32) : zElR n (k + 1) (zElS L k c) (zElM L k m) := by
  have e3 := h.at 3 k (by decide) (by decide) (by omega)
  have e4 := h.at 4 k (by decide) (by decide) (by omega)
  have e9 := h.at 11 9 (by decide) (by decide) (by omega)
  unfold zElS zElM
  rw [e3, e4, e9]
  split
  · intro f i q
    unfold zDw
    rw [e9, zSt_ap, zSt_ap, zSt_ap, zSt_ap]
    by_cases h1 : f = 10 ∧ i = k
    · rw [if_pos h1, if_pos h1, if_neg (by omega), if_neg (by omega)]
    · rw [if_neg h1, if_neg h1]
      by_cases h2 : f = 11 ∧ i = 9
      · rw [if_pos h2, if_pos h2, if_neg (by omega), if_neg (by omega)]
      · rw [if_neg h2, if_neg h2, h f i q]
        by_cases h3 : f = 11 ∧ (i = 11 ∨ i = 12)
        · rw [if_pos h3, if_pos h3]
        · rw [if_neg h3, if_neg h3]
          by_cases h4 : f = 10 ∧ k ≤ i
          · rw [if_pos h4, if_pos (by omega)]
          · rw [if_neg h4, if_neg (by omega)]
  · intro f i q
    rw [zSt_ap, h f i q]
    by_cases h3 : f = 11 ∧ (i = 11 ∨ i = 12)
    · rw [if_pos h3, if_pos h3]
    · rw [if_neg h3, if_neg h3]
      by_cases h1 : f = 10 ∧ i = k
      · rw [if_pos (by omega), if_neg (by omega), if_pos h1]
      · rw [if_neg h1]
        by_cases h4 : f = 10 ∧ k ≤ i
        · rw [if_pos h4, if_pos (by omega)]
        · rw [if_neg h4, if_neg (by omega)]
theorem zElR.start {n : Nat} {g : Nat → Int32} {a b : zT} (h : zE9 a b) : zElR n 0 (zBg n g a) (zIt (zBgM (zPh g b)) n b) := by
  intro f i q
  rw [zBgM_at]
  by_cases h11 : f = 11
  · subst h11
    rw [zBg_11]
    have e : (if i < n then zBgQ (zPh g b) b 11 i else b 11 i) = a 11 i := by
      have : zBgQ (zPh g b) b 11 i = b 11 i := rfl
      rw [this, h 11 i (by decide) (by decide)]
      split <;> rfl
    rw [e]
    by_cases h1 : i = 12
    · rw [if_pos h1, if_pos ⟨rfl, Or.inr h1⟩]
    · by_cases h2 : i = 11
      · rw [if_neg h1, if_pos h2, if_pos ⟨rfl, Or.inl h2⟩]
      · rw [if_neg h1, if_neg h2, if_neg (by omega), if_neg (by omega)]
  · rw [zBg_f n g a h11, if_neg (show ¬ (f = 11 ∧ (i = 11 ∨ i = 12)) from fun q => h11 q.1), h.ph g]
    by_cases h10 : f = 10
    · subst h10
      rw [if_pos (q (Or.inr rfl)), if_pos ⟨rfl, Nat.zero_le _⟩]
      rfl
    · rw [if_neg (show ¬ (f = 10 ∧ 0 ≤ i) from fun q => h10 q.1)]
      by_cases h9 : f = 9
      · subst h9
        have hi := q (Or.inl rfl)
        rw [if_pos hi, if_pos hi]
        rfl
      · have e := h f i h9 h10
        by_cases hi : i < n
        · rw [if_pos hi, if_pos hi]
          unfold zBgP zBgQ
          rw [if_neg (show ¬ (f = 9 ∨ f = 10) by omega), if_neg h9, e]
        · rw [if_neg hi, if_neg hi]
          exact e
theorem zEm_eq {n : Nat} {g : Nat → Int32} {a b : zT} (h : zE9 a b) : zEq n (zEl n g (zBg n g a)) (zSt (zSt (zEm n g b) 11 11 0) 11 12 0) := by
  have key : ∀ L k, k ≤ n → zElR n k (zIt (zElS L) k (zBg n g a)) (zIt (zElM L) k (zIt (zBgM (zPh g b)) n b)) := by
    intro L k
    induction k with
    | zero => exact fun _ => zElR.start h
    | succ k ih => exact fun hk => (ih (by omega)).step (by omega) L
  have e : zPh g (zBg n g a) = zPh g b := by
    unfold zPh
    rw [zBg_11, if_neg (by decide), if_neg (by decide), h 11 10 (by decide) (by decide)]
  have hn := key (g 3 - zPh g b) n (Nat.le_refl n)
  intro f i q
  unfold zEl zEm
  rw [e, hn f i q, zSt_ap, zSt_ap]
  by_cases h1 : f = 11 ∧ i = 12
  · rw [if_pos h1, if_pos ⟨h1.1, Or.inr h1.2⟩]
  · by_cases h2 : f = 11 ∧ i = 11
    · rw [if_neg h1, if_pos h2, if_pos ⟨h2.1, Or.inl h2.2⟩]
    · rw [if_neg h1, if_neg h2, if_neg (by omega)]
      by_cases h3 : f = 10 ∧ n ≤ i
      · exact absurd (q (Or.inr h3.1)) (by omega)
      · rw [if_neg h3]
/-! ===== a state with another 11, 12 ===== -/
theorem z12_st (τ : zT) (v : Int32) (f i : Nat) (w : Int32) (h : ¬ (f = 11 ∧ i = 12)) : zSt (zSt τ 11 12 v) f i w = zSt (zSt τ f i w) 11 12 v := zSt_comm _ _ _ (fun q => h ⟨q.1.symm, q.2.symm⟩)
theorem z12_die (τ : zT) (v : Int32) (i : Nat) : zDie (zSt τ 11 12 v) i = zSt (zDie τ i) 11 12 v := by
  unfold zDie
  rw [zSt_ni τ 11 11 (i := 12) (i2 := 10) v (by decide), z12_st τ v 3 i _ (by omega), z12_st _ v 6 i _ (by omega)]
theorem z12_pd (τ : zT) (v : Int32) (i : Nat) (c : Int32) : zPd (zSt τ 11 12 v) i c = zSt (zPd τ i c) 11 12 v := by
  unfold zPd
  rw [zSt_ni τ 11 11 (i := 12) (i2 := 14) v (by decide), zSt_nf τ (f := 11) (f2 := 2) 12 i v (by decide), z12_st τ v 2 i _ (by omega), z12_st _ v 11 14 _ (by omega)]
theorem z12_anS (τ : zT) (v : Int32) (g : Nat → Int32) (k : Nat) : zAnS g k (zSt τ 11 12 v) = zSt (zAnS g k τ) 11 12 v := by
  unfold zAnS
  rw [zSt_nf τ (f := 11) (f2 := 10) 12 k v (by decide), zSt_nf τ (f := 11) (f2 := 2) 12 k v (by decide)]
  split
  · split
    · exact z12_die τ v k
    · unfold zAnY
      rw [z12_pd, zSt_ni τ 11 11 (i := 12) (i2 := 11) v (by decide), zSt_nf τ (f := 11) (f2 := 5) 12 k v (by decide), z12_st _ v 7 k _ (by omega), z12_st _ v 4 k _ (by omega), z12_st _ v 5 k _ (by omega), z12_st _ v 11 11 _ (by omega)]
  · rfl
theorem z12_an (τ : zT) (v : Int32) (g : Nat → Int32) : ∀ k, zIt (zAnS g) k (zSt τ 11 12 v) = zSt (zIt (zAnS g) k τ) 11 12 v := by
  intro k
  induction k with
  | zero => rfl
  | succ k ih => rw [zIt_s, ih, z12_anS, zIt_s]
theorem z12_nm (τ : zT) (v : Int32) (n k : Nat) : zNm n (zSt τ 11 12 v) k = zNm n τ k := by
  have e : zNmS (zSt τ 11 12 v) k = zNmS τ k := by
    funext h o
    cases o <;> rfl
  unfold zNm
  rw [e]
theorem z12_sl (τ : zT) (v : Int32) (r : Int32) (k : Nat) : zSl (zSt τ 11 12 v) r k = zSl τ r k := by
  have e : zSlS (zSt τ 11 12 v) r = zSlS τ r := rfl
  unfold zSl
  rw [e]
theorem z12_jmS (τ : zT) (v : Int32) (n k : Nat) : zJmS n k (zSt τ 11 12 v) = zSt (zJmS n k τ) 11 12 v := by
  unfold zJmS
  rw [zSt_nf τ (f := 11) (f2 := 3) 12 k v (by decide), zSt_nf τ (f := 11) (f2 := 7) 12 k v (by decide), z12_nm]
  split
  · cases zNm n τ k with
    | none =>
      show zSt (zSt (zSt τ 11 12 v) 7 k (-9)) 8 k (-9) = zSt (zSt (zSt τ 7 k (-9)) 8 k (-9)) 11 12 v
      rw [z12_st τ v 7 k _ (by omega), z12_st _ v 8 k _ (by omega)]
    | some b =>
      show zSt (zSt (zSt τ 11 12 v) 7 k (nI b)) 8 k (zSl (zSt τ 11 12 v) (nI b) k) = zSt (zSt (zSt τ 7 k (nI b)) 8 k (zSl τ (nI b) k)) 11 12 v
      rw [z12_sl, z12_st τ v 7 k _ (by omega), z12_st _ v 8 k _ (by omega)]
  · rfl
theorem z12_jm (τ : zT) (v : Int32) (n : Nat) : ∀ k, zIt (zJmS n) k (zSt τ 11 12 v) = zSt (zIt (zJmS n) k τ) 11 12 v := by
  intro k
  induction k with
  | zero => rfl
  | succ k ih => rw [zIt_s, ih, z12_jmS, zIt_s]
