/-! ===== the whole class: its object, two players, the history, the snapshots; nine networks beside the live one ===== -/
/-- a network: how many sensors, the fixed numbers, the state -/
abbrev zS3 : Type := Nat × (Nat → Int32) × zT
/-- cell c of a network -/
def zNc (G : zG) (ad : Nat → Nat) (t : zS3) (c : Nat) : Nat × va_E := if c = 0 then (ad 0, .inr (1, zObj ad t.1 t.2.1 t.2.2)) else if c = 1 then (ad 1, .inl (G.2.1, 12, .inr (.inr (.inr (.inr (fun i => some (ad (3 + i)))))))) else if c = 2 then (ad 2, .inl (G.2.2.1, 6, .inl (fun j => t.2.1 (3 + j)))) else zSenC ad t.2.2 (c - 3)
theorem zNc_at (G : zG) (ad : Nat → Nat) (t : zS3) {c : Nat} (hc : c < 15) : (zNet G ad t.1 t.2.1 t.2.2)[c]? = some (zNc G ad t c) := by
  have h := zNet_cases (G := G) (ad := ad) (n := t.1) (g := t.2.1) (τ := t.2.2) (X := []) (j := c)
  rcases h with rfl | rfl | rfl | ⟨i, hi, rfl⟩ | ⟨i, rfl⟩
  · rfl
  · rfl
  · rfl
  · have := zNet_s (G := G) (ad := ad) (n := t.1) (g := t.2.1) (τ := t.2.2) [] hi
    rw [List.append_nil] at this
    rw [this]
    unfold zNc
    rw [if_neg (by omega), if_neg (by omega), if_neg (by omega), show 3 + i - 3 = i by omega]
  · omega
theorem zNc_ad (G : zG) (ad : Nat → Nat) (t : zS3) {c : Nat} (hc : c < 15) : (zNc G ad t c).1 = ad c := by
  unfold zNc
  by_cases h0 : c = 0
  · rw [if_pos h0, h0]
  · by_cases h1 : c = 1
    · rw [if_neg h0, if_pos h1, h1]
    · by_cases h2 : c = 2
      · rw [if_neg h0, if_neg h1, if_pos h2, h2]
      · rw [if_neg h0, if_neg h1, if_neg h2]
        unfold zSenC
        show ad (3 + (c - 3)) = ad c
        rw [show 3 + (c - 3) = c by omega]
def zMis (G : zG) (ad : Nat → Nat) (na : Nat → Nat → Nat) (ma π : Nat → Nat) (dep : Nat) (fl : Nat → Int32) : va_W :=
  [(ma 0, .inr (4, [.ref (ad 0), .ref (ma 1), .ref (na 1 0), .ref (ma 2), .ref (ma 3), .ref (ma 5), .ref (ma 6)])), (ma 1, .inr (2, [.ref (ad 0)])), (ma 2, .inr (2, [.ref (na 1 0)])), (ma 3, .inr (0, [.ref (ma 4), .int (nI dep)])), (ma 4, .inl (G.2.2.2.1, 6, .inr (.inr (.inr (.inr (fun i => some (na (π i) 0))))))), (ma 5, .inl (G.2.2.2.1, 2, .inr (.inr (.inr (.inr (fun i => some (na (8 + i) 0))))))), (ma 6, .inl (G.2.2.2.2, 2, .inl fl))]
def zOth (G : zG) (na : Nat → Nat → Nat) (T : Nat → zS3) : va_W := (List.range 135).map (fun k => zNc G (na (k / 15 + 1)) (T (k / 15 + 1)) (k % 15))
def zRest (G : zG) (ad : Nat → Nat) (na : Nat → Nat → Nat) (ma π : Nat → Nat) (dep : Nat) (fl : Nat → Int32) (T : Nat → zS3) : va_W := zMis G ad na ma π dep fl ++ zOth G na T
theorem zOth_at (G : zG) (na : Nat → Nat → Nat) (T : Nat → zS3) {k : Nat} (hk : k < 135) : (zOth G na T)[k]? = some (zNc G (na (k / 15 + 1)) (T (k / 15 + 1)) (k % 15)) := by simp [zOth, hk]
theorem zOth_lt {G : zG} {na : Nat → Nat → Nat} {T : Nat → zS3} {k : Nat} {q : Nat × va_E} (h : (zOth G na T)[k]? = some q) : k < 135 := by
  have := (List.getElem?_eq_some_iff.mp h).1
  simpa [zOth] using this
theorem zRest_m {G : zG} {ad : Nat → Nat} {na : Nat → Nat → Nat} {ma π : Nat → Nat} {dep : Nat} {fl : Nat → Int32} {T : Nat → zS3} {k : Nat} (hk : k < 7) : (zRest G ad na ma π dep fl T)[k]? = (zMis G ad na ma π dep fl)[k]? := List.getElem?_append_left (by simpa [zMis] using hk)
theorem zRest_o {G : zG} {ad : Nat → Nat} {na : Nat → Nat → Nat} {ma π : Nat → Nat} {dep : Nat} {fl : Nat → Int32} {T : Nat → zS3} (k : Nat) : (zRest G ad na ma π dep fl T)[7 + k]? = (zOth G na T)[k]? := by
  unfold zRest
  rw [List.getElem?_append_right (by simp [zMis])]
  congr 1
  simp [zMis]
theorem zRest_j {G : zG} {ad : Nat → Nat} {na : Nat → Nat → Nat} {ma π : Nat → Nat} {dep : Nat} {fl : Nat → Int32} {T : Nat → zS3} {j c : Nat} (hj : 1 ≤ j) (hj2 : j < 10) (hc : c < 15) : (zRest G ad na ma π dep fl T)[7 + (15 * (j - 1) + c)]? = some (zNc G (na j) (T j) c) := by
  rw [zRest_o, zOth_at _ _ _ (by omega), show (15 * (j - 1) + c) / 15 + 1 = j by omega, show (15 * (j - 1) + c) % 15 = c by omega]
/-- the class's heap, cell by cell: T 0 is the live network -/
def zBig (G : zG) (ad : Nat → Nat) (na : Nat → Nat → Nat) (ma π : Nat → Nat) (dep : Nat) (fl : Nat → Int32) (T : Nat → zS3) (H : Heap) : Prop := va_P G.1 vwCl (zMis G ad na ma π dep fl) H ∧ (∀ c, c < 15 → va_at G.1 vwCl (zNc G ad (T 0) c) H) ∧ ∀ j c, 1 ≤ j → j < 10 → c < 15 → va_at G.1 vwCl (zNc G (na j) (T j) c) H
theorem zNc_ext {G : zG} {ad : Nat → Nat} {n : Nat} {g : Nat → Int32} {τ τ2 : zT} (h : zAg 12 τ τ2) {c : Nat} (hc : c < 15) : zNc G ad (n, g, τ2) c = zNc G ad (n, g, τ) c := by
  unfold zNc
  by_cases h0 : c = 0
  · rw [if_pos h0, if_pos h0]
    have : zObj ad n g τ2 = zObj ad n g τ := by
      unfold zObj
      rw [h.1 9 (by decide) (by decide), h.1 10 (by decide) (by decide), h.1 11 (by decide) (by decide), h.1 12 (by decide) (by decide), h.1 13 (by decide) (by decide), h.1 14 (by decide) (by decide)]
    show (ad 0, _) = (ad 0, _)
    rw [this]
  · rw [if_neg h0, if_neg h0]
    by_cases h1 : c = 1
    · rw [if_pos h1, if_pos h1]
    · rw [if_neg h1, if_neg h1]
      by_cases h2 : c = 2
      · rw [if_pos h2, if_pos h2]
      · rw [if_neg h2, if_neg h2]
        have hi : c - 3 < 12 := by omega
        generalize c - 3 = i at hi
        unfold zSenC
        have : zSen τ2 i = zSen τ i := by
          unfold zSen
          rw [h.2 0 i (by decide) hi, h.2 1 i (by decide) hi, h.2 2 i (by decide) hi, h.2 3 i (by decide) hi, h.2 4 i (by decide) hi, h.2 5 i (by decide) hi, h.2 6 i (by decide) hi, h.2 7 i (by decide) hi, h.2 8 i (by decide) hi, h.2 9 i (by decide) hi, h.2 10 i (by decide) hi]
        rw [this]
theorem zBig.toN {G : zG} {ad : Nat → Nat} {na : Nat → Nat → Nat} {ma π : Nat → Nat} {dep : Nat} {fl : Nat → Int32} {T : Nat → zS3} {H : Heap} (h : zBig G ad na ma π dep fl T H) : zNA G ad (T 0).1 12 (T 0).2.1 (zRest G ad na ma π dep fl T) (T 0).2.2 H := by
  refine ⟨(T 0).2.2, zAg.rf, va_P.app (fun k q hk => ?_) (va_P.app h.1 (fun k q hk => ?_))⟩
  · have hl : k < 15 := by
      have := (List.getElem?_eq_some_iff.mp hk).1
      rwa [zNet_len] at this
    rw [zNc_at G ad (T 0) hl] at hk
    cases hk
    exact h.2.1 k hl
  · have hl := zOth_lt hk
    rw [zOth_at _ _ _ hl] at hk
    cases hk
    exact h.2.2 _ _ (by omega) (by omega) (by omega)
theorem zBig.ofN {G : zG} {ad : Nat → Nat} {na : Nat → Nat → Nat} {ma π : Nat → Nat} {dep : Nat} {fl : Nat → Int32} {T : Nat → zS3} {n : Nat} {g : Nat → Int32} {τ : zT} {H : Heap} (h : zNA G ad n 12 g (zRest G ad na ma π dep fl T) τ H) : zBig G ad na ma π dep fl (va_up T 0 (n, g, τ)) H := by
  obtain ⟨τ2, h1, hP⟩ := h
  refine ⟨fun k q hk => hP (15 + k) q ?_, fun c hc => ?_, fun j c h1j hj hc => ?_⟩
  · rw [zNet_X, zRest_m (by simpa [zMis] using (List.getElem?_eq_some_iff.mp hk).1)]
    exact hk
  · rw [va_up_self, ← zNc_ext h1 hc]
    refine hP c _ ?_
    rw [List.getElem?_append_left (by rw [zNet_len]; exact hc)]
    exact zNc_at G ad (n, g, τ2) hc
  · rw [va_up_ne _ _ (by omega)]
    exact hP (15 + (7 + (15 * (j - 1) + c))) _ (by rw [zNet_X]; exact zRest_j h1j hj hc)
theorem zRest_up {G : zG} {ad : Nat → Nat} {na : Nat → Nat → Nat} {ma π : Nat → Nat} {dep : Nat} {fl : Nat → Int32} {T : Nat → zS3} (t : zS3) : zRest G ad na ma π dep fl (va_up T 0 t) = zRest G ad na ma π dep fl T := by
  unfold zRest zOth
  congr 1
/-- all addresses differ -/
def zTd (ad : Nat → Nat) (na : Nat → Nat → Nat) (ma : Nat → Nat) : Prop := ∀ i j : Nat, i < 157 → j < 157 → (if i < 15 then ad i else if i < 22 then ma (i - 15) else na ((i - 22) / 15 + 1) ((i - 22) % 15)) = (if j < 15 then ad j else if j < 22 then ma (j - 15) else na ((j - 22) / 15 + 1) ((j - 22) % 15)) → i = j
/-- the class's cells -/
def zAll (ad : Nat → Nat) (na : Nat → Nat → Nat) (ma : Nat → Nat) : Nat → Prop := fun q => (∃ c, c < 15 ∧ q = ad c) ∨ (∃ i, i < 7 ∧ q = ma i) ∨ ∃ j c, 1 ≤ j ∧ j < 10 ∧ c < 15 ∧ q = na j c
theorem zAdr {G : zG} {ad : Nat → Nat} {na : Nat → Nat → Nat} {ma π : Nat → Nat} {dep : Nat} {fl : Nat → Int32} {T : Nat → zS3} {n : Nat} {g : Nat → Int32} {τ : zT} {k : Nat} {q : Nat × va_E} (h : (zNet G ad n g τ ++ zRest G ad na ma π dep fl T)[k]? = some q) : k < 157 ∧ q.1 = if k < 15 then ad k else if k < 22 then ma (k - 15) else na ((k - 22) / 15 + 1) ((k - 22) % 15) := by
  by_cases h1 : k < 15
  · rw [List.getElem?_append_left (by rw [zNet_len]; exact h1), zNc_at G ad (n, g, τ) h1] at h
    cases h
    rw [if_pos h1]
    exact ⟨by omega, zNc_ad G ad _ h1⟩
  · rw [show k = 15 + (k - 15) by omega, zNet_X] at h
    rw [if_neg h1]
    by_cases h2 : k < 22
    · rw [zRest_m (by omega)] at h
      rw [if_pos h2]
      refine ⟨by omega, ?_⟩
      have : k - 15 = 0 ∨ k - 15 = 1 ∨ k - 15 = 2 ∨ k - 15 = 3 ∨ k - 15 = 4 ∨ k - 15 = 5 ∨ k - 15 = 6 := by omega
      rcases this with e | e | e | e | e | e | e <;> (rw [e] at h ⊢; cases h; rfl)
    · rw [if_neg h2]
      rw [show k - 15 = 7 + (k - 22) by omega, zRest_o] at h
      have hl := zOth_lt h
      rw [zOth_at _ _ _ hl] at h
      cases h
      exact ⟨by omega, zNc_ad _ _ _ (by omega)⟩
theorem zAp_top {G : zG} {ad : Nat → Nat} {na : Nat → Nat → Nat} {ma : Nat → Nat} (hd : zTd ad na ma) (π : Nat → Nat) (dep : Nat) (fl : Nat → Int32) (T : Nat → zS3) : zAp G ad (zRest G ad na ma π dep fl T) (zAll ad na ma) := by
  intro n g τ
  refine ⟨fun i j p q hi hj hpq => ?_, fun k q hk => ?_⟩
  · obtain ⟨a1, a2⟩ := zAdr hi
    obtain ⟨b1, b2⟩ := zAdr hj
    exact hd i j a1 b1 (a2.symm.trans (hpq.trans b2))
  · obtain ⟨a1, a2⟩ := zAdr hk
    rw [a2]
    by_cases h1 : k < 15
    · rw [if_pos h1]
      exact Or.inl ⟨k, h1, rfl⟩
    · rw [if_neg h1]
      by_cases h2 : k < 22
      · rw [if_pos h2]
        exact Or.inr (Or.inl ⟨k - 15, by omega, rfl⟩)
      · rw [if_neg h2]
        exact Or.inr (Or.inr ⟨_, _, by omega, by omega, by omega, rfl⟩)
