/-! ===== the players over the whole class ===== -/
/-- the class's cells τ2 hold the state τ of n sensors -/
def zRp (n : Nat) (τ τ2 : zT) : Prop := (∀ k, 9 ≤ k → k < 15 → τ2 11 k = τ 11 k) ∧ ∀ f i, f < 9 → i < n → τ2 f i = τ f i
theorem zRp.n9 {G : zG} {ad : Nat → Nat} {n : Nat} {g : Nat → Int32} {X : va_W} {τ τ2 : zT} {H : Heap} (h : zRp n τ τ2) (hN : zNA G ad n 12 g X τ2 H) (hn : n ≤ 12) : zN9 G ad n g X τ H := by
  refine ⟨zMx τ τ2, zMx_e9 τ τ2, (hN.nar hn).to ⟨fun k h9 h15 => ?_, fun f i hf hi => ?_⟩⟩
  · unfold zMx
    rw [if_neg (by decide)]
    exact (h.1 k h9 h15).symm
  · unfold zMx
    by_cases q : f = 9 ∨ f = 10
    · rw [if_pos q]
    · rw [if_neg q]
      exact (h.2 f i (by omega) hi).symm
theorem zN9.rp {G : zG} {ad : Nat → Nat} {n : Nat} {g : Nat → Int32} {X : va_W} {τ : zT} {H : Heap} (h : zN9 G ad n g X τ H) : ∃ τ2, zRp n τ τ2 ∧ zNA G ad n 12 g X τ2 H := by
  obtain ⟨τ9, h9, hN⟩ := h
  obtain ⟨τ2, h2, hN2⟩ := hN.ex
  exact ⟨τ2, ⟨fun k a b => (h2.1 k a b).symm.trans (h9 11 k (by decide) (by decide)), fun f i hf hi => (h2.2 f i (by omega) hi).symm.trans (h9 f i (by omega) (by omega))⟩, hN2⟩
theorem zRp.cpy {n : Nat} {g : Nat → Int32} {τ τ2 : zT} (h : zRp n τ τ2) (t : zS3) : zRp n τ (zCpy n g τ2 t).2.2 := by
  have ha := zCp_ag τ2 t.2.2 n
  refine ⟨fun k a b => ?_, fun f i hf hi => ?_⟩
  · have := ha.1 k a b
    unfold zMx at this
    rw [if_neg (by decide)] at this
    exact this.symm.trans (h.1 k a b)
  · have := ha.2 f i (by omega) hi
    unfold zMx at this
    rw [if_neg (by omega)] at this
    exact this.symm.trans (h.2 f i hf hi)
theorem zAp_r {G : zG} {a : Nat → Nat} {r : Nat} (h1 : ∀ c d : Nat, c < 15 → d < 15 → a c = a d → c = d) (h2 : ∀ c, c < 15 → a c ≠ r) : zAp G a (zX r a) (fun q => zA1 a q ∨ q = r) := by
  intro n g τ
  have key : ∀ (k : Nat) (q : Nat × va_E), (zNet G a n g τ ++ zX r a)[k]? = some q → (k < 15 ∧ q.1 = a k) ∨ (k = 15 ∧ q.1 = r) := by
    intro k q hk
    by_cases h1 : k < 15
    · exact Or.inl ⟨h1, zNet_adr h1 hk⟩
    · rw [show k = 15 + (k - 15) by omega, zNet_X] at hk
      have hl : k - 15 < 1 := (List.getElem?_eq_some_iff.mp hk).1
      rw [show k - 15 = 0 by omega] at hk
      cases hk
      exact Or.inr ⟨by omega, rfl⟩
  refine ⟨fun i j p q hi hj hpq => ?_, fun k q hk => ?_⟩
  · rcases key i p hi with ⟨i1, i2⟩ | ⟨i1, i2⟩ <;> rcases key j q hj with ⟨j1, j2⟩ | ⟨j1, j2⟩
    · exact h1 i j i1 j1 (i2.symm.trans (hpq.trans j2))
    · exact absurd (i2.symm.trans (hpq.trans j2)) (h2 i i1)
    · exact absurd (j2.symm.trans (hpq.symm.trans i2)) (h2 j j1)
    · omega
  · rcases key k q hk with ⟨i1, i2⟩ | ⟨i1, i2⟩
    · exact Or.inl ⟨k, i1, i2⟩
    · exact Or.inr i2
section ZPF
variable {l : Launch} {G : zG} {ad : Nat → Nat} {na : Nat → Nat → Nat} {ma : Nat → Nat}
theorem t_perf_0 (hd : zTd ad na ma) (π : Nat → Nat) (dep : Nat) (fl : Nat → Int32) (T : Nat → zS3) (n : Nat) (hn12 : n ≤ 12) (g : Nat → Int32) (hd3 : 0 < g 3) (hd5 : 0 < g 5) (τ τa : zT) (hr : zRp n τa τ) (hg : 0 ≤ τa 11 9) (lim : Nat) (hlim : lim ≤ 300) : zMi l G (zAll ad na ma) yX2_perform wsX2_perform 5 114 [.ref (ma 1), .int (nI lim)] (zNA G ad n 12 g (zRest G ad na ma π dep fl T) τ) (nI (zPf n g lim τa).1) (fun H => ∃ τ2, zRp n (zPf n g lim τa).2 τ2 ∧ zNA G ad n 12 g (zRest G ad na ma π dep fl T) τ2 H) := by
  refine z_lift (A := fun q => zA1 ad q ∨ q = ma 1) (fun H hN => ?_) (fun q hq => ?_)
  · have hB := zBig.ofN hN
    have h9 : zN9 G ad n g (zX (ma 1) ad) τa H := by
      refine hr.n9 (τ2 := τ) ⟨τ, zAg.rf, va_P.app (zCells (t := (n, g, τ)) (fun c hc => ?_)) (fun k q hk => ?_)⟩ hn12
      · have := hB.2.1 c hc
        rwa [va_up_self] at this
      · have hl : k < 1 := (List.getElem?_eq_some_iff.mp hk).1
        rw [show k = 0 by omega] at hk
        cases hk
        exact hB.1 1 _ rfl
    refine ⟨zN9 G ad n g (zX (ma 1) ad) τa, _, h9, c_X2_perform l G (fun q => zA1 ad q ∨ q = ma 1) ad n g (ma 1) (zAp_r (fun c d hc hd2 e => hd.aa hc hd2 e) (fun c hc => hd.am hc (by decide))) hn12 hd3 hd5 τa hg lim hlim, fun H1 hz hk h2 => ?_⟩
    obtain ⟨τ2, hr2, hN2⟩ := h2.rp
    refine ⟨τ2, hr2, ?_⟩
    have hkeep := hB.keep0 hd (r := 1) (by decide) (t0 := (n, g, τ2)) (fun c hc => hN2.cell hc) (fun q hq => ?_) hk
    · have hN3 := hkeep.toN
      rw [va_up_self, zRest_up, zRest_up] at hN3
      exact hN3
    · cases hq
      obtain ⟨τ3, -, hP⟩ := hN2
      exact hP 15 _ (zNet_X _ 0)
  · rcases hq with ⟨c, hc, e⟩ | e
    · exact Or.inl ⟨c, hc, e⟩
    · exact Or.inr (Or.inl ⟨1, by decide, e⟩)
theorem t_perf_1 (hd : zTd ad na ma) (π : Nat → Nat) (dep : Nat) (fl : Nat → Int32) (T : Nat → zS3) (n0 : Nat) (g0 : Nat → Int32) (τ0 : zT) (n : Nat) (hn12 : n ≤ 12) (g : Nat → Int32) (hd3 : 0 < g 3) (hd5 : 0 < g 5) (τ τa : zT) (hr : zRp n τa τ) (hg : 0 ≤ τa 11 9) (lim : Nat) (hlim : lim ≤ 300) : zMi l G (zAll ad na ma) yX2_perform wsX2_perform 5 114 [.ref (ma 2), .int (nI lim)] (zNA G ad n0 12 g0 (zRest G ad na ma π dep fl (va_up T 1 (n, g, τ))) τ0) (nI (zPf n g lim τa).1) (fun H => ∃ τ2, zRp n (zPf n g lim τa).2 τ2 ∧ zNA G ad n0 12 g0 (zRest G ad na ma π dep fl (va_up T 1 (n, g, τ2))) τ0 H) := by
  refine z_lift (A := fun q => zA1 (na 1) q ∨ q = ma 2) (fun H hN => ?_) (fun q hq => ?_)
  · have hB := zBig.ofN hN
    have h9 : zN9 G (na 1) n g (zX (ma 2) (na 1)) τa H := by
      refine hr.n9 (τ2 := τ) ⟨τ, zAg.rf, va_P.app (zCells (t := (n, g, τ)) (fun c hc => ?_)) (fun k q hk => ?_)⟩ hn12
      · have := hB.2.2 1 c (by decide) (by decide) hc
        rwa [va_up_ne _ _ (by decide), va_up_self] at this
      · have hl : k < 1 := (List.getElem?_eq_some_iff.mp hk).1
        rw [show k = 0 by omega] at hk
        cases hk
        exact hB.1 2 _ rfl
    refine ⟨zN9 G (na 1) n g (zX (ma 2) (na 1)) τa, _, h9, c_X2_perform l G (fun q => zA1 (na 1) q ∨ q = ma 2) (na 1) n g (ma 2) (zAp_r (fun c d hc hd2 e => (hd.nn (by decide) (by decide) hc (by decide) (by decide) hd2 e).2) (fun c hc e => hd.mn (by decide) (by decide) (by decide) hc e.symm)) hn12 hd3 hd5 τa hg lim hlim, fun H1 hz hk h2 => ?_⟩
    obtain ⟨τ2, hr2, hN2⟩ := h2.rp
    refine ⟨τ2, hr2, ?_⟩
    have hkeep := hB.keepj hd (j := 1) (by decide) (by decide) (r := 2) (by decide) (tj := (n, g, τ2)) (fun c hc => hN2.cell hc) (fun q hq => ?_) hk
    · have hN3 := hkeep.toN
      rw [va_up_ne _ _ (by decide : (0 : Nat) ≠ 1), va_up_self] at hN3
      rw [zRest_congr (T2 := va_up T 1 (n, g, τ2))] at hN3
      · exact hN3
      · intro j hj hj2
        by_cases h1 : j = 1
        · subst h1
          rw [va_up_self, va_up_self]
        · rw [va_up_ne _ _ h1, va_up_ne _ _ h1, va_up_ne _ _ (by omega), va_up_ne _ _ h1]
    · cases hq
      obtain ⟨τ3, -, hP⟩ := hN2
      exact hP 15 _ (zNet_X _ 0)
  · rcases hq with ⟨c, hc, e⟩ | e
    · exact Or.inr (Or.inr ⟨1, c, by decide, by decide, hc, e⟩)
    · exact Or.inr (Or.inl ⟨2, by decide, e⟩)
end ZPF
