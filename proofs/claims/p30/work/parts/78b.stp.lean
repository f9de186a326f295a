/-! ===== costs are small; what a payment leaves ===== -/
/-- the settings that the law makes -/
def zSe (g : Nat → Int32) : Prop := g 1 = 50 ∧ g 2 = 150 ∧ g 4 = 5 ∧ g 6 = 1 ∧ g 7 = 2 ∧ (∃ cy, 2 ≤ cy ∧ cy ≤ 8 ∧ g 3 = nI cy) ∧ ∃ dv, 1 ≤ dv ∧ dv ≤ 1000 ∧ g 5 = nI dv
def zXy (n : Nat) (τ : zT) : Prop := ∀ i, i < n → (∃ a, a < 100 ∧ τ 0 i = nI a) ∧ ∃ a, a < 100 ∧ τ 1 i = nI a
theorem zSq {a b : Nat} (ha : a < 200) (hb : b < 200) : ∃ m, m ≤ 40000 ∧ (nI a - nI b) * (nI a - nI b) = nI m := by
  by_cases h : b ≤ a
  · refine ⟨(a - b) * (a - b), ?_, by rw [pk_sub h, pk_mul]⟩
    have := Nat.mul_le_mul (show a - b ≤ 200 by omega) (show a - b ≤ 200 by omega)
    omega
  · refine ⟨(b - a) * (b - a), ?_, ?_⟩
    · have := Nat.mul_le_mul (show b - a ≤ 200 by omega) (show b - a ≤ 200 by omega)
      omega
    · rw [← pk_mul, ← pk_sub (show a ≤ b by omega)]
      grind
theorem zDi_sm {a b c d : Nat} (ha : a < 200) (hb : b < 200) (hc : c < 200) (hd : d < 200) : ∃ m, m ≤ 80000 ∧ zDi (nI a) (nI b) (nI c) (nI d) = nI m := by
  obtain ⟨m1, h1, e1⟩ := zSq ha hc
  obtain ⟨m2, h2, e2⟩ := zSq hb hd
  refine ⟨m1 + m2, by omega, ?_⟩
  unfold zDi
  rw [e1, e2, nI_add]
theorem zDi_sym (x y u v : Int32) : zDi x y u v = zDi u v x y := by
  unfold zDi
  grind
theorem zDs_sm {n : Nat} {τ : zT} (h : zXy n τ) {i j : Nat} (hi : i < n) (hj : j < n) : ∃ m, m ≤ 80000 ∧ zDs τ i j = nI m := by
  obtain ⟨⟨a, ha, ea⟩, b, hb, eb⟩ := h i hi
  obtain ⟨⟨c, hc, ec⟩, d, hd, ed⟩ := h j hj
  unfold zDs
  rw [ea, eb, ec, ed]
  exact zDi_sm (by omega) (by omega) (by omega) (by omega)
theorem zDb_sm {n : Nat} {g : Nat → Int32} {τ : zT} (hg : zSe g) (h : zXy n τ) {i : Nat} (hi : i < n) : ∃ m, m ≤ 80000 ∧ zDb g τ i = nI m := by
  obtain ⟨⟨a, ha, ea⟩, b, hb, eb⟩ := h i hi
  unfold zDb
  rw [ea, eb, hg.1, hg.2.1]
  exact zDi_sm (c := 50) (d := 150) (by omega) (by omega) (by omega) (by omega)
theorem zCo_sm {g : Nat → Int32} (hg : zSe g) {d : Int32} (h : ∃ m, m ≤ 80000 ∧ d = nI m) : ∃ c, c < 1000000 ∧ zCo g d = nI c := by
  obtain ⟨m, hm, rfl⟩ := h
  obtain ⟨-, -, h4, -, -, -, dv, h1, h2, h5⟩ := hg
  refine ⟨5 + m / dv, ?_, ?_⟩
  · have := Nat.div_le_self m dv
    omega
  · unfold zCo
    rw [h4, h5, pk_div (by omega) (by omega) (by omega)]
    exact nI_add 5 _
/-- only payments and deaths -/
def zOt (f i : Nat) : Prop := f ≠ 2 ∧ f ≠ 3 ∧ f ≠ 6 ∧ ¬ (f = 11 ∧ i = 14)
theorem zDie_e {τ : zT} {k f i : Nat} (h : zOt f i) : (zDie τ k) f i = τ f i := by
  unfold zDie
  rw [zSt_nf _ _ _ _ h.2.2.1, zSt_nf _ _ _ _ h.2.1]
theorem zPd_e {τ : zT} {k f i : Nat} {c : Int32} (h : zOt f i) : (zPd τ k c) f i = τ f i := by
  unfold zPd
  rw [zSt_ap, if_neg h.2.2.2, zSt_nf _ _ _ _ h.1]
theorem zTk_e {g : Nat → Int32} {τ : zT} {k f i : Nat} (h : zOt f i) : (zTk g τ k).1 f i = τ f i := by
  unfold zTk
  split
  · split
    · exact zDie_e h
    · split
      · exact (zDie_e h).trans (zPd_e h)
      · exact (zPd_e h).trans (zPd_e h)
  · rfl
theorem zSd_e {g : Nat → Int32} {τ : zT} {k j f i : Nat} (h : zOt f i) : (zSd g τ k j).1 f i = τ f i := by
  unfold zSd
  split
  · exact zDie_e h
  · exact (zTk_e h).trans (zPd_e h)
theorem zSb_e {g : Nat → Int32} {τ : zT} {k f i : Nat} {w : Int32} (h : zOt f i) (h2 : ¬ (f = 11 ∧ i = 12)) : (zSb g τ k w) f i = τ f i := by
  unfold zSb
  split
  · exact zDie_e h
  · rw [zSt_ap, if_neg h2]
    exact zPd_e h
section ZSTP
variable {n : Nat} {E : Int32} {R : Nat} {a0 : Nat → Bool} {F : Nat → Nat → Prop} {K τ : zT} {g : Nat → Int32}
theorem zIv.xy (h : zIv n E R a0 F K τ) (h01 : ∀ i, F 0 i ∧ F 1 i) (hxy : zXy n K) : zXy n τ := fun i hi => by
  rw [h.fz (h01 i).1, h.fz (h01 i).2]
  exact hxy i hi
theorem zIv.tk (h : zIv n E R a0 F K τ) (hF : zFz F) (hg : zSe g) {i : Nat} (hi : i < n) : zIv n E R a0 F K (zTk g τ i).1 := by
  have h4 : g 4 = nI 5 := hg.2.2.1
  have h6 : g 6 = nI 1 := hg.2.2.2.1
  unfold zTk
  rw [h4, h6]
  split
  · split
    · exact h.die hF i
    · rename_i c
      have h2 := h.pd hF hi (by omega) c
      split
      · exact h2.die hF i
      · rename_i c2
        exact h2.pd hF hi (by omega) c2
  · exact h
theorem zIv.sd (h : zIv n E R a0 F K τ) (hF : zFz F) (hg : zSe g) (h01 : ∀ i, F 0 i ∧ F 1 i) (hxy : zXy n K) {i j : Nat} (hi : i < n) (hj : j < n) : zIv n E R a0 F K (zSd g τ i j).1 := by
  obtain ⟨c, hc, ec⟩ := zCo_sm hg (zDs_sm (h.xy h01 hxy) hi hj)
  unfold zSd
  rw [ec]
  split
  · exact h.die hF i
  · rename_i q
    exact (h.pd hF hi hc q).tk hF hg hj
theorem zIv.sb (h : zIv n E R a0 F K τ) (hF : zFz F) (hg : zSe g) (h01 : ∀ i, F 0 i ∧ F 1 i) (hxy : zXy n K) {i : Nat} (hi : i < n) (w : Int32) (h12 : ¬ F 11 12) : zIv n E R a0 F K (zSb g τ i w) := by
  obtain ⟨c, hc, ec⟩ := zCo_sm hg (zDb_sm hg (h.xy h01 hxy) hi)
  unfold zSb
  rw [ec]
  split
  · exact h.die hF i
  · rename_i q
    exact (h.pd hF hi hc q).st 11 12 _ h12 (by omega) (by omega) (by omega) (by omega)
/-- how many came in -/
theorem zSb_12 (i : Nat) (w : Int32) : (zSb g τ i w) 11 12 = τ 11 12 ∨ (zSb g τ i w) 11 12 = τ 11 12 + w := by
  unfold zSb
  split
  · exact Or.inl (zDie_e ⟨by decide, by decide, by decide, by decide⟩)
  · exact Or.inr (zSt_self _ _ _ _)
end ZSTP
