/-! ===== one network's contracts over the whole class ===== -/
def zTwo (a b : Nat → Nat) : Prop := (∀ c d : Nat, c < 15 → d < 15 → a c = a d → c = d) ∧ (∀ c d : Nat, c < 15 → d < 15 → b c = b d → c = d) ∧ ∀ c d : Nat, c < 15 → d < 15 → a c ≠ b d
theorem zTwo.symm {a b : Nat → Nat} (h : zTwo a b) : zTwo b a := ⟨h.2.1, h.1, fun c d hc hd e => h.2.2 d c hd hc e.symm⟩
def zA1 (a : Nat → Nat) : Nat → Prop := fun q => ∃ c, c < 15 ∧ q = a c
def zA2 (a b : Nat → Nat) : Nat → Prop := fun q => zA1 a q ∨ zA1 b q
theorem zNet_adr {G : zG} {ad : Nat → Nat} {n : Nat} {g : Nat → Int32} {τ : zT} {X : va_W} {k : Nat} {q : Nat × va_E} (hk : k < 15) (h : (zNet G ad n g τ ++ X)[k]? = some q) : q.1 = ad k := by
  rw [List.getElem?_append_left (by rw [zNet_len]; exact hk), zNc_at G ad (n, g, τ) hk] at h
  cases h
  exact zNc_ad G ad _ hk
theorem zAp_two {G : zG} {a b : Nat → Nat} (h : zTwo a b) (n2 : Nat) (g2 : Nat → Int32) (τ2 : zT) : zAp G a (zNet G b n2 g2 τ2) (zA2 a b) := by
  intro n g τ
  have key : ∀ (k : Nat) (q : Nat × va_E), (zNet G a n g τ ++ zNet G b n2 g2 τ2)[k]? = some q → (k < 15 ∧ q.1 = a k) ∨ (15 ≤ k ∧ k < 30 ∧ q.1 = b (k - 15)) := by
    intro k q hk
    by_cases h1 : k < 15
    · exact Or.inl ⟨h1, zNet_adr h1 hk⟩
    · rw [show k = 15 + (k - 15) by omega, zNet_X] at hk
      have hl := (List.getElem?_eq_some_iff.mp hk).1
      rw [zNet_len] at hl
      exact Or.inr ⟨by omega, by omega, zNet_adr (X := []) hl (by rw [List.append_nil]; exact hk)⟩
  refine ⟨fun i j p q hi hj hpq => ?_, fun k q hk => ?_⟩
  · rcases key i p hi with ⟨i1, i2⟩ | ⟨i1, i2, i3⟩ <;> rcases key j q hj with ⟨j1, j2⟩ | ⟨j1, j2, j3⟩
    · exact h.1 i j i1 j1 (i2.symm.trans (hpq.trans j2))
    · exact absurd (i2.symm.trans (hpq.trans j3)) (h.2.2 i (j - 15) i1 (by omega))
    · exact absurd (j2.symm.trans (hpq.symm.trans i3)) (h.2.2 j (i - 15) j1 (by omega))
    · have := h.2.1 (i - 15) (j - 15) (by omega) (by omega) (i3.symm.trans (hpq.trans j3))
      omega
  · rcases key k q hk with ⟨i1, i2⟩ | ⟨i1, i2, i3⟩
    · exact Or.inl ⟨k, i1, i2⟩
    · exact Or.inr ⟨k - 15, by omega, i3⟩
section ZL
variable {ad : Nat → Nat} {na : Nat → Nat → Nat} {ma : Nat → Nat}
theorem zTd.aa (h : zTd ad na ma) {c d : Nat} (hc : c < 15) (hd : d < 15) (e : ad c = ad d) : c = d := h c d (by omega) (by omega) (by rw [if_pos hc, if_pos hd]; exact e)
theorem zTd.mm (h : zTd ad na ma) {i j : Nat} (hi : i < 7) (hj : j < 7) (e : ma i = ma j) : i = j := by
  have := h (15 + i) (15 + j) (by omega) (by omega) (by rw [if_neg (by omega), if_pos (by omega), if_neg (by omega), if_pos (by omega), show 15 + i - 15 = i by omega, show 15 + j - 15 = j by omega]; exact e)
  omega
theorem zTd.nn (h : zTd ad na ma) {j c k d : Nat} (hj : 1 ≤ j) (hj2 : j < 10) (hc : c < 15) (hk : 1 ≤ k) (hk2 : k < 10) (hd : d < 15) (e : na j c = na k d) : j = k ∧ c = d := by
  have := h (22 + (15 * (j - 1) + c)) (22 + (15 * (k - 1) + d)) (by omega) (by omega) (by rw [if_neg (by omega), if_neg (by omega), if_neg (by omega), if_neg (by omega), show (22 + (15 * (j - 1) + c) - 22) / 15 + 1 = j by omega, show (22 + (15 * (j - 1) + c) - 22) % 15 = c by omega, show (22 + (15 * (k - 1) + d) - 22) / 15 + 1 = k by omega, show (22 + (15 * (k - 1) + d) - 22) % 15 = d by omega]; exact e)
  omega
theorem zTd.am (h : zTd ad na ma) {c i : Nat} (hc : c < 15) (hi : i < 7) : ad c ≠ ma i := fun e => by
  have := h c (15 + i) (by omega) (by omega) (by rw [if_pos hc, if_neg (by omega), if_pos (by omega), show 15 + i - 15 = i by omega]; exact e)
  omega
theorem zTd.an (h : zTd ad na ma) {c j d : Nat} (hc : c < 15) (hj : 1 ≤ j) (hj2 : j < 10) (hd : d < 15) : ad c ≠ na j d := fun e => by
  have := h c (22 + (15 * (j - 1) + d)) (by omega) (by omega) (by rw [if_pos hc, if_neg (by omega), if_neg (by omega), show (22 + (15 * (j - 1) + d) - 22) / 15 + 1 = j by omega, show (22 + (15 * (j - 1) + d) - 22) % 15 = d by omega]; exact e)
  omega
theorem zTd.mn (h : zTd ad na ma) {i j d : Nat} (hi : i < 7) (hj : 1 ≤ j) (hj2 : j < 10) (hd : d < 15) : ma i ≠ na j d := fun e => by
  have := h (15 + i) (22 + (15 * (j - 1) + d)) (by omega) (by omega) (by rw [if_neg (by omega), if_pos (by omega), if_neg (by omega), if_neg (by omega), show 15 + i - 15 = i by omega, show (22 + (15 * (j - 1) + d) - 22) / 15 + 1 = j by omega, show (22 + (15 * (j - 1) + d) - 22) % 15 = d by omega]; exact e)
  omega
theorem zTd.two (h : zTd ad na ma) {j : Nat} (hj : 1 ≤ j) (hj2 : j < 10) : zTwo ad (na j) := ⟨fun _ _ hc hd e => h.aa hc hd e, fun _ _ hc hd e => (h.nn hj hj2 hc hj hj2 hd e).2, fun _ _ hc hd => h.an hc hj hj2 hd⟩
variable {G : zG} {π : Nat → Nat} {dep : Nat} {fl : Nat → Int32} {T : Nat → zS3} {H H1 : Heap}
theorem zRest_congr {T2 : Nat → zS3} (h : ∀ j, 1 ≤ j → j < 10 → T j = T2 j) : zRest G ad na ma π dep fl T = zRest G ad na ma π dep fl T2 := by
  unfold zRest zOth
  congr 1
  apply List.map_congr_left
  intro k hk
  have := List.mem_range.mp hk
  rw [h (k / 15 + 1) (by omega) (by omega)]
theorem zMis_adr {k : Nat} {q : Nat × va_E} (hk : (zMis G ad na ma π dep fl)[k]? = some q) : k < 7 ∧ q.1 = ma k := by
  have hl : k < 7 := by simpa [zMis] using (List.getElem?_eq_some_iff.mp hk).1
  have : k = 0 ∨ k = 1 ∨ k = 2 ∨ k = 3 ∨ k = 4 ∨ k = 5 ∨ k = 6 := by omega
  rcases this with rfl | rfl | rfl | rfl | rfl | rfl | rfl <;> (cases hk; exact ⟨by decide, rfl⟩)
/-- two networks changed: the rest stays -/
theorem zBig.keep (hd : zTd ad na ma) (hB : zBig G ad na ma π dep fl T H) {j : Nat} (hj : 1 ≤ j) (hj2 : j < 10) {t0 tj : zS3} (h0 : ∀ c, c < 15 → va_at G.1 vwCl (zNc G ad t0 c) H1) (h1 : ∀ c, c < 15 → va_at G.1 vwCl (zNc G (na j) tj c) H1) (hk : ∀ q, q < H.size → ¬ zA2 ad (na j) q → H1[q]? = H[q]?) : zBig G ad na ma π dep fl (va_up (va_up T 0 t0) j tj) H1 := by
  refine ⟨fun k q hq => ?_, fun c hc => ?_, fun i c hi hi2 hc => ?_⟩
  · obtain ⟨a1, a2⟩ := zMis_adr hq
    refine (hB.1 k q hq).kept (hk _ (hB.1 k q hq).lt (fun z => ?_))
    rcases z with ⟨c, hc, e⟩ | ⟨c, hc, e⟩
    · exact hd.am hc a1 (e.symm.trans a2)
    · exact hd.mn a1 hj hj2 hc (a2.symm.trans e)
  · rw [va_up_ne _ _ (by omega), va_up_self]
    exact h0 c hc
  · by_cases hij : i = j
    · subst hij
      rw [va_up_self]
      exact h1 c hc
    · rw [va_up_ne _ _ hij, va_up_ne _ _ (by omega)]
      have hx := hB.2.2 i c hi hi2 hc
      refine hx.kept (hk _ hx.lt (fun z => ?_))
      rw [zNc_ad G (na i) (T i) hc] at z
      rcases z with ⟨d, hd2, e⟩ | ⟨d, hd2, e⟩
      · exact hd.an hd2 hi hi2 hc e.symm
      · exact hij (hd.nn hi hi2 hc hj hj2 hd2 e).1
/-- the live network changed, and a cell of the class's own kept -/
theorem zBig.keep0 (hd : zTd ad na ma) (hB : zBig G ad na ma π dep fl T H) {t0 : zS3} {r : Nat} (hr : r < 7) (h0 : ∀ c, c < 15 → va_at G.1 vwCl (zNc G ad t0 c) H1) (h1 : ∀ q, (zMis G ad na ma π dep fl)[r]? = some q → va_at G.1 vwCl q H1) (hk : ∀ q, q < H.size → ¬ (zA1 ad q ∨ q = ma r) → H1[q]? = H[q]?) : zBig G ad na ma π dep fl (va_up T 0 t0) H1 := by
  refine ⟨fun k q hq => ?_, fun c hc => ?_, fun i c hi hi2 hc => ?_⟩
  · obtain ⟨a1, a2⟩ := zMis_adr hq
    by_cases hkr : k = r
    · subst hkr
      exact h1 q hq
    · refine (hB.1 k q hq).kept (hk _ (hB.1 k q hq).lt (fun z => ?_))
      rcases z with ⟨c, hc, e⟩ | e
      · exact hd.am hc a1 (e.symm.trans a2)
      · exact hkr (hd.mm a1 hr (a2.symm.trans e))
  · rw [va_up_self]
    exact h0 c hc
  · rw [va_up_ne _ _ (by omega)]
    have hx := hB.2.2 i c hi hi2 hc
    refine hx.kept (hk _ hx.lt (fun z => ?_))
    rw [zNc_ad G (na i) (T i) hc] at z
    rcases z with ⟨d, hd2, e⟩ | e
    · exact hd.an hd2 hi hi2 hc e.symm
    · exact hd.mn hr hi hi2 hc e.symm
theorem zBig.keepj (hd : zTd ad na ma) (hB : zBig G ad na ma π dep fl T H) {j : Nat} (hj : 1 ≤ j) (hj2 : j < 10) {tj : zS3} {r : Nat} (hr : r < 7) (h1 : ∀ c, c < 15 → va_at G.1 vwCl (zNc G (na j) tj c) H1) (h2 : ∀ q, (zMis G ad na ma π dep fl)[r]? = some q → va_at G.1 vwCl q H1) (hk : ∀ q, q < H.size → ¬ (zA1 (na j) q ∨ q = ma r) → H1[q]? = H[q]?) : zBig G ad na ma π dep fl (va_up T j tj) H1 := by
  refine ⟨fun k q hq => ?_, fun c hc => ?_, fun i c hi hi2 hc => ?_⟩
  · obtain ⟨a1, a2⟩ := zMis_adr hq
    by_cases hkr : k = r
    · subst hkr
      exact h2 q hq
    · refine (hB.1 k q hq).kept (hk _ (hB.1 k q hq).lt (fun z => ?_))
      rcases z with ⟨c, hc, e⟩ | e
      · exact hd.mn a1 hj hj2 hc (a2.symm.trans e)
      · exact hkr (hd.mm a1 hr (a2.symm.trans e))
  · rw [va_up_ne _ _ (by omega)]
    have hx := hB.2.1 c hc
    refine hx.kept (hk _ hx.lt (fun z => ?_))
    rw [zNc_ad G ad (T 0) hc] at z
    rcases z with ⟨d, hd2, e⟩ | e
    · exact hd.an hc hj hj2 hd2 e
    · exact hd.am hc hr e
  · by_cases hij : i = j
    · subst hij
      rw [va_up_self]
      exact h1 c hc
    · rw [va_up_ne _ _ hij]
      have hx := hB.2.2 i c hi hi2 hc
      refine hx.kept (hk _ hx.lt (fun z => ?_))
      rw [zNc_ad G (na i) (T i) hc] at z
      rcases z with ⟨d, hd2, e⟩ | e
      · exact hij (hd.nn hi hi2 hc hj hj2 hd2 e).1
      · exact hd.mn hr hi hi2 hc e.symm
end ZL
theorem zNA.cell {G : zG} {ad : Nat → Nat} {n : Nat} {g : Nat → Int32} {X : va_W} {τ : zT} {H : Heap} (h : zNA G ad n 12 g X τ H) {c : Nat} (hc : c < 15) : va_at G.1 vwCl (zNc G ad (n, g, τ) c) H := by
  obtain ⟨τ2, h1, hP⟩ := h
  rw [← zNc_ext h1 hc]
  refine hP c _ ?_
  rw [List.getElem?_append_left (by rw [zNet_len]; exact hc)]
  exact zNc_at G ad (n, g, τ2) hc
theorem zCells {G : zG} {ad : Nat → Nat} {t : zS3} {H : Heap} (h : ∀ c, c < 15 → va_at G.1 vwCl (zNc G ad t c) H) : va_P G.1 vwCl (zNet G ad t.1 t.2.1 t.2.2) H := by
  intro k q hk
  have hl : k < 15 := by
    have := (List.getElem?_eq_some_iff.mp hk).1
    rwa [zNet_len] at this
  rw [zNc_at G ad t hl] at hk
  cases hk
  exact h k hl
theorem zRest.net {G : zG} {ad : Nat → Nat} {na : Nat → Nat → Nat} {ma π : Nat → Nat} {dep : Nat} {fl : Nat → Int32} {T : Nat → zS3} {n N : Nat} {g : Nat → Int32} {τ : zT} {H : Heap} (h : zNA G ad n N g (zRest G ad na ma π dep fl T) τ H) {j : Nat} (hj : 1 ≤ j) (hj2 : j < 10) : zNA G (na j) (T j).1 12 (T j).2.1 [] (T j).2.2 H := by
  obtain ⟨τ2, -, hP⟩ := h
  refine ⟨(T j).2.2, zAg.rf, ?_⟩
  rw [List.append_nil]
  exact zCells (fun c hc => hP (15 + (7 + (15 * (j - 1) + c))) _ (by rw [zNet_X]; exact zRest_j hj hj2 hc))
/-- copyFrom into network j of the live one -/
theorem t_copy_j {l : Launch} {G : zG} {ad : Nat → Nat} {na : Nat → Nat → Nat} {ma : Nat → Nat} (hd : zTd ad na ma) (π : Nat → Nat) (dep : Nat) (fl : Nat → Int32) (T : Nat → zS3) (n : Nat) (hn : n ≤ 12) (g : Nat → Int32) (τ : zT) {j : Nat} (hj : 1 ≤ j) (hj2 : j < 10) : zMv l G (zAll ad na ma) yX1_copyFrom wsX1_copyFrom 1 21 [.ref (na j 0), .ref (ad 0)] (zNA G ad n 12 g (zRest G ad na ma π dep fl T) τ) (zNA G ad n 12 g (zRest G ad na ma π dep fl (va_up T j (n, g, zCpG τ (zIt (zCpS τ) n (T j).2.2)))) τ) := by
  refine z_liftv (A := zA2 (na j) ad) (fun H hN => ?_) (fun q hq => ?_)
  · have hB := zBig.ofN hN
    refine ⟨zNA G (na j) (T j).1 12 (T j).2.1 (zNet G ad n g τ) (T j).2.2, _, ⟨(T j).2.2, zAg.rf, ?_⟩, c_X1_copyFrom l G (zA2 (na j) ad) (na j) ad (T j).1 n 12 (T j).2.1 g τ (zAp_two (hd.two hj hj2).symm n g τ) hn (Nat.le_refl 12) (T j).2.2, fun H1 hz hk h2 => ?_⟩
    · refine va_P.app (zCells (t := T j) (fun c hc => ?_)) (zCells (t := (n, g, τ)) (fun c hc => ?_))
      · have := hB.2.2 j c hj hj2 hc
        rwa [va_up_ne _ _ (by omega)] at this
      · have := hB.2.1 c hc
        rwa [va_up_self] at this
    · have hb := h2.other
      have hr := hB.keep hd hj hj2 (t0 := (n, g, τ)) (fun c hc => hb.cell hc) (fun c hc => h2.cell hc) (fun q hq hA => hk q hq (fun z => hA (z.elim Or.inr Or.inl)))
      have hN2 := hr.toN
      rw [va_up_ne _ _ (by omega : (0 : Nat) ≠ j), va_up_self] at hN2
      rw [zRest_congr (T := va_up T j _) (T2 := va_up (va_up (va_up T 0 (n, g, τ)) 0 (n, g, τ)) j (n, g, zCpG τ (zIt (zCpS τ) n (T j).2.2)))]
      · exact hN2
      · intro i hi hi2
        by_cases hij : i = j
        · subst hij
          rw [va_up_self, va_up_self]
        · rw [va_up_ne _ _ hij, va_up_ne _ _ hij, va_up_ne _ _ (by omega), va_up_ne _ _ (by omega)]
  · rcases hq with ⟨c, hc, e⟩ | ⟨c, hc, e⟩
    · exact Or.inr (Or.inr ⟨j, c, hj, hj2, hc, e⟩)
    · exact Or.inl ⟨c, hc, e⟩
/-- copyFrom into the live network of network j -/
theorem t_copy_0 {l : Launch} {G : zG} {ad : Nat → Nat} {na : Nat → Nat → Nat} {ma : Nat → Nat} (hd : zTd ad na ma) (π : Nat → Nat) (dep : Nat) (fl : Nat → Int32) (T : Nat → zS3) (n : Nat) (g : Nat → Int32) (τ : zT) {j : Nat} (hj : 1 ≤ j) (hj2 : j < 10) (hn : (T j).1 ≤ 12) : zMv l G (zAll ad na ma) yX1_copyFrom wsX1_copyFrom 1 21 [.ref (ad 0), .ref (na j 0)] (zNA G ad n 12 g (zRest G ad na ma π dep fl T) τ) (zNA G ad (T j).1 12 (T j).2.1 (zRest G ad na ma π dep fl T) (zCpG (T j).2.2 (zIt (zCpS (T j).2.2) (T j).1 τ))) := by
  refine z_liftv (A := zA2 ad (na j)) (fun H hN => ?_) (fun q hq => ?_)
  · have hB := zBig.ofN hN
    refine ⟨zNA G ad n 12 g (zNet G (na j) (T j).1 (T j).2.1 (T j).2.2) τ, _, ⟨τ, zAg.rf, ?_⟩, c_X1_copyFrom l G (zA2 ad (na j)) ad (na j) n (T j).1 12 g (T j).2.1 (T j).2.2 (zAp_two (hd.two hj hj2) _ _ _) hn (Nat.le_refl 12) τ, fun H1 hz hk h2 => ?_⟩
    · refine va_P.app (zCells (t := (n, g, τ)) (fun c hc => ?_)) (zCells (t := T j) (fun c hc => ?_))
      · have := hB.2.1 c hc
        rwa [va_up_self] at this
      · have := hB.2.2 j c hj hj2 hc
        rwa [va_up_ne _ _ (by omega)] at this
    · have hb := h2.other
      have hr := hB.keep hd hj hj2 (tj := T j) (fun c hc => h2.cell hc) (fun c hc => hb.cell hc) (fun q hq hA => hk q hq hA)
      have hN2 := hr.toN
      rw [va_up_ne _ _ (by omega : (0 : Nat) ≠ j), va_up_self] at hN2
      rw [zRest_congr (T2 := T)] at hN2
      · exact hN2
      · intro i hi hi2
        by_cases hij : i = j
        · subst hij
          rw [va_up_self]
        · rw [va_up_ne _ _ hij, va_up_ne _ _ (by omega), va_up_ne _ _ (by omega)]
  · rcases hq with ⟨c, hc, e⟩ | ⟨c, hc, e⟩
    · exact Or.inl ⟨c, hc, e⟩
    · exact Or.inr (Or.inr ⟨j, c, hj, hj2, hc, e⟩)
