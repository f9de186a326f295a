/-! ===== forecastDeath, the class ===== -/
theorem s_X4_forecastDeath (l : Launch) (G : zG) (ad : Nat → Nat) (na : Nat → Nat → Nat) (ma : Nat → Nat) (hd : zTd ad na ma) (S : zSg) (hS : zOk S) (x r : Int32) : zMi l G (zAll ad na ma) yX4_forecastDeath wsX4_forecastDeath 6 136 [.ref (ma 0), .int x, .int r] (zCP G ad na ma S) (zFeR S x r) (zCP G ad na ma (zFeS S x r)) := by
  refine z_lift (A := zAll ad na ma) (fun H hH => ?_) (fun _ h => h)
  obtain ⟨π, T, n, g, τ, fl, h1, h2, h3, h4, h5, h6⟩ := hH
  obtain rfl := h2.n
  have h6 := zNA_g (fun j a b => h2.g a b) h6
  have h2 : zSm S.1 (S.1.1, S.1.2.1, τ) := ⟨rfl, fun _ _ _ => rfl, h2.2.2⟩
  have p := p_X4_forecastDeath l G ad na ma hd π h1 S.2.1 hS.2.1 fl T S.1.1 hS.1.1 S.1.2.1 τ hS.1.2.1 hS.1.2.2.1 S.1.2.2 h2.2.2 hS.1.2.2.2.1 x r
  obtain ⟨e1, e2, -⟩ := zPf_Pm (g := S.1.2.1) hS.1.1 (zE9.rf (τ := S.1.2.2)) hS.1.2.2.2.2 r.toNatClampNeg
  have er : (if ¬ ((¬ x < 0 ∧ x < nI S.1.1) ∧ (¬ r < 1 ∧ ¬ 300 < r)) then -1 else (if ¬ τ 3 x.toNatClampNeg = 1 then -2 else (zPf S.1.1 S.1.2.1 r.toNatClampNeg S.1.2.2).2 6 x.toNatClampNeg)) = zFeR S x r := by
    unfold zFeR
    by_cases c : ¬ ((¬ x < 0 ∧ x < nI S.1.1) ∧ (¬ r < 1 ∧ ¬ 300 < r))
    · rw [if_pos c, if_pos c]
    · rw [if_neg c, if_neg c, h2.f (by decide) (zIdx hS.1.1 (Decidable.of_not_not c).1), e2 6 _ (by decide) (by decide)]
  rw [er] at p
  refine ⟨_, _, h6, p, fun H1 _ _ q => ?_⟩
  unfold zFeS
  by_cases c : ¬ ((¬ x < 0 ∧ x < nI S.1.1) ∧ (¬ r < 1 ∧ ¬ 300 < r))
  · rw [if_pos c] at q ⊢
    exact ⟨π, T, S.1.1, S.1.2.1, τ, fl, h1, h2, h3, h4, h5, q⟩
  · rw [if_neg c] at q ⊢
    rw [h2.f (by decide) (zIdx hS.1.1 (Decidable.of_not_not c).1)] at q
    by_cases c2 : ¬ S.1.2.2 3 x.toNatClampNeg = 1
    · rw [if_pos c2] at q ⊢
      exact ⟨π, T, S.1.1, S.1.2.1, τ, fl, h1, h2, h3, h4, h5, q⟩
    · rw [if_neg c2] at q ⊢
      obtain ⟨τ2, q1, q2⟩ := q
      have hd6 := hS.2.1
      refine ⟨π, _, S.1.1, S.1.2.1, τ, fl, h1, zSm_mx h2, fun i hi => ?_, fun x hx => ⟨(h4 x hx).1, fun z => ?_⟩, fun j a b => ?_, q2⟩
      · have hi : i < S.2.1 := hi
        have := h1.1 i (by omega)
        rw [va_up_ne _ _ (by omega)]
        exact h3 i hi
      · rw [va_up_ne _ _ (by omega)]
        exact (h4 x hx).2 z
      · by_cases e : j = 1
        · rw [e, va_up_self]
          exact hS.1.1
        · rw [va_up_ne _ _ e]
          exact h5 j a b
