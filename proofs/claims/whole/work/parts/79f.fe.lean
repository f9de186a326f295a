/-! ===== forecastDeath ===== -/
def zFeS (S : zSg) (x r : Int32) : zSg := if ¬ ((¬ x < 0 ∧ x < nI S.1.1) ∧ (¬ r < 1 ∧ ¬ 300 < r)) then S else if ¬ S.1.2.2 3 x.toNatClampNeg = 1 then S else ((S.1.1, S.1.2.1, zMx S.1.2.2 (zPm S.1.1 S.1.2.1 r.toNatClampNeg S.1.2.2).2), S.2.1, S.2.2.1, S.2.2.2.1, S.2.2.2.2)
def zFeR (S : zSg) (x r : Int32) : Int32 := if ¬ ((¬ x < 0 ∧ x < nI S.1.1) ∧ (¬ r < 1 ∧ ¬ 300 < r)) then -1 else if ¬ S.1.2.2 3 x.toNatClampNeg = 1 then -2 else (zPm S.1.1 S.1.2.1 r.toNatClampNeg S.1.2.2).2 6 x.toNatClampNeg
theorem zFe_ok {S : zSg} (hS : zOk S) (x r : Int32) : zOk (zFeS S x r) := by
  unfold zFeS
  split
  · exact hS
  · split
    · exact hS
    · exact ⟨⟨hS.1.1, hS.1.2.1, hS.1.2.2.1, hS.1.2.2.2.1, hS.1.2.2.2.2⟩, hS.2.1, hS.2.2.1, hS.2.2.2⟩
theorem s_X5_forecastDeath (l : Launch) (G : zG) (A : Nat → Prop) (am : Nat → Nat) (hA : zAm G am A) (S : zSg) (hS : zOk S) (x r : Int32) : zMi l G A yX5_forecastDeath wsX5_forecastDeath 7 158 [.ref (am 0), .int x, .int r] (zRP G am S) (zFeR S x r) (zRP G am (zFeS S x r)) := by
  refine z_lift (A := A) (fun H hH => ?_) (fun _ h => h)
  obtain ⟨th, cp, hf, sl, sv, h1, h2, h3⟩ := hH
  refine ⟨_, _, h3, p_X5_forecastDeath l G A am hA th cp hf S.2.1 hS.2.1 sl sv S.1.1 hS.1.1 S.1.2.1 hS.1.2.1 hS.1.2.2.1 S.1.2.2 x r, fun H1 _ _ q => ?_⟩
  unfold zFeS
  by_cases c : ¬ ((¬ x < 0 ∧ x < nI S.1.1) ∧ (¬ r < 1 ∧ ¬ 300 < r))
  · rw [if_pos c] at q ⊢
    exact ⟨0, cp, hf, sl, sv, h1, h2, q⟩
  · rw [if_neg c] at q ⊢
    by_cases c2 : ¬ S.1.2.2 3 x.toNatClampNeg = 1
    · rw [if_pos c2] at q ⊢
      exact ⟨0, cp, hf, sl, sv, h1, h2, q⟩
    · rw [if_neg c2] at q ⊢
      exact ⟨0, _, hf, sl, sv, h1, h2, q⟩
