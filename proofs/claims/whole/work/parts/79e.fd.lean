/-! ===== forecastDelivered ===== -/
def zFdS (S : zSg) (r : Int32) : zSg := if ¬ (¬ r < 1 ∧ ¬ 300 < r) then S else ((S.1.1, S.1.2.1, zMx S.1.2.2 (zPm S.1.1 S.1.2.1 r.toNatClampNeg S.1.2.2).2), S.2.1, S.2.2.1, S.2.2.2.1, S.2.2.2.2)
def zFdR (S : zSg) (r : Int32) : Int32 := if ¬ (¬ r < 1 ∧ ¬ 300 < r) then -1 else (zPm S.1.1 S.1.2.1 r.toNatClampNeg S.1.2.2).2 11 13 - S.1.2.2 11 13
theorem zFd_ok {S : zSg} (hS : zOk S) (r : Int32) : zOk (zFdS S r) := by
  unfold zFdS
  split
  · exact hS
  · exact ⟨⟨hS.1.1, hS.1.2.1, hS.1.2.2.1, hS.1.2.2.2.1, hS.1.2.2.2.2⟩, hS.2.1, hS.2.2.1, hS.2.2.2⟩
theorem s_X5_forecastDelivered (l : Launch) (G : zG) (A : Nat → Prop) (am : Nat → Nat) (hA : zAm G am A) (S : zSg) (hS : zOk S) (r : Int32) : zMi l G A yX5_forecastDelivered wsX5_forecastDelivered 7 158 [.ref (am 0), .int r] (zRP G am S) (zFdR S r) (zRP G am (zFdS S r)) := by
  refine z_lift (A := A) (fun H hH => ?_) (fun _ h => h)
  obtain ⟨th, cp, hf, sl, sv, h1, h2, h3⟩ := hH
  refine ⟨_, _, h3, p_X5_forecastDelivered l G A am hA th cp hf S.2.1 hS.2.1 sl sv S.1.1 hS.1.1 S.1.2.1 hS.1.2.1 hS.1.2.2.1 S.1.2.2 r, fun H1 _ _ q => ?_⟩
  unfold zFdS
  by_cases c : ¬ (¬ r < 1 ∧ ¬ 300 < r)
  · rw [if_pos c] at q ⊢
    exact ⟨0, cp, hf, sl, sv, h1, h2, q⟩
  · rw [if_neg c] at q ⊢
    exact ⟨0, _, hf, sl, sv, h1, h2, q⟩
