/-! ===== forecastDelivered ===== -/
def zFdS (S : zSg) (r : Int32) : zSg := if ¬ (¬ r < 1 ∧ ¬ 300 < r) then S else ((S.1.1, S.1.2.1, zMx S.1.2.2 (zPm S.1.1 S.1.2.1 r.toNatClampNeg S.1.2.2).2), S.2.1, S.2.2.1, S.2.2.2.1, S.2.2.2.2)
def zFdR (S : zSg) (r : Int32) : Int32 := if ¬ (¬ r < 1 ∧ ¬ 300 < r) then -1 else (zPm S.1.1 S.1.2.1 r.toNatClampNeg S.1.2.2).2 11 13 - S.1.2.2 11 13
theorem zFd_ok {S : zSg} (hS : zOk S) (r : Int32) : zOk (zFdS S r) := by
  unfold zFdS
  split
  · exact hS
  · exact ⟨⟨hS.1.1, hS.1.2.1, hS.1.2.2.1, hS.1.2.2.2.1, hS.1.2.2.2.2⟩, hS.2.1, hS.2.2.1, hS.2.2.2⟩
theorem s_X5_forecastDelivered (l : Launch) (G : zG) (A : Nat → Prop) (am : Nat → Nat) (hA : zAm G am A) (S : zSg) (hS : zOk S) (r : Int32) : zMi l G A yX5_forecastDelivered wsX5_forecastDelivered 7 158 [.ref (am 0), .int r] (zRP G am S) (zFdR S r) (zRP G am (zFdS S r)) := by
  refine z_lift (A := A) (fun H hH => ?_) (fun _ h => h)
  obtain ⟨th, cp, hf, sl, sv, h1, h2, h3⟩ := hH
  refine ⟨_, _, h3, p_X5_forecastDelivered l G A am hA th cp hf S.2.1 hS.2.1 sl sv S.1.1 hS.1.1 S.1.2.1 hS.1.2.1 hS.1.2.2.1 S.1.2.2 r, fun H1 _ _ q => ?_⟩
  unfold zFdS
  by_cases c : ¬ (¬ r < 1 ∧ ¬ 300 < r)
  · rw [if_pos c] at q ⊢
    exact ⟨0, cp, hf, sl, sv, h1, h2, q⟩
  · rw [if_neg c] at q ⊢
    exact ⟨0, _, hf, sl, sv, h1, h2, q⟩
theorem zSm_mx {t : zS3} {n : Nat} {g : Nat → Int32} {τ u : zT} (h : zSm t (n, g, τ)) : zSm (t.1, t.2.1, zMx t.2.2 u) (n, g, τ) := by
  refine ⟨h.1, h.2.1, fun k h1 h2 => ?_, fun f i h1 h2 => ?_⟩
  · show τ 11 k = zMx t.2.2 u 11 k
    unfold zMx
    rw [if_neg (by decide)]
    exact h.k h1 h2
  · show τ f i = zMx t.2.2 u f i
    unfold zMx
    rw [if_neg (by omega)]
    exact h.f h1 h2
theorem s_X4_forecastDelivered (l : Launch) (G : zG) (ad : Nat → Nat) (na : Nat → Nat → Nat) (ma : Nat → Nat) (hd : zTd ad na ma) (S : zSg) (hS : zOk S) (r : Int32) : zMi l G (zAll ad na ma) yX4_forecastDelivered wsX4_forecastDelivered 6 136 [.ref (ma 0), .int r] (zCP G ad na ma S) (zFdR S r) (zCP G ad na ma (zFdS S r)) := by
  refine z_lift (A := zAll ad na ma) (fun H hH => ?_) (fun _ h => h)
  obtain ⟨π, T, n, g, τ, fl, h1, h2, h3, h4, h5, h6⟩ := hH
  obtain rfl := h2.n
  have h6 := zNA_g (fun j a b => h2.g a b) h6
  have h2 : zSm S.1 (S.1.1, S.1.2.1, τ) := ⟨rfl, fun _ _ _ => rfl, h2.2.2⟩
  have p := p_X4_forecastDelivered l G ad na ma hd π h1 S.2.1 hS.2.1 fl T S.1.1 hS.1.1 S.1.2.1 τ hS.1.2.1 hS.1.2.2.1 S.1.2.2 h2.2.2 hS.1.2.2.2.1 r
  obtain ⟨e1, e2, -⟩ := zPf_Pm (g := S.1.2.1) hS.1.1 (zE9.rf (τ := S.1.2.2)) hS.1.2.2.2.2 r.toNatClampNeg
  rw [e2 11 13 (by decide) (by decide), h2.k (k := 13) (by decide) (by decide)] at p
  refine ⟨_, _, h6, p, fun H1 _ _ q => ?_⟩
  unfold zFdS
  by_cases c : ¬ (¬ r < 1 ∧ ¬ 300 < r)
  · rw [if_pos c] at q ⊢
    exact ⟨π, T, S.1.1, S.1.2.1, τ, fl, h1, h2, h3, h4, h5, q⟩
  · rw [if_neg c] at q ⊢
    obtain ⟨τ2, q1, q2⟩ := q
    have hd6 := hS.2.1
    refine ⟨π, _, S.1.1, S.1.2.1, τ, fl, h1, zSm_mx h2, fun i hi => ?_, fun x hx => ⟨(h4 x hx).1, fun z => ?_⟩, fun j a b => ?_, q2⟩
    · have hi : i < S.2.1 := hi
      have := h1.1 i (by omega)
      rw [va_up_ne _ _ (by omega)]
      exact h3 i hi
    · rw [va_up_ne _ _ (by omega)]
      exact (h4 x hx).2 z
    · by_cases e : j = 1
      · rw [e, va_up_self]
        exact hS.1.1
      · rw [va_up_ne _ _ e]
        exact h5 j a b
