/-! ===== charge ===== -/
def zChS (S : zSg) (x u : Int32) : zSg := if ¬ ((¬ x < 0 ∧ x < nI S.1.1) ∧ (¬ u < 1 ∧ ¬ 100000 < u)) then S else if ¬ (S.1.2.2 3 x.toNatClampNeg = 1 ∧ ¬ 1000000 < S.1.2.2 2 x.toNatClampNeg + u) then S else zPu S (S.1.1, S.1.2.1, zSt S.1.2.2 2 x.toNatClampNeg (S.1.2.2 2 x.toNatClampNeg + u))
def zChR (S : zSg) (x u : Int32) : Int32 := if ¬ ((¬ x < 0 ∧ x < nI S.1.1) ∧ (¬ u < 1 ∧ ¬ 100000 < u)) then -1 else if ¬ (S.1.2.2 3 x.toNatClampNeg = 1 ∧ ¬ 1000000 < S.1.2.2 2 x.toNatClampNeg + u) then -2 else S.1.2.2 2 x.toNatClampNeg + u
theorem zCh_ok {S : zSg} (hS : zOk S) (x u : Int32) : zOk (zChS S x u) := by
  unfold zChS
  split
  · exact hS
  · split
    · exact hS
    · refine zPu_ok hS ⟨hS.1.1, hS.1.2.1, hS.1.2.2.1, ?_, fun i hi => ?_⟩
      · show 0 ≤ (zSt S.1.2.2 2 x.toNatClampNeg (S.1.2.2 2 x.toNatClampNeg + u)) 11 9
        rw [zSt_nf _ _ _ _ (by decide)]
        exact hS.1.2.2.2.1
      · show (zSt S.1.2.2 2 x.toNatClampNeg (S.1.2.2 2 x.toNatClampNeg + u)) 3 i = 0 ∨ (zSt S.1.2.2 2 x.toNatClampNeg (S.1.2.2 2 x.toNatClampNeg + u)) 3 i = 1
        rw [zSt_nf _ _ _ _ (by decide)]
        exact hS.1.2.2.2.2 i hi
theorem s_X4_charge (l : Launch) (G : zG) (ad : Nat → Nat) (na : Nat → Nat → Nat) (ma : Nat → Nat) (hd : zTd ad na ma) (S : zSg) (hS : zOk S) (x u : Int32) : zMi l G (zAll ad na ma) yX4_charge wsX4_charge 3 64 [.ref (ma 0), .int x, .int u] (zCP G ad na ma S) (zChR S x u) (zCP G ad na ma (zChS S x u)) := by
  refine z_lift (A := zAll ad na ma) (fun H hH => ?_) (fun _ h => h)
  obtain ⟨π, T, n, g, τ, fl, h1, h2, h3, h4, h5, h6⟩ := hH
  obtain rfl := h2.n
  have p := p_X4_charge l G ad na ma hd π h1 S.2.1 hS.2.1 fl T S.1.1 hS.1.1 g τ x u
  unfold zChR zChS
  by_cases c : ¬ ((¬ x < 0 ∧ x < nI S.1.1) ∧ (¬ u < 1 ∧ ¬ 100000 < u))
  · rw [if_pos c, if_pos c] at p
    rw [if_pos c, if_pos c]
    exact ⟨_, _, h6, p, fun H1 _ _ q => ⟨π, T, S.1.1, g, τ, fl, h1, h2, h3, h4, h5, q⟩⟩
  · have hi := zIdx hS.1.1 (Decidable.of_not_not c).1
    have e3 : τ 3 x.toNatClampNeg = S.1.2.2 3 x.toNatClampNeg := h2.f (by decide) hi
    have e2 : τ 2 x.toNatClampNeg = S.1.2.2 2 x.toNatClampNeg := h2.f (by decide) hi
    rw [if_neg c, if_neg c, e3, e2] at p
    rw [if_neg c, if_neg c]
    by_cases c2 : ¬ (S.1.2.2 3 x.toNatClampNeg = 1 ∧ ¬ 1000000 < S.1.2.2 2 x.toNatClampNeg + u)
    · rw [if_pos c2, if_pos c2] at p
      rw [if_pos c2, if_pos c2]
      exact ⟨_, _, h6, p, fun H1 _ _ q => ⟨π, T, S.1.1, g, τ, fl, h1, h2, h3, h4, h5, q⟩⟩
    · rw [if_neg c2, if_neg c2] at p
      rw [if_neg c2, if_neg c2]
      exact ⟨_, _, h6, p, fun H1 _ _ q => zCP_push (τ2 := zSt τ 2 x.toNatClampNeg (S.1.2.2 2 x.toNatClampNeg + u)) hS h1 h2 h3 h4 h5 ⟨h2.1, h2.2.1, h2.2.2.stt 2 x.toNatClampNeg rfl⟩ q⟩
theorem s_X5_charge (l : Launch) (G : zG) (A : Nat → Prop) (am : Nat → Nat) (hA : zAm G am A) (S : zSg) (hS : zOk S) (x u : Int32) : zMi l G A yX5_charge wsX5_charge 2 43 [.ref (am 0), .int x, .int u] (zRP G am S) (zChR S x u) (zRP G am (zChS S x u)) := by
  refine z_lift (A := A) (fun H hH => ?_) (fun _ h => h)
  obtain ⟨th, cp, hf, sl, sv, h1, h2, h3⟩ := hH
  refine ⟨_, _, h3, p_X5_charge l G A am hA th cp hf S.2.1 hS.2.1 sl sv S.1.1 hS.1.1 S.1.2.1 S.1.2.2 x u, fun H1 _ _ q => ?_⟩
  unfold zChS
  by_cases c : ¬ ((¬ x < 0 ∧ x < nI S.1.1) ∧ (¬ u < 1 ∧ ¬ 100000 < u))
  · rw [if_pos c] at q ⊢
    exact ⟨0, cp, hf, sl, sv, h1, h2, q⟩
  · rw [if_neg c] at q ⊢
    by_cases c2 : ¬ (S.1.2.2 3 x.toNatClampNeg = 1 ∧ ¬ 1000000 < S.1.2.2 2 x.toNatClampNeg + u)
    · rw [if_pos c2] at q ⊢
      exact ⟨0, cp, hf, sl, sv, h1, h2, q⟩
    · rw [if_neg c2] at q ⊢
      exact zRP_push hS h1 h2 q
