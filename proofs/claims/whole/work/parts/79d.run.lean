/-! ===== run ===== -/
def zRnS (S : zSg) (x : Int32) : zSg := if ¬ (¬ x < 1 ∧ ¬ 50 < x) then S else if zLv S.1.1 S.1.2.2 = 0 then S else zPu S (S.1.1, S.1.2.1, (zPm S.1.1 S.1.2.1 x.toNatClampNeg S.1.2.2).2)
def zRnR (S : zSg) (x : Int32) : Int32 := if ¬ (¬ x < 1 ∧ ¬ 50 < x) then -1 else if zLv S.1.1 S.1.2.2 = 0 then -2 else nI (zPm S.1.1 S.1.2.1 x.toNatClampNeg S.1.2.2).1
theorem zGd_pm {t : zS3} (h : zGd t) (k : Nat) : zGd (t.1, t.2.1, (zPm t.1 t.2.1 k t.2.2).2) := by
  obtain ⟨-, p2, p3⟩ := zPf_Pm (g := t.2.1) h.1 (zE9.rf (τ := t.2.2)) h.2.2.2.2 k
  refine ⟨h.1, h.2.1, h.2.2.1, ?_, p3.e9 p2⟩
  show 0 ≤ (zPm t.1 t.2.1 k t.2.2).2 11 9
  rw [← p2 11 9 (by decide) (by decide)]
  exact zPf_gen h.2.2.2.1 k
theorem zRn_ok {S : zSg} (hS : zOk S) (x : Int32) : zOk (zRnS S x) := by
  unfold zRnS
  split
  · exact hS
  · split
    · exact hS
    · exact zPu_ok hS (zGd_pm hS.1 _)
theorem s_X5_run (l : Launch) (G : zG) (A : Nat → Prop) (am : Nat → Nat) (hA : zAm G am A) (S : zSg) (hS : zOk S) (x : Int32) : zMi l G A yX5_run wsX5_run 7 158 [.ref (am 0), .int x] (zRP G am S) (zRnR S x) (zRP G am (zRnS S x)) := by
  refine z_lift (A := A) (fun H hH => ?_) (fun _ h => h)
  obtain ⟨th, cp, hf, sl, sv, h1, h2, h3⟩ := hH
  refine ⟨_, _, h3, p_X5_run l G A am hA th cp hf S.2.1 hS.2.1 sl sv S.1.1 hS.1.1 S.1.2.1 hS.1.2.1 hS.1.2.2.1 S.1.2.2 x, fun H1 _ _ q => ?_⟩
  unfold zRnS
  by_cases c : ¬ (¬ x < 1 ∧ ¬ 50 < x)
  · rw [if_pos c] at q ⊢
    exact ⟨0, cp, hf, sl, sv, h1, h2, q⟩
  · rw [if_neg c] at q ⊢
    by_cases c2 : zLv S.1.1 S.1.2.2 = 0
    · rw [if_pos c2] at q ⊢
      exact ⟨0, cp, hf, sl, sv, h1, h2, q⟩
    · rw [if_neg c2] at q ⊢
      exact zRP_push hS h1 h2 q
/-- the picture asks the fixed numbers 1 to 8 alone -/
theorem zNA_g {G : zG} {ad : Nat → Nat} {n N : Nat} {g g2 : Nat → Int32} {X : va_W} {τ : zT} {H : Heap} (hg : ∀ j, 1 ≤ j → j < 9 → g j = g2 j) (h : zNA G ad n N g X τ H) : zNA G ad n N g2 X τ H := by
  obtain ⟨τ2, h1, hP⟩ := h
  refine ⟨τ2, h1, fun k q hk => ?_⟩
  match k with
  | 0 =>
    cases hk
    have e : zObj ad n g2 τ2 = zObj ad n g τ2 := by
      unfold zObj
      rw [hg 1 (by decide) (by decide), hg 2 (by decide) (by decide)]
    rw [e]
    exact hP 0 _ rfl
  | 1 => cases hk; exact hP 1 _ rfl
  | 2 =>
    cases hk
    have hx : H[ad 2]? = some (vp_cell G.2.2.1 (6, .inl (fun j => g (3 + j)))) := hP 2 _ rfl
    show H[ad 2]? = some (vp_cell _ _)
    rw [hx, zArr_exI]
    intro i hi
    exact hg _ (by omega) (by omega)
  | k + 3 => exact hP (k + 3) q hk
theorem zRp_e9 {n : Nat} {a b c : zT} (h : zE9 a b) (q : zRp n a c) : zRp n b c := ⟨fun k h1 h2 => (q.1 k h1 h2).trans (h 11 k (by decide) (by decide)), fun f i h1 h2 => (q.2 f i h1 h2).trans (h f i (by omega) (by omega))⟩
theorem s_X4_run (l : Launch) (G : zG) (ad : Nat → Nat) (na : Nat → Nat → Nat) (ma : Nat → Nat) (hd : zTd ad na ma) (S : zSg) (hS : zOk S) (x : Int32) : zMi l G (zAll ad na ma) yX4_run wsX4_run 6 136 [.ref (ma 0), .int x] (zCP G ad na ma S) (zRnR S x) (zCP G ad na ma (zRnS S x)) := by
  refine z_lift (A := zAll ad na ma) (fun H hH => ?_) (fun _ h => h)
  obtain ⟨π, T, n, g, τ, fl, h1, h2, h3, h4, h5, h6⟩ := hH
  obtain rfl := h2.n
  have h6 := zNA_g (fun j a b => h2.g a b) h6
  have h2 : zSm S.1 (S.1.1, S.1.2.1, τ) := ⟨rfl, fun _ _ _ => rfl, h2.2.2⟩
  have p := p_X4_run l G ad na ma hd π h1 S.2.1 hS.2.1 fl T S.1.1 hS.1.1 S.1.2.1 τ hS.1.2.1 hS.1.2.2.1 S.1.2.2 h2.2.2 hS.1.2.2.2.1 x
  obtain ⟨e1, e2, -⟩ := zPf_Pm (g := S.1.2.1) hS.1.1 (zE9.rf (τ := S.1.2.2)) hS.1.2.2.2.2 x.toNatClampNeg
  have ec : zCa S.1.1 τ = zLv S.1.1 S.1.2.2 := h2.ca hS.1.2.2.2.2
  rw [ec, e1] at p
  refine ⟨_, _, h6, p, fun H1 _ _ q => ?_⟩
  unfold zRnS
  by_cases c : ¬ (¬ x < 1 ∧ ¬ 50 < x)
  · rw [if_pos c] at q ⊢
    exact ⟨π, T, S.1.1, S.1.2.1, τ, fl, h1, h2, h3, h4, h5, q⟩
  · rw [if_neg c] at q ⊢
    by_cases c2 : zLv S.1.1 S.1.2.2 = 0
    · rw [if_pos c2] at q ⊢
      exact ⟨π, T, S.1.1, S.1.2.1, τ, fl, h1, h2, h3, h4, h5, q⟩
    · rw [if_neg c2] at q ⊢
      obtain ⟨τ2, q1, q2⟩ := q
      exact zCP_push (τ2 := τ2) hS h1 h2 h3 h4 h5 ⟨rfl, fun _ _ _ => rfl, zRp_e9 e2 q1⟩ q2
