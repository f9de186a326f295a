/-! ===== addSensor ===== -/
theorem zRp_add {n : Nat} {a b : zT} (h : zRp n a b) (x y w : Int32) : zRp (n + 1) (zNs a n x y w) (zPlc b n x y w) := by
  have key : ∀ f i, (f = 11 ∧ 9 ≤ i ∧ i < 15) ∨ (f < 9 ∧ i < n + 1) → zPlc b n x y w f i = zNs a n x y w f i := by
    intro f i q
    unfold zPlc zNs zBr
    simp only [zSt_ap]
    by_cases e : i = n
    · subst e
      rcases q with q | q
      · have := h.1 i q.2.1 q.2.2
        have h1 := q.1
        subst h1
        simp [this]
      · have cs : f = 0 ∨ f = 1 ∨ f = 2 ∨ f = 3 ∨ f = 4 ∨ f = 5 ∨ f = 6 ∨ f = 7 ∨ f = 8 := by omega
        rcases cs with rfl | rfl | rfl | rfl | rfl | rfl | rfl | rfl | rfl <;> simp
    · have hb : b f i = a f i := by
        rcases q with q | q
        · rw [q.1]
          exact h.1 i q.2.1 q.2.2
        · exact h.2 f i q.1 (by omega)
      simp [e, hb]
  exact ⟨fun k h1 h2 => key 11 k (Or.inl ⟨rfl, h1, h2⟩), fun f i h1 h2 => key f i (Or.inr ⟨h1, h2⟩)⟩
def zAdS (S : zSg) (x y b : Int32) : zSg := if ¬ zC3 x y b then S else if S.1.1 = 12 then S else zPu S (S.1.1 + 1, S.1.2.1, zNs S.1.2.2 S.1.1 x y b)
def zAdR (S : zSg) (x y b : Int32) : Int32 := if ¬ zC3 x y b then -1 else if S.1.1 = 12 then -3 else nI S.1.1
theorem zNs_9 (a : zT) (n : Nat) (x y b : Int32) : zNs a n x y b 11 9 = a 11 9 := by
  unfold zNs
  simp [zSt_ap]
theorem zNs_3 (a : zT) (n : Nat) (x y b : Int32) (i : Nat) : zNs a n x y b 3 i = if i = n then 1 else a 3 i := by
  unfold zNs
  simp [zSt_ap]
theorem zAd_ok {S : zSg} (hS : zOk S) (x y b : Int32) : zOk (zAdS S x y b) := by
  unfold zAdS
  split
  · exact hS
  · split
    · exact hS
    · rename_i c
      have hn := hS.1.1
      refine zPu_ok hS ⟨by show S.1.1 + 1 ≤ 12; omega, hS.1.2.1, hS.1.2.2.1, ?_, fun i hi => ?_⟩
      · show 0 ≤ zNs S.1.2.2 S.1.1 x y b 11 9
        rw [zNs_9]
        exact hS.1.2.2.2.1
      · have hi : i < S.1.1 + 1 := hi
        show zNs S.1.2.2 S.1.1 x y b 3 i = 0 ∨ zNs S.1.2.2 S.1.1 x y b 3 i = 1
        rw [zNs_3]
        by_cases e : i = S.1.1
        · rw [if_pos e]
          exact Or.inr rfl
        · rw [if_neg e]
          exact hS.1.2.2.2.2 i (by omega)
theorem s_X4_addSensor (l : Launch) (G : zG) (ad : Nat → Nat) (na : Nat → Nat → Nat) (ma : Nat → Nat) (hd : zTd ad na ma) (S : zSg) (hS : zOk S) (x y b : Int32) : zMi l G (zAll ad na ma) yX4_addSensor wsX4_addSensor 3 64 [.ref (ma 0), .int x, .int y, .int b] (zCP G ad na ma S) (zAdR S x y b) (zCP G ad na ma (zAdS S x y b)) := by
  refine z_lift (A := zAll ad na ma) (fun H hH => ?_) (fun _ h => h)
  obtain ⟨π, T, n, g, τ, fl, h1, h2, h3, h4, h5, h6⟩ := hH
  obtain rfl := h2.n
  refine ⟨_, _, h6, p_X4_addSensor l G ad na ma hd π h1 S.2.1 hS.2.1 fl T S.1.1 hS.1.1 g τ x y b, fun H1 _ _ q => ?_⟩
  unfold zAdS
  by_cases c : ¬ zC3 x y b
  · rw [if_pos c] at q ⊢
    exact ⟨π, T, S.1.1, g, τ, fl, h1, h2, h3, h4, h5, q⟩
  · rw [if_neg c] at q ⊢
    by_cases c2 : S.1.1 = 12
    · rw [if_pos c2] at q ⊢
      exact ⟨π, T, S.1.1, g, τ, fl, h1, h2, h3, h4, h5, q⟩
    · rw [if_neg c2] at q ⊢
      exact zCP_push (τ2 := zPlc τ S.1.1 x y b) (n2 := S.1.1 + 1) hS h1 h2 h3 h4 h5 ⟨rfl, h2.2.1, zRp_add h2.2.2 x y b⟩ q
theorem s_X5_addSensor (l : Launch) (G : zG) (A : Nat → Prop) (am : Nat → Nat) (hA : zAm G am A) (S : zSg) (hS : zOk S) (x y b : Int32) : zMi l G A yX5_addSensor wsX5_addSensor 1 23 [.ref (am 0), .int x, .int y, .int b] (zRP G am S) (zAdR S x y b) (zRP G am (zAdS S x y b)) := by
  refine z_lift (A := A) (fun H hH => ?_) (fun _ h => h)
  obtain ⟨th, cp, hf, sl, sv, h1, h2, h3⟩ := hH
  refine ⟨_, _, h3, p_X5_addSensor l G A am hA th cp hf S.2.1 hS.2.1 sl sv S.1.1 hS.1.1 S.1.2.1 S.1.2.2 x y b, fun H1 _ _ q => ?_⟩
  unfold zAdS
  by_cases c : ¬ zC3 x y b
  · rw [if_pos c] at q ⊢
    exact ⟨0, cp, hf, sl, sv, h1, h2, q⟩
  · rw [if_neg c] at q ⊢
    by_cases c2 : S.1.1 = 12
    · rw [if_pos c2] at q ⊢
      exact ⟨0, cp, hf, sl, sv, h1, h2, q⟩
    · rw [if_neg c2] at q ⊢
      exact zRP_push hS h1 h2 q
