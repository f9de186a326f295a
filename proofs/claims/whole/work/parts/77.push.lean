/-! ===== calls that push ===== -/
/-- behind a push, with the new current state t -/
def zPu (S : zSg) (t : zS3) : zSg := (t, zKd S.2.1 + 1, zHp S.2.1 S.1 S.2.2.1, S.2.2.2.1, S.2.2.2.2)
theorem zPu_ok {S : zSg} {t : zS3} (hS : zOk S) (ht : zGd t) : zOk (zPu S t) := by
  have hk := zKd_lt hS.2.1
  refine ⟨ht, by show zKd S.2.1 + 1 ≤ 6; omega, fun i hi => ?_, hS.2.2.2⟩
  have hi : i < zKd S.2.1 + 1 := hi
  have hkd : zKd S.2.1 = if S.2.1 = 6 then 5 else S.2.1 := rfl
  show zGd (zHp S.2.1 S.1 S.2.2.1 i)
  unfold zHp
  by_cases e : i = zKd S.2.1
  · rw [if_pos e]
    exact hS.1
  · rw [if_neg e]
    by_cases e6 : S.2.1 = 6
    · rw [if_pos e6] at hkd
      rw [if_pos e6]
      exact hS.2.2.1 _ (by omega)
    · rw [if_neg e6] at hkd
      rw [if_neg e6]
      exact hS.2.2.1 _ (by omega)
theorem zCP_push {G : zG} {ad : Nat → Nat} {na : Nat → Nat → Nat} {ma : Nat → Nat} {S : zSg} {t : zS3} {π : Nat → Nat} {T : Nat → zS3} {n n2 : Nat} {g g2 : Nat → Int32} {τ τ2 : zT} {fl : Nat → Int32} {H : Heap} (hS : zOk S) (hπ : zPi π) (hc : zSm S.1 (n, g, τ)) (hh : ∀ i, i < S.2.1 → zSm (S.2.2.1 i) (T (π i))) (hf : ∀ x, x < 2 → fl x = S.2.2.2.1 x ∧ (¬ S.2.2.2.1 x = 0 → zSm (S.2.2.2.2 x) (T (8 + x)))) (hT : ∀ j, 1 ≤ j → j < 10 → (T j).1 ≤ 12) (ht : zSm t (n2, g2, τ2))
    (hN : zNA G ad n2 12 g2 (zRest G ad na ma (zPp S.2.1 π) (zPd2 S.2.1 + 1) fl (va_up T ((zPp S.2.1 π) (zPd2 S.2.1)) (zCpy n g τ (T ((zPp S.2.1 π) (zPd2 S.2.1)))))) τ2 H) : zCP G ad na ma (zPu S t) H := by
  have hk := zKd_lt hS.2.1
  have hp := zPp_pi (d := S.2.1) hπ
  have hr := hp.1 (zPd2 S.2.1) (by rw [zKd_P hS.2.1]; exact hk)
  refine ⟨zPp S.2.1 π, _, n2, g2, τ2, fl, hp, ht, zSm_push hS.2.1 hπ hc hh, fun x hx => ⟨(hf x hx).1, fun q => ?_⟩, fun j h1 h10 => ?_, ?_⟩
  · rw [va_up_ne _ _ (by omega)]
    exact (hf x hx).2 q
  · by_cases e : j = (zPp S.2.1 π) (zPd2 S.2.1)
    · rw [e, va_up_self]
      have := hc.n
      show n ≤ 12
      rw [this]
      exact hS.1.1
    · rw [va_up_ne _ _ e]
      exact hT j h1 h10
  · show zNA G ad n2 12 g2 (zRest G ad na ma (zPp S.2.1 π) (zKd S.2.1 + 1) fl _) τ2 H
    rw [← zKd_P hS.2.1]
    exact hN
theorem zRP_push {G : zG} {am : Nat → Nat} {S : zSg} {t : zS3} {th : Int32} {cp hf sl sv : Nat → Int32} {H : Heap} (hS : zOk S) (h1 : ∀ i, i < S.2.1 → zBk hf (123 * i) (S.2.2.1 i)) (h2 : ∀ x, x < 2 → sv x = S.2.2.2.1 x ∧ (¬ S.2.2.2.1 x = 0 → zBk sl (123 * x) (S.2.2.2.2 x)))
    (hM : zMP G am (th, cp, (zKf S.2.1 (zMA S.1.1 S.1.2.1 S.1.2.2) hf), nI (zKd S.2.1 + 1), sl, sv) t.1 t.2.1 t.2.2 H) : zRP G am (zPu S t) H := ⟨th, cp, _, sl, sv, zBk_push hS.2.1 h1, h2, hM⟩
/-- moveBase -/
def zMvS (S : zSg) (x y : Int32) : zSg := if ¬ ((¬ x < 0 ∧ ¬ 199 < x) ∧ (¬ y < 0 ∧ ¬ 199 < y)) then S else zPu S (S.1.1, upd (upd S.1.2.1 1 x) 2 y, S.1.2.2)
def zMvR (S : zSg) (x y : Int32) : Int32 := if ¬ ((¬ x < 0 ∧ ¬ 199 < x) ∧ (¬ y < 0 ∧ ¬ 199 < y)) then -1 else 200 * S.1.2.1 1 + S.1.2.1 2
theorem zMv_ok {S : zSg} (hS : zOk S) (x y : Int32) : zOk (zMvS S x y) := by
  unfold zMvS
  split
  · exact hS
  · exact zPu_ok hS ⟨hS.1.1, hS.1.2.1, hS.1.2.2.1, hS.1.2.2.2⟩
theorem s_X4_moveBase (l : Launch) (G : zG) (ad : Nat → Nat) (na : Nat → Nat → Nat) (ma : Nat → Nat) (hd : zTd ad na ma) (S : zSg) (hS : zOk S) (x y : Int32) : zMi l G (zAll ad na ma) yX4_moveBase wsX4_moveBase 3 64 [.ref (ma 0), .int x, .int y] (zCP G ad na ma S) (zMvR S x y) (zCP G ad na ma (zMvS S x y)) := by
  refine z_lift (A := zAll ad na ma) (fun H hH => ?_) (fun _ h => h)
  obtain ⟨π, T, n, g, τ, fl, h1, h2, h3, h4, h5, h6⟩ := hH
  have p := p_X4_moveBase l G ad na ma hd π h1 S.2.1 hS.2.1 fl T n (h2.n ▸ hS.1.1) g τ x y
  have er : (if ¬ ((¬ x < 0 ∧ ¬ 199 < x) ∧ (¬ y < 0 ∧ ¬ 199 < y)) then -1 else 200 * g 1 + g 2) = zMvR S x y := by
    unfold zMvR
    rw [h2.g (j := 1) (by decide) (by decide), h2.g (j := 2) (by decide) (by decide)]
  rw [er] at p
  refine ⟨_, _, h6, p, fun H1 _ _ q => ?_⟩
  unfold zMvS
  by_cases c : ¬ ((¬ x < 0 ∧ ¬ 199 < x) ∧ (¬ y < 0 ∧ ¬ 199 < y))
  · rw [if_pos c] at q ⊢
    exact ⟨π, T, n, g, τ, fl, h1, h2, h3, h4, h5, q⟩
  · rw [if_neg c] at q ⊢
    refine zCP_push (g2 := upd (upd g 1 x) 2 y) hS h1 h2 h3 h4 h5 ⟨h2.1, fun j a b => ?_, h2.2.2⟩ q
    show upd (upd g 1 x) 2 y j = upd (upd S.1.2.1 1 x) 2 y j
    unfold upd
    rw [h2.g a b]
theorem s_X5_moveBase (l : Launch) (G : zG) (A : Nat → Prop) (am : Nat → Nat) (hA : zAm G am A) (S : zSg) (hS : zOk S) (x y : Int32) : zMi l G A yX5_moveBase wsX5_moveBase 1 22 [.ref (am 0), .int x, .int y] (zRP G am S) (zMvR S x y) (zRP G am (zMvS S x y)) := by
  refine z_lift (A := A) (fun H hH => ?_) (fun _ h => h)
  obtain ⟨th, cp, hf, sl, sv, h1, h2, h3⟩ := hH
  refine ⟨_, _, h3, p_X5_moveBase l G A am hA th cp hf S.2.1 hS.2.1 sl sv S.1.1 hS.1.1 S.1.2.1 S.1.2.2 x y, fun H1 _ _ q => ?_⟩
  unfold zMvS
  by_cases c : ¬ ((¬ x < 0 ∧ ¬ 199 < x) ∧ (¬ y < 0 ∧ ¬ 199 < y))
  · rw [if_pos c] at q ⊢
    exact ⟨0, cp, hf, sl, sv, h1, h2, q⟩
  · rw [if_neg c] at q ⊢
    exact zRP_push hS h1 h2 q
