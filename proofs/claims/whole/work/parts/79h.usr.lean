/-! ===== undo, save, restore ===== -/
/-- the stored state t, as the current one behind the old one u -/
def zBc (t u : zS3) : zS3 := (t.1, t.2.1, zMx t.2.2 u.2.2)
theorem zBc_gd {t u : zS3} (h : zGd t) : zGd (zBc t u) := ⟨h.1, h.2.1, h.2.2.1, h.2.2.2.1, h.2.2.2.2⟩
theorem zSm.bc {t t2 : zS3} (h : zSm t t2) (u : zS3) (w : zT) : zSm (zBc t u) (t2.1, t2.2.1, zCpG t2.2.2 (zIt (zCpS t2.2.2) t2.1 w)) := zSm_mx (zSm.cpy (n := t2.1) (g := t2.2.1) (τ := t2.2.2) h (0, t2.2.1, w))
theorem zBk_cpy {hf σ : Nat → Int32} {o : Nat} {t : zS3} (h : zBk hf o t) : ∀ j, j < 123 → va_cpy hf σ o 0 123 j = zMA t.1 t.2.1 t.2.2 j := by
  intro j hj
  rw [← h j hj]
  unfold va_cpy
  rw [if_pos (by omega)]
  congr 1
def zUnS (S : zSg) : zSg := if S.2.1 = 0 then S else (zBc (S.2.2.1 (S.2.1 - 1)) S.1, S.2.1 - 1, S.2.2.1, S.2.2.2.1, S.2.2.2.2)
def zUnR (S : zSg) : Int32 := if S.2.1 = 0 then -2 else nI (S.2.1 - 1)
theorem zUn_ok {S : zSg} (hS : zOk S) : zOk (zUnS S) := by
  have := hS.2.1
  unfold zUnS
  split
  · exact hS
  · exact ⟨zBc_gd (hS.2.2.1 _ (by omega)), by show S.2.1 - 1 ≤ 6; omega, fun i hi => hS.2.2.1 i (by have hi : i < S.2.1 - 1 := hi; omega), hS.2.2.2⟩
theorem s_X4_undo (l : Launch) (G : zG) (ad : Nat → Nat) (na : Nat → Nat → Nat) (ma : Nat → Nat) (hd : zTd ad na ma) (S : zSg) (hS : zOk S) : zMi l G (zAll ad na ma) yX4_undo wsX4_undo 3 64 [.ref (ma 0)] (zCP G ad na ma S) (zUnR S) (zCP G ad na ma (zUnS S)) := by
  refine z_lift (A := zAll ad na ma) (fun H hH => ?_) (fun _ h => h)
  obtain ⟨π, T, n, g, τ, fl, h1, h2, h3, h4, h5, h6⟩ := hH
  have p := p_X4_undo l G ad na ma hd π h1 S.2.1 hS.2.1 fl T n (h2.n ▸ hS.1.1) g τ h5
  refine ⟨_, _, h6, p, fun H1 _ _ q => ?_⟩
  unfold zUnS
  by_cases c : S.2.1 = 0
  · rw [if_pos c] at q ⊢
    exact ⟨π, T, n, g, τ, fl, h1, h2, h3, h4, h5, q⟩
  · rw [if_neg c] at q ⊢
    exact ⟨π, T, _, _, _, fl, h1, (h3 _ (by omega)).bc _ _, fun i hi => h3 i (by have hi : i < S.2.1 - 1 := hi; omega), h4, h5, q⟩
theorem s_X5_undo (l : Launch) (G : zG) (A : Nat → Prop) (am : Nat → Nat) (hA : zAm G am A) (S : zSg) (hS : zOk S) : zMi l G A yX5_undo wsX5_undo 0 0 [.ref (am 0)] (zRP G am S) (zUnR S) (zRP G am (zUnS S)) := by
  refine z_lift (A := A) (fun H hH => ?_) (fun _ h => h)
  obtain ⟨th, cp, hf, sl, sv, h1, h2, h3⟩ := hH
  refine ⟨_, _, h3, p_X5_undo l G A am hA th cp hf S.2.1 hS.2.1 sl sv _ _ _, fun H1 _ _ q => ?_⟩
  unfold zUnS
  by_cases c : S.2.1 = 0
  · rw [if_pos c] at q ⊢
    exact ⟨0, cp, hf, sl, sv, h1, h2, q⟩
  · rw [if_neg c] at q ⊢
    exact ⟨0, cp, hf, sl, sv, fun i hi => h1 i (by have hi : i < S.2.1 - 1 := hi; omega), h2, zMQ.toP q (zBk_cpy (h1 _ (by omega)))⟩
def zSaS (S : zSg) (x : Int32) : zSg := if ¬ (¬ x < 0 ∧ ¬ 1 < x) then S else (S.1, S.2.1, S.2.2.1, upd S.2.2.2.1 x.toNatClampNeg 1, fun i => if i = x.toNatClampNeg then S.1 else S.2.2.2.2 i)
def zSaR (S : zSg) (x : Int32) : Int32 := if ¬ (¬ x < 0 ∧ ¬ 1 < x) then -1 else nI S.1.1
theorem zIx2 {x : Int32} (h : ¬ x < 0 ∧ ¬ 1 < x) : x.toNatClampNeg < 2 := by
  obtain ⟨j, hj, hj2, rfl⟩ := zLe_of (a := 0) (b := 1) (by omega) (by omega) h
  rw [nI_clamp (by omega)]
  omega
theorem zSa_ok {S : zSg} (hS : zOk S) (x : Int32) : zOk (zSaS S x) := by
  unfold zSaS
  split
  · exact hS
  · refine ⟨hS.1, hS.2.1, hS.2.2.1, fun y hy hz => ?_⟩
    have hz : ¬ upd S.2.2.2.1 x.toNatClampNeg 1 y = 0 := hz
    show zGd (if y = x.toNatClampNeg then S.1 else S.2.2.2.2 y)
    by_cases e : y = x.toNatClampNeg
    · rw [if_pos e]
      exact hS.1
    · rw [if_neg e]
      unfold upd at hz
      rw [if_neg e] at hz
      exact hS.2.2.2 y hy hz
theorem s_X4_save (l : Launch) (G : zG) (ad : Nat → Nat) (na : Nat → Nat → Nat) (ma : Nat → Nat) (hd : zTd ad na ma) (S : zSg) (hS : zOk S) (x : Int32) : zMi l G (zAll ad na ma) yX4_save wsX4_save 2 43 [.ref (ma 0), .int x] (zCP G ad na ma S) (zSaR S x) (zCP G ad na ma (zSaS S x)) := by
  refine z_lift (A := zAll ad na ma) (fun H hH => ?_) (fun _ h => h)
  obtain ⟨π, T, n, g, τ, fl, h1, h2, h3, h4, h5, h6⟩ := hH
  obtain rfl := h2.n
  have p := p_X4_save l G ad na ma hd π h1 S.2.1 hS.2.1 fl T S.1.1 hS.1.1 g τ h5 x
  refine ⟨_, _, h6, p, fun H1 _ _ q => ?_⟩
  unfold zSaS
  by_cases c : ¬ (¬ x < 0 ∧ ¬ 1 < x)
  · rw [if_pos c] at q ⊢
    exact ⟨π, T, S.1.1, g, τ, fl, h1, h2, h3, h4, h5, q⟩
  · rw [if_neg c] at q ⊢
    have hx := zIx2 (Decidable.of_not_not c)
    have hd6 := hS.2.1
    refine ⟨π, _, S.1.1, g, τ, _, h1, h2, fun i hi => ?_, fun y hy => ⟨?_, fun z => ?_⟩, fun j a b => ?_, q⟩
    · have hi : i < S.2.1 := hi
      have := h1.1 i (by omega)
      rw [va_up_ne _ _ (by omega)]
      exact h3 i hi
    · show upd fl x.toNatClampNeg 1 y = upd S.2.2.2.1 x.toNatClampNeg 1 y
      unfold upd
      rw [(h4 y hy).1]
    · have z : ¬ upd S.2.2.2.1 x.toNatClampNeg 1 y = 0 := z
      show zSm (if y = x.toNatClampNeg then S.1 else S.2.2.2.2 y) _
      by_cases e : y = x.toNatClampNeg
      · rw [if_pos e, e, va_up_self]
        exact h2.cpy _
      · rw [if_neg e, va_up_ne _ _ (by omega)]
        unfold upd at z
        rw [if_neg e] at z
        exact (h4 y hy).2 z
    · by_cases e : j = 8 + x.toNatClampNeg
      · rw [e, va_up_self]
        exact hS.1.1
      · rw [va_up_ne _ _ e]
        exact h5 j a b
theorem s_X5_save (l : Launch) (G : zG) (A : Nat → Prop) (am : Nat → Nat) (hA : zAm G am A) (S : zSg) (hS : zOk S) (x : Int32) : zMi l G A yX5_save wsX5_save 1 22 [.ref (am 0), .int x] (zRP G am S) (zSaR S x) (zRP G am (zSaS S x)) := by
  refine z_lift (A := A) (fun H hH => ?_) (fun _ h => h)
  obtain ⟨th, cp, hf, sl, sv, h1, h2, h3⟩ := hH
  refine ⟨_, _, h3, p_X5_save l G A am hA th cp hf S.2.1 hS.2.1 sl sv _ _ _ x, fun H1 _ _ q => ?_⟩
  unfold zSaS
  by_cases c : ¬ (¬ x < 0 ∧ ¬ 1 < x)
  · rw [if_pos c] at q ⊢
    exact ⟨0, cp, hf, sl, sv, h1, h2, q⟩
  · rw [if_neg c] at q ⊢
    have hx := zIx2 (Decidable.of_not_not c)
    refine ⟨0, cp, hf, _, _, h1, fun y hy => ⟨?_, fun z => ?_⟩, q⟩
    · show upd sv x.toNatClampNeg 1 y = upd S.2.2.2.1 x.toNatClampNeg 1 y
      unfold upd
      rw [(h2 y hy).1]
    · have z : ¬ upd S.2.2.2.1 x.toNatClampNeg 1 y = 0 := z
      show zBk _ _ (if y = x.toNatClampNeg then S.1 else S.2.2.2.2 y)
      intro j hj
      unfold va_cpy
      by_cases e : y = x.toNatClampNeg
      · rw [if_pos e, if_pos (by omega)]
        congr 1
        omega
      · rw [if_neg e, if_neg (by omega)]
        unfold upd at z
        rw [if_neg e] at z
        exact (h2 y hy).2 z j hj
def zReS (S : zSg) (x : Int32) : zSg := if ¬ (¬ x < 0 ∧ ¬ 1 < x) then S else if S.2.2.2.1 x.toNatClampNeg = 0 then S else (zBc (S.2.2.2.2 x.toNatClampNeg) S.1, 0, S.2.2.1, S.2.2.2.1, S.2.2.2.2)
def zReR (S : zSg) (x : Int32) : Int32 := if ¬ (¬ x < 0 ∧ ¬ 1 < x) then -1 else if S.2.2.2.1 x.toNatClampNeg = 0 then -2 else nI (S.2.2.2.2 x.toNatClampNeg).1
theorem zRe_ok {S : zSg} (hS : zOk S) (x : Int32) : zOk (zReS S x) := by
  unfold zReS
  by_cases c : ¬ (¬ x < 0 ∧ ¬ 1 < x)
  · rw [if_pos c]
    exact hS
  · rw [if_neg c]
    by_cases c2 : S.2.2.2.1 x.toNatClampNeg = 0
    · rw [if_pos c2]
      exact hS
    · rw [if_neg c2]
      exact ⟨zBc_gd (hS.2.2.2 _ (zIx2 (Decidable.of_not_not c)) c2), Nat.zero_le 6, fun i hi => absurd hi (Nat.not_lt_zero i), hS.2.2.2⟩
theorem s_X4_restore (l : Launch) (G : zG) (ad : Nat → Nat) (na : Nat → Nat → Nat) (ma : Nat → Nat) (hd : zTd ad na ma) (S : zSg) (hS : zOk S) (x : Int32) : zMi l G (zAll ad na ma) yX4_restore wsX4_restore 2 43 [.ref (ma 0), .int x] (zCP G ad na ma S) (zReR S x) (zCP G ad na ma (zReS S x)) := by
  refine z_lift (A := zAll ad na ma) (fun H hH => ?_) (fun _ h => h)
  obtain ⟨π, T, n, g, τ, fl, h1, h2, h3, h4, h5, h6⟩ := hH
  have p := p_X4_restore l G ad na ma hd π h1 S.2.1 hS.2.1 fl T n (h2.n ▸ hS.1.1) g τ h5 x
  have er : (if ¬ (¬ x < 0 ∧ ¬ 1 < x) then -1 else (if fl x.toNatClampNeg = 0 then -2 else nI (T (8 + x.toNatClampNeg)).1)) = zReR S x := by
    unfold zReR
    by_cases c : ¬ (¬ x < 0 ∧ ¬ 1 < x)
    · rw [if_pos c, if_pos c]
    · have hx := zIx2 (Decidable.of_not_not c)
      rw [if_neg c, if_neg c, (h4 _ hx).1]
      by_cases c2 : S.2.2.2.1 x.toNatClampNeg = 0
      · rw [if_pos c2, if_pos c2]
      · rw [if_neg c2, if_neg c2, ((h4 _ hx).2 c2).1]
  rw [er] at p
  refine ⟨_, _, h6, p, fun H1 _ _ q => ?_⟩
  unfold zReS
  by_cases c : ¬ (¬ x < 0 ∧ ¬ 1 < x)
  · rw [if_pos c] at q ⊢
    exact ⟨π, T, n, g, τ, fl, h1, h2, h3, h4, h5, q⟩
  · rw [if_neg c] at q ⊢
    have hx := zIx2 (Decidable.of_not_not c)
    rw [(h4 _ hx).1] at q
    by_cases c2 : S.2.2.2.1 x.toNatClampNeg = 0
    · rw [if_pos c2] at q ⊢
      exact ⟨π, T, n, g, τ, fl, h1, h2, h3, h4, h5, q⟩
    · rw [if_neg c2] at q ⊢
      exact ⟨π, T, _, _, _, fl, h1, ((h4 _ hx).2 c2).bc _ _, fun i hi => absurd hi (Nat.not_lt_zero i), h4, h5, q⟩
theorem s_X5_restore (l : Launch) (G : zG) (A : Nat → Prop) (am : Nat → Nat) (hA : zAm G am A) (S : zSg) (hS : zOk S) (x : Int32) : zMi l G A yX5_restore wsX5_restore 1 22 [.ref (am 0), .int x] (zRP G am S) (zReR S x) (zRP G am (zReS S x)) := by
  refine z_lift (A := A) (fun H hH => ?_) (fun _ h => h)
  obtain ⟨th, cp, hf, sl, sv, h1, h2, h3⟩ := hH
  have p := p_X5_restore l G A am hA th cp hf S.2.1 hS.2.1 sl sv (zMA S.1.1 S.1.2.1 S.1.2.2) (zEr S.1.2.2) (S.1.2.2 9) x
  have er : (if ¬ (¬ x < 0 ∧ ¬ 1 < x) then -1 else (if sv x.toNatClampNeg = 0 then -2 else sl (123 * x.toNatClampNeg))) = zReR S x := by
    unfold zReR
    by_cases c : ¬ (¬ x < 0 ∧ ¬ 1 < x)
    · rw [if_pos c, if_pos c]
    · have hx := zIx2 (Decidable.of_not_not c)
      rw [if_neg c, if_neg c, (h2 _ hx).1]
      by_cases c2 : S.2.2.2.1 x.toNatClampNeg = 0
      · rw [if_pos c2, if_pos c2]
      · rw [if_neg c2, if_neg c2]
        exact (h2 _ hx).2 c2 0 (by decide)
  rw [er] at p
  refine ⟨_, _, h3, p, fun H1 _ _ q => ?_⟩
  unfold zReS
  by_cases c : ¬ (¬ x < 0 ∧ ¬ 1 < x)
  · rw [if_pos c] at q ⊢
    exact ⟨0, cp, hf, sl, sv, h1, h2, q⟩
  · rw [if_neg c] at q ⊢
    have hx := zIx2 (Decidable.of_not_not c)
    rw [(h2 _ hx).1] at q
    by_cases c2 : S.2.2.2.1 x.toNatClampNeg = 0
    · rw [if_pos c2] at q ⊢
      exact ⟨0, cp, hf, sl, sv, h1, h2, q⟩
    · rw [if_neg c2] at q ⊢
      exact ⟨0, cp, hf, sl, sv, fun i hi => absurd hi (Nat.not_lt_zero i), h2, zMQ.toP q (zBk_cpy ((h2 _ hx).2 c2))⟩
