/-! ===== copies between the reference's arrays ===== -/
theorem zCp_0 (f g : Nat → Int32) (sp dp : Nat) : va_cpy f g sp dp 0 = g := by
  funext j
  unfold va_cpy
  rw [if_neg (by omega)]
theorem zCp_s (f g : Nat → Int32) (sp dp k : Nat) : upd (va_cpy f g sp dp k) (dp + k) (f (sp + k)) = va_cpy f g sp dp (k + 1) := by
  funext j
  unfold upd va_cpy
  by_cases h : j = dp + k
  · rw [if_pos h, if_pos (by omega), h, show dp + k - dp = k by omega]
  · rw [if_neg h]
    by_cases h2 : dp ≤ j ∧ j < dp + k
    · rw [if_pos h2, if_pos (by omega)]
    · rw [if_neg h2, if_neg (by omega)]
theorem zCp_s0 (f g : Nat → Int32) (k : Nat) : upd (va_cpy f g 0 0 k) k (f k) = va_cpy f g 0 0 (k + 1) := by
  have := zCp_s f g 0 0 k
  rwa [Nat.zero_add] at this
theorem zCp_s1 (f g : Nat → Int32) (sp k : Nat) : upd (va_cpy f g sp 0 k) k (f (sp + k)) = va_cpy f g sp 0 (k + 1) := by
  have := zCp_s f g sp 0 k
  rwa [Nat.zero_add] at this
theorem zCp_s2 (f g : Nat → Int32) (dp k : Nat) : upd (va_cpy f g 0 dp k) (dp + k) (f k) = va_cpy f g 0 dp (k + 1) := by
  have := zCp_s f g 0 dp k
  rwa [Nat.zero_add] at this
theorem zCp_sh (f : Nat → Int32) (sp k : Nat) : upd (va_cpy f f sp 0 k) k (va_cpy f f sp 0 k (sp + k)) = va_cpy f f sp 0 (k + 1) := by
  have e : va_cpy f f sp 0 k (sp + k) = f (sp + k) := by
    unfold va_cpy
    split
    · rename_i h
      exact absurd h.2 (by omega)
    · rfl
  rw [e]
  exact zCp_s1 f f sp k
theorem zCell_ext {cA : ClassId} {len : Nat} {f g : Nat → Int32} (h : ∀ j, j < len → f j = g j) : vp_cell cA (len, .inl f) = vp_cell cA (len, .inl g) := by
  rw [vp_cell_i, vp_cell_i]
  unfold arrV
  congr 2
  funext j
  exact congrArg Value.int (h j.1 j.2)
theorem zMQ_ext {G : zG} {ad : Nat → Nat} {Y : zY} {σ σ2 el wi : Nat → Int32} {H : Heap} (h : zMQ G ad Y σ el wi H) (h2 : ∀ j, j < 123 → σ j = σ2 j) : zMQ G ad Y σ2 el wi H := by
  intro k q hk
  match k, hk with
  | 0, hk => exact h 0 q hk
  | 1, hk =>
    cases hk
    have := h 1 _ rfl
    show H[ad 1]? = _
    exact this.trans (congrArg some (zCell_ext h2))
  | 2, hk => exact h 2 q hk
  | 3, hk => exact h 3 q hk
  | 4, hk => exact h 4 q hk
  | 5, hk => exact h 5 q hk
  | 6, hk => exact h 6 q hk
  | 7, hk => exact h 7 q hk
  | k + 8, hk => simp [zMW] at hk
/-- a kept state beside the readings and elected of now -/
def zMx (τ1 τ : zT) : zT := fun f i => if f = 9 ∨ f = 10 then τ f i else τ1 f i
theorem zMx_MA (n : Nat) (g : Nat → Int32) (τ1 τ : zT) : zMA n g (zMx τ1 τ) = zMA n g τ1 := by
  funext j
  unfold zMA zMx
  by_cases hj : j < 15
  · simp [hj]
  · rw [if_neg hj, if_neg hj, if_neg (by omega)]
theorem zMx_Er (τ1 τ : zT) : zEr (zMx τ1 τ) = zEr τ := by
  funext i
  simp [zEr, zMx]
theorem zMx_9 (τ1 τ : zT) : (zMx τ1 τ) 9 = τ 9 := by
  funext i
  simp [zMx]
theorem zMx_e9 (τ1 τ : zT) : zE9 (zMx τ1 τ) τ1 := fun f i h9 h10 => by simp [zMx, h9, h10]
theorem zMQ.toP {G : zG} {ad : Nat → Nat} {Y : zY} {σ : Nat → Int32} {τ : zT} {H : Heap} (h : zMQ G ad Y σ (zEr τ) (τ 9) H) {n1 : Nat} {g1 : Nat → Int32} {τ1 : zT} (h2 : ∀ j, j < 123 → σ j = zMA n1 g1 τ1 j) : zMP G ad Y n1 g1 (zMx τ1 τ) H := by
  have := zMQ_ext h h2
  unfold zMP
  rw [zMx_MA, zMx_Er, zMx_9]
  exact this
def zKd (d : Nat) : Nat := if d = 6 then 5 else d
def zKf (d : Nat) (σ hf : Nat → Int32) : Nat → Int32 := va_cpy σ (if d = 6 then va_cpy hf hf 123 0 615 else hf) 0 (123 * zKd d) 123
