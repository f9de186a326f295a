/-! ===== the class's picture over a known state: the current network, the depth, the saved ones ===== -/
/-- what holds of every state that a run of calls meets -/
def zGd (t : zS3) : Prop := t.1 ≤ 12 ∧ 0 < t.2.1 3 ∧ 0 < t.2.1 5 ∧ 0 ≤ t.2.2 11 9
/-- the class's exact network t2 stands for the state t -/
def zSm (t t2 : zS3) : Prop := t2.1 = t.1 ∧ (∀ j, 1 ≤ j → j < 9 → t2.2.1 j = t.2.1 j) ∧ zRp t.1 t.2.2 t2.2.2
theorem zSm.cpy {n : Nat} {g : Nat → Int32} {τ : zT} {t : zS3} (h : zSm t (n, g, τ)) (u : zS3) : zSm t (zCpy n g τ u) := by
  obtain ⟨h1, h2, h3⟩ := h
  have h1 : n = t.1 := h1
  subst h1
  exact ⟨rfl, h2, h3.cpy u⟩
theorem zSm.n {t : zS3} {n : Nat} {g : Nat → Int32} {τ : zT} (h : zSm t (n, g, τ)) : n = t.1 := h.1
theorem zSm.k {t : zS3} {n : Nat} {g : Nat → Int32} {τ : zT} (h : zSm t (n, g, τ)) {k : Nat} (h1 : 9 ≤ k) (h2 : k < 15) : τ 11 k = t.2.2 11 k := h.2.2.1 k h1 h2
theorem zSm.f {t : zS3} {n : Nat} {g : Nat → Int32} {τ : zT} (h : zSm t (n, g, τ)) {f i : Nat} (h1 : f < 9) (h2 : i < t.1) : τ f i = t.2.2 f i := h.2.2.2 f i h1 h2
theorem zSm.g {t : zS3} {n : Nat} {g : Nat → Int32} {τ : zT} (h : zSm t (n, g, τ)) {j : Nat} (h1 : 1 ≤ j) (h2 : j < 9) : g j = t.2.1 j := h.2.1 j h1 h2
def zKd (d : Nat) : Nat := if d = 6 then 5 else d
/-- the history behind a push -/
def zHp (d : Nat) (t : zS3) (hs : Nat → zS3) : Nat → zS3 := fun i => if i = zKd d then t else if d = 6 then hs (i + 1) else hs i
theorem zKd_P {d : Nat} (h : d ≤ 6) : zPd2 d = zKd d := by
  unfold zPd2 zKd
  by_cases e : d = 6
  · rw [if_neg (by omega), if_pos e]
  · rw [if_pos (by omega), if_neg e]
theorem zKd_lt {d : Nat} (h : d ≤ 6) : zKd d < 6 := by
  unfold zKd
  split <;> omega
theorem zSm_push {d : Nat} {π : Nat → Nat} {T : Nat → zS3} {hs : Nat → zS3} {t : zS3} {n : Nat} {g : Nat → Int32} {τ : zT} (hd : d ≤ 6) (hπ : zPi π) (hc : zSm t (n, g, τ)) (h : ∀ i, i < d → zSm (hs i) (T (π i))) : ∀ i, i < zKd d + 1 → zSm (zHp d t hs i) ((va_up T ((zPp d π) (zPd2 d)) (zCpy n g τ (T ((zPp d π) (zPd2 d))))) ((zPp d π) i)) := by
  intro i hi
  have hp := zPp_pi (d := d) hπ
  have hk := zKd_lt hd
  rw [zKd_P hd]
  unfold zHp
  by_cases e : i = zKd d
  · rw [if_pos e, e, va_up_self]
    exact hc.cpy _
  · rw [if_neg e, va_up_ne _ _ (fun q => e (hp.2 i (zKd d) (by omega) hk q))]
    have hkd : zKd d = if d = 6 then 5 else d := rfl
    unfold zPp
    by_cases e6 : d = 6
    · rw [if_pos e6] at hkd
      rw [if_pos e6, if_neg (by omega), zRot_at π (by omega), if_pos (by omega)]
      exact h (i + 1) (by omega)
    · rw [if_neg e6] at hkd
      rw [if_neg e6, if_pos (by omega)]
      exact h i (by omega)
/-- what is known: current, depth, history -/
abbrev zSg : Type := zS3 × Nat × (Nat → zS3)
def zOk (S : zSg) : Prop := zGd S.1 ∧ S.2.1 ≤ 6 ∧ (∀ i, i < S.2.1 → zGd (S.2.2 i))
/-- the class's picture -/
def zCP (G : zG) (ad : Nat → Nat) (na : Nat → Nat → Nat) (ma : Nat → Nat) (S : zSg) (H : Heap) : Prop := ∃ (π : Nat → Nat) (T : Nat → zS3) (n : Nat) (g : Nat → Int32) (τ : zT) (fl : Nat → Int32), zPi π ∧ zSm S.1 (n, g, τ) ∧ (∀ i, i < S.2.1 → zSm (S.2.2 i) (T (π i))) ∧ (∀ j, 1 ≤ j → j < 10 → (T j).1 ≤ 12) ∧ zNA G ad n 12 g (zRest G ad na ma π S.2.1 fl T) τ H
/-- behind a push, with the new current state t -/
def zPu (S : zSg) (t : zS3) : zSg := (t, zKd S.2.1 + 1, zHp S.2.1 S.1 S.2.2)
theorem zPu_ok {S : zSg} {t : zS3} (hS : zOk S) (ht : zGd t) : zOk (zPu S t) := by
  have hk := zKd_lt hS.2.1
  refine ⟨ht, by show zKd S.2.1 + 1 ≤ 6; omega, fun i hi => ?_⟩
  have hi : i < zKd S.2.1 + 1 := hi
  have hkd : zKd S.2.1 = if S.2.1 = 6 then 5 else S.2.1 := rfl
  show zGd (zHp S.2.1 S.1 S.2.2 i)
  unfold zHp
  by_cases e : i = zKd S.2.1
  · rw [if_pos e]
    exact hS.1
  · rw [if_neg e]
    by_cases e6 : S.2.1 = 6
    · rw [if_pos e6] at hkd
      rw [if_pos e6]
      exact hS.2.2 _ (by omega)
    · rw [if_neg e6] at hkd
      rw [if_neg e6]
      exact hS.2.2 _ (by omega)
theorem zCP_push {G : zG} {ad : Nat → Nat} {na : Nat → Nat → Nat} {ma : Nat → Nat} {S : zSg} {t : zS3} {π : Nat → Nat} {T : Nat → zS3} {n n2 : Nat} {g g2 : Nat → Int32} {τ τ2 : zT} {fl : Nat → Int32} {H : Heap} (hS : zOk S) (hπ : zPi π) (hc : zSm S.1 (n, g, τ)) (hh : ∀ i, i < S.2.1 → zSm (S.2.2 i) (T (π i))) (hT : ∀ j, 1 ≤ j → j < 10 → (T j).1 ≤ 12) (ht : zSm t (n2, g2, τ2))
    (hN : zNA G ad n2 12 g2 (zRest G ad na ma (zPp S.2.1 π) (zPd2 S.2.1 + 1) fl (va_up T ((zPp S.2.1 π) (zPd2 S.2.1)) (zCpy n g τ (T ((zPp S.2.1 π) (zPd2 S.2.1)))))) τ2 H) : zCP G ad na ma (zPu S t) H := by
  have hk := zKd_lt hS.2.1
  have hp := zPp_pi (d := S.2.1) hπ
  have hr := hp.1 (zPd2 S.2.1) (by rw [zKd_P hS.2.1]; exact hk)
  refine ⟨zPp S.2.1 π, _, n2, g2, τ2, fl, hp, ht, zSm_push hS.2.1 hπ hc hh, fun j h1 h10 => ?_, ?_⟩
  · by_cases e : j = (zPp S.2.1 π) (zPd2 S.2.1)
    · rw [e, va_up_self]
      have := hc.n
      show n ≤ 12
      rw [this]
      exact hS.1.1
    · rw [va_up_ne _ _ e]
      exact hT j h1 h10
  · show zNA G ad n2 12 g2 (zRest G ad na ma (zPp S.2.1 π) (zKd S.2.1 + 1) fl _) τ2 H
    rw [← zKd_P hS.2.1]
    exact hN
theorem zIt_cong {α : Type} {F K : Nat → α → α} {a : α} {n : Nat} (h : ∀ k b, k < n → F k b = K k b) : ∀ k, k ≤ n → zIt F k a = zIt K k a := by
  intro k
  induction k with
  | zero => exact fun _ => rfl
  | succ k ih =>
    intro hk
    rw [zIt_s, zIt_s, ih (by omega)]
    exact h k _ (by omega)
theorem zSm.ca {t : zS3} {n : Nat} {g : Nat → Int32} {τ : zT} (h : zSm t (n, g, τ)) : zCa n τ = zCa t.1 t.2.2 := by
  obtain rfl := h.n
  unfold zCa
  refine zIt_cong (fun k v hk => ?_) _ (Nat.le_refl _)
  unfold zCaS
  rw [h.f (by decide) hk]
theorem zSm.ph {t : zS3} {n : Nat} {g : Nat → Int32} {τ : zT} (h : zSm t (n, g, τ)) : zPh g τ = zPh t.2.1 t.2.2 := by
  unfold zPh
  rw [h.k (by decide) (by decide), h.g (j := 3) (by decide) (by decide)]
theorem zIdx {n : Nat} {x : Int32} (hn : n ≤ 12) (h : ¬ x < 0 ∧ x < nI n) : x.toNatClampNeg < n := by
  obtain ⟨j, hj, rfl⟩ := nI_of h.1
  have h2 := (nI_ltI (by exact hj) (by omega)).mp h.2
  rw [nI_clamp (by exact hj)]
  exact h2
theorem zIxn {n k : Nat} (hn : n ≤ 12) (hk : k < n) : ¬ nI k < 0 ∧ nI k < nI n := ⟨nI_pos (by omega), nI_lt hk (by omega)⟩
section ZASK
variable {l : Launch} {G : zG} {ad : Nat → Nat} {na : Nat → Nat → Nat} {ma : Nat → Nat} {A : Nat → Prop} {y : MethodName} {ws : List Cond} {fr lo : Nat} {av : List Value} {r : Int32}
theorem zGetC {S : zSg} (hc : ∀ (π : Nat → Nat) (T : Nat → zS3) (n : Nat) (g : Nat → Int32) (τ : zT) (fl : Nat → Int32), zPi π → zSm S.1 (n, g, τ) → ∃ r2 : Int32, r2 = r ∧ zMi l G (zAll ad na ma) y ws fr lo av (zNA G ad n 12 g (zRest G ad na ma π S.2.1 fl T) τ) r2 (zNA G ad n 12 g (zRest G ad na ma π S.2.1 fl T) τ)) : zMi l G (zAll ad na ma) y ws fr lo av (zCP G ad na ma S) r (zCP G ad na ma S) := by
  refine z_lift (A := zAll ad na ma) (fun H hH => ?_) (fun _ h => h)
  obtain ⟨π, T, n, g, τ, fl, h1, h2, h3, h5, h6⟩ := hH
  obtain ⟨r2, rfl, hm⟩ := hc π T n g τ fl h1 h2
  exact ⟨_, _, h6, hm, fun H1 _ _ q => ⟨π, T, n, g, τ, fl, h1, h2, h3, h5, q⟩⟩
end ZASK
theorem zRr {l : Launch} {G : zG} {A : Nat → Prop} {y : MethodName} {ws : List Cond} {fr lo : Nat} {av : List Value} {r : Int32} {P P2 : Heap → Prop} {q : Prop} (_ : q) (h : zMi l G A y ws fr lo av P r P2) : zMi l G A y ws fr lo av P r P2 := h
theorem zRi {l : Launch} {G : zG} {A : Nat → Prop} {y : MethodName} {ws : List Cond} {fr lo : Nat} {av : List Value} {r : Int32} {P P2 : Heap → Prop} {c : Prop} [Decidable c] (h : zMi l G A y ws fr lo av P r (if c then P2 else P2)) : zMi l G A y ws fr lo av P r P2 := by rwa [ite_self] at h
theorem zRb {l : Launch} {G : zG} {A : Nat → Prop} {y : MethodName} {ws : List Cond} {fr lo : Nat} {av : List Value} {r r2 : Int32} {P P2 : Heap → Prop} (e : r = r2) (h : zMi l G A y ws fr lo av P r P2) : zMi l G A y ws fr lo av P r2 P2 := by rwa [e] at h
