/-! ===== setSetting ===== -/
theorem z_liftT {l : Launch} {G : zG} {A : Nat → Prop} {y : MethodName} {ws : List Cond} {fr lo : Nat} {av : List Value} {r : Int32} {P' P2' : Heap → Prop} (h : ∀ H : Heap, P' H → ∃ P P2 : Heap → Prop, P H ∧ zMiT l G A y ws fr lo av P r P2 ∧ ∀ H1 : Heap, H.size ≤ H1.size → (∀ q, q < H.size → ¬ A q → H1[q]? = H[q]?) → P2 H1 → P2' H1) : zMiT l G A y ws fr lo av P' r P2' := by
  intro p e ha hc hk s m args below hf happ hp hk'
  obtain ⟨⟨hav, hP, hK⟩, hT⟩ := hp
  obtain ⟨P, P2, h1, h2, h3⟩ := h s.heap hP
  obtain ⟨n, o, w1, w2, w3, ⟨⟨r1, u, e1, e2, hB⟩, hF⟩, L, hL, hfr⟩ := h2 p e ha hc hk s m args below hf happ ⟨⟨hav, h1, hK⟩, hT⟩ hk'
  exact ⟨n, o, w1, w2, w3, ⟨⟨r1, u, e1, e2, h3 _ hF.1 hF.2 hB.1, hB.2⟩, hF⟩, L, hL, hfr⟩
def zSsS (S : zSg) (x v : Int32) : zSg := if zSvB x v = 0 then S else if S.1.2.1 (3 + x.toNatClampNeg) = v then S else zPu S (S.1.1, upd S.1.2.1 (3 + x.toNatClampNeg) v, S.1.2.2)
def zSsR (S : zSg) (x v : Int32) : Int32 := if zSvB x v = 0 then -1 else if S.1.2.1 (3 + x.toNatClampNeg) = v then -2 else S.1.2.1 (3 + x.toNatClampNeg)
theorem zSs_ok {S : zSg} (hS : zOk S) (x v : Int32) : zOk (zSsS S x v) := by
  unfold zSsS
  split
  · exact hS
  · rename_i c
    split
    · exact hS
    · have c2 := (zSv_iff x v).mp c
      obtain ⟨j, hj, rfl⟩ := zSvB_of c
      have ej : (nI j).toNatClampNeg = j := nI_clamp (by omega)
      rw [ej] at c2 ⊢
      refine zPu_ok hS ⟨hS.1.1, ?_, ?_, hS.1.2.2.2⟩
      · show 0 < upd S.1.2.1 (3 + j) v 3
        unfold upd
        by_cases e : 3 = 3 + j
        · rw [if_pos e]
          obtain rfl : j = 0 := by omega
          exact Int32.lt_of_lt_of_le (show (0 : Int32) < 2 by decide) (Int32.not_lt.mp c2.2.1)
        · rw [if_neg e]
          exact hS.1.2.1
      · show 0 < upd S.1.2.1 (3 + j) v 5
        unfold upd
        by_cases e : 5 = 3 + j
        · rw [if_pos e]
          obtain rfl : j = 2 := by omega
          exact Int32.lt_of_lt_of_le (show (0 : Int32) < 1 by decide) (Int32.not_lt.mp c2.2.1)
        · rw [if_neg e]
          exact hS.1.2.2.1
theorem s_X5_setSetting (l : Launch) (G : zG) (A : Nat → Prop) (am : Nat → Nat) (hA : zAm G am A) (S : zSg) (hS : zOk S) (x v : Int32) : zMi l G A yX5_setSetting wsX5_setSetting 2 43 [.ref (am 0), .int x, .int v] (zRP G am S) (zSsR S x v) (zRP G am (zSsS S x v)) := by
  refine z_lift (A := A) (fun H hH => ?_) (fun _ h => h)
  obtain ⟨th, cp, hf, sl, sv, h1, h2, h3⟩ := hH
  refine ⟨_, _, h3, p_X5_setSetting l G A am hA th cp hf S.2.1 hS.2.1 sl sv S.1.1 hS.1.1 S.1.2.1 S.1.2.2 x v, fun H1 _ _ q => ?_⟩
  unfold zSsS
  by_cases c : zSvB x v = 0
  · rw [if_pos c] at q ⊢
    exact ⟨0, cp, hf, sl, sv, h1, h2, q⟩
  · rw [if_neg c] at q ⊢
    by_cases c2 : S.1.2.1 (3 + x.toNatClampNeg) = v
    · rw [if_pos c2] at q ⊢
      exact ⟨0, cp, hf, sl, sv, h1, h2, q⟩
    · rw [if_neg c2] at q ⊢
      exact zRP_push hS h1 h2 q
theorem zSsIf {α : Sort _} (x v : Int32) (a b : α) : (if ¬ (¬ x < 0 ∧ ¬ 5 < x) then a else if ¬ (¬ v < zLe x.toNatClampNeg ∧ ¬ zGr x.toNatClampNeg < v) then a else b) = if zSvB x v = 0 then a else b := by
  by_cases c : zSvB x v = 0
  · rw [if_pos c]
    by_cases h1 : ¬ x < 0 ∧ ¬ 5 < x
    · rw [if_neg (not_not_intro h1)]
      by_cases h2 : ¬ v < zLe x.toNatClampNeg ∧ ¬ zGr x.toNatClampNeg < v
      · exact absurd c ((zSv_iff x v).mpr ⟨h1, h2⟩)
      · rw [if_pos h2]
    · rw [if_pos h1]
  · have c2 := (zSv_iff x v).mp c
    rw [if_neg c, if_neg (not_not_intro c2.1), if_neg (not_not_intro c2.2)]
theorem s_X4_setSetting (l : Launch) (G : zG) (ad : Nat → Nat) (na : Nat → Nat → Nat) (ma : Nat → Nat) (hd : zTd ad na ma) (S : zSg) (hS : zOk S) (x v : Int32) : zMiT l G (zAll ad na ma) yX4_setSetting wsX4_setSetting 3 64 [.ref (ma 0), .int x, .int v] (zCP G ad na ma S) (zSsR S x v) (zCP G ad na ma (zSsS S x v)) := by
  refine z_liftT (fun H hH => ?_)
  obtain ⟨π, T, n, g, τ, fl, h1, h2, h3, h4, h5, h6⟩ := hH
  have p := p_X4_setSetting l G ad na ma hd π h1 S.2.1 hS.2.1 fl T n (h2.n ▸ hS.1.1) g τ x v
  rw [zSsIf, zSsIf] at p
  have eg : ¬ zSvB x v = 0 → g (3 + x.toNatClampNeg) = S.1.2.1 (3 + x.toNatClampNeg) := fun c => by
    obtain ⟨j, hj, rfl⟩ := zSvB_of c
    rw [nI_clamp (by omega)]
    exact h2.g (by omega) (by omega)
  have er : (if zSvB x v = 0 then -1 else if v = g (3 + x.toNatClampNeg) then -2 else g (3 + x.toNatClampNeg)) = zSsR S x v := by
    unfold zSsR
    by_cases c : zSvB x v = 0
    · rw [if_pos c, if_pos c]
    · rw [if_neg c, if_neg c, eg c]
      by_cases c2 : S.1.2.1 (3 + x.toNatClampNeg) = v
      · rw [if_pos c2, if_pos c2.symm]
      · rw [if_neg c2, if_neg (fun q => c2 q.symm)]
  rw [er] at p
  refine ⟨_, _, h6, p, fun H1 _ _ q => ?_⟩
  unfold zSsS
  by_cases c : zSvB x v = 0
  · rw [if_pos c] at q ⊢
    exact ⟨π, T, n, g, τ, fl, h1, h2, h3, h4, h5, q⟩
  · rw [if_neg c] at q ⊢
    by_cases c2 : S.1.2.1 (3 + x.toNatClampNeg) = v
    · rw [if_pos c2]
      rw [if_pos (show v = g (3 + x.toNatClampNeg) from (eg c ▸ c2.symm))] at q
      exact ⟨π, T, n, g, τ, fl, h1, h2, h3, h4, h5, q⟩
    · rw [if_neg c2]
      rw [if_neg (show ¬ v = g (3 + x.toNatClampNeg) from fun z => c2 ((eg c).symm.trans z.symm))] at q
      refine zCP_push (g2 := upd g (3 + x.toNatClampNeg) v) hS h1 h2 h3 h4 h5 ⟨h2.1, fun j a b => ?_, h2.2.2⟩ q
      show upd g (3 + x.toNatClampNeg) v j = upd S.1.2.1 (3 + x.toNatClampNeg) v j
      unfold upd
      rw [h2.g a b]
