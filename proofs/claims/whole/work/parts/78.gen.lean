/-! ===== setGenerator ===== -/
theorem zRp.stt {n : Nat} {a b : zT} (h : zRp n a b) (f i : Nat) {v w : Int32} (hv : w = v) : zRp n (zSt a f i v) (zSt b f i w) := by
  subst hv
  refine ⟨fun k h1 h2 => ?_, fun f2 i2 h1 h2 => ?_⟩
  · rw [zSt_ap, zSt_ap, h.1 k h1 h2]
  · rw [zSt_ap, zSt_ap, h.2 f2 i2 h1 h2]
def zGnS (S : zSg) (x : Int32) : zSg := if x < 0 then S else zPu S (S.1.1, S.1.2.1, zSt S.1.2.2 11 9 x)
def zGnR (S : zSg) (x : Int32) : Int32 := if x < 0 then -1 else S.1.2.2 11 10
theorem zGn_ok {S : zSg} (hS : zOk S) (x : Int32) : zOk (zGnS S x) := by
  unfold zGnS
  split
  · exact hS
  · rename_i c
    refine zPu_ok hS ⟨hS.1.1, hS.1.2.1, hS.1.2.2.1, ?_, fun i hi => ?_⟩
    · show 0 ≤ (zSt S.1.2.2 11 9 x) 11 9
      rw [zSt_self]
      exact Int32.not_lt.mp c
    · show (zSt S.1.2.2 11 9 x) 3 i = 0 ∨ (zSt S.1.2.2 11 9 x) 3 i = 1
      rw [zSt_nf _ _ _ _ (by decide)]
      exact hS.1.2.2.2.2 i hi
theorem s_X4_setGenerator (l : Launch) (G : zG) (ad : Nat → Nat) (na : Nat → Nat → Nat) (ma : Nat → Nat) (hd : zTd ad na ma) (S : zSg) (hS : zOk S) (x : Int32) : zMi l G (zAll ad na ma) yX4_setGenerator wsX4_setGenerator 3 64 [.ref (ma 0), .int x] (zCP G ad na ma S) (zGnR S x) (zCP G ad na ma (zGnS S x)) := by
  refine z_lift (A := zAll ad na ma) (fun H hH => ?_) (fun _ h => h)
  obtain ⟨π, T, n, g, τ, fl, h1, h2, h3, h4, h5, h6⟩ := hH
  have p := p_X4_setGenerator l G ad na ma hd π h1 S.2.1 hS.2.1 fl T n (h2.n ▸ hS.1.1) g τ x
  have er : (if x < 0 then -1 else τ 11 10) = zGnR S x := by
    unfold zGnR
    rw [h2.k (by decide) (by decide)]
  rw [er] at p
  refine ⟨_, _, h6, p, fun H1 _ _ q => ?_⟩
  unfold zGnS
  by_cases c : x < 0
  · rw [if_pos c] at q ⊢
    exact ⟨π, T, n, g, τ, fl, h1, h2, h3, h4, h5, q⟩
  · rw [if_neg c] at q ⊢
    exact zCP_push (τ2 := zSt τ 11 9 x) hS h1 h2 h3 h4 h5 ⟨h2.1, h2.2.1, h2.2.2.stt 11 9 rfl⟩ q
theorem s_X5_setGenerator (l : Launch) (G : zG) (A : Nat → Prop) (am : Nat → Nat) (hA : zAm G am A) (S : zSg) (hS : zOk S) (x : Int32) : zMi l G A yX5_setGenerator wsX5_setGenerator 1 21 [.ref (am 0), .int x] (zRP G am S) (zGnR S x) (zRP G am (zGnS S x)) := by
  refine z_lift (A := A) (fun H hH => ?_) (fun _ h => h)
  obtain ⟨th, cp, hf, sl, sv, h1, h2, h3⟩ := hH
  refine ⟨_, _, h3, p_X5_setGenerator l G A am hA th cp hf S.2.1 hS.2.1 sl sv S.1.1 hS.1.1 S.1.2.1 S.1.2.2 x, fun H1 _ _ q => ?_⟩
  unfold zGnS
  by_cases c : x < 0
  · rw [if_pos c] at q ⊢
    exact ⟨0, cp, hf, sl, sv, h1, h2, q⟩
  · rw [if_neg c] at q ⊢
    exact zRP_push hS h1 h2 q
