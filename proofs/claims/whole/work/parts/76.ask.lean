/-! ===== calls that only ask, over the common state ===== -/
section ZASK
variable {l : Launch} {G : zG} {ad : Nat → Nat} {na : Nat → Nat → Nat} {ma : Nat → Nat} {am : Nat → Nat} {A : Nat → Prop} {y : MethodName} {ws : List Cond} {fr lo : Nat} {av : List Value} {r : Int32}
theorem zGetC {S : zSg} (hc : ∀ (π : Nat → Nat) (T : Nat → zS3) (n : Nat) (g : Nat → Int32) (τ : zT) (fl : Nat → Int32), zPi π → zSm S.1 (n, g, τ) → ∃ r2 : Int32, r2 = r ∧ zMi l G (zAll ad na ma) y ws fr lo av (zNA G ad n 12 g (zRest G ad na ma π S.2.1 fl T) τ) r2 (zNA G ad n 12 g (zRest G ad na ma π S.2.1 fl T) τ)) : zMi l G (zAll ad na ma) y ws fr lo av (zCP G ad na ma S) r (zCP G ad na ma S) := by
  refine z_lift (A := zAll ad na ma) (fun H hH => ?_) (fun _ h => h)
  obtain ⟨π, T, n, g, τ, fl, h1, h2, h3, h4, h5, h6⟩ := hH
  obtain ⟨r2, rfl, hm⟩ := hc π T n g τ fl h1 h2
  exact ⟨_, _, h6, hm, fun H1 _ _ q => ⟨π, T, n, g, τ, fl, h1, h2, h3, h4, h5, q⟩⟩
theorem zGetR {S : zSg} (hc : ∀ (th : Int32) (cp hf sl sv : Nat → Int32), ∃ (r2 : Int32) (th2 : Int32), r2 = r ∧ zMi l G A y ws fr lo av (zMP G am (th, cp, hf, nI S.2.1, sl, sv) S.1.1 S.1.2.1 S.1.2.2) r2 (zMP G am (th2, cp, hf, nI S.2.1, sl, sv) S.1.1 S.1.2.1 S.1.2.2)) : zMi l G A y ws fr lo av (zRP G am S) r (zRP G am S) := by
  refine z_lift (A := A) (fun H hH => ?_) (fun _ h => h)
  obtain ⟨th, cp, hf, sl, sv, h1, h2, h3⟩ := hH
  obtain ⟨r2, th2, rfl, hm⟩ := hc th cp hf sl sv
  exact ⟨_, _, h3, hm, fun H1 _ _ q => ⟨th2, cp, hf, sl, sv, h1, h2, q⟩⟩
end ZASK
theorem zSm.n {t : zS3} {n : Nat} {g : Nat → Int32} {τ : zT} (h : zSm t (n, g, τ)) : n = t.1 := h.1
theorem zSm.k {t : zS3} {n : Nat} {g : Nat → Int32} {τ : zT} (h : zSm t (n, g, τ)) {k : Nat} (h1 : 9 ≤ k) (h2 : k < 15) : τ 11 k = t.2.2 11 k := h.2.2.1 k h1 h2
theorem zSm.f {t : zS3} {n : Nat} {g : Nat → Int32} {τ : zT} (h : zSm t (n, g, τ)) {f i : Nat} (h1 : f < 9) (h2 : i < t.1) : τ f i = t.2.2 f i := h.2.2.2 f i h1 h2
theorem zSm.g {t : zS3} {n : Nat} {g : Nat → Int32} {τ : zT} (h : zSm t (n, g, τ)) {j : Nat} (h1 : 1 ≤ j) (h2 : j < 9) : g j = t.2.1 j := h.2.1 j h1 h2
theorem zBit_bi {v : Int32} (h : v = 0 ∨ v = 1) : zBi (v = 1) = v := by
  rcases h with h | h <;> (rw [h]; decide)
theorem zSm.ca {t : zS3} {n : Nat} {g : Nat → Int32} {τ : zT} (h : zSm t (n, g, τ)) (hb : zBit t.1 t.2.2) : zCa n τ = zLv t.1 t.2.2 := by
  obtain rfl := h.n
  unfold zCa zLv
  refine zIt_cong (fun k v hk => ?_) _ (Nat.le_refl _)
  unfold zCaS zLvS
  rw [h.f (by decide) hk]
  rcases hb k hk with e | e
  · rw [e, if_neg (by decide)]
    exact (Int32.add_zero v).symm
  · rw [e, if_pos rfl]
theorem zIdx {n : Nat} {x : Int32} (hn : n ≤ 12) (h : ¬ x < 0 ∧ x < nI n) : x.toNatClampNeg < n := by
  obtain ⟨j, hj, rfl⟩ := nI_of h.1
  have h2 := (nI_ltI (by exact hj) (by omega)).mp h.2
  rw [nI_clamp (by exact hj)]
  exact h2
theorem zVlC {t : zS3} {n : Nat} {g : Nat → Int32} {τ : zT} (h : zSm t (n, g, τ)) (hG : zGd t) (x : Int32) {f : Nat} (hf : f < 9) : (if ¬ (¬ x < 0 ∧ x < nI n) then -1 else τ f x.toNatClampNeg) = zVl t.1 t.2.2 x f := by
  obtain rfl := h.n
  unfold zVl
  by_cases c : ¬ x < 0 ∧ x < nI t.1
  · rw [if_neg (fun q => q c), if_pos c]
    exact h.f hf (zIdx hG.1 c)
  · rw [if_pos c, if_neg c]
theorem zVlA {t : zS3} {n : Nat} {g : Nat → Int32} {τ : zT} (h : zSm t (n, g, τ)) (hG : zGd t) (x : Int32) : (if ¬ (¬ x < 0 ∧ x < nI n) then -1 else zBi (τ 3 x.toNatClampNeg = 1)) = zVl t.1 t.2.2 x 3 := by
  obtain rfl := h.n
  unfold zVl
  by_cases c : ¬ x < 0 ∧ x < nI t.1
  · have hi := zIdx hG.1 c
    rw [if_neg (fun q => q c), if_pos c, h.f (by decide) hi]
    exact zBit_bi (hG.2.2.2.2 _ hi)
  · rw [if_pos c, if_neg c]
theorem zRr {l : Launch} {G : zG} {A : Nat → Prop} {y : MethodName} {ws : List Cond} {fr lo : Nat} {av : List Value} {r : Int32} {P P2 : Heap → Prop} {q : Prop} (_ : q) (h : zMi l G A y ws fr lo av P r P2) : zMi l G A y ws fr lo av P r P2 := h
theorem zRi {l : Launch} {G : zG} {A : Nat → Prop} {y : MethodName} {ws : List Cond} {fr lo : Nat} {av : List Value} {r : Int32} {P P2 : Heap → Prop} {c : Prop} [Decidable c] (h : zMi l G A y ws fr lo av P r (if c then P2 else P2)) : zMi l G A y ws fr lo av P r P2 := by rwa [ite_self] at h
theorem zRi2 {l : Launch} {G : zG} {A : Nat → Prop} {y : MethodName} {ws : List Cond} {fr lo : Nat} {av : List Value} {r : Int32} {P P2 : Heap → Prop} {c d : Prop} [Decidable c] [Decidable d] (h : zMi l G A y ws fr lo av P r (if c then P2 else if d then P2 else P2)) : zMi l G A y ws fr lo av P r P2 := by rwa [ite_self, ite_self] at h
theorem zSm.ph {t : zS3} {n : Nat} {g : Nat → Int32} {τ : zT} (h : zSm t (n, g, τ)) : zPh g τ = zPh t.2.1 t.2.2 := by
  unfold zPh
  rw [h.k (by decide) (by decide), h.g (j := 3) (by decide) (by decide)]
theorem zElC {t : zS3} {n : Nat} {g : Nat → Int32} {τ : zT} (h : zSm t (n, g, τ)) (hG : zGd t) (x : Int32) : (if ¬ (¬ x < 0 ∧ x < nI n) then -1 else zBi (τ 3 x.toNatClampNeg = 1 ∧ (τ 4 x.toNatClampNeg = 1 ∨ zPh g τ = 0))) = (if ¬ (¬ x < 0 ∧ x < nI t.1) then -1 else zBi (t.2.2 3 x.toNatClampNeg = 1 ∧ (t.2.2 4 x.toNatClampNeg = 1 ∨ zPh t.2.1 t.2.2 = 0))) := by
  have hph := h.ph
  obtain rfl := h.n
  by_cases c : ¬ x < 0 ∧ x < nI t.1
  · have hi := zIdx hG.1 c
    rw [if_neg (fun q => q c), if_neg (fun q => q c)]
    have e3 : τ 3 x.toNatClampNeg = t.2.2 3 x.toNatClampNeg := h.f (by decide) hi
    have e4 : τ 4 x.toNatClampNeg = t.2.2 4 x.toNatClampNeg := h.f (by decide) hi
    have hph : zPh g τ = zPh t.2.1 t.2.2 := hph
    exact zBi_iff (by rw [e3, e4, hph])
  · rw [if_pos c, if_pos c]
theorem zScC {t : zS3} {n : Nat} {g : Nat → Int32} {τ : zT} (h : zSm t (n, g, τ)) (hG : zGd t) (x y : Int32) : (if ¬ ((¬ x < 0 ∧ x < nI n) ∧ (y = -9 ∨ (¬ y < 0 ∧ y < nI n)) ∧ ¬ x = y) then -1 else if y = -9 then zCo g (zDb g τ x.toNatClampNeg) else zCo g (zDs τ x.toNatClampNeg y.toNatClampNeg)) = (if ¬ ((¬ x < 0 ∧ x < nI t.1) ∧ (y = -9 ∨ (¬ y < 0 ∧ y < nI t.1)) ∧ ¬ x = y) then -1 else if y = -9 then zCo t.2.1 (zDb t.2.1 t.2.2 x.toNatClampNeg) else zCo t.2.1 (zDs t.2.2 x.toNatClampNeg y.toNatClampNeg)) := by
  have g1 := h.g (j := 1) (by decide) (by decide)
  have g2 := h.g (j := 2) (by decide) (by decide)
  have g4 := h.g (j := 4) (by decide) (by decide)
  have g5 := h.g (j := 5) (by decide) (by decide)
  obtain rfl := h.n
  by_cases c : (¬ x < 0 ∧ x < nI t.1) ∧ (y = -9 ∨ (¬ y < 0 ∧ y < nI t.1)) ∧ ¬ x = y
  · have hi := zIdx hG.1 c.1
    have c2 := not_not_intro c
    rw [if_neg c2, if_neg c2]
    have e0 : τ 0 x.toNatClampNeg = t.2.2 0 x.toNatClampNeg := h.f (by decide) hi
    have e1 : τ 1 x.toNatClampNeg = t.2.2 1 x.toNatClampNeg := h.f (by decide) hi
    unfold zCo zDb zDs
    by_cases c9 : y = -9
    · rw [if_pos c9, if_pos c9, e0, e1, g1, g2, g4, g5]
    · have hj := zIdx hG.1 (c.2.1.resolve_left c9)
      have f0 : τ 0 y.toNatClampNeg = t.2.2 0 y.toNatClampNeg := h.f (by decide) hj
      have f1 : τ 1 y.toNatClampNeg = t.2.2 1 y.toNatClampNeg := h.f (by decide) hj
      rw [if_neg c9, if_neg c9, e0, e1, f0, f1, g4, g5]
  · rw [if_pos c, if_pos c]
theorem s_X4_roundNumber (l : Launch) (G : zG) (ad : Nat → Nat) (na : Nat → Nat → Nat) (ma : Nat → Nat) (hd : zTd ad na ma) (S : zSg) (hS : zOk S) : zMi l G (zAll ad na ma) yX4_roundNumber wsX4_roundNumber 0 0 [.ref (ma 0)] (zCP G ad na ma S) (S.1.2.2 11 10) (zCP G ad na ma S) :=
  zGetC (fun π T n g τ fl hπ hm => ⟨_, hm.k (by decide) (by decide), zRr trivial (p_X4_roundNumber l G ad na ma hd π hπ S.2.1 hS.2.1 fl T n (hm.n ▸ hS.1.1) g τ)⟩)
theorem s_X5_roundNumber (l : Launch) (G : zG) (A : Nat → Prop) (am : Nat → Nat) (hA : zAm G am A) (S : zSg) (hS : zOk S) : zMi l G A yX5_roundNumber wsX5_roundNumber 0 0 [.ref (am 0)] (zRP G am S) (S.1.2.2 11 10) (zRP G am S) :=
  zGetR (fun th cp hf sl sv => ⟨_, 0, rfl, p_X5_roundNumber l G A am hA th cp hf S.2.1 hS.2.1 sl sv S.1.1 hS.1.1 S.1.2.1 S.1.2.2⟩)
theorem s_X4_headCount (l : Launch) (G : zG) (ad : Nat → Nat) (na : Nat → Nat → Nat) (ma : Nat → Nat) (hd : zTd ad na ma) (S : zSg) (hS : zOk S) : zMi l G (zAll ad na ma) yX4_headCount wsX4_headCount 0 0 [.ref (ma 0)] (zCP G ad na ma S) (S.1.2.2 11 11) (zCP G ad na ma S) :=
  zGetC (fun π T n g τ fl hπ hm => ⟨_, hm.k (by decide) (by decide), zRr trivial (p_X4_headCount l G ad na ma hd π hπ S.2.1 hS.2.1 fl T n (hm.n ▸ hS.1.1) g τ)⟩)
theorem s_X5_headCount (l : Launch) (G : zG) (A : Nat → Prop) (am : Nat → Nat) (hA : zAm G am A) (S : zSg) (hS : zOk S) : zMi l G A yX5_headCount wsX5_headCount 0 0 [.ref (am 0)] (zRP G am S) (S.1.2.2 11 11) (zRP G am S) :=
  zGetR (fun th cp hf sl sv => ⟨_, 0, rfl, p_X5_headCount l G A am hA th cp hf S.2.1 hS.2.1 sl sv S.1.1 hS.1.1 S.1.2.1 S.1.2.2⟩)
theorem s_X4_lastDelivered (l : Launch) (G : zG) (ad : Nat → Nat) (na : Nat → Nat → Nat) (ma : Nat → Nat) (hd : zTd ad na ma) (S : zSg) (hS : zOk S) : zMi l G (zAll ad na ma) yX4_lastDelivered wsX4_lastDelivered 0 0 [.ref (ma 0)] (zCP G ad na ma S) (S.1.2.2 11 12) (zCP G ad na ma S) :=
  zGetC (fun π T n g τ fl hπ hm => ⟨_, hm.k (by decide) (by decide), zRr trivial (p_X4_lastDelivered l G ad na ma hd π hπ S.2.1 hS.2.1 fl T n (hm.n ▸ hS.1.1) g τ)⟩)
theorem s_X5_lastDelivered (l : Launch) (G : zG) (A : Nat → Prop) (am : Nat → Nat) (hA : zAm G am A) (S : zSg) (hS : zOk S) : zMi l G A yX5_lastDelivered wsX5_lastDelivered 0 0 [.ref (am 0)] (zRP G am S) (S.1.2.2 11 12) (zRP G am S) :=
  zGetR (fun th cp hf sl sv => ⟨_, 0, rfl, p_X5_lastDelivered l G A am hA th cp hf S.2.1 hS.2.1 sl sv S.1.1 hS.1.1 S.1.2.1 S.1.2.2⟩)
theorem s_X4_deliveredTotal (l : Launch) (G : zG) (ad : Nat → Nat) (na : Nat → Nat → Nat) (ma : Nat → Nat) (hd : zTd ad na ma) (S : zSg) (hS : zOk S) : zMi l G (zAll ad na ma) yX4_deliveredTotal wsX4_deliveredTotal 0 0 [.ref (ma 0)] (zCP G ad na ma S) (S.1.2.2 11 13) (zCP G ad na ma S) :=
  zGetC (fun π T n g τ fl hπ hm => ⟨_, hm.k (by decide) (by decide), zRr trivial (p_X4_deliveredTotal l G ad na ma hd π hπ S.2.1 hS.2.1 fl T n (hm.n ▸ hS.1.1) g τ)⟩)
theorem s_X5_deliveredTotal (l : Launch) (G : zG) (A : Nat → Prop) (am : Nat → Nat) (hA : zAm G am A) (S : zSg) (hS : zOk S) : zMi l G A yX5_deliveredTotal wsX5_deliveredTotal 0 0 [.ref (am 0)] (zRP G am S) (S.1.2.2 11 13) (zRP G am S) :=
  zGetR (fun th cp hf sl sv => ⟨_, 0, rfl, p_X5_deliveredTotal l G A am hA th cp hf S.2.1 hS.2.1 sl sv S.1.1 hS.1.1 S.1.2.1 S.1.2.2⟩)
theorem s_X4_energyPaid (l : Launch) (G : zG) (ad : Nat → Nat) (na : Nat → Nat → Nat) (ma : Nat → Nat) (hd : zTd ad na ma) (S : zSg) (hS : zOk S) : zMi l G (zAll ad na ma) yX4_energyPaid wsX4_energyPaid 0 0 [.ref (ma 0)] (zCP G ad na ma S) (S.1.2.2 11 14) (zCP G ad na ma S) :=
  zGetC (fun π T n g τ fl hπ hm => ⟨_, hm.k (by decide) (by decide), zRr trivial (p_X4_energyPaid l G ad na ma hd π hπ S.2.1 hS.2.1 fl T n (hm.n ▸ hS.1.1) g τ)⟩)
theorem s_X5_energyPaid (l : Launch) (G : zG) (A : Nat → Prop) (am : Nat → Nat) (hA : zAm G am A) (S : zSg) (hS : zOk S) : zMi l G A yX5_energyPaid wsX5_energyPaid 0 0 [.ref (am 0)] (zRP G am S) (S.1.2.2 11 14) (zRP G am S) :=
  zGetR (fun th cp hf sl sv => ⟨_, 0, rfl, p_X5_energyPaid l G A am hA th cp hf S.2.1 hS.2.1 sl sv S.1.1 hS.1.1 S.1.2.1 S.1.2.2⟩)
theorem s_X4_sensorCount (l : Launch) (G : zG) (ad : Nat → Nat) (na : Nat → Nat → Nat) (ma : Nat → Nat) (hd : zTd ad na ma) (S : zSg) (hS : zOk S) : zMi l G (zAll ad na ma) yX4_sensorCount wsX4_sensorCount 0 0 [.ref (ma 0)] (zCP G ad na ma S) (nI S.1.1) (zCP G ad na ma S) :=
  zGetC (fun π T n g τ fl hπ hm => ⟨_, (by rw [hm.n]), zRr trivial (p_X4_sensorCount l G ad na ma hd π hπ S.2.1 hS.2.1 fl T n (hm.n ▸ hS.1.1) g τ)⟩)
theorem s_X5_sensorCount (l : Launch) (G : zG) (A : Nat → Prop) (am : Nat → Nat) (hA : zAm G am A) (S : zSg) (hS : zOk S) : zMi l G A yX5_sensorCount wsX5_sensorCount 0 0 [.ref (am 0)] (zRP G am S) (nI S.1.1) (zRP G am S) :=
  zGetR (fun th cp hf sl sv => ⟨_, 0, rfl, p_X5_sensorCount l G A am hA th cp hf S.2.1 hS.2.1 sl sv S.1.1 hS.1.1 S.1.2.1 S.1.2.2⟩)
theorem s_X4_undoDepth (l : Launch) (G : zG) (ad : Nat → Nat) (na : Nat → Nat → Nat) (ma : Nat → Nat) (hd : zTd ad na ma) (S : zSg) (hS : zOk S) : zMi l G (zAll ad na ma) yX4_undoDepth wsX4_undoDepth 0 0 [.ref (ma 0)] (zCP G ad na ma S) (nI S.2.1) (zCP G ad na ma S) :=
  zGetC (fun π T n g τ fl hπ hm => ⟨_, rfl, zRr trivial (p_X4_undoDepth l G ad na ma hd π hπ S.2.1 hS.2.1 fl T n (hm.n ▸ hS.1.1) g τ)⟩)
theorem s_X5_undoDepth (l : Launch) (G : zG) (A : Nat → Prop) (am : Nat → Nat) (hA : zAm G am A) (S : zSg) (hS : zOk S) : zMi l G A yX5_undoDepth wsX5_undoDepth 0 0 [.ref (am 0)] (zRP G am S) (nI S.2.1) (zRP G am S) :=
  zGetR (fun th cp hf sl sv => ⟨_, 0, rfl, p_X5_undoDepth l G A am hA th cp hf S.2.1 hS.2.1 sl sv S.1.1 hS.1.1 S.1.2.1 S.1.2.2⟩)
theorem s_X4_aliveCount (l : Launch) (G : zG) (ad : Nat → Nat) (na : Nat → Nat → Nat) (ma : Nat → Nat) (hd : zTd ad na ma) (S : zSg) (hS : zOk S) : zMi l G (zAll ad na ma) yX4_aliveCount wsX4_aliveCount 1 22 [.ref (ma 0)] (zCP G ad na ma S) (zLv S.1.1 S.1.2.2) (zCP G ad na ma S) :=
  zGetC (fun π T n g τ fl hπ hm => ⟨_, hm.ca hS.1.2.2.2.2, zRr trivial (p_X4_aliveCount l G ad na ma hd π hπ S.2.1 hS.2.1 fl T n (hm.n ▸ hS.1.1) g τ)⟩)
theorem s_X5_aliveCount (l : Launch) (G : zG) (A : Nat → Prop) (am : Nat → Nat) (hA : zAm G am A) (S : zSg) (hS : zOk S) : zMi l G A yX5_aliveCount wsX5_aliveCount 2 44 [.ref (am 0)] (zRP G am S) (zLv S.1.1 S.1.2.2) (zRP G am S) :=
  zGetR (fun th cp hf sl sv => ⟨_, 0, rfl, p_X5_aliveCount l G A am hA th cp hf S.2.1 hS.2.1 sl sv S.1.1 hS.1.1 S.1.2.1 S.1.2.2⟩)
theorem s_X4_isAlive (l : Launch) (G : zG) (ad : Nat → Nat) (na : Nat → Nat → Nat) (ma : Nat → Nat) (hd : zTd ad na ma) (S : zSg) (hS : zOk S) (x : Int32) : zMi l G (zAll ad na ma) yX4_isAlive wsX4_isAlive 1 21 [.ref (ma 0), .int x] (zCP G ad na ma S) (zVl S.1.1 S.1.2.2 x 3) (zCP G ad na ma S) :=
  zGetC (fun π T n g τ fl hπ hm => ⟨_, zVlA hm hS.1 x, zRi (p_X4_isAlive l G ad na ma hd π hπ S.2.1 hS.2.1 fl T n (hm.n ▸ hS.1.1) g τ x)⟩)
theorem s_X5_isAlive (l : Launch) (G : zG) (A : Nat → Prop) (am : Nat → Nat) (hA : zAm G am A) (S : zSg) (hS : zOk S) (x : Int32) : zMi l G A yX5_isAlive wsX5_isAlive 3 65 [.ref (am 0), .int x] (zRP G am S) (zVl S.1.1 S.1.2.2 x 3) (zRP G am S) :=
  zGetR (fun th cp hf sl sv => ⟨_, 0, rfl, p_X5_isAlive l G A am hA th cp hf S.2.1 hS.2.1 sl sv S.1.1 hS.1.1 S.1.2.1 S.1.2.2 x⟩)
theorem s_X4_battery (l : Launch) (G : zG) (ad : Nat → Nat) (na : Nat → Nat → Nat) (ma : Nat → Nat) (hd : zTd ad na ma) (S : zSg) (hS : zOk S) (x : Int32) : zMi l G (zAll ad na ma) yX4_battery wsX4_battery 1 21 [.ref (ma 0), .int x] (zCP G ad na ma S) (zVl S.1.1 S.1.2.2 x 2) (zCP G ad na ma S) :=
  zGetC (fun π T n g τ fl hπ hm => ⟨_, zVlC hm hS.1 x (by decide), zRi (p_X4_battery l G ad na ma hd π hπ S.2.1 hS.2.1 fl T n (hm.n ▸ hS.1.1) g τ x)⟩)
theorem s_X5_battery (l : Launch) (G : zG) (A : Nat → Prop) (am : Nat → Nat) (hA : zAm G am A) (S : zSg) (hS : zOk S) (x : Int32) : zMi l G A yX5_battery wsX5_battery 3 65 [.ref (am 0), .int x] (zRP G am S) (zVl S.1.1 S.1.2.2 x 2) (zRP G am S) :=
  zGetR (fun th cp hf sl sv => ⟨_, 0, rfl, p_X5_battery l G A am hA th cp hf S.2.1 hS.2.1 sl sv S.1.1 hS.1.1 S.1.2.1 S.1.2.2 x⟩)
theorem s_X4_headRounds (l : Launch) (G : zG) (ad : Nat → Nat) (na : Nat → Nat → Nat) (ma : Nat → Nat) (hd : zTd ad na ma) (S : zSg) (hS : zOk S) (x : Int32) : zMi l G (zAll ad na ma) yX4_headRounds wsX4_headRounds 1 21 [.ref (ma 0), .int x] (zCP G ad na ma S) (zVl S.1.1 S.1.2.2 x 5) (zCP G ad na ma S) :=
  zGetC (fun π T n g τ fl hπ hm => ⟨_, zVlC hm hS.1 x (by decide), zRi (p_X4_headRounds l G ad na ma hd π hπ S.2.1 hS.2.1 fl T n (hm.n ▸ hS.1.1) g τ x)⟩)
theorem s_X5_headRounds (l : Launch) (G : zG) (A : Nat → Prop) (am : Nat → Nat) (hA : zAm G am A) (S : zSg) (hS : zOk S) (x : Int32) : zMi l G A yX5_headRounds wsX5_headRounds 3 65 [.ref (am 0), .int x] (zRP G am S) (zVl S.1.1 S.1.2.2 x 5) (zRP G am S) :=
  zGetR (fun th cp hf sl sv => ⟨_, 0, rfl, p_X5_headRounds l G A am hA th cp hf S.2.1 hS.2.1 sl sv S.1.1 hS.1.1 S.1.2.1 S.1.2.2 x⟩)
theorem s_X4_deathRound (l : Launch) (G : zG) (ad : Nat → Nat) (na : Nat → Nat → Nat) (ma : Nat → Nat) (hd : zTd ad na ma) (S : zSg) (hS : zOk S) (x : Int32) : zMi l G (zAll ad na ma) yX4_deathRound wsX4_deathRound 1 21 [.ref (ma 0), .int x] (zCP G ad na ma S) (zVl S.1.1 S.1.2.2 x 6) (zCP G ad na ma S) :=
  zGetC (fun π T n g τ fl hπ hm => ⟨_, zVlC hm hS.1 x (by decide), zRi (p_X4_deathRound l G ad na ma hd π hπ S.2.1 hS.2.1 fl T n (hm.n ▸ hS.1.1) g τ x)⟩)
theorem s_X5_deathRound (l : Launch) (G : zG) (A : Nat → Prop) (am : Nat → Nat) (hA : zAm G am A) (S : zSg) (hS : zOk S) (x : Int32) : zMi l G A yX5_deathRound wsX5_deathRound 3 65 [.ref (am 0), .int x] (zRP G am S) (zVl S.1.1 S.1.2.2 x 6) (zRP G am S) :=
  zGetR (fun th cp hf sl sv => ⟨_, 0, rfl, p_X5_deathRound l G A am hA th cp hf S.2.1 hS.2.1 sl sv S.1.1 hS.1.1 S.1.2.1 S.1.2.2 x⟩)
theorem s_X4_headOf (l : Launch) (G : zG) (ad : Nat → Nat) (na : Nat → Nat → Nat) (ma : Nat → Nat) (hd : zTd ad na ma) (S : zSg) (hS : zOk S) (x : Int32) : zMi l G (zAll ad na ma) yX4_headOf wsX4_headOf 1 21 [.ref (ma 0), .int x] (zCP G ad na ma S) (zVl S.1.1 S.1.2.2 x 7) (zCP G ad na ma S) :=
  zGetC (fun π T n g τ fl hπ hm => ⟨_, zVlC hm hS.1 x (by decide), zRi (p_X4_headOf l G ad na ma hd π hπ S.2.1 hS.2.1 fl T n (hm.n ▸ hS.1.1) g τ x)⟩)
theorem s_X5_headOf (l : Launch) (G : zG) (A : Nat → Prop) (am : Nat → Nat) (hA : zAm G am A) (S : zSg) (hS : zOk S) (x : Int32) : zMi l G A yX5_headOf wsX5_headOf 3 65 [.ref (am 0), .int x] (zRP G am S) (zVl S.1.1 S.1.2.2 x 7) (zRP G am S) :=
  zGetR (fun th cp hf sl sv => ⟨_, 0, rfl, p_X5_headOf l G A am hA th cp hf S.2.1 hS.2.1 sl sv S.1.1 hS.1.1 S.1.2.1 S.1.2.2 x⟩)
theorem s_X4_slotOf (l : Launch) (G : zG) (ad : Nat → Nat) (na : Nat → Nat → Nat) (ma : Nat → Nat) (hd : zTd ad na ma) (S : zSg) (hS : zOk S) (x : Int32) : zMi l G (zAll ad na ma) yX4_slotOf wsX4_slotOf 1 21 [.ref (ma 0), .int x] (zCP G ad na ma S) (zVl S.1.1 S.1.2.2 x 8) (zCP G ad na ma S) :=
  zGetC (fun π T n g τ fl hπ hm => ⟨_, zVlC hm hS.1 x (by decide), zRi (p_X4_slotOf l G ad na ma hd π hπ S.2.1 hS.2.1 fl T n (hm.n ▸ hS.1.1) g τ x)⟩)
theorem s_X5_slotOf (l : Launch) (G : zG) (A : Nat → Prop) (am : Nat → Nat) (hA : zAm G am A) (S : zSg) (hS : zOk S) (x : Int32) : zMi l G A yX5_slotOf wsX5_slotOf 3 65 [.ref (am 0), .int x] (zRP G am S) (zVl S.1.1 S.1.2.2 x 8) (zRP G am S) :=
  zGetR (fun th cp hf sl sv => ⟨_, 0, rfl, p_X5_slotOf l G A am hA th cp hf S.2.1 hS.2.1 sl sv S.1.1 hS.1.1 S.1.2.1 S.1.2.2 x⟩)
theorem s_X4_isEligible (l : Launch) (G : zG) (ad : Nat → Nat) (na : Nat → Nat → Nat) (ma : Nat → Nat) (hd : zTd ad na ma) (S : zSg) (hS : zOk S) (x : Int32) : zMi l G (zAll ad na ma) yX4_isEligible wsX4_isEligible 1 21 [.ref (ma 0), .int x] (zCP G ad na ma S) (if ¬ (¬ x < 0 ∧ x < nI S.1.1) then -1 else zBi (S.1.2.2 3 x.toNatClampNeg = 1 ∧ (S.1.2.2 4 x.toNatClampNeg = 1 ∨ zPh S.1.2.1 S.1.2.2 = 0))) (zCP G ad na ma S) :=
  zGetC (fun π T n g τ fl hπ hm => ⟨_, zElC hm hS.1 x, zRi (p_X4_isEligible l G ad na ma hd π hπ S.2.1 hS.2.1 fl T n (hm.n ▸ hS.1.1) g (hm.g (j := 3) (by decide) (by decide) ▸ hS.1.2.1) τ x)⟩)
theorem s_X5_isEligible (l : Launch) (G : zG) (A : Nat → Prop) (am : Nat → Nat) (hA : zAm G am A) (S : zSg) (hS : zOk S) (x : Int32) : zMi l G A yX5_isEligible wsX5_isEligible 2 43 [.ref (am 0), .int x] (zRP G am S) (if ¬ (¬ x < 0 ∧ x < nI S.1.1) then -1 else zBi (S.1.2.2 3 x.toNatClampNeg = 1 ∧ (S.1.2.2 4 x.toNatClampNeg = 1 ∨ zPh S.1.2.1 S.1.2.2 = 0))) (zRP G am S) :=
  zGetR (fun th cp hf sl sv => ⟨_, 0, rfl, zRi (p_X5_isEligible l G A am hA th cp hf S.2.1 hS.2.1 sl sv S.1.1 hS.1.1 S.1.2.1 hS.1.2.1 S.1.2.2 x)⟩)
theorem s_X4_sendCost (l : Launch) (G : zG) (ad : Nat → Nat) (na : Nat → Nat → Nat) (ma : Nat → Nat) (hd : zTd ad na ma) (S : zSg) (hS : zOk S) (x : Int32) (y : Int32) : zMi l G (zAll ad na ma) yX4_sendCost wsX4_sendCost 1 24 [.ref (ma 0), .int x, .int y] (zCP G ad na ma S) (if ¬ ((¬ x < 0 ∧ x < nI S.1.1) ∧ (y = -9 ∨ (¬ y < 0 ∧ y < nI S.1.1)) ∧ ¬ x = y) then -1 else if y = -9 then zCo S.1.2.1 (zDb S.1.2.1 S.1.2.2 x.toNatClampNeg) else zCo S.1.2.1 (zDs S.1.2.2 x.toNatClampNeg y.toNatClampNeg)) (zCP G ad na ma S) :=
  zGetC (fun π T n g τ fl hπ hm => ⟨_, zScC hm hS.1 x y, zRi2 (p_X4_sendCost l G ad na ma hd π hπ S.2.1 hS.2.1 fl T n (hm.n ▸ hS.1.1) g (hm.g (j := 5) (by decide) (by decide) ▸ hS.1.2.2.1) τ x y)⟩)
theorem s_X5_sendCost (l : Launch) (G : zG) (A : Nat → Prop) (am : Nat → Nat) (hA : zAm G am A) (S : zSg) (hS : zOk S) (x : Int32) (y : Int32) : zMi l G A yX5_sendCost wsX5_sendCost 3 69 [.ref (am 0), .int x, .int y] (zRP G am S) (if ¬ ((¬ x < 0 ∧ x < nI S.1.1) ∧ (y = -9 ∨ (¬ y < 0 ∧ y < nI S.1.1)) ∧ ¬ x = y) then -1 else if y = -9 then zCo S.1.2.1 (zDb S.1.2.1 S.1.2.2 x.toNatClampNeg) else zCo S.1.2.1 (zDs S.1.2.2 x.toNatClampNeg y.toNatClampNeg)) (zRP G am S) :=
  zGetR (fun th cp hf sl sv => ⟨_, 0, rfl, zRi2 (p_X5_sendCost l G A am hA th cp hf S.2.1 hS.2.1 sl sv S.1.1 hS.1.1 S.1.2.1 hS.1.2.2.1 S.1.2.2 x y)⟩)
