/-! ===== calls that only ask ===== -/
theorem s_X4_roundNumber (l : Launch) (G : zG) (ad : Nat → Nat) (na : Nat → Nat → Nat) (ma : Nat → Nat) (hd : zTd ad na ma) (S : zSg) (hS : zOk S) : zMi l G (zAll ad na ma) yX4_roundNumber wsX4_roundNumber 0 0 [.ref (ma 0)] (zCP G ad na ma S) (S.1.2.2 11 10) (zCP G ad na ma S) :=
  zGetC (fun π T n g τ fl hπ hm => ⟨_, hm.k (by decide) (by decide), zRr trivial (p_X4_roundNumber l G ad na ma hd π hπ S.2.1 hS.2.1 fl T n (hm.n ▸ hS.1.1) g τ)⟩)
theorem s_X4_headCount (l : Launch) (G : zG) (ad : Nat → Nat) (na : Nat → Nat → Nat) (ma : Nat → Nat) (hd : zTd ad na ma) (S : zSg) (hS : zOk S) : zMi l G (zAll ad na ma) yX4_headCount wsX4_headCount 0 0 [.ref (ma 0)] (zCP G ad na ma S) (S.1.2.2 11 11) (zCP G ad na ma S) :=
  zGetC (fun π T n g τ fl hπ hm => ⟨_, hm.k (by decide) (by decide), zRr trivial (p_X4_headCount l G ad na ma hd π hπ S.2.1 hS.2.1 fl T n (hm.n ▸ hS.1.1) g τ)⟩)
theorem s_X4_lastDelivered (l : Launch) (G : zG) (ad : Nat → Nat) (na : Nat → Nat → Nat) (ma : Nat → Nat) (hd : zTd ad na ma) (S : zSg) (hS : zOk S) : zMi l G (zAll ad na ma) yX4_lastDelivered wsX4_lastDelivered 0 0 [.ref (ma 0)] (zCP G ad na ma S) (S.1.2.2 11 12) (zCP G ad na ma S) :=
  zGetC (fun π T n g τ fl hπ hm => ⟨_, hm.k (by decide) (by decide), zRr trivial (p_X4_lastDelivered l G ad na ma hd π hπ S.2.1 hS.2.1 fl T n (hm.n ▸ hS.1.1) g τ)⟩)
theorem s_X4_deliveredTotal (l : Launch) (G : zG) (ad : Nat → Nat) (na : Nat → Nat → Nat) (ma : Nat → Nat) (hd : zTd ad na ma) (S : zSg) (hS : zOk S) : zMi l G (zAll ad na ma) yX4_deliveredTotal wsX4_deliveredTotal 0 0 [.ref (ma 0)] (zCP G ad na ma S) (S.1.2.2 11 13) (zCP G ad na ma S) :=
  zGetC (fun π T n g τ fl hπ hm => ⟨_, hm.k (by decide) (by decide), zRr trivial (p_X4_deliveredTotal l G ad na ma hd π hπ S.2.1 hS.2.1 fl T n (hm.n ▸ hS.1.1) g τ)⟩)
theorem s_X4_energyPaid (l : Launch) (G : zG) (ad : Nat → Nat) (na : Nat → Nat → Nat) (ma : Nat → Nat) (hd : zTd ad na ma) (S : zSg) (hS : zOk S) : zMi l G (zAll ad na ma) yX4_energyPaid wsX4_energyPaid 0 0 [.ref (ma 0)] (zCP G ad na ma S) (S.1.2.2 11 14) (zCP G ad na ma S) :=
  zGetC (fun π T n g τ fl hπ hm => ⟨_, hm.k (by decide) (by decide), zRr trivial (p_X4_energyPaid l G ad na ma hd π hπ S.2.1 hS.2.1 fl T n (hm.n ▸ hS.1.1) g τ)⟩)
theorem s_X4_aliveCount (l : Launch) (G : zG) (ad : Nat → Nat) (na : Nat → Nat → Nat) (ma : Nat → Nat) (hd : zTd ad na ma) (S : zSg) (hS : zOk S) : zMi l G (zAll ad na ma) yX4_aliveCount wsX4_aliveCount 1 22 [.ref (ma 0)] (zCP G ad na ma S) (zCa S.1.1 S.1.2.2) (zCP G ad na ma S) :=
  zGetC (fun π T n g τ fl hπ hm => ⟨_, hm.ca, zRr trivial (p_X4_aliveCount l G ad na ma hd π hπ S.2.1 hS.2.1 fl T n (hm.n ▸ hS.1.1) g τ)⟩)
theorem s_X4_battery (l : Launch) (G : zG) (ad : Nat → Nat) (na : Nat → Nat → Nat) (ma : Nat → Nat) (hd : zTd ad na ma) (S : zSg) (hS : zOk S) (k : Nat) (hk : k < S.1.1) : zMi l G (zAll ad na ma) yX4_battery wsX4_battery 1 21 [.ref (ma 0), .int (nI k)] (zCP G ad na ma S) (S.1.2.2 2 k) (zCP G ad na ma S) :=
  zGetC (fun π T n g τ fl hπ hm => ⟨_, (by
    rw [if_neg (not_not_intro (zIxn (hm.n ▸ hS.1.1) (show k < n from hm.n ▸ hk))), nI_clamp (by have := hS.1.1; omega)]
    exact hm.f (by decide) hk), zRi (p_X4_battery l G ad na ma hd π hπ S.2.1 hS.2.1 fl T n (hm.n ▸ hS.1.1) g τ (nI k))⟩)
theorem s_X4_deathRound (l : Launch) (G : zG) (ad : Nat → Nat) (na : Nat → Nat → Nat) (ma : Nat → Nat) (hd : zTd ad na ma) (S : zSg) (hS : zOk S) (k : Nat) (hk : k < S.1.1) : zMi l G (zAll ad na ma) yX4_deathRound wsX4_deathRound 1 21 [.ref (ma 0), .int (nI k)] (zCP G ad na ma S) (S.1.2.2 6 k) (zCP G ad na ma S) :=
  zGetC (fun π T n g τ fl hπ hm => ⟨_, (by
    rw [if_neg (not_not_intro (zIxn (hm.n ▸ hS.1.1) (show k < n from hm.n ▸ hk))), nI_clamp (by have := hS.1.1; omega)]
    exact hm.f (by decide) hk), zRi (p_X4_deathRound l G ad na ma hd π hπ S.2.1 hS.2.1 fl T n (hm.n ▸ hS.1.1) g τ (nI k))⟩)
theorem s_X4_headOf (l : Launch) (G : zG) (ad : Nat → Nat) (na : Nat → Nat → Nat) (ma : Nat → Nat) (hd : zTd ad na ma) (S : zSg) (hS : zOk S) (k : Nat) (hk : k < S.1.1) : zMi l G (zAll ad na ma) yX4_headOf wsX4_headOf 1 21 [.ref (ma 0), .int (nI k)] (zCP G ad na ma S) (S.1.2.2 7 k) (zCP G ad na ma S) :=
  zGetC (fun π T n g τ fl hπ hm => ⟨_, (by
    rw [if_neg (not_not_intro (zIxn (hm.n ▸ hS.1.1) (show k < n from hm.n ▸ hk))), nI_clamp (by have := hS.1.1; omega)]
    exact hm.f (by decide) hk), zRi (p_X4_headOf l G ad na ma hd π hπ S.2.1 hS.2.1 fl T n (hm.n ▸ hS.1.1) g τ (nI k))⟩)
theorem s_X4_slotOf (l : Launch) (G : zG) (ad : Nat → Nat) (na : Nat → Nat → Nat) (ma : Nat → Nat) (hd : zTd ad na ma) (S : zSg) (hS : zOk S) (k : Nat) (hk : k < S.1.1) : zMi l G (zAll ad na ma) yX4_slotOf wsX4_slotOf 1 21 [.ref (ma 0), .int (nI k)] (zCP G ad na ma S) (S.1.2.2 8 k) (zCP G ad na ma S) :=
  zGetC (fun π T n g τ fl hπ hm => ⟨_, (by
    rw [if_neg (not_not_intro (zIxn (hm.n ▸ hS.1.1) (show k < n from hm.n ▸ hk))), nI_clamp (by have := hS.1.1; omega)]
    exact hm.f (by decide) hk), zRi (p_X4_slotOf l G ad na ma hd π hπ S.2.1 hS.2.1 fl T n (hm.n ▸ hS.1.1) g τ (nI k))⟩)
theorem s_X4_isAlive (l : Launch) (G : zG) (ad : Nat → Nat) (na : Nat → Nat → Nat) (ma : Nat → Nat) (hd : zTd ad na ma) (S : zSg) (hS : zOk S) (k : Nat) (hk : k < S.1.1) : zMi l G (zAll ad na ma) yX4_isAlive wsX4_isAlive 1 21 [.ref (ma 0), .int (nI k)] (zCP G ad na ma S) (zBi (S.1.2.2 3 k = 1)) (zCP G ad na ma S) :=
  zGetC (fun π T n g τ fl hπ hm => ⟨_, (by
    rw [if_neg (not_not_intro (zIxn (hm.n ▸ hS.1.1) (show k < n from hm.n ▸ hk))), nI_clamp (by have := hS.1.1; omega)]
    have e3 : τ 3 k = S.1.2.2 3 k := hm.f (by decide) hk
    exact zBi_iff (by rw [e3])), zRi (p_X4_isAlive l G ad na ma hd π hπ S.2.1 hS.2.1 fl T n (hm.n ▸ hS.1.1) g τ (nI k))⟩)
theorem s_X4_isEligible (l : Launch) (G : zG) (ad : Nat → Nat) (na : Nat → Nat → Nat) (ma : Nat → Nat) (hd : zTd ad na ma) (S : zSg) (hS : zOk S) (k : Nat) (hk : k < S.1.1) : zMi l G (zAll ad na ma) yX4_isEligible wsX4_isEligible 1 21 [.ref (ma 0), .int (nI k)] (zCP G ad na ma S) (zBi (S.1.2.2 3 k = 1 ∧ (S.1.2.2 4 k = 1 ∨ zPh S.1.2.1 S.1.2.2 = 0))) (zCP G ad na ma S) :=
  zGetC (fun π T n g τ fl hπ hm => ⟨_, (by
    rw [if_neg (not_not_intro (zIxn (hm.n ▸ hS.1.1) (show k < n from hm.n ▸ hk))), nI_clamp (by have := hS.1.1; omega)]
    have e3 : τ 3 k = S.1.2.2 3 k := hm.f (by decide) hk
    have e4 : τ 4 k = S.1.2.2 4 k := hm.f (by decide) hk
    have e5 : zPh g τ = zPh S.1.2.1 S.1.2.2 := hm.ph
    exact zBi_iff (by rw [e3, e4, e5])), zRi (p_X4_isEligible l G ad na ma hd π hπ S.2.1 hS.2.1 fl T n (hm.n ▸ hS.1.1) g (hm.g (j := 3) (by decide) (by decide) ▸ hS.1.2.1) τ (nI k))⟩)
