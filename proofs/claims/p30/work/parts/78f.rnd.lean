/-! ===== a whole round ===== -/
/-- what stands between rounds: R rounds were played -/
def zBt (n : Nat) (R : Nat) (τ : zT) : Prop := τ 11 10 = nI R ∧ (∀ i, i < n → ∃ b, b ≤ 1000000 ∧ τ 2 i = nI b) ∧ (∀ i, i < n → (τ 3 i = 1 ∧ τ 6 i = -9) ∨ (τ 3 i = 0 ∧ ∃ d, d < R ∧ τ 6 i = nI d)) ∧ zXy n τ
def zAl (τ : zT) (i : Nat) : Bool := decide (τ 3 i = 1)
/-- what a round does, as the law sees it -/
def zPo (n R : Nat) (g : Nat → Int32) (τ τ2 : zT) : Prop :=
  zBt n (R + 1) τ2 ∧ zEg n τ2 = zEg n τ ∧ (∀ i, τ2 0 i = τ 0 i ∧ τ2 1 i = τ 1 i) ∧ zCls n τ2 ∧ τ2 11 11 = nI (zSu (zHd τ2) n) ∧ (∀ i, i < n → τ2 7 i = nI i → (τ 3 i = 1 ∧ (τ 4 i = 1 ∨ zPh g τ = 0)) ∧ ¬ τ2 4 i = 1) ∧ (¬ zPh g τ = 0 → ∀ i, i < n → ¬ τ 4 i = 1 → ¬ τ2 4 i = 1) ∧ (g 3 - zPh g τ = 1 → ∀ i, i < n → τ 3 i = 1 → (τ 4 i = 1 ∨ zPh g τ = 0) → τ2 7 i = nI i ∨ τ2 3 i = 0) ∧ (∃ d, d ≤ zSu (fun i => if zAl τ i = true then 1 else 0) n ∧ τ2 11 12 = nI d) ∧ τ2 11 13 = τ 11 13 + τ2 11 12
theorem zRbS_dn (g : Nat → Int32) (k : Nat) (τ : zT) : zDn τ (zRbS g k τ) := by
  unfold zRbS
  split
  · exact zSb_dn g τ k 1
  · exact zDn.rf
theorem zDdS_dn (g : Nat → Int32) (k : Nat) (τ : zT) : zDn τ (zDdS g k τ) := by
  unfold zDdS
  split
  · exact zSb_dn g τ k _
  · exact zDn.rf
theorem zRound {n : Nat} (hn : n ≤ 12) {R : Nat} (hR : R < 1000) {g : Nat → Int32} (hg : zSe g) {τ : zT} (h : zBt n R τ) : zPo n R g τ (zRd n g τ) := by
  obtain ⟨h10, hb, hl, hxy⟩ := h
  have z12 : ∀ i, i < n → i < 12 := fun i hi => by omega
  -- the beginning
  have hb11 : ∀ j, (zBg n g τ) 11 j = if j = 12 then 0 else if j = 11 then 0 else τ 11 j := zBg_11 n g τ
  have hbf : ∀ f i, f ≠ 11 → (zBg n g τ) f i = if i < n then zBgP (zPh g τ) τ f i else τ f i := fun f i q => zBg_f n g τ q i
  have hbs : ∀ f i, f ≠ 11 → f ≠ 4 → f ≠ 7 → f ≠ 8 → f ≠ 9 → f ≠ 10 → (zBg n g τ) f i = τ f i := fun f i q4 q5 q7 q8 q9 q10 => by
    have hp : zBgP (zPh g τ) τ f i = τ f i := by
      unfold zBgP
      rw [if_neg (by omega), if_neg (by omega), if_neg (by omega)]
    rw [hbf f i q4, hp, ite_self]
  have hb4 : ∀ i, i < n → ((zBg n g τ) 4 i = 1 ↔ (τ 4 i = 1 ∨ zPh g τ = 0)) := fun i hi => by
    rw [hbf 4 i (by decide), if_pos hi]
    unfold zBgP
    rw [if_neg (by omega), if_neg (by omega)]
    by_cases c : zPh g τ = 0
    · rw [if_pos ⟨rfl, c⟩]
      exact ⟨fun _ => Or.inr c, fun _ => rfl⟩
    · rw [if_neg (fun q => c q.2)]
      exact ⟨Or.inl, fun q => q.resolve_right c⟩
  have hb4n : ¬ zPh g τ = 0 → ∀ i, (zBg n g τ) 4 i = τ 4 i := fun c i => by
    have hp : zBgP (zPh g τ) τ 4 i = τ 4 i := by
      unfold zBgP
      rw [if_neg (by omega), if_neg (by omega), if_neg (fun q => c q.2)]
    rw [hbf 4 i (by decide), hp, ite_self]
  have hb0 : ∀ f i, i < n → (f = 7 ∨ f = 8 → (zBg n g τ) f i = -9) ∧ (f = 9 ∨ f = 10 → (zBg n g τ) f i = 0) := fun f i hi => by
    refine ⟨fun q => ?_, fun q => ?_⟩
    · rw [hbf f i (by omega), if_pos hi]
      unfold zBgP
      exact if_pos q
    · rw [hbf f i (by omega), if_pos hi]
      unfold zBgP
      rw [if_neg (by omega), if_pos q]
  have hbp : zPh g (zBg n g τ) = zPh g τ := by
    unfold zPh
    rw [hb11 10]
    rfl
  have hEb : zEg n (zBg n g τ) = zEg n τ := zEg_eq (fun i _ => hbs 2 i (by decide) (by decide) (by decide) (by decide) (by decide) (by decide)) (hb11 14)
  unfold zRd zR1
  generalize zBg n g τ = τb at *
  -- the election
  obtain ⟨e1, e2⟩ := zEl_all (n := n) (g 3 - zPh g τb) (τ0 := τb) (fun i hi => (hb0 10 i hi).2 (Or.inr rfl))
  have eE : zEl n g τb = zIt (zElS (g 3 - zPh g τb)) n τb := rfl
  rw [eE]
  rw [hbp] at e1 e2 ⊢
  generalize zIt (zElS (g 3 - zPh g τ)) n τb = τe at *
  have ivE : zIv n (zEg n τ) R (zAl τ) zFa τe τe := by
    refine ⟨(zEg_eq (fun i _ => e1 2 i (by decide) (by omega)) (e1 11 14 (by decide) (by omega))).trans hEb, (e1 11 10 (by decide) (by omega)).trans ((hb11 10).trans h10), fun i hi => ?_, fun i hi => ?_, fun _ _ _ => rfl, rfl⟩
    · rw [e1 2 i (by decide) (by omega), hbs 2 i (by decide) (by decide) (by decide) (by decide) (by decide) (by decide)]
      exact hb i hi
    · unfold zLf
      rw [e1 3 i (by decide) (by omega), e1 6 i (by decide) (by omega), hbs 3 i (by decide) (by decide) (by decide) (by decide) (by decide) (by decide), hbs 6 i (by decide) (by decide) (by decide) (by decide) (by decide) (by decide)]
      refine ⟨(hl i hi).elim Or.inl fun q => Or.inr ⟨q.1, ?_⟩, fun q => decide_eq_true q⟩
      obtain ⟨-, d, d1, d2⟩ := q
      exact ⟨d, by omega, d2⟩
  have e3 : ∀ i, τe 3 i = τ 3 i := fun i => (e1 3 i (by decide) (by omega)).trans (hbs 3 i (by decide) (by decide) (by decide) (by decide) (by decide) (by decide))
  have e13 : τe 11 13 = τ 11 13 := (e1 11 13 (by decide) (by omega)).trans (hb11 13)
  -- the announcement
  obtain ⟨a1, a2, a3⟩ := zAn_all hn hg ivE (fun i hi => (e1 7 i (by decide) (by omega)).trans ((hb0 7 i hi).1 (Or.inl rfl))) ((e1 11 11 (by decide) (by omega)).trans (hb11 11)) (fun i hi q => (e1 3 i (by decide) (by omega)).trans ((e2 i hi).1 q).1)
  generalize zIt (zAnS g) n τe = τa at *
  have a13 : τa 11 13 = τ 11 13 := a1.2.2.2.2.2.trans e13
  have a12 : τa 11 12 = 0 := (a1.fz (by unfold zFa; omega)).trans ((e1 11 12 (by decide) (by omega)).trans (hb11 12))
  have a9 : ∀ i, i < n → τa 9 i = 0 := fun i hi => (a1.fz (by unfold zFa; omega)).trans ((e1 9 i (by decide) (by omega)).trans ((hb0 9 i hi).2 (Or.inl rfl)))
  have a8 : ∀ i, i < n → τa 8 i = -9 := fun i hi => (a1.fz (by unfold zFa; omega)).trans ((e1 8 i (by decide) (by omega)).trans ((hb0 8 i hi).1 (Or.inr rfl)))
  have a01 : ∀ i, τa 0 i = τ 0 i ∧ τa 1 i = τ 1 i := fun i => ⟨(a1.fz (by unfold zFa; omega)).trans ((e1 0 i (by decide) (by omega)).trans (hbs 0 i (by decide) (by decide) (by decide) (by decide) (by decide) (by decide))), (a1.fz (by unfold zFa; omega)).trans ((e1 1 i (by decide) (by omega)).trans (hbs 1 i (by decide) (by decide) (by decide) (by decide) (by decide) (by decide)))⟩
  have xyA : zXy n τa := fun i hi => by
    rw [(a01 i).1, (a01 i).2]
    exact hxy i hi
  have aH : ∀ i, i < n → τa 7 i = nI i → (τ 3 i = 1 ∧ (τ 4 i = 1 ∨ zPh g τ = 0)) ∧ τa 4 i = 0 := fun i hi q => by
    rcases (a2 i hi).1 with w | w
    · exact absurd (w.1.symm.trans q) (zM9 (z12 i hi))
    · have := (e2 i hi).1 w.2.2.1
      exact ⟨⟨(e3 i).symm.trans ((e1 3 i (by decide) (by omega)).trans this.1), (hb4 i hi).mp this.2⟩, w.2.2.2.1⟩
  have a4 : ∀ i, i < n → τa 4 i = τb 4 i ∨ τa 4 i = 0 := fun i hi => (a2 i hi).1.elim (fun w => Or.inl (w.2.trans (e1 4 i (by decide) (by omega)))) (fun w => Or.inr w.2.2.2.1)
  have aL : g 3 - zPh g τ = 1 → ∀ i, i < n → τ 3 i = 1 → (τ 4 i = 1 ∨ zPh g τ = 0) → τa 7 i = nI i ∨ τa 3 i = 0 := fun q i hi q3 q4 => (a2 i hi).2.1 hi ((e2 i hi).2 q ((e1 3 i (by decide) (by omega)).symm.trans ((e3 i).trans q3)) ((hb4 i hi).mpr q4))
  -- behind it: whatever keeps these rows and the counts
  have fin : ∀ (K τ2 : zT) (F : Nat → Nat → Prop), zIv n (zEg n τ) R (zAl τ) F K τ2 → (∀ i, F 0 i ∧ F 1 i ∧ F 4 i ∧ F 7 i ∧ F 8 i) → F 11 11 → (∀ f i, f ≠ 7 → f ≠ 8 → f ≠ 9 → K f i = τa f i) → zCls n K → (∀ i, i < n → (K 7 i = nI i ↔ τa 7 i = nI i)) → (∀ i, i < n → τa 3 i = 0 → τ2 3 i = 0) → (∃ d, d ≤ zSu (fun i => if zAl τ i = true then 1 else 0) n ∧ τ2 11 12 = nI d) → zPo n R g τ (zR3 τ2) := by
    intro K τ2 F iv hF hF11 hK hc h7 h3 h12
    have er : ∀ f i, f ≠ 11 → (zR3 τ2) f i = τ2 f i := fun f i q => by
      unfold zR3
      rw [zSt_nf _ _ _ _ q, zSt_nf _ _ _ _ q]
    have er1 : ∀ i, i ≠ 10 → i ≠ 13 → (zR3 τ2) 11 i = τ2 11 i := fun i q q2 => by
      unfold zR3
      rw [zSt_ni _ _ _ _ q, zSt_ni _ _ _ _ q2]
    have er13 : (zR3 τ2) 11 13 = τ2 11 13 + τ2 11 12 := by
      unfold zR3
      rw [zSt_ni _ _ _ _ (by decide), zSt_self]
    have er10 : (zR3 τ2) 11 10 = τ2 11 10 + 1 := by
      unfold zR3
      exact zSt_self _ _ _ _
    have k0 : ∀ i, τ2 0 i = τ 0 i ∧ τ2 1 i = τ 1 i := fun i => ⟨(iv.fz (hF i).1).trans ((hK 0 i (by decide) (by decide) (by decide)).trans (a01 i).1), (iv.fz (hF i).2.1).trans ((hK 1 i (by decide) (by decide) (by decide)).trans (a01 i).2)⟩
    have k7 : ∀ i, (zR3 τ2) 7 i = K 7 i := fun i => (er 7 i (by decide)).trans (iv.fz (hF i).2.2.2.1)
    have k8 : ∀ i, (zR3 τ2) 8 i = K 8 i := fun i => (er 8 i (by decide)).trans (iv.fz (hF i).2.2.2.2)
    have k4 : ∀ i, (zR3 τ2) 4 i = τa 4 i := fun i => (er 4 i (by decide)).trans ((iv.fz (hF i).2.2.1).trans (hK 4 i (by decide) (by decide) (by decide)))
    have h7' : ∀ i, i < n → ((zR3 τ2) 7 i = nI i ↔ τa 7 i = nI i) := fun i hi => by
      rw [k7]
      exact h7 i hi
    refine ⟨⟨er10.trans (by rw [iv.2.1]; exact nI_1 R), fun i hi => by rw [er 2 i (by decide)]; exact iv.2.2.1 i hi, fun i hi => ?_, fun i hi => ?_⟩, ?_, fun i => ?_, ?_, ?_, fun i hi q => ?_, fun q i hi q4 => ?_, fun q i hi q3 q4 => ?_, ?_, ?_⟩
    · rw [er 3 i (by decide), er 6 i (by decide)]
      refine (iv.2.2.2.1 i hi).1.elim Or.inl fun q => Or.inr ⟨q.1, ?_⟩
      obtain ⟨-, d, d1, d2⟩ := q
      exact ⟨d, by omega, d2⟩
    · rw [er 0 i (by decide), er 1 i (by decide), (k0 i).1, (k0 i).2]
      exact hxy i hi
    · exact (zEg_eq (fun i _ => er 2 i (by decide)) (er1 14 (by decide) (by decide))).trans iv.1
    · rw [er 0 i (by decide), er 1 i (by decide)]
      exact k0 i
    · refine zCls_eq hc fun f i q => ?_
      rcases q with rfl | rfl | rfl | rfl
      · exact (er 0 i (by decide)).trans (iv.fz (hF i).1)
      · exact (er 1 i (by decide)).trans (iv.fz (hF i).2.1)
      · exact k7 i
      · exact k8 i
    · rw [er1 11 (by decide) (by decide), iv.fz hF11, hK 11 11 (by decide) (by decide) (by decide), a3]
      congr 1
      refine zSu_eq n fun i hi => ?_
      unfold zHd
      by_cases c : τa 7 i = nI i
      · rw [if_pos c, if_pos ((h7' i hi).mpr c)]
      · rw [if_neg c, if_neg (fun z => c ((h7' i hi).mp z))]
    · have := aH i hi ((h7' i hi).mp q)
      refine ⟨this.1, ?_⟩
      rw [k4, this.2]
      decide
    · rw [k4]
      rcases a4 i hi with w | w
      · rw [w, hb4n q]
        exact q4
      · rw [w]
        decide
    · rcases aL q i hi q3 q4 with w | w
      · exact Or.inl ((h7' i hi).mpr w)
      · refine Or.inr ?_
        rw [er 3 i (by decide)]
        exact h3 i hi w
    · rw [er1 12 (by decide) (by decide)]
      exact h12
    · rw [er13, er1 12 (by decide) (by decide), iv.2.2.2.2.2, hK 11 13 (by decide) (by decide) (by decide), a13]
  -- the dead stay dead
  have dn : ∀ τ2 : zT, (∀ i, τ2 3 i = τa 3 i ∨ τ2 3 i = 0) → ∀ i, i < n → τa 3 i = 0 → τ2 3 i = 0 := fun τ2 q i _ z => (q i).elim (fun w => w.trans z) id
  have f2d : ∀ i, zFd 0 i ∧ zFd 1 i ∧ zFd 4 i ∧ zFd 7 i ∧ zFd 8 i := fun i => by
    unfold zFd zF2
    omega
  have f22 : ∀ i, zF2 0 i ∧ zF2 1 i ∧ zF2 4 i ∧ zF2 7 i ∧ zF2 8 i := fun i => by
    unfold zF2
    omega
  unfold zR2
  by_cases c : τa 11 11 = 0
  · rw [if_pos c]
    obtain ⟨r1, r2⟩ := zRb_all hg xyA (a1.re zFd) a12
    have no : ∀ i, i < n → τa 7 i = -9 := fun i hi => by
      rcases (a2 i hi).1 with w | w
      · exact w.1
      · exfalso
        have z : zSu (fun _ => 0) n < zSu (zHd τa) n := zSu_lt (j := i) (by show 0 < zHd τa i; unfold zHd; rw [if_pos w.1]; decide) n hi (fun _ _ => Nat.zero_le _)
        rw [zSu_0] at z
        rw [c] at a3
        have hle := zSu_b (f := zHd τa) (c := 1) n (fun i _ => by unfold zHd; split <;> omega)
        have := (nI_eq (a := 0) (b := zSu (zHd τa) n) (by omega) (by omega)).mp a3
        omega
    refine fin τa _ zFd r1 f2d (by unfold zFd zF2; omega) (fun _ _ _ _ _ => rfl) (fun k hk => Or.inl ⟨no k hk, a8 k hk⟩) (fun _ _ => Iff.rfl) (dn _ ?_) r2
    exact (zDn.it (fun k τ => zRbS_dn g k τ) τa n).2
  · rw [if_neg c]
    obtain ⟨j1, j2, j3⟩ := zJo_all hn (τa := τa) (fun i hi => (a2 i hi).1.elim (fun w => Or.inl w.1) (fun w => Or.inr ⟨w.1, w.2.2.2.2⟩)) a8
    have ivJ : zIv n (zEg n τ) R (zAl τ) zFr9 (zJo n τa) (zJo n τa) := by
      refine ⟨(zEg_eq (fun i _ => j1 2 i (by decide) (by decide)) (j1 11 14 (by decide) (by decide))).trans a1.1, (j1 11 10 (by decide) (by decide)).trans a1.2.1, fun i hi => ?_, fun i hi => ?_, fun _ _ _ => rfl, rfl⟩
      · rw [j1 2 i (by decide) (by decide)]
        exact a1.2.2.1 i hi
      · unfold zLf
        rw [j1 3 i (by decide) (by decide), j1 6 i (by decide) (by decide)]
        exact a1.2.2.2.1 i hi
    have xyJ : zXy n (zJo n τa) := fun i hi => by
      rw [j1 0 i (by decide) (by decide), j1 1 i (by decide) (by decide)]
      exact xyA i hi
    have dj : zDn τa (zJo n τa) := zJo_dn n τa
    have j9 : ∀ i, i < n → (zJo n τa) 9 i = 0 := fun i hi => (j1 9 i (by decide) (by decide)).trans (a9 i hi)
    have j12 : (zJo n τa) 11 12 = 0 := (j1 11 12 (by decide) (by decide)).trans a12
    have hK : ∀ f i, f ≠ 7 → f ≠ 8 → f ≠ 9 → (zJo n τa) f i = τa f i := fun f i p q _ => j1 f i p q
    generalize zJo n τa = τj at *
    obtain ⟨p1, p2⟩ := zRh_all hg xyJ ivJ j9
    have dp : zDn τj (zIt (zRhS n g) n τj) := zDn.it (fun k τ => zRhS_dn n g k τ) τj n
    generalize zIt (zRhS n g) n τj = τp at *
    obtain ⟨w1, w2⟩ := zOw_all hn hg p1 p2
    have dw : zDn τp (zIt (zOwS g) n τp) := zDn.it (fun k τ => zOwS_dn g k τ) τp n
    generalize zIt (zOwS g) n τp = τw at *
    have w12 : τw 11 12 = 0 := (w1.fz (Or.inr ⟨rfl, rfl⟩)).trans j12
    have wF : ∀ f i, zF2 f i → τw f i = τj f i := fun f i q => w1.fz (Or.inl q)
    have wC : ∀ j, zCi τw (zAl τ) j = zCi τj (zAl τ) j := fun j => funext fun i => by
      unfold zCi
      rw [wF 7 i (f22 i).2.2.2.1]
    have cls : zCls n τw := zCls_eq j2 fun f i q => wF f i (by rcases q with rfl | rfl | rfl | rfl <;> (have := f22 i; first | exact this.1 | exact this.2.1 | exact this.2.2.2.1 | exact this.2.2.2.2))
    have dAll : ∀ τ2 : zT, zDn τw τ2 → ∀ i, i < n → τa 3 i = 0 → τ2 3 i = 0 := fun τ2 q => dn τ2 (((dj.trans dp).trans dw).trans q).2
    unfold zDv
    by_cases c8 : g 8 = 1
    · rw [if_pos c8]
      obtain ⟨r1, d, r2, r3⟩ := zRl_all hg xyJ w1 w2 w12
      exact fin τj _ zF2 r1 f22 (by unfold zF2; omega) hK j2 j3 (dAll _ (zRl_dn n g τw)) ⟨d, Nat.le_trans r2 (zCi_sum hn τj (zAl τ)), r3⟩
    · rw [if_neg c8]
      have w1' := w1.re zFd
      have xyW : zXy n τw := fun i hi => by
        rw [wF 0 i (f22 i).1, wF 1 i (f22 i).2.1]
        exact xyJ i hi
      obtain ⟨r1, d, r2, r3⟩ := zDd_all hg xyW w1' (fun j hj => by rw [wC]; exact w2 j hj) w12
      have w13 : τw 11 13 = τj 11 13 := w1.2.2.2.2.2
      have r1' : zIv n (zEg n τ) R (zAl τ) zF2 τj (zIt (zDdS g) n τw) := ⟨r1.1, r1.2.1, r1.2.2.1, r1.2.2.2.1, fun f i q => (r1.fz (Or.inl q)).trans (wF f i q), r1.2.2.2.2.2.trans w13⟩
      exact fin τj _ zF2 r1' f22 (by unfold zF2; omega) hK j2 j3 (dAll _ (zDn.it (fun k τ => zDdS_dn g k τ) τw n)) ⟨d, Nat.le_trans r2 (zCi_sum hn τw (zAl τ)), r3⟩
