/-! ===== what the law's loop keeps ===== -/
/-- at the loop's head: t rounds were played -/
def zLI (n cyc t : Nat) (S : zSg) (f : Nat → Int32) (given been total : Int32) : Prop := zOk S ∧ S.1.1 = n ∧ zSe S.1.2.1 ∧ S.1.2.1 3 = nI cyc ∧ zBt n t S.1.2.2 ∧ given = zEg n S.1.2.2 ∧ total = S.1.2.2 11 13 ∧ (∀ i, i < n → bt been i = true → ¬ S.1.2.2 4 i = 1) ∧ zCls n S.1.2.2 ∧ S.1.2.2 11 11 = nI (zSu (zHd S.1.2.2) n) ∧ ∀ i, i < n → f (6 * i) = S.1.2.2 0 i ∧ f ((6 * i) + 1) = S.1.2.2 1 i
theorem zLI.cw {n cyc t : Nat} {S : zSg} {f : Nat → Int32} {gv bn tt : Int32} (h : zLI n cyc t S f gv bn tt) : zCw n t f S.1.2.2 := ⟨h.2.2.2.2.2.2.2.2.1, h.2.2.2.2.1.2.2.1, h.2.2.2.2.1.1, h.2.2.2.2.2.2.2.2.2.1, h.2.2.2.2.2.2.2.2.2.2⟩
/-- the same current network -/
theorem zLI.to {n cyc t : Nat} {S S2 : zSg} {f : Nat → Int32} {gv bn tt : Int32} (h : zLI n cyc t S f gv bn tt) (hO : zOk S2) (e : S2.1 = S.1) : zLI n cyc t S2 f gv bn tt := by
  refine ⟨hO, ?_⟩
  rw [e]
  exact h.2
theorem zCa_nI (n : Nat) (τ : zT) : zCa n τ = nI (zSu (fun i => if zAl τ i = true then 1 else 0) n) := by
  unfold zCa
  have key : ∀ k, zIt (zCaS τ) k 0 = nI (zSu (fun i => if zAl τ i = true then 1 else 0) k) := by
    intro k
    induction k with
    | zero => rfl
    | succ k ih =>
      show (if τ 3 k = 1 then zIt (zCaS τ) k 0 + 1 else zIt (zCaS τ) k 0) = nI (zSu (fun i => if zAl τ i = true then 1 else 0) k + (if zAl τ k = true then 1 else 0))
      rw [ih]
      by_cases c : τ 3 k = 1
      · have ez : zAl τ k = true := decide_eq_true c
        rw [if_pos c, if_pos ez]
        exact nI_1 _
      · have ez : ¬ zAl τ k = true := fun q => c (of_decide_eq_true q)
        rw [if_neg c, if_neg ez]
        rfl
  exact key n
theorem zCa_b {n : Nat} (hn : n ≤ 12) (τ : zT) : zSu (fun i => if zAl τ i = true then 1 else 0) n ≤ 12 := by
  have := zSu_b (f := fun i => if zAl τ i = true then 1 else 0) (c := 1) n (fun i _ => by split <;> omega)
  omega
theorem zCa_p {n : Nat} (hn : n ≤ 12) {τ : zT} (h : ¬ zCa n τ = 0) : 0 < zCa n τ := by
  have hb := zCa_b hn τ
  rw [zCa_nI] at h ⊢
  exact (nI_ltI (a := 0) (by omega) (by omega)).mpr (Nat.pos_of_ne_zero fun z => h (by rw [z]; rfl))
theorem zPf_one {n : Nat} {g : Nat → Int32} {τ : zT} (h : 0 < zCa n τ) : zPf n g 1 τ = (1, zRd n g τ) := by
  show zPfS n g 0 (0, τ) = _
  unfold zPfS
  rw [if_pos h]
theorem zPf_n {n : Nat} {g : Nat → Int32} {τ : zT} (h : 0 < zCa n τ) : ∀ k, 1 ≤ (zPf n g (k + 1) τ).1 ∧ (zPf n g (k + 1) τ).1 ≤ k + 1 := by
  intro k
  induction k with
  | zero => rw [zPf_one h]; exact ⟨Nat.le_refl 1, Nat.le_refl 1⟩
  | succ k ih =>
    show 1 ≤ (zPfS n g (k + 1) (zPf n g (k + 1) τ)).1 ∧ (zPfS n g (k + 1) (zPf n g (k + 1) τ)).1 ≤ k + 1 + 1
    generalize zPf n g (k + 1) τ = u at ih ⊢
    unfold zPfS
    split
    · show 1 ≤ u.1 + 1 ∧ u.1 + 1 ≤ k + 1 + 1
      omega
    · omega
/-- a round by the law -/
theorem zLI.run {n cyc t : Nat} {S : zSg} {f : Nat → Int32} {gv bn tt : Int32} (hn : n ≤ 9) (ht : t < 24) (h : zLI n cyc t S f gv bn tt) (ha : 0 < zCa n S.1.2.2) : zRnR S 1 = 1 ∧ zOk (zRnS S 1) ∧ (zRnS S 1).1.1 = n ∧ (zRnS S 1).1.2.1 = S.1.2.1 ∧ zPo n t S.1.2.1 S.1.2.2 (zRnS S 1).1.2.2 := by
  obtain ⟨hO, h1, hg, h3, hb, -⟩ := h
  have hne : ¬ zCa S.1.1 S.1.2.2 = 0 := fun q => by
    rw [h1] at q
    rw [q] at ha
    exact absurd ha (by decide)
  have hr := zRound (n := n) (by omega) (R := t) (by omega) hg hb
  have e1 : zPf S.1.1 S.1.2.1 1 S.1.2.2 = (1, zRd S.1.1 S.1.2.1 S.1.2.2) := zPf_one (by rw [h1]; exact ha)
  refine ⟨?_, zRn_ok hO 1, ?_⟩
  · unfold zRnR
    rw [if_neg hne, e1]
    rfl
  · unfold zRnS
    rw [if_neg hne, e1]
    refine ⟨h1, rfl, ?_⟩
    show zPo n t S.1.2.1 S.1.2.2 (zRd S.1.1 S.1.2.1 S.1.2.2)
    rw [h1]
    exact hr
/-- the masks that the law makes ahead of a round -/
theorem zMsk {n : Nat} (hn : n ≤ 9) {g : Nat → Int32} {τ : zT} {bn : Int32} (hbn : ∀ i, i < n → bt bn i = true → ¬ (τ 4 i = 1 ∨ zPh g τ = 0)) : (∀ j, j < n → bt (zIt (zMkS (fun k => zBi (τ 3 k = 1))) n 0) j = zAl τ j) ∧ (∀ j, j < n → (bt (zIt (zMkS (fun k => zBi (τ 3 k = 1 ∧ (τ 4 k = 1 ∨ zPh g τ = 0)))) n 0) j = true ↔ (τ 3 j = 1 ∧ (τ 4 j = 1 ∨ zPh g τ = 0)))) ∧ zIt (zMkS (fun k => zBi (τ 3 k = 1 ∧ (τ 4 k = 1 ∨ zPh g τ = 0)))) n 0 &&& bn = 0 ∧ zIt (zMkS (fun k => zBi (τ 3 k = 1 ∧ (τ 4 k = 1 ∨ zPh g τ = 0)))) n 0 &&& (zIt (zMkS (fun k => zBi (τ 3 k = 1))) n 0 ^^^ -1) = 0 ∧ (zPh g τ = 0 → zIt (zMkS (fun k => zBi (τ 3 k = 1 ∧ (τ 4 k = 1 ∨ zPh g τ = 0)))) n 0 = zIt (zMkS (fun k => zBi (τ 3 k = 1))) n 0) := by
  have b2 : ∀ (P : Prop) [Decidable P], zBi P = 0 ∨ zBi P = 1 := fun P _ => by
    by_cases c : P
    · exact Or.inr (zBi_t c)
    · exact Or.inl (zBi_f c)
  have eA : ∀ j, j < 32 → bt (zIt (zMkS (fun k => zBi (τ 3 k = 1))) n 0) j = decide (j < n ∧ zBi (τ 3 j = 1) = 1) := fun j hj => zMk_bt (b := fun k => zBi (τ 3 k = 1)) (by omega) (fun k _ => b2 _) hj n (Nat.le_refl n)
  have eC : ∀ j, j < 32 → bt (zIt (zMkS (fun k => zBi (τ 3 k = 1 ∧ (τ 4 k = 1 ∨ zPh g τ = 0)))) n 0) j = decide (j < n ∧ zBi (τ 3 j = 1 ∧ (τ 4 j = 1 ∨ zPh g τ = 0)) = 1) := fun j hj => zMk_bt (b := fun k => zBi (τ 3 k = 1 ∧ (τ 4 k = 1 ∨ zPh g τ = 0))) (by omega) (fun k _ => b2 _) hj n (Nat.le_refl n)
  refine ⟨fun j hj => ?_, fun j hj => ?_, b_ext fun j hj => ?_, b_ext fun j hj => ?_, fun q => b_ext fun j hj => ?_⟩
  · rw [eA j (by omega)]
    exact decide_eq_decide.mpr ⟨fun q => zBi_1.mp q.2, fun q => ⟨hj, zBi_1.mpr q⟩⟩
  · rw [eC j (by omega)]
    exact ⟨fun q => zBi_1.mp (of_decide_eq_true q).2, fun q => decide_eq_true ⟨hj, zBi_1.mpr q⟩⟩
  · rw [b_and, b_0, eC j hj]
    by_cases c : j < n ∧ zBi (τ 3 j = 1 ∧ (τ 4 j = 1 ∨ zPh g τ = 0)) = 1
    · rw [decide_eq_true c, Bool.true_and]
      cases hz : bt bn j with
      | false => rfl
      | true => exact absurd (zBi_1.mp c.2).2 (hbn j c.1 hz)
    · rw [decide_eq_false c, Bool.false_and]
  · rw [b_and, b_0, b_xor, b_m1 j hj, eC j hj, eA j hj]
    by_cases c : j < n ∧ zBi (τ 3 j = 1 ∧ (τ 4 j = 1 ∨ zPh g τ = 0)) = 1
    · rw [decide_eq_true c, decide_eq_true ⟨c.1, zBi_1.mpr (zBi_1.mp c.2).1⟩]
      rfl
    · rw [decide_eq_false c, Bool.false_and]
  · rw [eC j hj, eA j hj]
    exact decide_eq_decide.mpr ⟨fun z => ⟨z.1, zBi_1.mpr (zBi_1.mp z.2).1⟩, fun z => ⟨z.1, zBi_1.mpr ⟨zBi_1.mp z.2, Or.inr q⟩⟩⟩
/-- the loop's head again, a round later -/
theorem zLI.next {n cyc t : Nat} {S : zSg} {f : Nat → Int32} {gv bn0 bn tt : Int32} (hn : n ≤ 9) (h : zLI n cyc t S f gv bn0 tt) {S2 : zSg} (hO : zOk S2) (h1 : S2.1.1 = n) (hg : S2.1.2.1 = S.1.2.1) (hp : zPo n t S.1.2.1 S.1.2.2 S2.1.2.2) (hbn : ∀ i, i < n → bt bn i = true → ¬ (S.1.2.2 4 i = 1 ∨ zPh S.1.2.1 S.1.2.2 = 0)) : zLI n cyc (t + 1) S2 f gv (zIt (zBeS S2.1.2.2) n bn) (tt + S2.1.2.2 11 12) := by
  obtain ⟨p1, p2, p3, p4, p5, p6, p7, p8, -, p10⟩ := hp
  obtain ⟨-, -, q3, q4, -, q6, q7, -, -, -, q11⟩ := h
  refine ⟨hO, h1, by rw [hg]; exact q3, by rw [hg]; exact q4, p1, q6.trans p2.symm, by rw [q7]; exact p10.symm, fun i hi hb => ?_, p4, p5, fun i hi => ?_⟩
  · rw [zBe_bt (by omega) bn (show i < 32 by omega) n (Nat.le_refl n)] at hb
    rcases Bool.or_eq_true_iff.mp hb with z | z
    · have := hbn i hi z
      exact p7 (fun w => this (Or.inr w)) i hi (fun w => this (Or.inl w))
    · exact (p6 i hi (of_decide_eq_true z).2).2
  · rw [(p3 i).1, (p3 i).2]
    exact q11 i hi
/-- a charge -/
theorem zLI.chg {n cyc t : Nat} {S : zSg} {f : Nat → Int32} {gv bn tt : Int32} (hn : n ≤ 9) (h : zLI n cyc t S f gv bn tt) {a : Nat} (ha : a < n) : (¬ (S.1.2.2 3 a = 1 ∧ ¬ 1000000 < S.1.2.2 2 a + 50) ∧ zChR S a = -2 ∧ zLI n cyc t (zChS S a) f (gv + 0) bn tt) ∨ ((∃ d, d < 1000000 ∧ zChR S a = nI (d + 1)) ∧ zLI n cyc t (zChS S a) f (gv + 50) bn tt) := by
  by_cases c : ¬ (S.1.2.2 3 a = 1 ∧ ¬ 1000000 < S.1.2.2 2 a + 50)
  · left
    refine ⟨c, if_pos c, ?_⟩
    unfold zChS
    rw [if_pos c, Int32.add_zero]
    exact h
  · right
    have c1 := Decidable.of_not_not c
    obtain ⟨hO, q2, q3, q4, ⟨b1, b2, b3, b4⟩, q6, q7, q8, q9, q10, q11⟩ := h
    obtain ⟨b, hb, eb⟩ := b2 a ha
    have e50 : S.1.2.2 2 a + 50 = nI (b + 50) := by
      rw [eb]
      exact nI_add b 50
    have hle : b + 50 ≤ 1000000 := by
      have := c1.2
      rw [e50] at this
      have := (not_congr (nI_ltI (a := 1000000) (b := b + 50) (by omega) (by omega))).mp this
      omega
    refine ⟨⟨b + 49, by omega, ?_⟩, ?_⟩
    · unfold zChR
      rw [if_neg c, e50]
    · have hO2 := zCh_ok hO a
      have eS : (zChS S a).1 = (S.1.1, S.1.2.1, zSt S.1.2.2 2 a (S.1.2.2 2 a + 50)) := by
        unfold zChS
        rw [if_neg c]
        rfl
      refine ⟨hO2, ?_⟩
      rw [eS]
      have nf : ∀ f i, f ≠ 2 → (zSt S.1.2.2 2 a (S.1.2.2 2 a + 50)) f i = S.1.2.2 f i := fun f i z => zSt_nf _ _ _ _ z
      refine ⟨q2, q3, q4, ⟨(nf 11 10 (by decide)).trans b1, fun i hi => ?_, fun i hi => ?_, fun i hi => ?_⟩, ?_, q7.trans (nf 11 13 (by decide)).symm, fun i hi hz => ?_, zCls_eq q9 (fun f i z => nf f i (by omega)), ?_, fun i hi => ?_⟩
      · show ∃ b, b ≤ 1000000 ∧ (zSt S.1.2.2 2 a (S.1.2.2 2 a + 50)) 2 i = nI b
        rw [zSt_ap]
        by_cases e : i = a
        · rw [if_pos ⟨rfl, e⟩]
          exact ⟨b + 50, hle, e50⟩
        · rw [if_neg (fun z => e z.2)]
          exact b2 i hi
      · show ((zSt S.1.2.2 2 a (S.1.2.2 2 a + 50)) 3 i = 1 ∧ (zSt S.1.2.2 2 a (S.1.2.2 2 a + 50)) 6 i = -9) ∨ _
        rw [nf 3 i (by decide), nf 6 i (by decide)]
        exact b3 i hi
      · show (∃ a', a' < 100 ∧ (zSt S.1.2.2 2 a (S.1.2.2 2 a + 50)) 0 i = nI a') ∧ ∃ a', a' < 100 ∧ (zSt S.1.2.2 2 a (S.1.2.2 2 a + 50)) 1 i = nI a'
        rw [nf 0 i (by decide), nf 1 i (by decide)]
        exact b4 i hi
      · show gv + 50 = zEg n (zSt S.1.2.2 2 a (S.1.2.2 2 a + 50))
        rw [zEg_add ha, q6]
      · show ¬ (zSt S.1.2.2 2 a (S.1.2.2 2 a + 50)) 4 i = 1
        rw [nf 4 i (by decide)]
        exact q8 i hi hz
      · show (zSt S.1.2.2 2 a (S.1.2.2 2 a + 50)) 11 11 = _
        rw [nf 11 11 (by decide), q10]
        congr 1
      · show f (6 * i) = (zSt S.1.2.2 2 a (S.1.2.2 2 a + 50)) 0 i ∧ f ((6 * i) + 1) = (zSt S.1.2.2 2 a (S.1.2.2 2 a + 50)) 1 i
        rw [nf 0 i (by decide), nf 1 i (by decide)]
        exact q11 i hi
/-- undone, all is as it was -/
theorem zUn_Pu (S : zSg) (t : zS3) : (zUnS (zPu S t)).1 = S.1 := by
  show zHp S.2.1 S.1 S.2.2 (zKd S.2.1 + 1 - 1) = S.1
  unfold zHp
  rw [if_pos (by omega)]
/-- the loop's first head -/
theorem zLI.start {n cyc : Nat} {S S0 : zSg} {f : Nat → Int32} (h : zSn n S0 f) (hO : zOk S) (h1 : S.1.1 = n) (hg : zSe S.1.2.1) (h3 : S.1.2.1 3 = nI cyc) (v : Int32) (hτ : S.1.2.2 = zSt S0.1.2.2 11 9 v) : zLI n cyc 0 S f (zEg n S.1.2.2) 0 0 := by
  obtain ⟨-, -, -, ⟨z1, z2, z3, z4⟩, z5⟩ := h
  have nf : ∀ f i, ¬ (f = 11 ∧ i = 9) → S.1.2.2 f i = S0.1.2.2 f i := fun f i z => by
    rw [hτ, zSt_ap, if_neg z]
  refine ⟨hO, h1, hg, h3, ⟨(nf 11 10 (by decide)).trans z2, fun i hi => ?_, fun i hi => ?_, fun i hi => ?_⟩, rfl, ((nf 11 13 (by decide)).trans z4).symm, fun i hi hz => ?_, fun k hk => ?_, ?_, fun i hi => ?_⟩
  · rw [nf 2 i (by omega)]
    exact (z1 i hi).2.2.2.2.1
  · rw [nf 3 i (by omega), nf 6 i (by omega)]
    exact Or.inl ⟨(z1 i hi).1, (z1 i hi).2.1⟩
  · rw [nf 0 i (by omega), nf 1 i (by omega)]
    exact (z1 i hi).2.2.2.2.2
  · rw [b_0] at hz
    exact absurd hz (by decide)
  · rw [nf 7 k (by omega), nf 8 k (by omega)]
    exact Or.inl ⟨(z1 k hk).2.2.1, (z1 k hk).2.2.2.1⟩
  · rw [nf 11 11 (by decide), z3]
    have e : zSu (zHd S.1.2.2) n = 0 := by
      rw [zSu_eq (f := zHd S.1.2.2) (g := fun _ => 0) n (fun i hi => ?_), zSu_0]
      unfold zHd
      rw [nf 7 i (by omega), (z1 i hi).2.2.1]
      exact if_neg (fun q => absurd q (zM9 (by have := hO.1.1; omega)))
    rw [e]
    rfl
  · rw [nf 0 i (by omega), nf 1 i (by omega)]
    exact z5 i hi
