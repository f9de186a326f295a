/-! ===== masks; the first rows are the kit's starting text on bits ===== -/
def bt (x : Int32) (i : Nat) : Bool := x.toBitVec.getLsbD i
theorem b_ext {x y : Int32} (h : ∀ i, i < 32 → bt x i = bt y i) : x = y := Int32.toBitVec_inj.mp (BitVec.eq_of_getLsbD_eq (fun i hi => h i hi))
theorem b_or (x y : Int32) (i : Nat) : bt (x ||| y) i = (bt x i || bt y i) := by unfold bt; rw [Int32.toBitVec_or, BitVec.getLsbD_or]
theorem b_and (x y : Int32) (i : Nat) : bt (x &&& y) i = (bt x i && bt y i) := by unfold bt; rw [Int32.toBitVec_and, BitVec.getLsbD_and]
theorem b_xor (x y : Int32) (i : Nat) : bt (x ^^^ y) i = (bt x i ^^ bt y i) := by unfold bt; rw [Int32.toBitVec_xor, BitVec.getLsbD_xor]
theorem b_m1 : ∀ i, i < 32 → bt (-1) i = true := by decide +kernel
theorem b_0 (i : Nat) : bt 0 i = false := BitVec.getLsbD_zero
theorem s_l : ∀ n, n < 32 → ((nI n &&& 31).toBitVec.smod 32).toNat = n := by decide +kernel
theorem b_shl (n : Nat) (hn : n < 32) (x : Int32) {i : Nat} (hi : i < 32) : bt (x <<< (nI n &&& 31)) i = (decide (n ≤ i) && bt x (i - n)) := by
  unfold bt
  rw [Int32.toBitVec_shiftLeft]
  show (x.toBitVec <<< ((nI n &&& 31).toBitVec.smod 32).toNat).getLsbD i = _
  rw [s_l n hn, BitVec.getLsbD_shiftLeft]
  rcases Nat.lt_or_ge i n with h | h
  · simp [h, Nat.not_le.mpr h]
  · simp [hi, h, Nat.not_lt.mpr h]
theorem b_sshr (n : Nat) (hn : n < 32) (x : Int32) {i : Nat} (hi : i < 32) : bt (x >>> (nI n &&& 31)) i = if n + i < 32 then bt x (n + i) else bt x 31 := by
  unfold bt
  rw [Int32.toBitVec_shiftRight]
  show (x.toBitVec.sshiftRight ((nI n &&& 31).toBitVec.smod 32).toNat).getLsbD i = _
  rw [s_l n hn, BitVec.getLsbD_sshiftRight, BitVec.msb_eq_getLsbD_last]
  simp [hi]
/-- a mask out of bits -/
def zMkS (b : Nat → Int32) (k : Nat) (v : Int32) : Int32 := v ||| (b k <<< (nI k &&& 31))
theorem b_1 : ∀ i, i < 32 → bt 1 i = decide (i = 0) := by decide +kernel
theorem zMk_b1 {k j : Nat} (hk : k < 32) (hj : j < 32) : bt ((1 : Int32) <<< (nI k &&& 31)) j = decide (j = k) := by
  rw [b_shl k hk 1 hj]
  by_cases h : k ≤ j
  · rw [decide_eq_true h, b_1 _ (by omega)]
    by_cases e : j = k
    · rw [decide_eq_true e, decide_eq_true (by omega)]
      rfl
    · rw [decide_eq_false e, decide_eq_false (by omega)]
      rfl
  · rw [decide_eq_false h, decide_eq_false (by omega)]
    rfl
theorem zMk_b0 {k j : Nat} (hk : k < 32) (hj : j < 32) : bt ((0 : Int32) <<< (nI k &&& 31)) j = false := by
  rw [b_shl k hk 0 hj, b_0, Bool.and_false]
theorem zMk_bt {b : Nat → Int32} {n : Nat} (hn : n ≤ 12) (hb : ∀ k, k < n → b k = 0 ∨ b k = 1) {j : Nat} (hj : j < 32) : ∀ k, k ≤ n → bt (zIt (zMkS b) k 0) j = decide (j < k ∧ b j = 1) := by
  intro k
  induction k with
  | zero => exact fun _ => (b_0 j).trans (decide_eq_false (by omega)).symm
  | succ k ih =>
    intro hk
    show bt (zIt (zMkS b) k 0 ||| (b k <<< (nI k &&& 31))) j = _
    rw [b_or, ih (by omega)]
    rcases hb k (by omega) with e | e
    · rw [e, zMk_b0 (by omega) hj, Bool.or_false]
      refine decide_eq_decide.mpr ⟨fun q => ⟨by omega, q.2⟩, fun q => ⟨?_, q.2⟩⟩
      by_cases c : j = k
      · subst c
        exact absurd (e.symm.trans q.2) (by decide)
      · omega
    · rw [e, zMk_b1 (by omega) hj, ← Bool.decide_or]
      refine decide_eq_decide.mpr ⟨fun q => ?_, fun q => ?_⟩
      · rcases q with q | q
        · exact ⟨by omega, q.2⟩
        · subst q
          exact ⟨by omega, e⟩
      · by_cases c : j = k
        · exact Or.inr c
        · exact Or.inl ⟨by omega, q.2⟩
/-- the heads' bits come to a mask -/
def zBeS (τ : zT) (k : Nat) (v : Int32) : Int32 := v ||| (if τ 7 k = nI k then 1 <<< (nI k &&& 31) else 0)
theorem zBe_bt {τ : zT} {n : Nat} (hn : n ≤ 12) (v : Int32) {j : Nat} (hj : j < 32) : ∀ k, k ≤ n → bt (zIt (zBeS τ) k v) j = (bt v j || decide (j < k ∧ τ 7 j = nI j)) := by
  intro k
  induction k with
  | zero => exact fun _ => by rw [decide_eq_false (by omega), Bool.or_false]; rfl
  | succ k ih =>
    intro hk
    show bt (zIt (zBeS τ) k v ||| (if τ 7 k = nI k then 1 <<< (nI k &&& 31) else 0)) j = _
    rw [b_or, ih (by omega), Bool.or_assoc]
    congr 1
    by_cases e : τ 7 k = nI k
    · rw [if_pos e, zMk_b1 (by omega) hj, ← Bool.decide_or]
      refine decide_eq_decide.mpr ⟨fun q => ?_, fun q => ?_⟩
      · rcases q with q | q
        · exact ⟨by omega, q.2⟩
        · subst q
          exact ⟨by omega, e⟩
      · by_cases c : j = k
        · exact Or.inr c
        · exact Or.inl ⟨by omega, q.2⟩
    · rw [if_neg e, b_0, Bool.or_false]
      refine decide_eq_decide.mpr ⟨fun q => ⟨by omega, q.2⟩, fun q => ⟨?_, q.2⟩⟩
      by_cases c : j = k
      · subst c
        exact absurd q.2 e
      · omega
/-- one bit of a mask -/
theorem zBt1 {x : Int32} {k : Nat} (hk : k < 32) : (x >>> (nI k &&& 31)) &&& 1 = zBi (bt x k = true) := by
  have key : ∀ i, i < 32 → bt ((x >>> (nI k &&& 31)) &&& 1) i = (decide (i = 0) && bt x k) := fun i hi => by
    rw [b_and, b_1 i hi, b_sshr k hk x hi]
    by_cases e : i = 0
    · subst e
      rw [if_pos (by omega)]
      simp
    · rw [decide_eq_false e]
      simp
  refine b_ext fun i hi => ?_
  rw [key i hi]
  cases h : bt x k with
  | false =>
    rw [zBi_f (by decide), b_0, Bool.and_false]
  | true =>
    rw [zBi_t rfl, b_1 i hi, Bool.and_true]
/-- the alive, counted out of their mask -/
def zMaS (A : Int32) (k : Nat) (v : Int32) : Int32 := v + ((A >>> (nI k &&& 31)) &&& 1)
theorem zMa_nI {A : Int32} {P : Nat → Bool} {n : Nat} (hn : n ≤ 12) (h : ∀ j, j < n → bt A j = P j) : ∀ k, k ≤ n → zIt (zMaS A) k 0 = nI (zSu (fun i => if P i = true then 1 else 0) k) := by
  intro k
  induction k with
  | zero => exact fun _ => rfl
  | succ k ih =>
    intro hk
    rw [zIt_s, ih (by omega)]
    unfold zMaS
    rw [zBt1 (by omega), h k (by omega)]
    show _ = nI (zSu (fun i => if P i = true then 1 else 0) k + (if P k = true then 1 else 0))
    by_cases c : P k = true
    · rw [if_pos c, zBi_t c]
      exact nI_1 _
    · rw [if_neg c, zBi_f c]
      exact Int32.add_zero _
