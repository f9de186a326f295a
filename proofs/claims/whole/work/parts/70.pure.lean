/-! ===== a round of the class and a round of the reference ===== -/
/-- equal but rows 9, 10 behind the last sensor -/
def zEq (n : Nat) (a b : zT) : Prop := ∀ f i, ((f = 9 ∨ f = 10) → i < n) → a f i = b f i
theorem zEq.rf {n : Nat} {a : zT} : zEq n a a := fun _ _ _ => rfl
theorem zEq.trans {n : Nat} {a b c : zT} (h : zEq n a b) (h2 : zEq n b c) : zEq n a c := fun f i q => (h f i q).trans (h2 f i q)
theorem zEq.symm {n : Nat} {a b : zT} (h : zEq n a b) : zEq n b a := fun f i q => (h f i q).symm
theorem zEq.lo {n : Nat} {a b : zT} (h : zEq n a b) {f : Nat} (i : Nat) (h1 : f ≠ 9) (h2 : f ≠ 10) : a f i = b f i := h f i (fun q => q.elim (fun e => absurd e h1) (fun e => absurd e h2))
theorem zEq.hi {n : Nat} {a b : zT} (h : zEq n a b) (f : Nat) {i : Nat} (hi : i < n) : a f i = b f i := h f i (fun _ => hi)
theorem zEq.e9 {n : Nat} {a b : zT} (h : zEq n a b) : zE9 a b := fun f i h1 h2 => h.lo i h1 h2
theorem zEq.st {n : Nat} {a b : zT} (h : zEq n a b) (f i : Nat) {v w : Int32} (hv : v = w) : zEq n (zSt a f i v) (zSt b f i w) := by
  intro f2 i2 q
  rw [zSt_ap, zSt_ap, hv, h f2 i2 q]
theorem zEq.it {n : Nat} {F K : Nat → zT → zT} (hf : ∀ k a b, k < n → zEq n a b → zEq n (F k a) (K k b)) {a b : zT} (h : zEq n a b) : ∀ k, k ≤ n → zEq n (zIt F k a) (zIt K k b) := by
  intro k
  induction k with
  | zero => exact fun _ => h
  | succ k ih => exact fun hk => hf k _ _ hk (ih (by omega))
theorem zEq.die {n : Nat} {a b : zT} (h : zEq n a b) (i : Nat) : zEq n (zDie a i) (zDie b i) := (h.st 3 i rfl).st 6 i (h.lo 10 (by decide) (by decide))
theorem zEq.pd {n : Nat} {a b : zT} (h : zEq n a b) (i : Nat) (c : Int32) : zEq n (zPd a i c) (zPd b i c) := (h.st 2 i (by rw [h.lo i (by decide) (by decide)])).st 11 14 (by rw [h.lo 14 (by decide) (by decide)])
theorem zEq.db {n : Nat} {a b : zT} (h : zEq n a b) (g : Nat → Int32) (i : Nat) : zDb g a i = zDb g b i := by
  unfold zDb
  rw [h.lo i (by decide) (by decide), h.lo i (by decide) (by decide)]
theorem zEq.ds {n : Nat} {a b : zT} (h : zEq n a b) (i j : Nat) : zDs a i j = zDs b i j := by
  unfold zDs
  rw [h.lo i (f := 0) (by decide) (by decide), h.lo i (f := 1) (by decide) (by decide), h.lo j (f := 0) (by decide) (by decide), h.lo j (f := 1) (by decide) (by decide)]
theorem zEq.anS {n : Nat} {a b : zT} (h : zEq n a b) (g : Nat → Int32) {k : Nat} (hk : k < n) : zEq n (zAnS g k a) (zAnS g k b) := by
  unfold zAnS
  rw [h.hi 10 hk, h.lo k (f := 2) (by decide) (by decide)]
  split
  · split
    · exact h.die k
    · unfold zAnY
      exact ((((h.pd k (g 7)).st 7 k rfl).st 4 k rfl).st 5 k (by rw [h.lo k (f := 5) (by decide) (by decide)])).st 11 11 (by rw [h.lo 11 (f := 11) (by decide) (by decide)])
  · exact h
theorem zEq.tk {n : Nat} {a b : zT} (h : zEq n a b) (g : Nat → Int32) (i : Nat) : zEq n (zTk g a i).1 (zTk g b i).1 ∧ (zTk g a i).2 = (zTk g b i).2 := by
  unfold zTk
  rw [h.lo i (f := 3) (by decide) (by decide), h.lo i (f := 2) (by decide) (by decide), (h.pd i (g 4)).lo i (f := 2) (by decide) (by decide)]
  split
  · split
    · exact ⟨h.die i, rfl⟩
    · split
      · exact ⟨(h.pd i (g 4)).die i, rfl⟩
      · exact ⟨(h.pd i (g 4)).pd i (g 6), rfl⟩
  · exact ⟨h, rfl⟩
theorem zEq.sd {n : Nat} {a b : zT} (h : zEq n a b) (g : Nat → Int32) (i j : Nat) : zEq n (zSd g a i j).1 (zSd g b i j).1 ∧ (zSd g a i j).2 = (zSd g b i j).2 := by
  unfold zSd
  rw [h.lo i (f := 2) (by decide) (by decide), h.ds i j]
  split
  · exact ⟨h.die i, rfl⟩
  · exact (h.pd i _).tk g j
theorem zEq.rpS {n : Nat} {a b : zT} (h : zEq n a b) (g : Nat → Int32) {x : Nat} (hx : x < n) (k : Nat) : zEq n (zRpS g x k a) (zRpS g x k b) := by
  obtain ⟨s1, s2⟩ := h.sd g k x
  unfold zRpS
  rw [h.lo k (f := 7) (by decide) (by decide), h.lo k (f := 3) (by decide) (by decide), s2]
  split
  · split
    · exact s1
    · exact s1.st 9 x (by rw [s1.hi 9 hx])
  · exact h
theorem zEq.owS {n : Nat} {a b : zT} (h : zEq n a b) (g : Nat → Int32) {k : Nat} (hk : k < n) : zEq n (zOwS g k a) (zOwS g k b) := by
  unfold zOwS
  rw [h.lo k (f := 3) (by decide) (by decide), h.lo k (f := 7) (by decide) (by decide), h.lo k (f := 2) (by decide) (by decide)]
  split
  · split
    · exact h.die k
    · exact (h.pd k (g 6)).st 9 k (by rw [h.hi 9 hk])
  · exact h
theorem zEq.sb {n : Nat} {a b : zT} (h : zEq n a b) (g : Nat → Int32) (i : Nat) {v w : Int32} (hv : v = w) : zEq n (zSb g a i v) (zSb g b i w) := by
  unfold zSb
  rw [h.lo i (f := 2) (by decide) (by decide), h.db g i]
  split
  · exact h.die i
  · exact (h.pd i _).st 11 12 (by rw [h.lo 12 (f := 11) (by decide) (by decide), hv])
theorem zEq.ddS {n : Nat} {a b : zT} (h : zEq n a b) (g : Nat → Int32) {k : Nat} (hk : k < n) : zEq n (zDdS g k a) (zDdS g k b) := by
  unfold zDdS
  rw [h.lo k (f := 3) (by decide) (by decide), h.lo k (f := 7) (by decide) (by decide)]
  split
  · exact h.sb g k (h.hi 9 hk)
  · exact h
theorem zEq.rlS {n : Nat} {a b : zT} (h : zEq n a b) (g : Nat → Int32) {r k : Nat} (hr : r < n) (hk : k < n) : zEq n (zRlS g r k a) (zRlS g r k b) := by
  obtain ⟨s1, s2⟩ := h.sd g k r
  unfold zRlS
  rw [h.lo k (f := 3) (by decide) (by decide), h.lo k (f := 7) (by decide) (by decide), s2]
  split
  · split
    · exact s1
    · exact s1.st 9 r (by rw [s1.hi 9 hr, s1.hi 9 hk])
  · exact h
theorem zEq.rlE {n : Nat} {a b : zT} (h : zEq n a b) (g : Nat → Int32) {r : Nat} (hr : r < n) : zEq n (zRlE g r a) (zRlE g r b) := by
  unfold zRlE
  rw [h.lo r (f := 3) (by decide) (by decide)]
  split
  · exact h.sb g r (h.hi 9 hr)
  · exact h
theorem zEq.neS {n : Nat} {a b : zT} (h : zEq n a b) (x y : Int32) (k : Nat) (o : Option Nat) : zNeS a x y k o = zNeS b x y k o := by
  unfold zNeS
  have e : zOd a x y o = zOd b x y o := by
    cases o with
    | none => rfl
    | some j =>
      show zDi _ _ x y = zDi _ _ x y
      rw [h.lo j (f := 0) (by decide) (by decide), h.lo j (f := 1) (by decide) (by decide)]
  rw [h.lo k (f := 3) (by decide) (by decide), h.lo k (f := 7) (by decide) (by decide), h.lo k (f := 0) (by decide) (by decide), h.lo k (f := 1) (by decide) (by decide), e]
theorem zEq.ne {n : Nat} {a b : zT} (h : zEq n a b) (N : Nat) (x y : Int32) : zNe N a x y = zNe N b x y := by
  unfold zNe
  have e : zNeS a x y = zNeS b x y := by
    funext k o
    exact h.neS x y k o
  rw [e]
theorem zEq.rl {n : Nat} {a b : zT} (h : zEq n a b) (g : Nat → Int32) : zEq n (zRl n g a) (zRl n g b) := by
  unfold zRl
  rw [h.ne n (g 1) (g 2)]
  cases hr : zNe n b (g 1) (g 2) with
  | none => exact h
  | some r =>
    have hr2 : r < n := zNe_lt n b (g 1) (g 2) n r hr
    exact (zEq.it (F := zRlS g r) (K := zRlS g r) (fun k a b hk q => q.rlS g hr2 hk) h n (Nat.le_refl n)).rlE g hr2
theorem zEq.dv {n : Nat} {a b : zT} (h : zEq n a b) (g : Nat → Int32) : zEq n (zDv n g a) (zDv n g b) := by
  unfold zDv
  split
  · exact h.rl g
  · exact zEq.it (F := zDdS g) (K := zDdS g) (fun k a b hk q => q.ddS g hk) h n (Nat.le_refl n)
/-- reports: the class's way and the reference's -/
theorem zSd_7 (g : Nat → Int32) (τ : zT) (i j k : Nat) : (zSd g τ i j).1 7 k = τ 7 k := by
  have die : ∀ (u : zT) (x : Nat), (zDie u x) 7 k = u 7 k := fun u x => by
    unfold zDie
    rw [zSt_nf _ _ _ _ (by decide), zSt_nf _ _ _ _ (by decide)]
  have pd : ∀ (u : zT) (x : Nat) (c : Int32), (zPd u x c) 7 k = u 7 k := fun u x c => by
    unfold zPd
    rw [zSt_nf _ _ _ _ (by decide), zSt_nf _ _ _ _ (by decide)]
  unfold zSd
  split
  · exact die τ i
  · unfold zTk
    split
    · split
      · simp only [die, pd]
      · split
        · simp only [die, pd]
        · simp only [die, pd]
    · simp only [pd]
theorem zRpS_7 (g : Nat → Int32) (h k : Nat) (τ : zT) (j : Nat) : (zRpS g h k τ) 7 j = τ 7 j := by
  unfold zRpS
  split
  · split
    · exact zSd_7 g τ k h j
    · rw [zSt_nf _ _ _ _ (by decide)]
      exact zSd_7 g τ k h j
  · rfl
theorem zRm_eq (n : Nat) (g : Nat → Int32) (h : Nat) (τ : zT) : zRm n g h τ = zRhS n g h τ := by
  unfold zRm zRhS
  split
  · rename_i c
    have key : ∀ k, zIt (zRqS g h) k τ = zIt (zRpS g h) k τ ∧ (zIt (zRpS g h) k τ) 7 h = nI h := by
      intro k
      induction k with
      | zero => exact ⟨rfl, c⟩
      | succ k ih =>
        rw [zIt_s, zIt_s, ih.1]
        unfold zRqS
        rw [if_pos ih.2]
        exact ⟨rfl, (zRpS_7 g h k _ h).trans ih.2⟩
    exact (key n).1
  · rename_i c
    have := zRq_stop (g := g) (h := h) (k := 0) (τ := τ) c n
    rw [Nat.zero_add] at this
    exact this
theorem zEq.rh {n : Nat} {a b : zT} (h : zEq n a b) (g : Nat → Int32) {x : Nat} (hx : x < n) : zEq n (zRhS n g x a) (zRm n g x b) := by
  rw [zRm_eq]
  unfold zRhS
  rw [h.lo x (f := 7) (by decide) (by decide)]
  split
  · exact zEq.it (F := zRpS g x) (K := zRpS g x) (fun k a b _ q => q.rpS g hx k) h n (Nat.le_refl n)
  · exact h
/-- alone: the reference's readings are other -/
theorem zE9.st {a b : zT} (h : zE9 a b) (f i : Nat) {v w : Int32} (hv : v = w) : zE9 (zSt a f i v) (zSt b f i w) := by
  intro f2 i2 h1 h2
  rw [zSt_ap, zSt_ap, hv, h f2 i2 h1 h2]
theorem zE9.al {a b : zT} (h : zE9 a b) (g : Nat → Int32) (k : Nat) : zE9 (zRbS g k a) (zAlS g k b) := by
  have h2 : zE9 a (zSt b 9 k 1) := fun f i h1 h2 => by
    rw [zSt_nf _ _ _ _ h1]
    exact h f i h1 h2
  have e9 : (zSt b 9 k 1) 9 k = 1 := zSt_self b 9 k 1
  unfold zRbS zAlS zDmS
  rw [e9]
  generalize zSt b 9 k 1 = u at h2
  rw [h2 3 k (by decide) (by decide)]
  split
  · unfold zSb zDb
    rw [h2 2 k (by decide) (by decide), h2 0 k (by decide) (by decide), h2 1 k (by decide) (by decide)]
    split
    · exact (h2.st 3 k rfl).st 6 k (h2 11 10 (by decide) (by decide))
    · have p := (h2.st 2 k (v := a 2 k - zCo g (zDi (u 0 k) (u 1 k) (g 1) (g 2))) (w := u 2 k - zCo g (zDi (u 0 k) (u 1 k) (g 1) (g 2))) (by rw [h2 2 k (by decide) (by decide)])).st 11 14 (v := a 11 14 + zCo g (zDi (u 0 k) (u 1 k) (g 1) (g 2))) (w := u 11 14 + zCo g (zDi (u 0 k) (u 1 k) (g 1) (g 2))) (by rw [h2 11 14 (by decide) (by decide)])
      exact p.st 11 12 (by rw [h2 11 12 (by decide) (by decide)])
  · exact h2
theorem zE9.als {a b : zT} (h : zE9 a b) (g : Nat → Int32) : ∀ k, zE9 (zIt (zRbS g) k a) (zIt (zAlS g) k b) := by
  intro k
  induction k with
  | zero => exact h
  | succ k ih => exact ih.al g k
