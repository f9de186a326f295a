/-! ===== calls that change the state ===== -/
theorem zRp.stt {n : Nat} {a b : zT} (h : zRp n a b) (f i : Nat) {v w : Int32} (hv : w = v) : zRp n (zSt a f i v) (zSt b f i w) := by
  subst hv
  refine ⟨fun k h1 h2 => ?_, fun f2 i2 h1 h2 => ?_⟩
  · rw [zSt_ap, zSt_ap, h.1 k h1 h2]
  · rw [zSt_ap, zSt_ap, h.2 f2 i2 h1 h2]
theorem s_X4_setGenerator (l : Launch) (G : zG) (ad : Nat → Nat) (na : Nat → Nat → Nat) (ma : Nat → Nat) (hd : zTd ad na ma) (S : zSg) (hS : zOk S) (x : Int32) (hx : ¬ x < 0) : zMi l G (zAll ad na ma) yX4_setGenerator wsX4_setGenerator 3 64 [.ref (ma 0), .int x] (zCP G ad na ma S) (S.1.2.2 11 10) (zCP G ad na ma (zPu S (S.1.1, S.1.2.1, zSt S.1.2.2 11 9 x))) := by
  refine z_lift (A := zAll ad na ma) (fun H hH => ?_) (fun _ h => h)
  obtain ⟨π, T, n, g, τ, fl, h1, h2, h3, h5, h6⟩ := hH
  have p := p_X4_setGenerator l G ad na ma hd π h1 S.2.1 hS.2.1 fl T n (h2.n ▸ hS.1.1) g τ x
  rw [if_neg hx, if_neg hx, h2.k (by decide) (by decide)] at p
  exact ⟨_, _, h6, p, fun H1 _ _ q => zCP_push (τ2 := zSt τ 11 9 x) hS h1 h2 h3 h5 ⟨h2.1, h2.2.1, h2.2.2.stt 11 9 rfl⟩ q⟩
theorem z_liftT {l : Launch} {G : zG} {A : Nat → Prop} {y : MethodName} {ws : List Cond} {fr lo : Nat} {av : List Value} {r : Int32} {P' P2' : Heap → Prop} (h : ∀ H : Heap, P' H → ∃ P P2 : Heap → Prop, P H ∧ zMiT l G A y ws fr lo av P r P2 ∧ ∀ H1 : Heap, H.size ≤ H1.size → (∀ q, q < H.size → ¬ A q → H1[q]? = H[q]?) → P2 H1 → P2' H1) : zMiT l G A y ws fr lo av P' r P2' := by
  intro p e ha hc hk s m args below hf happ hp hk'
  obtain ⟨⟨hav, hP, hK⟩, hT⟩ := hp
  obtain ⟨P, P2, h1, h2, h3⟩ := h s.heap hP
  obtain ⟨n, o, w1, w2, w3, ⟨⟨r1, u, e1, e2, hB⟩, hF⟩, L, hL, hfr⟩ := h2 p e ha hc hk s m args below hf happ ⟨⟨hav, h1, hK⟩, hT⟩ hk'
  exact ⟨n, o, w1, w2, w3, ⟨⟨r1, u, e1, e2, h3 _ hF.1 hF.2 hB.1, hB.2⟩, hF⟩, L, hL, hfr⟩
def zSsS (S : zSg) (j : Nat) (v : Int32) : zSg := if v = S.1.2.1 (3 + j) then S else zPu S (S.1.1, upd S.1.2.1 (3 + j) v, S.1.2.2)
def zSsR (S : zSg) (j : Nat) (v : Int32) : Int32 := if v = S.1.2.1 (3 + j) then -2 else S.1.2.1 (3 + j)
theorem zSsS_1 (S : zSg) (j : Nat) (v : Int32) : (zSsS S j v).1 = (S.1.1, upd S.1.2.1 (3 + j) v, S.1.2.2) := by
  unfold zSsS
  by_cases c : v = S.1.2.1 (3 + j)
  · rw [if_pos c]
    have e : upd S.1.2.1 (3 + j) v = S.1.2.1 := by
      funext i
      unfold upd
      split
      · rename_i h
        rw [h, c]
      · rfl
    rw [e]
  · rw [if_neg c]
    rfl
theorem zSs_ok {S : zSg} (hS : zOk S) (j : Nat) (v : Int32) (h1 : 0 < upd S.1.2.1 (3 + j) v 3) (h2 : 0 < upd S.1.2.1 (3 + j) v 5) : zOk (zSsS S j v) := by
  unfold zSsS
  split
  · exact hS
  · exact zPu_ok hS ⟨hS.1.1, h1, h2, hS.1.2.2.2⟩
theorem s_X4_setSetting (l : Launch) (G : zG) (ad : Nat → Nat) (na : Nat → Nat → Nat) (ma : Nat → Nat) (hd : zTd ad na ma) (S : zSg) (hS : zOk S) (j : Nat) (hj : j < 6) (v : Int32) (hv : ¬ v < zLe j ∧ ¬ zGr j < v) : zMiT l G (zAll ad na ma) yX4_setSetting wsX4_setSetting 3 64 [.ref (ma 0), .int (nI j), .int v] (zCP G ad na ma S) (zSsR S j v) (zCP G ad na ma (zSsS S j v)) := by
  refine z_liftT (fun H hH => ?_)
  obtain ⟨π, T, n, g, τ, fl, h1, h2, h3, h5, h6⟩ := hH
  have p := p_X4_setSetting l G ad na ma hd π h1 S.2.1 hS.2.1 fl T n (h2.n ▸ hS.1.1) g τ (nI j) v
  have c1 : ¬ nI j < 0 ∧ ¬ 5 < nI j := ⟨nI_pos (by omega), fun q => by
    have q : nI 5 < nI j := q
    have := (nI_ltI (by omega) (by omega)).mp q
    omega⟩
  have ej : (nI j).toNatClampNeg = j := nI_clamp (by omega)
  have eg : g (3 + j) = S.1.2.1 (3 + j) := h2.g (by omega) (by omega)
  rw [ej] at p
  rw [if_neg (not_not_intro c1), if_neg (not_not_intro c1), if_neg (not_not_intro hv), if_neg (not_not_intro hv), eg] at p
  refine ⟨_, _, h6, p, fun H1 _ _ q => ?_⟩
  unfold zSsS
  by_cases c : v = S.1.2.1 (3 + j)
  · rw [if_pos c] at q ⊢
    exact ⟨π, T, n, g, τ, fl, h1, h2, h3, h5, q⟩
  · rw [if_neg c] at q ⊢
    refine zCP_push (g2 := upd g (3 + j) v) hS h1 h2 h3 h5 ⟨h2.1, fun i a b => ?_, h2.2.2⟩ q
    show upd g (3 + j) v i = upd S.1.2.1 (3 + j) v i
    unfold upd
    rw [h2.g a b]
/-- charging a sensor by 50 -/
def zChS (S : zSg) (k : Nat) : zSg := if ¬ (S.1.2.2 3 k = 1 ∧ ¬ 1000000 < S.1.2.2 2 k + 50) then S else zPu S (S.1.1, S.1.2.1, zSt S.1.2.2 2 k (S.1.2.2 2 k + 50))
def zChR (S : zSg) (k : Nat) : Int32 := if ¬ (S.1.2.2 3 k = 1 ∧ ¬ 1000000 < S.1.2.2 2 k + 50) then -2 else S.1.2.2 2 k + 50
theorem zCh_ok {S : zSg} (hS : zOk S) (k : Nat) : zOk (zChS S k) := by
  unfold zChS
  split
  · exact hS
  · refine zPu_ok hS ⟨hS.1.1, hS.1.2.1, hS.1.2.2.1, ?_⟩
    show 0 ≤ (zSt S.1.2.2 2 k (S.1.2.2 2 k + 50)) 11 9
    rw [zSt_nf _ _ _ _ (by decide)]
    exact hS.1.2.2.2
theorem s_X4_charge (l : Launch) (G : zG) (ad : Nat → Nat) (na : Nat → Nat → Nat) (ma : Nat → Nat) (hd : zTd ad na ma) (S : zSg) (hS : zOk S) (k : Nat) (hk : k < S.1.1) : zMi l G (zAll ad na ma) yX4_charge wsX4_charge 3 64 [.ref (ma 0), .int (nI k), .int 50] (zCP G ad na ma S) (zChR S k) (zCP G ad na ma (zChS S k)) := by
  refine z_lift (A := zAll ad na ma) (fun H hH => ?_) (fun _ h => h)
  obtain ⟨π, T, n, g, τ, fl, h1, h2, h3, h5, h6⟩ := hH
  obtain rfl := h2.n
  have p := p_X4_charge l G ad na ma hd π h1 S.2.1 hS.2.1 fl T S.1.1 hS.1.1 g τ (nI k) 50
  have c : (¬ nI k < 0 ∧ nI k < nI S.1.1) ∧ (¬ (50 : Int32) < 1 ∧ ¬ 100000 < (50 : Int32)) := ⟨zIxn hS.1.1 hk, by decide, by decide⟩
  have ek : (nI k).toNatClampNeg = k := nI_clamp (by have := hS.1.1; omega)
  have e3 : τ 3 k = S.1.2.2 3 k := h2.f (by decide) hk
  have e2 : τ 2 k = S.1.2.2 2 k := h2.f (by decide) hk
  rw [if_neg (not_not_intro c), if_neg (not_not_intro c), ek, e3, e2] at p
  unfold zChR zChS
  by_cases c2 : ¬ (S.1.2.2 3 k = 1 ∧ ¬ 1000000 < S.1.2.2 2 k + 50)
  · rw [if_pos c2, if_pos c2] at p
    rw [if_pos c2, if_pos c2]
    exact ⟨_, _, h6, p, fun H1 _ _ q => ⟨π, T, S.1.1, g, τ, fl, h1, h2, h3, h5, q⟩⟩
  · rw [if_neg c2, if_neg c2] at p
    rw [if_neg c2, if_neg c2]
    exact ⟨_, _, h6, p, fun H1 _ _ q => zCP_push (τ2 := zSt τ 2 k (S.1.2.2 2 k + 50)) hS h1 h2 h3 h5 ⟨h2.1, h2.2.1, h2.2.2.stt 2 k rfl⟩ q⟩
theorem zRp_add {n : Nat} {a b : zT} (h : zRp n a b) (x y w : Int32) : zRp (n + 1) (zNs a n x y w) (zPlc b n x y w) := by
  have key : ∀ f i, (f = 11 ∧ 9 ≤ i ∧ i < 15) ∨ (f < 9 ∧ i < n + 1) → zPlc b n x y w f i = zNs a n x y w f i := by
    intro f i q
    unfold zPlc zNs zBr
    simp only [zSt_ap]
    by_cases e : i = n
    · subst e
      rcases q with q | q
      · have := h.1 i q.2.1 q.2.2
        have h1 := q.1
        subst h1
        simp [this]
      · have cs : f = 0 ∨ f = 1 ∨ f = 2 ∨ f = 3 ∨ f = 4 ∨ f = 5 ∨ f = 6 ∨ f = 7 ∨ f = 8 := by omega
        rcases cs with rfl | rfl | rfl | rfl | rfl | rfl | rfl | rfl | rfl <;> simp
    · have hb : b f i = a f i := by
        rcases q with q | q
        · rw [q.1]
          exact h.1 i q.2.1 q.2.2
        · exact h.2 f i q.1 (by omega)
      simp [e, hb]
  exact ⟨fun k h1 h2 => key 11 k (Or.inl ⟨rfl, h1, h2⟩), fun f i h1 h2 => key f i (Or.inr ⟨h1, h2⟩)⟩
theorem zNs_9 (a : zT) (n : Nat) (x y b : Int32) : zNs a n x y b 11 9 = a 11 9 := by
  unfold zNs
  simp [zSt_ap]
theorem zAd_ok {S : zSg} (hS : zOk S) (hk : S.1.1 < 12) (x y b : Int32) : zOk (zPu S (S.1.1 + 1, S.1.2.1, zNs S.1.2.2 S.1.1 x y b)) := by
  refine zPu_ok hS ⟨by show S.1.1 + 1 ≤ 12; omega, hS.1.2.1, hS.1.2.2.1, ?_⟩
  show 0 ≤ zNs S.1.2.2 S.1.1 x y b 11 9
  rw [zNs_9]
  exact hS.1.2.2.2
theorem s_X4_addSensor (l : Launch) (G : zG) (ad : Nat → Nat) (na : Nat → Nat → Nat) (ma : Nat → Nat) (hd : zTd ad na ma) (S : zSg) (hS : zOk S) (hk : S.1.1 < 12) (x y b : Int32) (hc : zC3 x y b) : zMi l G (zAll ad na ma) yX4_addSensor wsX4_addSensor 3 64 [.ref (ma 0), .int x, .int y, .int b] (zCP G ad na ma S) (nI S.1.1) (zCP G ad na ma (zPu S (S.1.1 + 1, S.1.2.1, zNs S.1.2.2 S.1.1 x y b))) := by
  refine z_lift (A := zAll ad na ma) (fun H hH => ?_) (fun _ h => h)
  obtain ⟨π, T, n, g, τ, fl, h1, h2, h3, h5, h6⟩ := hH
  obtain rfl := h2.n
  have p := p_X4_addSensor l G ad na ma hd π h1 S.2.1 hS.2.1 fl T S.1.1 hS.1.1 g τ x y b
  have c2 : ¬ S.1.1 = 12 := by omega
  rw [if_neg (not_not_intro hc), if_neg (not_not_intro hc), if_neg c2, if_neg c2] at p
  exact ⟨_, _, h6, p, fun H1 _ _ q => zCP_push (τ2 := zPlc τ S.1.1 x y b) (n2 := S.1.1 + 1) hS h1 h2 h3 h5 ⟨rfl, h2.2.1, zRp_add h2.2.2 x y b⟩ q⟩
theorem zNA_g {G : zG} {ad : Nat → Nat} {n N : Nat} {g g2 : Nat → Int32} {X : va_W} {τ : zT} {H : Heap} (hg : ∀ j, 1 ≤ j → j < 9 → g j = g2 j) (h : zNA G ad n N g X τ H) : zNA G ad n N g2 X τ H := by
  obtain ⟨τ2, h1, hP⟩ := h
  refine ⟨τ2, h1, fun k q hk => ?_⟩
  match k with
  | 0 =>
    cases hk
    have e : zObj ad n g2 τ2 = zObj ad n g τ2 := by
      unfold zObj
      rw [hg 1 (by decide) (by decide), hg 2 (by decide) (by decide)]
    rw [e]
    exact hP 0 _ rfl
  | 1 => cases hk; exact hP 1 _ rfl
  | 2 =>
    cases hk
    have hx : H[ad 2]? = some (vp_cell G.2.2.1 (6, .inl (fun j => g (3 + j)))) := hP 2 _ rfl
    show H[ad 2]? = some (vp_cell _ _)
    rw [hx, zArr_exI]
    intro i hi
    exact hg _ (by omega) (by omega)
  | k + 3 => exact hP (k + 3) q hk
/-- run -/
def zRnS (S : zSg) (k : Nat) : zSg := if zCa S.1.1 S.1.2.2 = 0 then S else zPu S (S.1.1, S.1.2.1, (zPf S.1.1 S.1.2.1 k S.1.2.2).2)
def zRnR (S : zSg) (k : Nat) : Int32 := if zCa S.1.1 S.1.2.2 = 0 then -2 else nI (zPf S.1.1 S.1.2.1 k S.1.2.2).1
theorem zRn_ok {S : zSg} (hS : zOk S) (k : Nat) : zOk (zRnS S k) := by
  unfold zRnS
  split
  · exact hS
  · exact zPu_ok hS ⟨hS.1.1, hS.1.2.1, hS.1.2.2.1, zPf_gen hS.1.2.2.2 k⟩
theorem s_X4_run (l : Launch) (G : zG) (ad : Nat → Nat) (na : Nat → Nat → Nat) (ma : Nat → Nat) (hd : zTd ad na ma) (S : zSg) (hS : zOk S) (k : Nat) (h1k : 1 ≤ k) (h2k : k ≤ 50) : zMi l G (zAll ad na ma) yX4_run wsX4_run 6 136 [.ref (ma 0), .int (nI k)] (zCP G ad na ma S) (zRnR S k) (zCP G ad na ma (zRnS S k)) := by
  refine z_lift (A := zAll ad na ma) (fun H hH => ?_) (fun _ h => h)
  obtain ⟨π, T, n, g, τ, fl, h1, h2, h3, h5, h6⟩ := hH
  obtain rfl := h2.n
  have h6 := zNA_g (fun j a b => h2.g a b) h6
  have h2 : zSm S.1 (S.1.1, S.1.2.1, τ) := ⟨rfl, fun _ _ _ => rfl, h2.2.2⟩
  have p := p_X4_run l G ad na ma hd π h1 S.2.1 hS.2.1 fl T S.1.1 hS.1.1 S.1.2.1 τ hS.1.2.1 hS.1.2.2.1 S.1.2.2 h2.2.2 hS.1.2.2.2 (nI k)
  have ek : (nI k).toNatClampNeg = k := nI_clamp (by omega)
  have c1 : ¬ nI k < 1 ∧ ¬ 50 < nI k := ⟨fun q => by
    have q : nI k < nI 1 := q
    have := (nI_ltI (by omega) (by omega)).mp q
    omega, fun q => by
    have q : nI 50 < nI k := q
    have := (nI_ltI (by omega) (by omega)).mp q
    omega⟩
  have ec : zCa S.1.1 τ = zCa S.1.1 S.1.2.2 := h2.ca
  rw [if_neg (not_not_intro c1), if_neg (not_not_intro c1), ec, ek] at p
  unfold zRnR zRnS
  by_cases c2 : zCa S.1.1 S.1.2.2 = 0
  · rw [if_pos c2, if_pos c2] at p
    rw [if_pos c2, if_pos c2]
    exact ⟨_, _, h6, p, fun H1 _ _ q => ⟨π, T, S.1.1, S.1.2.1, τ, fl, h1, h2, h3, h5, q⟩⟩
  · rw [if_neg c2, if_neg c2] at p
    rw [if_neg c2, if_neg c2]
    refine ⟨_, _, h6, p, fun H1 _ _ q => ?_⟩
    obtain ⟨τ2, q1, q2⟩ := q
    exact zCP_push (τ2 := τ2) hS h1 h2 h3 h5 ⟨rfl, fun _ _ _ => rfl, q1⟩ q2
/-- undo -/
def zUnS (S : zSg) : zSg := (S.2.2 (S.2.1 - 1), S.2.1 - 1, S.2.2)
theorem zUn_ok {S : zSg} (hS : zOk S) (h0 : ¬ S.2.1 = 0) : zOk (zUnS S) := by
  have := hS.2.1
  exact ⟨hS.2.2 _ (by omega), by show S.2.1 - 1 ≤ 6; omega, fun i hi => hS.2.2 i (by have hi : i < S.2.1 - 1 := hi; omega)⟩
theorem s_X4_undo (l : Launch) (G : zG) (ad : Nat → Nat) (na : Nat → Nat → Nat) (ma : Nat → Nat) (hd : zTd ad na ma) (S : zSg) (hS : zOk S) (h0 : ¬ S.2.1 = 0) : zMi l G (zAll ad na ma) yX4_undo wsX4_undo 3 64 [.ref (ma 0)] (zCP G ad na ma S) (nI (S.2.1 - 1)) (zCP G ad na ma (zUnS S)) := by
  refine z_lift (A := zAll ad na ma) (fun H hH => ?_) (fun _ h => h)
  obtain ⟨π, T, n, g, τ, fl, h1, h2, h3, h5, h6⟩ := hH
  have p := p_X4_undo l G ad na ma hd π h1 S.2.1 hS.2.1 fl T n (h2.n ▸ hS.1.1) g τ h5
  rw [if_neg h0, if_neg h0] at p
  exact ⟨_, _, h6, p, fun H1 _ _ q => ⟨π, T, _, _, _, fl, h1, (zSm.cpy (n := (T (π (S.2.1 - 1))).1) (g := (T (π (S.2.1 - 1))).2.1) (τ := (T (π (S.2.1 - 1))).2.2) (h3 _ (by omega)) (0, g, τ)), fun i hi => h3 i (by have hi : i < S.2.1 - 1 := hi; omega), h5, q⟩⟩
