/-! ===== the finished class, as its methods take it ===== -/
theorem zNet_c {G : zG} {ad : Nat → Nat} {n : Nat} {g : Nat → Int32} {τ : zT} (X : va_W) {c : Nat} (hc : c < 15) : (zNet G ad n g τ ++ X)[c]? = some (zNc G ad (n, g, τ) c) := by
  rw [List.getElem?_append_left (by rw [zNet_len]; exact hc)]
  exact zNc_at G ad (n, g, τ) hc
theorem zCk (x : Nat × va_E) (w : va_W) (k : Nat) : (x :: w)[1 + k]? = w[k]? := by rw [Nat.add_comm]; rfl
theorem zHk6 (G : zG) (h b : Nat) (na : Nat → Nat → Nat) : zHk G h b na 6 = (h, .inr (0, [.ref b, .int 0])) :: (b, .inl (G.2.2.2.1, 6, .inr (.inr (.inr (.inr (fun i => if i < 6 then some (na i 0) else none)))))) :: (zNet G (na 0) 0 zg0 zτ0 ++ (zNet G (na 1) 0 zg0 zτ0 ++ (zNet G (na 2) 0 zg0 zτ0 ++ (zNet G (na 3) 0 zg0 zτ0 ++ (zNet G (na 4) 0 zg0 zτ0 ++ (zNet G (na 5) 0 zg0 zτ0 ++ [])))))) := rfl
section ZEND
variable {G : zG} {a : Nat} {ad bd : Nat → Nat} {p1 p2 h b s f : Nat} {na c0 c1 : Nat → Nat → Nat}
def zNa (bd : Nat → Nat) (na c0 c1 : Nat → Nat → Nat) : Nat → Nat → Nat := fun j => if j = 1 then bd else if j < 8 then na (j - 2) else if j = 8 then c0 0 else c1 0
def zMa (a p1 p2 h b s f : Nat) : Nat → Nat := fun i => if i = 0 then a else if i = 1 then p1 else if i = 2 then p2 else if i = 3 then h else if i = 4 then b else if i = 5 then s else f
theorem zW4_n0 {c : Nat} (hc : c < 15) : (zW4 G a ad bd p1 p2 h b s f na c0 c1)[1 + c]? = some (zNc G ad (0, zg0, zτ0) c) := by
  unfold zW4
  rw [zCk]
  exact zNet_c _ hc
theorem zW4_1 (k : Nat) : (zW4 G a ad bd p1 p2 h b s f na c0 c1)[1 + (15 + (1 + k))]? = (zNet G bd 0 zg0 zτ0 ++ ((p2, .inr (2, [.ref (bd 0)])) :: (zHk G h b na 6 ++ ((s, .inl (G.2.2.2.1, 2, .inr (.inr (.inr (.inr (fun i => if i = 0 then some (c0 0 0) else if i = 1 then some (c1 0 0) else none)))))) :: (zNet G (c0 0) 0 zg0 zτ0 ++ (zNet G (c1 0) 0 zg0 zτ0 ++ [(f, .inl (G.2.2.2.2, 2, .inl (fun _ => 0)))]))))) : va_W)[k]? := by
  unfold zW4
  rw [zCk, zNet_X, zCk]
theorem zW4_2 (k : Nat) : (zW4 G a ad bd p1 p2 h b s f na c0 c1)[1 + (15 + (1 + (15 + (1 + k))))]? = (zHk G h b na 6 ++ ((s, .inl (G.2.2.2.1, 2, .inr (.inr (.inr (.inr (fun i => if i = 0 then some (c0 0 0) else if i = 1 then some (c1 0 0) else none)))))) :: (zNet G (c0 0) 0 zg0 zτ0 ++ (zNet G (c1 0) 0 zg0 zτ0 ++ [(f, .inl (G.2.2.2.2, 2, .inl (fun _ => 0)))]))) : va_W)[k]? := by
  rw [zW4_1, zNet_X, zCk]
theorem zW4_3 (k : Nat) : (zW4 G a ad bd p1 p2 h b s f na c0 c1)[1 + (15 + (1 + (15 + (1 + (1 + (1 + k))))))]? = (zNet G (na 0) 0 zg0 zτ0 ++ (zNet G (na 1) 0 zg0 zτ0 ++ (zNet G (na 2) 0 zg0 zτ0 ++ (zNet G (na 3) 0 zg0 zτ0 ++ (zNet G (na 4) 0 zg0 zτ0 ++ (zNet G (na 5) 0 zg0 zτ0 ++ ((s, .inl (G.2.2.2.1, 2, .inr (.inr (.inr (.inr (fun i => if i = 0 then some (c0 0 0) else if i = 1 then some (c1 0 0) else none)))))) :: (zNet G (c0 0) 0 zg0 zτ0 ++ (zNet G (c1 0) 0 zg0 zτ0 ++ [(f, .inl (G.2.2.2.2, 2, .inl (fun _ => 0)))])))))))) : va_W)[k]? := by
  rw [zW4_2, zHk6]
  simp only [List.cons_append, List.append_assoc, List.nil_append]
  rw [zCk, zCk]
/-- where the cells stand in the order of their making -/
def zOrd (i : Nat) : Nat := if i < 15 then 1 + i else if i = 15 then 0 else if i = 16 then 16 else if i = 17 then 32 else if i = 18 then 33 else if i = 19 then 34 else if i = 20 then 125 else if i = 21 then 156 else if i < 37 then 17 + (i - 22) else if i < 127 then 35 + (i - 37) else 126 + (i - 127)
theorem zOrd_all : ∀ i : Fin 157, ∀ j : Fin 157, zOrd i.val = zOrd j.val → i.val = j.val := by decide +kernel
theorem zOrd_inj {i j : Nat} (hi : i < 157) (hj : j < 157) (h : zOrd i = zOrd j) : i = j := zOrd_all ⟨i, hi⟩ ⟨j, hj⟩ h
theorem zOrd_a {i : Nat} (h1 : 22 ≤ i) (h2 : i < 37) : zOrd i = 17 + (i - 22) := by
  unfold zOrd
  rw [if_neg (by omega), if_neg (by omega), if_neg (by omega), if_neg (by omega), if_neg (by omega), if_neg (by omega), if_neg (by omega), if_neg (by omega), if_pos h2]
theorem zOrd_b {i : Nat} (h1 : 37 ≤ i) (h2 : i < 127) : zOrd i = 35 + (i - 37) := by
  unfold zOrd
  rw [if_neg (by omega), if_neg (by omega), if_neg (by omega), if_neg (by omega), if_neg (by omega), if_neg (by omega), if_neg (by omega), if_neg (by omega), if_neg (by omega), if_pos h2]
theorem zOrd_c {i : Nat} (h1 : 127 ≤ i) : zOrd i = 126 + (i - 127) := by
  unfold zOrd
  rw [if_neg (by omega), if_neg (by omega), if_neg (by omega), if_neg (by omega), if_neg (by omega), if_neg (by omega), if_neg (by omega), if_neg (by omega), if_neg (by omega), if_neg (by omega)]
theorem zNa_1 : zNa bd na c0 c1 1 = bd := rfl
theorem zNa_h {j : Nat} (h : j < 6) : zNa bd na c0 c1 (j + 2) = na j := by
  unfold zNa
  rw [if_neg (by omega), if_pos (by omega)]
  rfl
theorem zNa_8 : zNa bd na c0 c1 8 = c0 0 := rfl
theorem zNa_9 : zNa bd na c0 c1 9 = c1 0 := rfl
/-- net j, cell c -/
theorem zW4_j {j c : Nat} (h1 : 1 ≤ j) (h10 : j < 10) (hc : c < 15) : (zW4 G a ad bd p1 p2 h b s f na c0 c1)[zOrd (22 + 15 * (j - 1) + c)]? = some (zNc G (zNa bd na c0 c1 j) (0, zg0, zτ0) c) := by
  have cs : j = 1 ∨ j = 2 ∨ j = 3 ∨ j = 4 ∨ j = 5 ∨ j = 6 ∨ j = 7 ∨ j = 8 ∨ j = 9 := by omega
  rcases cs with rfl | rfl | rfl | rfl | rfl | rfl | rfl | rfl | rfl
  · rw [show zOrd (22 + 15 * (1 - 1) + c) = 1 + (15 + (1 + c)) by rw [zOrd_a (by omega) (by omega)]; omega, zW4_1]
    exact zNet_c _ hc
  · rw [show zOrd (22 + 15 * (2 - 1) + c) = 1 + (15 + (1 + (15 + (1 + (1 + (1 + c)))))) by rw [zOrd_b (by omega) (by omega)]; omega, zW4_3]
    exact zNet_c _ hc
  · rw [show zOrd (22 + 15 * (3 - 1) + c) = 1 + (15 + (1 + (15 + (1 + (1 + (1 + (15 + c))))))) by rw [zOrd_b (by omega) (by omega)]; omega, zW4_3, zNet_X]
    exact zNet_c _ hc
  · rw [show zOrd (22 + 15 * (4 - 1) + c) = 1 + (15 + (1 + (15 + (1 + (1 + (1 + (15 + (15 + c)))))))) by rw [zOrd_b (by omega) (by omega)]; omega, zW4_3, zNet_X, zNet_X]
    exact zNet_c _ hc
  · rw [show zOrd (22 + 15 * (5 - 1) + c) = 1 + (15 + (1 + (15 + (1 + (1 + (1 + (15 + (15 + (15 + c))))))))) by rw [zOrd_b (by omega) (by omega)]; omega, zW4_3, zNet_X, zNet_X, zNet_X]
    exact zNet_c _ hc
  · rw [show zOrd (22 + 15 * (6 - 1) + c) = 1 + (15 + (1 + (15 + (1 + (1 + (1 + (15 + (15 + (15 + (15 + c)))))))))) by rw [zOrd_b (by omega) (by omega)]; omega, zW4_3, zNet_X, zNet_X, zNet_X, zNet_X]
    exact zNet_c _ hc
  · rw [show zOrd (22 + 15 * (7 - 1) + c) = 1 + (15 + (1 + (15 + (1 + (1 + (1 + (15 + (15 + (15 + (15 + (15 + c))))))))))) by rw [zOrd_b (by omega) (by omega)]; omega, zW4_3, zNet_X, zNet_X, zNet_X, zNet_X, zNet_X]
    exact zNet_c _ hc
  · rw [show zOrd (22 + 15 * (8 - 1) + c) = 1 + (15 + (1 + (15 + (1 + (1 + (1 + (15 + (15 + (15 + (15 + (15 + (15 + (1 + c))))))))))))) by rw [zOrd_c (by omega)]; omega, zW4_3, zNet_X, zNet_X, zNet_X, zNet_X, zNet_X, zNet_X, zCk]
    exact zNet_c _ hc
  · rw [show zOrd (22 + 15 * (9 - 1) + c) = 1 + (15 + (1 + (15 + (1 + (1 + (1 + (15 + (15 + (15 + (15 + (15 + (15 + (1 + (15 + c)))))))))))))) by rw [zOrd_c (by omega)]; omega, zW4_3, zNet_X, zNet_X, zNet_X, zNet_X, zNet_X, zNet_X, zCk, zNet_X]
    exact zNet_c _ hc
theorem zW4_s : (zW4 G a ad bd p1 p2 h b s f na c0 c1)[125]? = some (s, .inl (G.2.2.2.1, 2, .inr (.inr (.inr (.inr (fun i => if i = 0 then some (c0 0 0) else if i = 1 then some (c1 0 0) else none)))))) := by
  rw [show 125 = 1 + (15 + (1 + (15 + (1 + (1 + (1 + (15 + (15 + (15 + (15 + (15 + (15 + 0)))))))))))) by decide, zW4_3, zNet_X, zNet_X, zNet_X, zNet_X, zNet_X, zNet_X]
  rfl
theorem zW4_f : (zW4 G a ad bd p1 p2 h b s f na c0 c1)[156]? = some (f, .inl (G.2.2.2.2, 2, .inl (fun _ => 0))) := by
  rw [show 156 = 1 + (15 + (1 + (15 + (1 + (1 + (1 + (15 + (15 + (15 + (15 + (15 + (15 + (1 + (15 + (15 + 0)))))))))))))))by decide, zW4_3, zNet_X, zNet_X, zNet_X, zNet_X, zNet_X, zNet_X, zCk, zNet_X, zNet_X]
  rfl
/-- the address of cell i stands at its place -/
theorem zW4_ad {i : Nat} (hi : i < 157) : ∃ q : Nat × va_E, (zW4 G a ad bd p1 p2 h b s f na c0 c1)[zOrd i]? = some q ∧ q.1 = if i < 15 then ad i else if i < 22 then zMa a p1 p2 h b s f (i - 15) else zNa bd na c0 c1 ((i - 22) / 15 + 1) ((i - 22) % 15) := by
  by_cases h1 : i < 15
  · rw [if_pos h1, show zOrd i = 1 + i by unfold zOrd; rw [if_pos h1]]
    exact ⟨_, zW4_n0 h1, zNc_ad _ _ _ h1⟩
  · rw [if_neg h1]
    by_cases h2 : i < 22
    · rw [if_pos h2]
      have cs : i = 15 ∨ i = 16 ∨ i = 17 ∨ i = 18 ∨ i = 19 ∨ i = 20 ∨ i = 21 := by omega
      rcases cs with rfl | rfl | rfl | rfl | rfl | rfl | rfl
      · exact ⟨_, rfl, rfl⟩
      · refine ⟨(p1, .inr (2, [.ref (ad 0)])), ?_, rfl⟩
        show (zW4 G a ad bd p1 p2 h b s f na c0 c1)[1 + (15 + 0)]? = _
        unfold zW4
        rw [zCk, zNet_X]
        rfl
      · refine ⟨(p2, .inr (2, [.ref (bd 0)])), ?_, rfl⟩
        show (zW4 G a ad bd p1 p2 h b s f na c0 c1)[1 + (15 + (1 + (15 + 0)))]? = _
        rw [zW4_1, zNet_X]
        rfl
      · refine ⟨(h, .inr (0, [.ref b, .int 0])), ?_, rfl⟩
        show (zW4 G a ad bd p1 p2 h b s f na c0 c1)[1 + (15 + (1 + (15 + (1 + 0))))]? = _
        rw [zW4_2]
        rfl
      · refine ⟨(b, .inl (G.2.2.2.1, 6, .inr (.inr (.inr (.inr (fun i => if i < 6 then some (na i 0) else none)))))), ?_, rfl⟩
        show (zW4 G a ad bd p1 p2 h b s f na c0 c1)[1 + (15 + (1 + (15 + (1 + 1))))]? = _
        rw [zW4_2]
        rfl
      · exact ⟨_, zW4_s, rfl⟩
      · exact ⟨_, zW4_f, rfl⟩
    · rw [if_neg h2]
      have e := zW4_j (G := G) (a := a) (ad := ad) (bd := bd) (p1 := p1) (p2 := p2) (h := h) (b := b) (s := s) (f := f) (na := na) (c0 := c0) (c1 := c1) (j := (i - 22) / 15 + 1) (c := (i - 22) % 15) (by omega) (by omega) (by omega)
      rw [show 22 + 15 * ((i - 22) / 15 + 1 - 1) + (i - 22) % 15 = i by omega] at e
      exact ⟨_, e, zNc_ad _ _ _ (by omega)⟩
theorem zW4_end {A : Nat → Prop} {H : Heap} (hP : va_P G.1 vwCl (zW4 G a ad bd p1 p2 h b s f na c0 c1) H) (hD : va_D A (zW4 G a ad bd p1 p2 h b s f na c0 c1)) : zTd ad (zNa bd na c0 c1) (zMa a p1 p2 h b s f) ∧ zBig G ad (zNa bd na c0 c1) (zMa a p1 p2 h b s f) (fun i => i + 2) 0 (fun _ => 0) (fun _ => (0, zg0, zτ0)) H ∧ ∀ q, zAll ad (zNa bd na c0 c1) (zMa a p1 p2 h b s f) q → A q := by
  have hA : ∀ i, i < 157 → A (if i < 15 then ad i else if i < 22 then zMa a p1 p2 h b s f (i - 15) else zNa bd na c0 c1 ((i - 22) / 15 + 1) ((i - 22) % 15)) := fun i hi => by
    obtain ⟨q, h1, h2⟩ := zW4_ad (G := G) (a := a) (ad := ad) (bd := bd) (p1 := p1) (p2 := p2) (h := h) (b := b) (s := s) (f := f) (na := na) (c0 := c0) (c1 := c1) hi
    rw [← h2]
    exact hD.2 _ _ h1
  refine ⟨fun i j hi hj hij => ?_, ⟨fun k q hk => ?_, fun c hc => hP _ _ (zW4_n0 hc), fun j c h1 h10 hc => hP _ _ (zW4_j h1 h10 hc)⟩, fun q hq => ?_⟩
  · obtain ⟨q1, a1, a2⟩ := zW4_ad (G := G) (a := a) (ad := ad) (bd := bd) (p1 := p1) (p2 := p2) (h := h) (b := b) (s := s) (f := f) (na := na) (c0 := c0) (c1 := c1) hi
    obtain ⟨q2, b1, b2⟩ := zW4_ad (G := G) (a := a) (ad := ad) (bd := bd) (p1 := p1) (p2 := p2) (h := h) (b := b) (s := s) (f := f) (na := na) (c0 := c0) (c1 := c1) hj
    exact zOrd_inj hi hj (hD.1 _ _ q1 q2 a1 b1 (a2.trans (hij.trans b2.symm)))
  · match k with
    | 0 => cases hk; exact hP 0 _ rfl
    | 1 =>
      cases hk
      refine hP (1 + (15 + 0)) _ ?_
      unfold zW4
      rw [zCk, zNet_X]
      rfl
    | 2 =>
      cases hk
      refine hP (1 + (15 + (1 + (15 + 0)))) _ ?_
      rw [zW4_1, zNet_X]
      rfl
    | 3 =>
      cases hk
      refine hP (1 + (15 + (1 + (15 + (1 + 0))))) _ ?_
      rw [zW4_2]
      rfl
    | 4 =>
      cases hk
      have e : (zW4 G a ad bd p1 p2 h b s f na c0 c1)[1 + (15 + (1 + (15 + (1 + 1))))]? = some (b, .inl (G.2.2.2.1, 6, .inr (.inr (.inr (.inr (fun i => if i < 6 then some (na i 0) else none)))))) := by
        rw [zW4_2]
        rfl
      have hx : H[b]? = some (vp_cell G.2.2.2.1 (6, .inr (.inr (.inr (.inr (fun i => if i < 6 then some (na i 0) else none)))))) := hP _ _ e
      show H[b]? = some (vp_cell _ _)
      rw [hx, zArr_ext]
      intro i hi
      rw [if_pos hi, zNa_h hi]
    | 5 =>
      cases hk
      have hx : H[s]? = some (vp_cell G.2.2.2.1 (2, .inr (.inr (.inr (.inr (fun i => if i = 0 then some (c0 0 0) else if i = 1 then some (c1 0 0) else none)))))) := hP _ _ zW4_s
      show H[s]? = some (vp_cell _ _)
      rw [hx, zArr_ext]
      intro i hi
      have cs : i = 0 ∨ i = 1 := by omega
      rcases cs with rfl | rfl <;> rfl
    | 6 => cases hk; exact hP _ _ zW4_f
    | k + 7 => cases hk
  · rcases hq with ⟨c, hc, rfl⟩ | ⟨i, hi, rfl⟩ | ⟨j, c, h1, h10, hc, rfl⟩
    · have := hA c (by omega)
      rwa [if_pos hc] at this
    · have := hA (15 + i) (by omega)
      rwa [if_neg (by omega), if_pos (by omega), Nat.add_sub_cancel_left] at this
    · have := hA (22 + (15 * (j - 1) + c)) (by omega)
      rwa [if_neg (by omega), if_neg (by omega), Nat.add_sub_cancel_left, show (15 * (j - 1) + c) / 15 + 1 = j by omega, show (15 * (j - 1) + c) % 15 = c by omega] at this
end ZEND
