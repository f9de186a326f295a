/-! rows laid by my own program (wip/p30/gen): the law makes its sensors -/
/-- k sensors were made, no round was played -/
def zIn (k : Nat) (τ : zT) : Prop := (∀ i, i < k → τ 3 i = 1 ∧ τ 6 i = -9 ∧ τ 7 i = -9 ∧ τ 8 i = -9 ∧ (∃ b, b ≤ 1000000 ∧ τ 2 i = nI b) ∧ (∃ a, a < 100 ∧ τ 0 i = nI a) ∧ ∃ a, a < 100 ∧ τ 1 i = nI a) ∧ τ 11 10 = 0 ∧ τ 11 11 = 0 ∧ τ 11 13 = 0
def zSn (k : Nat) (S : zSg) (f : Nat → Int32) : Prop := zOk S ∧ S.1.1 = k ∧ S.1.2.1 = zg0 ∧ zIn k S.1.2.2 ∧ ∀ i, i < k → f (6 * i) = S.1.2.2 0 i ∧ f ((6 * i) + 1) = S.1.2.2 1 i
theorem zNs_n (τ : zT) (n : Nat) (x y b : Int32) : zNs τ n x y b 0 n = x ∧ zNs τ n x y b 1 n = y ∧ zNs τ n x y b 2 n = b ∧ zNs τ n x y b 3 n = 1 ∧ zNs τ n x y b 6 n = -9 ∧ zNs τ n x y b 7 n = -9 ∧ zNs τ n x y b 8 n = -9 := by
  unfold zNs
  simp [zSt_ap]
theorem zNs_o (τ : zT) {n f i : Nat} (x y b : Int32) (h : f = 11 ∨ i ≠ n) : zNs τ n x y b f i = τ f i := by
  unfold zNs
  rcases h with h | h
  · subst h
    simp [zSt_ap]
  · simp [zSt_ap, h]
theorem zSn_0 {S : zSg} (hO : zOk S) (h : S.1 = (0, zg0, zτ0)) (f : Nat → Int32) : zSn 0 S f := by
  refine ⟨hO, by rw [h], by rw [h], ⟨fun i hi => absurd hi (by omega), ?_, ?_, ?_⟩, fun i hi => absurd hi (by omega)⟩
  · rw [h]
    rfl
  · rw [h]
    rfl
  · rw [h]
    rfl
theorem zSn_s {k : Nat} (hk : k < 12) {S : zSg} {f f2 : Nat → Int32} (h : zSn k S f) {x y b : Nat} (hx : x < 100) (hy : y < 100) (hb : b < 1000) (e : ∀ t, t < 6 * k → f2 t = f t) (ex : f2 (6 * k) = nI x) (ey : f2 ((6 * k) + 1) = nI y) : zSn (k + 1) (zPu S (S.1.1 + 1, S.1.2.1, zNs S.1.2.2 S.1.1 (nI x) (nI y) (nI b))) f2 := by
  obtain ⟨h1, h2, h3, ⟨h4, h5, h6, h7⟩, h8⟩ := h
  obtain ⟨n0, n1, n2, n3, n6, n7, n8⟩ := zNs_n S.1.2.2 S.1.1 (nI x) (nI y) (nI b)
  refine ⟨zAd_ok h1 (by omega) _ _ _, by show S.1.1 + 1 = k + 1; rw [h2], h3, ⟨fun i hi => ?_, ?_, ?_, ?_⟩, fun i hi => ?_⟩
  · show zNs S.1.2.2 S.1.1 (nI x) (nI y) (nI b) 3 i = 1 ∧ zNs S.1.2.2 S.1.1 (nI x) (nI y) (nI b) 6 i = -9 ∧ zNs S.1.2.2 S.1.1 (nI x) (nI y) (nI b) 7 i = -9 ∧ zNs S.1.2.2 S.1.1 (nI x) (nI y) (nI b) 8 i = -9 ∧ (∃ b', b' ≤ 1000000 ∧ zNs S.1.2.2 S.1.1 (nI x) (nI y) (nI b) 2 i = nI b') ∧ (∃ a, a < 100 ∧ zNs S.1.2.2 S.1.1 (nI x) (nI y) (nI b) 0 i = nI a) ∧ ∃ a, a < 100 ∧ zNs S.1.2.2 S.1.1 (nI x) (nI y) (nI b) 1 i = nI a
    by_cases c : i = S.1.1
    · subst c
      exact ⟨n3, n6, n7, n8, ⟨b, by omega, n2⟩, ⟨x, hx, n0⟩, y, hy, n1⟩
    · rw [zNs_o _ _ _ _ (Or.inr c), zNs_o _ _ _ _ (Or.inr c), zNs_o _ _ _ _ (Or.inr c), zNs_o _ _ _ _ (Or.inr c), zNs_o _ _ _ _ (Or.inr c), zNs_o _ _ _ _ (Or.inr c), zNs_o _ _ _ _ (Or.inr c)]
      exact h4 i (by omega)
  · show zNs S.1.2.2 S.1.1 (nI x) (nI y) (nI b) 11 10 = 0
    exact (zNs_o _ _ _ _ (Or.inl rfl)).trans h5
  · show zNs S.1.2.2 S.1.1 (nI x) (nI y) (nI b) 11 11 = 0
    exact (zNs_o _ _ _ _ (Or.inl rfl)).trans h6
  · show zNs S.1.2.2 S.1.1 (nI x) (nI y) (nI b) 11 13 = 0
    exact (zNs_o _ _ _ _ (Or.inl rfl)).trans h7
  · show f2 (6 * i) = zNs S.1.2.2 S.1.1 (nI x) (nI y) (nI b) 0 i ∧ f2 ((6 * i) + 1) = zNs S.1.2.2 S.1.1 (nI x) (nI y) (nI b) 1 i
    by_cases c : i = S.1.1
    · subst c
      rw [n0, n1]
      rw [h2]
      exact ⟨ex, ey⟩
    · rw [zNs_o _ _ _ _ (Or.inr c), zNs_o _ _ _ _ (Or.inr c), e _ (by omega), e _ (by omega)]
      exact h8 i (by omega)
theorem zC3_of {x y b : Nat} (hx : x < 100) (hy : y < 100) (hb : b < 1000) : zC3 (nI x) (nI y) (nI b) := ⟨⟨nI_pos (by omega), nI_nlt (a := 99) (by omega) (by omega)⟩, ⟨nI_pos (by omega), nI_nlt (a := 99) (by omega) (by omega)⟩, nI_pos (by omega), nI_nlt (a := 100000) (by omega) (by omega)⟩
set_option maxHeartbeats 4000000 in
set_option maxRecDepth 100000 in
theorem l_sensors (l : Launch) (G : zG) (ad : Nat → Nat) (na : Nat → Nat → Nat) (ma : Nat → Nat) (hd : zTd ad na ma) (mm : Nat) (hmm : ¬ zAll ad na ma mm) (b L : Nat) (xs : Nat → Int32) (hbA : ¬ zAw ad na ma mm b) (hL : L ≤ 260) (S : zSg) (hO : zOk S) (hS1 : S.1 = (0, zg0, zτ0)) (f : Nat → Int32) (j : Nat) (hj : j < 9) (ej : zLo (zCe L xs 0) 9 = nI j) : zMiX l G b L xs (zAw ad na ma mm) yL_sensors wsL_sensors 4 87 [.ref (ma 0), .ref b, .int 0, .ref mm] (zLW G ad na ma mm S f) (nI (1 + j)) (fun H => ∃ (S2 : zSg) (f2 : Nat → Int32), zSn (1 + j) S2 f2 ∧ zLW G ad na ma mm S2 f2 H) := by
  refine z_metX (cc := cL_sensors) (maxL := 7) (ret := (some .int)) (by decide) rfl (Nat.le_of_ble_eq_true rfl) ?_
  intro p e s m below meth c ls CF hr hlk hnm hW hK hX hl
  have CF : CallFix p m c cL_sensors 7 s _ wsL_sensors RL := CF
  obtain ⟨hx, hb, hml, hown, hts⟩ := id CF
  have hS : va_S (zAw ad na ma mm) s.heap s.heap [] := va_S.rf
  have hA : ∀ q, (zAw ad na ma mm) q → (zAw ad na ma mm) q := fun _ h => h
  have hl : lv_has ls 7 [(0, .ref (ma 0)), (1, .ref b), (2, .int 0), (3, .ref mm)] := hl
  refine lv_iconst (v := 1) hx hb dL_sensors_0 (by decide) ?_
  refine lv_aload_n hx hb dL_sensors_1 rfl (lv_at hl 1 rfl) ?_
  refine lv_iload_n hx hb dL_sensors_2 rfl (lv_at hl 2 rfl) ?_
  refine z_siX (As := [.ref b, .int 0]) (rest := [.int 1]) (P2 := zLW G ad na ma mm S f) (r := zCe L xs 0) CF (l_cell l G (zAw ad na ma mm) b L xs hbA hL (zLW G ad na ma mm S f) 0 (by omega)) (cwS 2 hts gL_sensors_L_cell rfl rfl rfl (by decide +kernel) ⟨Nat.le_of_ble_eq_true rfl, Nat.le_of_ble_eq_true rfl⟩) hW hK hX hbA hS hA hl.1 rfl rfl (Nat.le_of_ble_eq_true rfl) dL_sensors_3 ⟨Nat.le_refl _, Nat.le_refl _⟩ (fun H locs hW hS _ => ?_)
  refine lv_bipush (v := 9) hx hb dL_sensors_6 (by decide) ?_
  refine z_si (As := [.int (zCe L xs 0), .int 9]) (rest := [.int 1]) (P2 := zLW G ad na ma mm S f) (r := zLo (zCe L xs 0) 9) CF (l_low l G (zAw ad na ma mm) (zLW G ad na ma mm S f) (zCe L xs 0) 9 (by decide)) (cwS 2 hts gL_sensors_L_low rfl rfl rfl (by decide +kernel) ⟨Nat.le_of_ble_eq_true rfl, Nat.le_of_ble_eq_true rfl⟩) hW hK hS (fun q _ h => hA q h) hA hl.1 rfl rfl (Nat.le_of_ble_eq_true rfl) dL_sensors_8 ⟨Nat.le_refl _, Nat.le_refl _⟩ (fun H locs hW hS _ => ?_)
  refine z_top (x2 := nI j) (ej) ?_
  refine lv_iadd hx hb dL_sensors_11 ?_
  refine z_top (x2 := nI (1 + j)) (nI_add 1 j) ?_
  refine lv_istore (lv' := [(4, .int (nI (1 + j))), (0, .ref (ma 0)), (1, .ref b), (2, .int 0), (3, .ref mm)]) hx hb dL_sensors_12 hl (by decide) rfl (fun ls hl => ?_)
  refine lv_iconst (v := 0) hx hb dL_sensors_14 (by decide) ?_
  refine lv_istore (lv' := [(5, .int 0), (4, .int (nI (1 + j))), (0, .ref (ma 0)), (1, .ref b), (2, .int 0), (3, .ref mm)]) hx hb dL_sensors_15 hl (by decide) rfl (fun ls hl => ?_)
  have hZ0 := zSn_0 hO hS1 f
  have loop : ∀ (fu k : Nat) (S : zSg) (f : Nat → Int32) (H : Heap) (locs : List Loc) (ls : Array Slot), k ≤ 1 + j → 1 + j < k + fu → zSn k S f → zLW G ad na ma mm S f H → va_S (zAw ad na ma mm) s.heap H locs → lv_has ls 7 [(5, .int (nI k)), (4, .int (nI (1 + j))), (0, .ref (ma 0)), (1, .ref b), (2, .int 0), (3, .ref mm)] → W p l e ({ frames := 4, cells := 0, slots := 0, locals := 87 } : Room) s m ([.ref (ma 0), .ref b, .int 0, .ref mm] : List Value).toArray below meth c H locs 0 0 (MQ below (zQi G (nI (1 + j)) (fun H => ∃ (S2 : zSg) (f2 : Nat → Int32), zSn (1 + j) S2 f2 ∧ zLW G ad na ma mm S2 f2 H) (zAw ad na ma mm)) ([.ref (ma 0), .ref b, .int 0, .ref mm] : List Value).toArray s 0 0 (zAw ad na ma mm)) (F0 m 17 ls []) := by
    intro fu
    induction fu with
    | zero => intro k S f H locs ls h1 h2; exact absurd h2 (by omega)
    | succ fu ih =>
      intro k S f H locs ls hk hfu hZ hW hS hl
      have hO := hZ.1
      have hn := hZ.2.1
      refine lv_iload hx hb dL_sensors_17 (lv_at hl 0 rfl) ?_
      refine lv_iload hx hb dL_sensors_19 (lv_at hl 1 rfl) ?_
      refine lv_icmp_ge (tgt := 176) hx hb dL_sensors_21 (by decide) (fun c_1 => ?_) (fun c_2 => ?_)
      · skip
        have c_1 := (z_leI (a := 1 + j) (b := k) (by omega) (by omega)).mp c_1
        have hke : k = 1 + j := by omega
        refine lv_iload hx hb dL_sensors_176 (lv_at hl 1 rfl) ?_
        exact z_iret hx hb hr hlk hK hS (⟨S, f, hke ▸ hZ, hW⟩) dL_sensors_178
      · skip
        have c_2 := (not_congr (z_leI (a := 1 + j) (b := k) (by omega) (by omega))).mp c_2
        refine lv_aload_n hx hb dL_sensors_24 rfl (lv_at hl 3 rfl) ?_
        refine lv_iload_n hx hb dL_sensors_25 rfl (lv_at hl 4 rfl) ?_
        refine lv_iconst (v := 1) hx hb dL_sensors_26 (by decide) ?_
        refine lv_iadd hx hb dL_sensors_27 ?_
        refine z_top (x2 := 1) (by decide) ?_
        refine lv_iload hx hb dL_sensors_28 (lv_at hl 0 rfl) ?_
        refine lv_iadd hx hb dL_sensors_30 ?_
        refine z_top (x2 := nI (1 + k)) (nI_add 1 k) ?_
        refine z_siX (As := [.ref b, .int (nI (1 + k))]) (rest := []) (P2 := zLW G ad na ma mm S f) (r := zCe L xs (1 + k)) CF (l_cell l G (zAw ad na ma mm) b L xs hbA hL (zLW G ad na ma mm S f) (1 + k) (by omega)) (cwS 2 hts gL_sensors_L_cell rfl rfl rfl (by decide +kernel) ⟨Nat.le_of_ble_eq_true rfl, Nat.le_of_ble_eq_true rfl⟩) hW hK hX hbA hS hA hl.1 rfl rfl (Nat.le_of_ble_eq_true rfl) dL_sensors_31 ⟨Nat.le_refl _, Nat.le_refl _⟩ (fun H locs hW hS _ => ?_)
        refine lv_istore (lv' := [(6, .int (zCe L xs (1 + k))), (5, .int (nI k)), (4, .int (nI (1 + j))), (0, .ref (ma 0)), (1, .ref b), (2, .int 0), (3, .ref mm)]) hx hb dL_sensors_34 hl (by decide) rfl (fun ls hl => ?_)
        refine lv_aload_n hx hb dL_sensors_36 rfl (lv_at hl 6 rfl) ?_
        refine lv_bipush (v := 6) hx hb dL_sensors_37 (by decide) ?_
        refine lv_iload hx hb dL_sensors_39 (lv_at hl 1 rfl) ?_
        refine lv_imul hx hb dL_sensors_41 ?_
        refine z_top (x2 := nI (6 * k)) (pk_mul 6 k) ?_
        refine lv_iload hx hb dL_sensors_42 (lv_at hl 0 rfl) ?_
        refine lv_bipush (v := 100) hx hb dL_sensors_44 (by decide) ?_
        refine z_si (As := [.int (zCe L xs (1 + k)), .int 100]) (rest := [.int (nI (6 * k)), .ref mm]) (P2 := zLW G ad na ma mm S f) (r := zLo (zCe L xs (1 + k)) 100) CF (l_low l G (zAw ad na ma mm) (zLW G ad na ma mm S f) (zCe L xs (1 + k)) 100 (by decide)) (cwS 2 hts gL_sensors_L_low rfl rfl rfl (by decide +kernel) ⟨Nat.le_of_ble_eq_true rfl, Nat.le_of_ble_eq_true rfl⟩) hW hK hS (fun q _ h => hA q h) hA hl.1 rfl rfl (Nat.le_of_ble_eq_true rfl) dL_sensors_46 ⟨Nat.le_refl _, Nat.le_refl _⟩ (fun H locs hW hS _ => ?_)
        obtain ⟨x0, hx0, ex0⟩ := zLo_lt (zCe L xs (1 + k)) (d := 100) (by decide) (by decide)
        refine z_top (x2 := nI x0) (ex0) ?_
        refine z_isM (j := (6 * k)) (w := nI x0) hx hb hd hmm hK hA hS hW rfl (by omega) dL_sensors_49 (fun H locs hW hS => ?_)
        refine lv_aload_n hx hb dL_sensors_50 rfl (lv_at hl 6 rfl) ?_
        refine lv_bipush (v := 6) hx hb dL_sensors_51 (by decide) ?_
        refine lv_iload hx hb dL_sensors_53 (lv_at hl 1 rfl) ?_
        refine lv_imul hx hb dL_sensors_55 ?_
        refine z_top (x2 := nI (6 * k)) (pk_mul 6 k) ?_
        refine lv_iconst (v := 1) hx hb dL_sensors_56 (by decide) ?_
        refine lv_iadd hx hb dL_sensors_57 ?_
        refine z_top (x2 := nI ((6 * k) + 1)) (nI_add (6 * k) 1) ?_
        refine lv_iload hx hb dL_sensors_58 (lv_at hl 0 rfl) ?_
        refine lv_bipush (v := 7) hx hb dL_sensors_60 (by decide) ?_
        refine lv_ishr hx hb dL_sensors_62 ?_
        refine lv_bipush (v := 100) hx hb dL_sensors_63 (by decide) ?_
        refine z_si (As := [.int ((zCe L xs (1 + k)) >>> (7 &&& 31)), .int 100]) (rest := [.int (nI ((6 * k) + 1)), .ref mm]) (P2 := zLW G ad na ma mm S (upd f (6 * k) (nI x0))) (r := zLo ((zCe L xs (1 + k)) >>> (7 &&& 31)) 100) CF (l_low l G (zAw ad na ma mm) (zLW G ad na ma mm S (upd f (6 * k) (nI x0))) ((zCe L xs (1 + k)) >>> (7 &&& 31)) 100 (by decide)) (cwS 2 hts gL_sensors_L_low rfl rfl rfl (by decide +kernel) ⟨Nat.le_of_ble_eq_true rfl, Nat.le_of_ble_eq_true rfl⟩) hW hK hS (fun q _ h => hA q h) hA hl.1 rfl rfl (Nat.le_of_ble_eq_true rfl) dL_sensors_65 ⟨Nat.le_refl _, Nat.le_refl _⟩ (fun H locs hW hS _ => ?_)
        obtain ⟨y0, hy0, ey0⟩ := zLo_lt ((zCe L xs (1 + k)) >>> (7 &&& 31)) (d := 100) (by decide) (by decide)
        refine z_top (x2 := nI y0) (ey0) ?_
        refine z_isM (j := ((6 * k) + 1)) (w := nI y0) hx hb hd hmm hK hA hS hW rfl (by omega) dL_sensors_68 (fun H locs hW hS => ?_)
        refine lv_aload_n hx hb dL_sensors_69 rfl (lv_at hl 6 rfl) ?_
        refine lv_bipush (v := 6) hx hb dL_sensors_70 (by decide) ?_
        refine lv_iload hx hb dL_sensors_72 (lv_at hl 1 rfl) ?_
        refine lv_imul hx hb dL_sensors_74 ?_
        refine z_top (x2 := nI (6 * k)) (pk_mul 6 k) ?_
        refine lv_iconst (v := 2) hx hb dL_sensors_75 (by decide) ?_
        refine lv_iadd hx hb dL_sensors_76 ?_
        refine z_top (x2 := nI ((6 * k) + 2)) (nI_add (6 * k) 2) ?_
        refine lv_iload hx hb dL_sensors_77 (lv_at hl 0 rfl) ?_
        refine lv_bipush (v := 14) hx hb dL_sensors_79 (by decide) ?_
        refine lv_ishr hx hb dL_sensors_81 ?_
        refine lv_iload hx hb dL_sensors_82 (lv_at hl 0 rfl) ?_
        refine lv_bipush (v := 29) hx hb dL_sensors_84 (by decide) ?_
        refine lv_ishr hx hb dL_sensors_86 ?_
        refine lv_iconst (v := 1) hx hb dL_sensors_87 (by decide) ?_
        refine lv_iand hx hb dL_sensors_88 ?_
        refine lv_if_ne (tgt := 97) hx hb dL_sensors_89 (by decide) (fun c_3 => ?_) (fun c_4 => ?_)
        · skip
          refine lv_sipush (v := 900) hx hb dL_sensors_97 (by decide) ?_
          refine z_si (As := [.int ((zCe L xs (1 + k)) >>> (14 &&& 31)), .int 900]) (rest := [.int (nI ((6 * k) + 2)), .ref mm]) (P2 := zLW G ad na ma mm S (upd (upd f (6 * k) (nI x0)) ((6 * k) + 1) (nI y0))) (r := zLo ((zCe L xs (1 + k)) >>> (14 &&& 31)) 900) CF (l_low l G (zAw ad na ma mm) (zLW G ad na ma mm S (upd (upd f (6 * k) (nI x0)) ((6 * k) + 1) (nI y0))) ((zCe L xs (1 + k)) >>> (14 &&& 31)) 900 (by decide)) (cwS 2 hts gL_sensors_L_low rfl rfl rfl (by decide +kernel) ⟨Nat.le_of_ble_eq_true rfl, Nat.le_of_ble_eq_true rfl⟩) hW hK hS (fun q _ h => hA q h) hA hl.1 rfl rfl (Nat.le_of_ble_eq_true rfl) dL_sensors_100 ⟨Nat.le_refl _, Nat.le_refl _⟩ (fun H locs hW hS _ => ?_)
          obtain ⟨b0, hb0, eb0⟩ := zLo_lt ((zCe L xs (1 + k)) >>> (14 &&& 31)) (d := 900) (by decide) (by decide)
          refine z_top (x2 := nI b0) (eb0) ?_
          refine z_isM (j := ((6 * k) + 2)) (w := nI b0) hx hb hd hmm hK hA hS hW rfl (by omega) dL_sensors_103 (fun H locs hW hS => ?_)
          refine lv_aload_n hx hb dL_sensors_104 rfl (lv_at hl 6 rfl) ?_
          refine lv_bipush (v := 6) hx hb dL_sensors_105 (by decide) ?_
          refine lv_iload hx hb dL_sensors_107 (lv_at hl 1 rfl) ?_
          refine lv_imul hx hb dL_sensors_109 ?_
          refine z_top (x2 := nI (6 * k)) (pk_mul 6 k) ?_
          refine lv_iconst (v := 3) hx hb dL_sensors_110 (by decide) ?_
          refine lv_iadd hx hb dL_sensors_111 ?_
          refine z_top (x2 := nI ((6 * k) + 3)) (nI_add (6 * k) 3) ?_
          refine lv_iconst (v := 1) hx hb dL_sensors_112 (by decide) ?_
          refine z_isM (j := ((6 * k) + 3)) (w := 1) hx hb hd hmm hK hA hS hW rfl (by omega) dL_sensors_113 (fun H locs hW hS => ?_)
          refine lv_aload_n hx hb dL_sensors_114 rfl (lv_at hl 6 rfl) ?_
          refine lv_bipush (v := 6) hx hb dL_sensors_115 (by decide) ?_
          refine lv_iload hx hb dL_sensors_117 (lv_at hl 1 rfl) ?_
          refine lv_imul hx hb dL_sensors_119 ?_
          refine z_top (x2 := nI (6 * k)) (pk_mul 6 k) ?_
          refine lv_iconst (v := 4) hx hb dL_sensors_120 (by decide) ?_
          refine lv_iadd hx hb dL_sensors_121 ?_
          refine z_top (x2 := nI ((6 * k) + 4)) (nI_add (6 * k) 4) ?_
          refine lv_iconst (v := 1) hx hb dL_sensors_122 (by decide) ?_
          refine z_isM (j := ((6 * k) + 4)) (w := 1) hx hb hd hmm hK hA hS hW rfl (by omega) dL_sensors_123 (fun H locs hW hS => ?_)
          refine lv_aload_n hx hb dL_sensors_124 rfl (lv_at hl 6 rfl) ?_
          refine lv_bipush (v := 6) hx hb dL_sensors_125 (by decide) ?_
          refine lv_iload hx hb dL_sensors_127 (lv_at hl 1 rfl) ?_
          refine lv_imul hx hb dL_sensors_129 ?_
          refine z_top (x2 := nI (6 * k)) (pk_mul 6 k) ?_
          refine lv_iconst (v := 5) hx hb dL_sensors_130 (by decide) ?_
          refine lv_iadd hx hb dL_sensors_131 ?_
          refine z_top (x2 := nI ((6 * k) + 5)) (nI_add (6 * k) 5) ?_
          refine lv_iconst (v := 0) hx hb dL_sensors_132 (by decide) ?_
          refine z_isM (j := ((6 * k) + 5)) (w := 0) hx hb hd hmm hK hA hS hW rfl (by omega) dL_sensors_133 (fun H locs hW hS => ?_)
          refine lv_aload_n hx hb dL_sensors_134 rfl (lv_at hl 3 rfl) ?_
          refine lv_aload_n hx hb dL_sensors_135 rfl (lv_at hl 6 rfl) ?_
          refine lv_bipush (v := 6) hx hb dL_sensors_136 (by decide) ?_
          refine lv_iload hx hb dL_sensors_138 (lv_at hl 1 rfl) ?_
          refine lv_imul hx hb dL_sensors_140 ?_
          refine z_top (x2 := nI (6 * k)) (pk_mul 6 k) ?_
          refine z_iaM (j := (6 * k)) (w := nI x0) hx hb hK hW rfl (by omega) ((pk_un (by omega)).trans ((pk_un (by omega)).trans ((pk_un (by omega)).trans ((pk_un (by omega)).trans ((pk_un (by omega)).trans (pk_us)))))) dL_sensors_141 ?_
          refine lv_aload_n hx hb dL_sensors_142 rfl (lv_at hl 6 rfl) ?_
          refine lv_bipush (v := 6) hx hb dL_sensors_143 (by decide) ?_
          refine lv_iload hx hb dL_sensors_145 (lv_at hl 1 rfl) ?_
          refine lv_imul hx hb dL_sensors_147 ?_
          refine z_top (x2 := nI (6 * k)) (pk_mul 6 k) ?_
          refine lv_iconst (v := 1) hx hb dL_sensors_148 (by decide) ?_
          refine lv_iadd hx hb dL_sensors_149 ?_
          refine z_top (x2 := nI ((6 * k) + 1)) (nI_add (6 * k) 1) ?_
          refine z_iaM (j := ((6 * k) + 1)) (w := nI y0) hx hb hK hW rfl (by omega) ((pk_un (by omega)).trans ((pk_un (by omega)).trans ((pk_un (by omega)).trans ((pk_un (by omega)).trans (pk_us))))) dL_sensors_150 ?_
          refine lv_aload_n hx hb dL_sensors_151 rfl (lv_at hl 6 rfl) ?_
          refine lv_bipush (v := 6) hx hb dL_sensors_152 (by decide) ?_
          refine lv_iload hx hb dL_sensors_154 (lv_at hl 1 rfl) ?_
          refine lv_imul hx hb dL_sensors_156 ?_
          refine z_top (x2 := nI (6 * k)) (pk_mul 6 k) ?_
          refine lv_iconst (v := 2) hx hb dL_sensors_157 (by decide) ?_
          refine lv_iadd hx hb dL_sensors_158 ?_
          refine z_top (x2 := nI ((6 * k) + 2)) (nI_add (6 * k) 2) ?_
          refine z_iaM (j := ((6 * k) + 2)) (w := nI b0) hx hb hK hW rfl (by omega) ((pk_un (by omega)).trans ((pk_un (by omega)).trans ((pk_un (by omega)).trans (pk_us)))) dL_sensors_159 ?_
          refine z_vi (As := [.int (nI x0), .int (nI y0), .int (nI b0)]) (rest := []) (P2 := zLW G ad na ma mm (zPu S (S.1.1 + 1, S.1.2.1, zNs S.1.2.2 S.1.1 (nI x0) (nI y0) (nI b0))) (upd (upd (upd (upd (upd (upd f (6 * k) (nI x0)) ((6 * k) + 1) (nI y0)) ((6 * k) + 2) (nI b0)) ((6 * k) + 3) 1) ((6 * k) + 4) 1) ((6 * k) + 5) 0)) (r := nI S.1.1) CF (z_lw hmm (upd (upd (upd (upd (upd (upd f (6 * k) (nI x0)) ((6 * k) + 1) (nI y0)) ((6 * k) + 2) (nI b0)) ((6 * k) + 3) 1) ((6 * k) + 4) 1) ((6 * k) + 5) 0) (s_X4_addSensor l G ad na ma hd S hO (by omega) (nI x0) (nI y0) (nI b0) (zC3_of hx0 hy0 (by omega)))) (cwV 3 hts gL_sensors_X4_addSensor rfl rfl rfl (by decide +kernel) ⟨Nat.le_of_ble_eq_true rfl, Nat.le_of_ble_eq_true rfl⟩) (zCP.rcv hK hW.1) hW hK hS (fun q _ h => hA q h) hA hl.1 rfl rfl (Nat.le_of_ble_eq_true rfl) dL_sensors_160 ⟨Nat.le_refl _, Nat.le_refl _⟩ (fun H locs hW hS _ => ?_)
          refine z_top (x2 := nI k) (by rw [hn]) ?_
          refine lv_iload hx hb dL_sensors_163 (lv_at hl 1 rfl) ?_
          refine lv_icmp_eq (tgt := 170) hx hb dL_sensors_165 (by decide) (fun _ => ?_) (fun q => absurd rfl q)
          refine lv_iinc (v := nI (k + 1)) (lv' := [(5, .int (nI (k + 1))), (6, .int (zCe L xs (1 + k))), (4, .int (nI (1 + j))), (0, .ref (ma 0)), (1, .ref b), (2, .int 0), (3, .ref mm)]) hx hb dL_sensors_170 hl (k := 1) rfl (nI_1 _) (by decide) rfl (fun ls hl => ?_)
          refine lv_goto (tgt := 17) hx hb dL_sensors_173 (by decide) ?_
          exact ih (k + 1) _ _ _ _ _ (by omega) (by omega) (zSn_s (by omega) hZ hx0 hy0 (by omega) (fun t ht => (pk_un (by omega)).trans ((pk_un (by omega)).trans ((pk_un (by omega)).trans ((pk_un (by omega)).trans ((pk_un (by omega)).trans ((pk_un (by omega)).trans (rfl))))))) ((pk_un (by omega)).trans ((pk_un (by omega)).trans ((pk_un (by omega)).trans ((pk_un (by omega)).trans ((pk_un (by omega)).trans (pk_us)))))) ((pk_un (by omega)).trans ((pk_un (by omega)).trans ((pk_un (by omega)).trans ((pk_un (by omega)).trans (pk_us)))))) hW hS (lv_sub hl [0, 2, 3, 4, 5, 6] rfl)
        · skip
          refine lv_bipush (v := 120) hx hb dL_sensors_92 (by decide) ?_
          refine lv_goto (tgt := 100) hx hb dL_sensors_94 (by decide) ?_
          refine z_si (As := [.int ((zCe L xs (1 + k)) >>> (14 &&& 31)), .int 120]) (rest := [.int (nI ((6 * k) + 2)), .ref mm]) (P2 := zLW G ad na ma mm S (upd (upd f (6 * k) (nI x0)) ((6 * k) + 1) (nI y0))) (r := zLo ((zCe L xs (1 + k)) >>> (14 &&& 31)) 120) CF (l_low l G (zAw ad na ma mm) (zLW G ad na ma mm S (upd (upd f (6 * k) (nI x0)) ((6 * k) + 1) (nI y0))) ((zCe L xs (1 + k)) >>> (14 &&& 31)) 120 (by decide)) (cwS 2 hts gL_sensors_L_low rfl rfl rfl (by decide +kernel) ⟨Nat.le_of_ble_eq_true rfl, Nat.le_of_ble_eq_true rfl⟩) hW hK hS (fun q _ h => hA q h) hA hl.1 rfl rfl (Nat.le_of_ble_eq_true rfl) dL_sensors_100 ⟨Nat.le_refl _, Nat.le_refl _⟩ (fun H locs hW hS _ => ?_)
          obtain ⟨b0, hb0, eb0⟩ := zLo_lt ((zCe L xs (1 + k)) >>> (14 &&& 31)) (d := 120) (by decide) (by decide)
          refine z_top (x2 := nI b0) (eb0) ?_
          refine z_isM (j := ((6 * k) + 2)) (w := nI b0) hx hb hd hmm hK hA hS hW rfl (by omega) dL_sensors_103 (fun H locs hW hS => ?_)
          refine lv_aload_n hx hb dL_sensors_104 rfl (lv_at hl 6 rfl) ?_
          refine lv_bipush (v := 6) hx hb dL_sensors_105 (by decide) ?_
          refine lv_iload hx hb dL_sensors_107 (lv_at hl 1 rfl) ?_
          refine lv_imul hx hb dL_sensors_109 ?_
          refine z_top (x2 := nI (6 * k)) (pk_mul 6 k) ?_
          refine lv_iconst (v := 3) hx hb dL_sensors_110 (by decide) ?_
          refine lv_iadd hx hb dL_sensors_111 ?_
          refine z_top (x2 := nI ((6 * k) + 3)) (nI_add (6 * k) 3) ?_
          refine lv_iconst (v := 1) hx hb dL_sensors_112 (by decide) ?_
          refine z_isM (j := ((6 * k) + 3)) (w := 1) hx hb hd hmm hK hA hS hW rfl (by omega) dL_sensors_113 (fun H locs hW hS => ?_)
          refine lv_aload_n hx hb dL_sensors_114 rfl (lv_at hl 6 rfl) ?_
          refine lv_bipush (v := 6) hx hb dL_sensors_115 (by decide) ?_
          refine lv_iload hx hb dL_sensors_117 (lv_at hl 1 rfl) ?_
          refine lv_imul hx hb dL_sensors_119 ?_
          refine z_top (x2 := nI (6 * k)) (pk_mul 6 k) ?_
          refine lv_iconst (v := 4) hx hb dL_sensors_120 (by decide) ?_
          refine lv_iadd hx hb dL_sensors_121 ?_
          refine z_top (x2 := nI ((6 * k) + 4)) (nI_add (6 * k) 4) ?_
          refine lv_iconst (v := 1) hx hb dL_sensors_122 (by decide) ?_
          refine z_isM (j := ((6 * k) + 4)) (w := 1) hx hb hd hmm hK hA hS hW rfl (by omega) dL_sensors_123 (fun H locs hW hS => ?_)
          refine lv_aload_n hx hb dL_sensors_124 rfl (lv_at hl 6 rfl) ?_
          refine lv_bipush (v := 6) hx hb dL_sensors_125 (by decide) ?_
          refine lv_iload hx hb dL_sensors_127 (lv_at hl 1 rfl) ?_
          refine lv_imul hx hb dL_sensors_129 ?_
          refine z_top (x2 := nI (6 * k)) (pk_mul 6 k) ?_
          refine lv_iconst (v := 5) hx hb dL_sensors_130 (by decide) ?_
          refine lv_iadd hx hb dL_sensors_131 ?_
          refine z_top (x2 := nI ((6 * k) + 5)) (nI_add (6 * k) 5) ?_
          refine lv_iconst (v := 0) hx hb dL_sensors_132 (by decide) ?_
          refine z_isM (j := ((6 * k) + 5)) (w := 0) hx hb hd hmm hK hA hS hW rfl (by omega) dL_sensors_133 (fun H locs hW hS => ?_)
          refine lv_aload_n hx hb dL_sensors_134 rfl (lv_at hl 3 rfl) ?_
          refine lv_aload_n hx hb dL_sensors_135 rfl (lv_at hl 6 rfl) ?_
          refine lv_bipush (v := 6) hx hb dL_sensors_136 (by decide) ?_
          refine lv_iload hx hb dL_sensors_138 (lv_at hl 1 rfl) ?_
          refine lv_imul hx hb dL_sensors_140 ?_
          refine z_top (x2 := nI (6 * k)) (pk_mul 6 k) ?_
          refine z_iaM (j := (6 * k)) (w := nI x0) hx hb hK hW rfl (by omega) ((pk_un (by omega)).trans ((pk_un (by omega)).trans ((pk_un (by omega)).trans ((pk_un (by omega)).trans ((pk_un (by omega)).trans (pk_us)))))) dL_sensors_141 ?_
          refine lv_aload_n hx hb dL_sensors_142 rfl (lv_at hl 6 rfl) ?_
          refine lv_bipush (v := 6) hx hb dL_sensors_143 (by decide) ?_
          refine lv_iload hx hb dL_sensors_145 (lv_at hl 1 rfl) ?_
          refine lv_imul hx hb dL_sensors_147 ?_
          refine z_top (x2 := nI (6 * k)) (pk_mul 6 k) ?_
          refine lv_iconst (v := 1) hx hb dL_sensors_148 (by decide) ?_
          refine lv_iadd hx hb dL_sensors_149 ?_
          refine z_top (x2 := nI ((6 * k) + 1)) (nI_add (6 * k) 1) ?_
          refine z_iaM (j := ((6 * k) + 1)) (w := nI y0) hx hb hK hW rfl (by omega) ((pk_un (by omega)).trans ((pk_un (by omega)).trans ((pk_un (by omega)).trans ((pk_un (by omega)).trans (pk_us))))) dL_sensors_150 ?_
          refine lv_aload_n hx hb dL_sensors_151 rfl (lv_at hl 6 rfl) ?_
          refine lv_bipush (v := 6) hx hb dL_sensors_152 (by decide) ?_
          refine lv_iload hx hb dL_sensors_154 (lv_at hl 1 rfl) ?_
          refine lv_imul hx hb dL_sensors_156 ?_
          refine z_top (x2 := nI (6 * k)) (pk_mul 6 k) ?_
          refine lv_iconst (v := 2) hx hb dL_sensors_157 (by decide) ?_
          refine lv_iadd hx hb dL_sensors_158 ?_
          refine z_top (x2 := nI ((6 * k) + 2)) (nI_add (6 * k) 2) ?_
          refine z_iaM (j := ((6 * k) + 2)) (w := nI b0) hx hb hK hW rfl (by omega) ((pk_un (by omega)).trans ((pk_un (by omega)).trans ((pk_un (by omega)).trans (pk_us)))) dL_sensors_159 ?_
          refine z_vi (As := [.int (nI x0), .int (nI y0), .int (nI b0)]) (rest := []) (P2 := zLW G ad na ma mm (zPu S (S.1.1 + 1, S.1.2.1, zNs S.1.2.2 S.1.1 (nI x0) (nI y0) (nI b0))) (upd (upd (upd (upd (upd (upd f (6 * k) (nI x0)) ((6 * k) + 1) (nI y0)) ((6 * k) + 2) (nI b0)) ((6 * k) + 3) 1) ((6 * k) + 4) 1) ((6 * k) + 5) 0)) (r := nI S.1.1) CF (z_lw hmm (upd (upd (upd (upd (upd (upd f (6 * k) (nI x0)) ((6 * k) + 1) (nI y0)) ((6 * k) + 2) (nI b0)) ((6 * k) + 3) 1) ((6 * k) + 4) 1) ((6 * k) + 5) 0) (s_X4_addSensor l G ad na ma hd S hO (by omega) (nI x0) (nI y0) (nI b0) (zC3_of hx0 hy0 (by omega)))) (cwV 3 hts gL_sensors_X4_addSensor rfl rfl rfl (by decide +kernel) ⟨Nat.le_of_ble_eq_true rfl, Nat.le_of_ble_eq_true rfl⟩) (zCP.rcv hK hW.1) hW hK hS (fun q _ h => hA q h) hA hl.1 rfl rfl (Nat.le_of_ble_eq_true rfl) dL_sensors_160 ⟨Nat.le_refl _, Nat.le_refl _⟩ (fun H locs hW hS _ => ?_)
          refine z_top (x2 := nI k) (by rw [hn]) ?_
          refine lv_iload hx hb dL_sensors_163 (lv_at hl 1 rfl) ?_
          refine lv_icmp_eq (tgt := 170) hx hb dL_sensors_165 (by decide) (fun _ => ?_) (fun q => absurd rfl q)
          refine lv_iinc (v := nI (k + 1)) (lv' := [(5, .int (nI (k + 1))), (6, .int (zCe L xs (1 + k))), (4, .int (nI (1 + j))), (0, .ref (ma 0)), (1, .ref b), (2, .int 0), (3, .ref mm)]) hx hb dL_sensors_170 hl (k := 1) rfl (nI_1 _) (by decide) rfl (fun ls hl => ?_)
          refine lv_goto (tgt := 17) hx hb dL_sensors_173 (by decide) ?_
          exact ih (k + 1) _ _ _ _ _ (by omega) (by omega) (zSn_s (by omega) hZ hx0 hy0 (by omega) (fun t ht => (pk_un (by omega)).trans ((pk_un (by omega)).trans ((pk_un (by omega)).trans ((pk_un (by omega)).trans ((pk_un (by omega)).trans ((pk_un (by omega)).trans (rfl))))))) ((pk_un (by omega)).trans ((pk_un (by omega)).trans ((pk_un (by omega)).trans ((pk_un (by omega)).trans ((pk_un (by omega)).trans (pk_us)))))) ((pk_un (by omega)).trans ((pk_un (by omega)).trans ((pk_un (by omega)).trans ((pk_un (by omega)).trans (pk_us)))))) hW hS (lv_sub hl [0, 2, 3, 4, 5, 6] rfl)
  exact loop (1 + j + 1) 0 S f _ _ _ (by omega) (by omega) hZ0 hW hS (lv_sub hl [0, 1, 2, 3, 4, 5] rfl)
