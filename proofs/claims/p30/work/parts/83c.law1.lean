/-! rows laid by my own program (wip/p30/gen): the law's loop -/
set_option maxHeartbeats 4000000 in
set_option maxRecDepth 100000 in
theorem zB1 {p : Program} {l : Launch} {e : Env} {s : State} {m : MethodId} {below : List Frame} {meth : Method} {c : Code} {b L : Nat} {xs : Nat → Int32} {G : zG} {ad : Nat → Nat} {na : Nat → Nat → Nat} {ma : Nat → Nat} {mm : Nat} (hL : L ≤ 260) (C0 : lw_At p s m meth c b L xs) (Fx : zFx G ad na ma mm s) {n cyc : Nat} (hn9 : n ≤ 9) (hn1 : 1 ≤ n) (hcy : 2 ≤ cyc ∧ cyc ≤ 8) {t : Nat} (ht : t < 24) {S : zSg} {f : Nat → Int32} {gv bn0 bn tt : Int32} (hLI : zLI n cyc t S f gv bn0 tt) (ha : 0 < zCa n S.1.2.2) (hbn : ∀ i, i < n → bt bn i = true → ¬ (S.1.2.2 4 i = 1 ∨ zPh S.1.2.1 S.1.2.2 = 0)) {H : Heap} {locs : List Loc} {ls : Array Slot} (hW : zLW G ad na ma mm S f H) (hS : va_S (zLa s) s.heap H locs) (hl : lv_has ls 15 [(0, .ref b), (1, .ref (ma 0)), (2, .ref mm), (3, .int (nI n)), (4, .int (nI cyc)), (5, .int gv), (6, .int bn), (7, .int tt), (8, .int (nI t)), (9, .int (zPh S.1.2.1 S.1.2.2))]) (kk : ∀ (MA MC : Int32) (H : Heap) (locs : List Loc) (ls : Array Slot), (∀ j, j < n → bt MA j = zAl S.1.2.2 j) → (∀ j, j < n → (bt MC j = true ↔ (S.1.2.2 3 j = 1 ∧ (S.1.2.2 4 j = 1 ∨ zPh S.1.2.1 S.1.2.2 = 0)))) → zLW G ad na ma mm S f H → va_S (zLa s) s.heap H locs → lv_has ls 15 [(0, .ref b), (1, .ref (ma 0)), (2, .ref mm), (3, .int (nI n)), (4, .int (nI cyc)), (5, .int gv), (6, .int bn), (7, .int tt), (8, .int (nI t)), (9, .int (zPh S.1.2.1 S.1.2.2)), (10, .int MA), (11, .int MC)] → W p l e room_1 s m #[Value.ref b] below meth c H locs 600000 7302250 (lw_Z below #[Value.ref b] s) (F0 m 235 ls [])) : W p l e room_1 s m #[Value.ref b] below meth c H locs 600000 7302250 (lw_Z below #[Value.ref b] s) (F0 m 154 ls []) := by
  obtain ⟨hx, hb, hr, hml, hown, hts0, hX0, hbl, hlocks, hgv⟩ := id C0
  obtain ⟨hK, hd, hmm, hA, hT⟩ := id Fx
  have hts : ∀ w ∈ wsL_law, w.before #[Value.ref b] s = true := fun w hw => hts0 w (wsL_law_in w hw)
  have CF : CallFix p m c cL_law 15 s #[Value.ref b] wsL_law RL := ⟨hx, hb, hml, hown, hts⟩
  have hX : va_X b L xs s s.heap ∧ b < s.heap.size := ⟨hX0, hbl⟩
  have hbA : ¬ zLa s b := Nat.not_le.mpr hbl
  have hbW : ¬ zAw ad na ma mm b := fun q => hbA (hA b q)
  have hO := hLI.1
  have hn := hLI.2.1
  have hl : lv_has ls 15 [(0, .ref b), (1, .ref (ma 0)), (2, .ref mm), (3, .int (nI n)), (4, .int (nI cyc)), (5, .int gv), (6, .int bn), (7, .int tt), (8, .int (nI t)), (9, .int (zPh S.1.2.1 S.1.2.2))] := hl
  refine lv_iconst (v := 0) hx hb dL_law_154 (by decide) ?_
  refine lv_istore (lv' := [(10, .int 0), (0, .ref b), (1, .ref (ma 0)), (2, .ref mm), (3, .int (nI n)), (4, .int (nI cyc)), (5, .int gv), (6, .int bn), (7, .int tt), (8, .int (nI t)), (9, .int (zPh S.1.2.1 S.1.2.2))]) hx hb dL_law_155 hl (by decide) rfl (fun ls hl => ?_)
  refine lv_iconst (v := 0) hx hb dL_law_157 (by decide) ?_
  refine lv_istore (lv' := [(11, .int 0), (10, .int 0), (0, .ref b), (1, .ref (ma 0)), (2, .ref mm), (3, .int (nI n)), (4, .int (nI cyc)), (5, .int gv), (6, .int bn), (7, .int tt), (8, .int (nI t)), (9, .int (zPh S.1.2.1 S.1.2.2))]) hx hb dL_law_158 hl (by decide) rfl (fun ls hl => ?_)
  refine lv_iconst (v := 0) hx hb dL_law_160 (by decide) ?_
  refine lv_istore (lv' := [(12, .int 0), (11, .int 0), (10, .int 0), (0, .ref b), (1, .ref (ma 0)), (2, .ref mm), (3, .int (nI n)), (4, .int (nI cyc)), (5, .int gv), (6, .int bn), (7, .int tt), (8, .int (nI t)), (9, .int (zPh S.1.2.1 S.1.2.2))]) hx hb dL_law_161 hl (by decide) rfl (fun ls hl => ?_)
  have loop1 : ∀ (f1 k : Nat) (H : Heap) (locs : List Loc) (ls : Array Slot), k ≤ n → n < k + f1 → zLW G ad na ma mm S f H → va_S (zLa s) s.heap H locs → lv_has ls 15 [(12, .int (nI k)), (11, .int (zIt (zMkS (fun k => zBi (S.1.2.2 3 k = 1 ∧ (S.1.2.2 4 k = 1 ∨ zPh S.1.2.1 S.1.2.2 = 0)))) k (0 : Int32))), (10, .int (zIt (zMkS (fun k => zBi (S.1.2.2 3 k = 1))) k (0 : Int32))), (0, .ref b), (1, .ref (ma 0)), (2, .ref mm), (3, .int (nI n)), (4, .int (nI cyc)), (5, .int gv), (6, .int bn), (7, .int tt), (8, .int (nI t)), (9, .int (zPh S.1.2.1 S.1.2.2))] → W p l e room_1 s m #[Value.ref b] below meth c H locs 600000 7302250 (lw_Z below #[Value.ref b] s) (F0 m 163 ls []) := by
    intro f1
    induction f1 with
    | zero => intro k H locs ls h1 h2; exact absurd h2 (by omega)
    | succ f1 ih1 =>
      intro k H locs ls hk1 hf1 hW hS hl
      generalize hF_va : zIt (zMkS (fun k => zBi (S.1.2.2 3 k = 1))) k (0 : Int32) = va at hW hl 
      generalize hF_vc : zIt (zMkS (fun k => zBi (S.1.2.2 3 k = 1 ∧ (S.1.2.2 4 k = 1 ∨ zPh S.1.2.1 S.1.2.2 = 0)))) k (0 : Int32) = vc at hW hl 
      refine lv_iload hx hb dL_law_163 (lv_at hl 0 rfl) ?_
      refine lv_iload_n hx hb dL_law_165 rfl (lv_at hl 6 rfl) ?_
      refine lv_icmp_ge (tgt := 203) hx hb dL_law_166 (by decide) (fun c_1 => ?_) (fun c_2 => ?_)
      · skip
        have c_1 := (z_leI (a := n) (b := k) (by omega) (by omega)).mp c_1
        have hkn1 : k = n := by omega
        rw [hkn1] at hF_va
        subst hF_va
        rw [hkn1] at hF_vc
        subst hF_vc
        obtain ⟨mA, mC, m1, m2, m3⟩ := zMsk hn9 (g := S.1.2.1) (τ := S.1.2.2) (bn := bn) hbn
        generalize hMA : zIt (zMkS (fun k => zBi (S.1.2.2 3 k = 1))) n 0 = MA at mA m2 m3 hl
        generalize hMC : zIt (zMkS (fun k => zBi (S.1.2.2 3 k = 1 ∧ (S.1.2.2 4 k = 1 ∨ zPh S.1.2.1 S.1.2.2 = 0)))) n 0 = MC at mC m1 m2 m3 hl
        refine lv_iload hx hb dL_law_203 (lv_at hl 1 rfl) ?_
        refine lv_iload hx hb dL_law_205 (lv_at hl 9 rfl) ?_
        refine lv_iand hx hb dL_law_207 ?_
        refine lv_if_ne (tgt := 233) hx hb dL_law_208 (by decide) (fun q => absurd m1 q) (fun _ => ?_)
        refine lv_iload hx hb dL_law_211 (lv_at hl 1 rfl) ?_
        refine lv_iload hx hb dL_law_213 (lv_at hl 2 rfl) ?_
        refine lv_iconst (v := -1) hx hb dL_law_215 (by decide) ?_
        refine lv_ixor hx hb dL_law_216 ?_
        refine lv_iand hx hb dL_law_217 ?_
        refine lv_if_ne (tgt := 233) hx hb dL_law_218 (by decide) (fun q => absurd m2 q) (fun _ => ?_)
        refine lv_iload hx hb dL_law_221 (lv_at hl 12 rfl) ?_
        refine lv_if_ne (tgt := 235) hx hb dL_law_223 (by decide) (fun c_3 => ?_) (fun c_4 => ?_)
        · skip
          exact kk MA MC _ _ _ mA mC hW hS (lv_sub hl [3, 4, 5, 6, 7, 8, 9, 10, 11, 12, 2, 1] rfl)
        · skip
          refine lv_iload hx hb dL_law_226 (lv_at hl 1 rfl) ?_
          refine lv_iload hx hb dL_law_228 (lv_at hl 2 rfl) ?_
          refine lv_icmp_eq (tgt := 235) hx hb dL_law_230 (by decide) (fun _ => ?_) (fun q => absurd (m3 c_4) q)
          exact kk MA MC _ _ _ mA mC hW hS (lv_sub hl [3, 4, 5, 6, 7, 8, 9, 10, 11, 12, 2, 1] rfl)
      · skip
        have c_2 := (not_congr (z_leI (a := n) (b := k) (by omega) (by omega))).mp c_2
        refine lv_iload hx hb dL_law_169 (lv_at hl 2 rfl) ?_
        refine lv_aload_n hx hb dL_law_171 rfl (lv_at hl 4 rfl) ?_
        refine lv_iload hx hb dL_law_172 (lv_at hl 0 rfl) ?_
        refine z_vi (As := [.int (nI k)]) (rest := [.int va]) (P2 := zLW G ad na ma mm S f) (r := zBi (S.1.2.2 3 k = 1)) CF (z_lw hmm f (s_X4_isAlive l G ad na ma hd S hO k (by omega))) (cwV 1 hts gL_law_X4_isAlive rfl rfl rfl (by decide +kernel) ⟨Nat.le_of_ble_eq_true rfl, Nat.le_of_ble_eq_true rfl⟩) (zCP.rcv hK hW.1) hW hK hS (fun q _ h => hA q h) hA hl.1 rfl rfl (Nat.le_of_ble_eq_true rfl) dL_law_174 ⟨Nat.le_of_ble_eq_true rfl, Nat.le_of_ble_eq_true rfl⟩ (fun H locs hW hS _ => ?_)
        refine lv_iload hx hb dL_law_177 (lv_at hl 0 rfl) ?_
        refine lv_ishl hx hb dL_law_179 ?_
        refine lv_ior hx hb dL_law_180 ?_
        refine lv_istore (lv' := [(10, .int (va ||| ((zBi (S.1.2.2 3 k = 1)) <<< ((nI k) &&& 31)))), (12, .int (nI k)), (11, .int vc), (0, .ref b), (1, .ref (ma 0)), (2, .ref mm), (3, .int (nI n)), (4, .int (nI cyc)), (5, .int gv), (6, .int bn), (7, .int tt), (8, .int (nI t)), (9, .int (zPh S.1.2.1 S.1.2.2))]) hx hb dL_law_181 hl (by decide) rfl (fun ls hl => ?_)
        refine lv_iload hx hb dL_law_183 (lv_at hl 2 rfl) ?_
        refine lv_aload_n hx hb dL_law_185 rfl (lv_at hl 4 rfl) ?_
        refine lv_iload hx hb dL_law_186 (lv_at hl 1 rfl) ?_
        refine z_vi (As := [.int (nI k)]) (rest := [.int vc]) (P2 := zLW G ad na ma mm S f) (r := zBi (S.1.2.2 3 k = 1 ∧ (S.1.2.2 4 k = 1 ∨ zPh S.1.2.1 S.1.2.2 = 0))) CF (z_lw hmm f (s_X4_isEligible l G ad na ma hd S hO k (by omega))) (cwV 1 hts gL_law_X4_isEligible rfl rfl rfl (by decide +kernel) ⟨Nat.le_of_ble_eq_true rfl, Nat.le_of_ble_eq_true rfl⟩) (zCP.rcv hK hW.1) hW hK hS (fun q _ h => hA q h) hA hl.1 rfl rfl (Nat.le_of_ble_eq_true rfl) dL_law_188 ⟨Nat.le_of_ble_eq_true rfl, Nat.le_of_ble_eq_true rfl⟩ (fun H locs hW hS _ => ?_)
        refine lv_iload hx hb dL_law_191 (lv_at hl 1 rfl) ?_
        refine lv_ishl hx hb dL_law_193 ?_
        refine lv_ior hx hb dL_law_194 ?_
        refine lv_istore (lv' := [(11, .int (vc ||| ((zBi (S.1.2.2 3 k = 1 ∧ (S.1.2.2 4 k = 1 ∨ zPh S.1.2.1 S.1.2.2 = 0))) <<< ((nI k) &&& 31)))), (10, .int (va ||| ((zBi (S.1.2.2 3 k = 1)) <<< ((nI k) &&& 31)))), (12, .int (nI k)), (0, .ref b), (1, .ref (ma 0)), (2, .ref mm), (3, .int (nI n)), (4, .int (nI cyc)), (5, .int gv), (6, .int bn), (7, .int tt), (8, .int (nI t)), (9, .int (zPh S.1.2.1 S.1.2.2))]) hx hb dL_law_195 hl (by decide) rfl (fun ls hl => ?_)
        refine lv_iinc (v := nI (k + 1)) (lv' := [(12, .int (nI (k + 1))), (11, .int (vc ||| ((zBi (S.1.2.2 3 k = 1 ∧ (S.1.2.2 4 k = 1 ∨ zPh S.1.2.1 S.1.2.2 = 0))) <<< ((nI k) &&& 31)))), (10, .int (va ||| ((zBi (S.1.2.2 3 k = 1)) <<< ((nI k) &&& 31)))), (0, .ref b), (1, .ref (ma 0)), (2, .ref mm), (3, .int (nI n)), (4, .int (nI cyc)), (5, .int gv), (6, .int bn), (7, .int tt), (8, .int (nI t)), (9, .int (zPh S.1.2.1 S.1.2.2))]) hx hb dL_law_197 hl (k := 2) rfl (nI_1 _) (by decide) rfl (fun ls hl => ?_)
        refine lv_goto (tgt := 163) hx hb dL_law_200 (by decide) ?_
        have e_5 : zIt (zMkS (fun k => zBi (S.1.2.2 3 k = 1))) (k + 1) (0 : Int32) = va ||| ((zBi (S.1.2.2 3 k = 1)) <<< ((nI k) &&& 31)) := by
          rw [zIt_s, hF_va] <;> (first | with_reducible rfl | (simp only [zMkS, c_2, eq_self, ne_eq, not_true_eq_false, not_false_eq_true, and_true, true_and, and_self, and_false, false_and, true_or, or_true, false_or, or_false, reduceIte]; done) | (simp [zMkS, c_2]; done) | rfl | (simp_all [zMkS]; done))
        have e_6 : zIt (zMkS (fun k => zBi (S.1.2.2 3 k = 1 ∧ (S.1.2.2 4 k = 1 ∨ zPh S.1.2.1 S.1.2.2 = 0)))) (k + 1) (0 : Int32) = vc ||| ((zBi (S.1.2.2 3 k = 1 ∧ (S.1.2.2 4 k = 1 ∨ zPh S.1.2.1 S.1.2.2 = 0))) <<< ((nI k) &&& 31)) := by
          rw [zIt_s, hF_vc] <;> (first | with_reducible rfl | (simp only [zMkS, c_2, eq_self, ne_eq, not_true_eq_false, not_false_eq_true, and_true, true_and, and_self, and_false, false_and, true_or, or_true, false_or, or_false, reduceIte]; done) | (simp [zMkS, c_2]; done) | rfl | (simp_all [zMkS]; done))
        refine ih1 (k + 1) _ _ _ (by omega) (by omega) ?_ hS ?_
        · first | exact hW | (rw [e_5, e_6]; exact hW)
        · first | exact lv_sub hl [0, 1, 2, 3, 4, 5, 6, 7, 8, 9, 10, 11, 12] rfl | (rw [e_5, e_6]; exact lv_sub hl [0, 1, 2, 3, 4, 5, 6, 7, 8, 9, 10, 11, 12] rfl)
  exact loop1 (n + 1) 0 _ _ _ (by omega) (by omega) hW hS (lv_sub hl [0, 1, 2, 3, 4, 5, 6, 7, 8, 9, 10, 11, 12] rfl)
set_option maxHeartbeats 4000000 in
set_option maxRecDepth 100000 in
theorem zB2 {p : Program} {l : Launch} {e : Env} {s : State} {m : MethodId} {below : List Frame} {meth : Method} {c : Code} {b L : Nat} {xs : Nat → Int32} {G : zG} {ad : Nat → Nat} {na : Nat → Nat → Nat} {ma : Nat → Nat} {mm : Nat} (hL : L ≤ 260) (C0 : lw_At p s m meth c b L xs) (Fx : zFx G ad na ma mm s) {n cyc : Nat} (hn9 : n ≤ 9) (hn1 : 1 ≤ n) (hcy : 2 ≤ cyc ∧ cyc ≤ 8) {t : Nat} (ht : t < 24) {S : zSg} {f : Nat → Int32} {gv bn0 bn tt : Int32} (hLI : zLI n cyc t S f gv bn0 tt) (ha : 0 < zCa n S.1.2.2) (hbn : ∀ i, i < n → bt bn i = true → ¬ (S.1.2.2 4 i = 1 ∨ zPh S.1.2.1 S.1.2.2 = 0)) {MA MC : Int32} (mA : ∀ j, j < n → bt MA j = zAl S.1.2.2 j) (mC : ∀ j, j < n → (bt MC j = true ↔ (S.1.2.2 3 j = 1 ∧ (S.1.2.2 4 j = 1 ∨ zPh S.1.2.1 S.1.2.2 = 0)))) {H : Heap} {locs : List Loc} {ls : Array Slot} (hW : zLW G ad na ma mm S f H) (hS : va_S (zLa s) s.heap H locs) (hl : lv_has ls 15 [(0, .ref b), (1, .ref (ma 0)), (2, .ref mm), (3, .int (nI n)), (4, .int (nI cyc)), (5, .int gv), (6, .int bn), (7, .int tt), (8, .int (nI t)), (9, .int (zPh S.1.2.1 S.1.2.2)), (10, .int MA), (11, .int MC)]) (kk : ∀ (S2 : zSg) (bn2 tt2 : Int32) (H : Heap) (locs : List Loc) (ls : Array Slot), zLI n cyc (t + 1) S2 f gv bn2 tt2 → zLW G ad na ma mm S2 f H → va_S (zLa s) s.heap H locs → lv_has ls 15 [(0, .ref b), (1, .ref (ma 0)), (2, .ref mm), (3, .int (nI n)), (4, .int (nI cyc)), (5, .int gv), (6, .int bn2), (7, .int tt2), (8, .int (nI t))] → W p l e room_1 s m #[Value.ref b] below meth c H locs 600000 7302250 (lw_Z below #[Value.ref b] s) (F0 m 412 ls [])) : W p l e room_1 s m #[Value.ref b] below meth c H locs 600000 7302250 (lw_Z below #[Value.ref b] s) (F0 m 235 ls []) := by
  obtain ⟨hx, hb, hr, hml, hown, hts0, hX0, hbl, hlocks, hgv⟩ := id C0
  obtain ⟨hK, hd, hmm, hA, hT⟩ := id Fx
  have hts : ∀ w ∈ wsL_law, w.before #[Value.ref b] s = true := fun w hw => hts0 w (wsL_law_in w hw)
  have CF : CallFix p m c cL_law 15 s #[Value.ref b] wsL_law RL := ⟨hx, hb, hml, hown, hts⟩
  have hX : va_X b L xs s s.heap ∧ b < s.heap.size := ⟨hX0, hbl⟩
  have hbA : ¬ zLa s b := Nat.not_le.mpr hbl
  have hbW : ¬ zAw ad na ma mm b := fun q => hbA (hA b q)
  have hO := hLI.1
  have hn := hLI.2.1
  obtain ⟨r1, hO2, hn2, hg2, hp⟩ := hLI.run hn9 ht ha
  have hl : lv_has ls 15 [(0, .ref b), (1, .ref (ma 0)), (2, .ref mm), (3, .int (nI n)), (4, .int (nI cyc)), (5, .int gv), (6, .int bn), (7, .int tt), (8, .int (nI t)), (9, .int (zPh S.1.2.1 S.1.2.2)), (10, .int MA), (11, .int MC)] := hl
  refine lv_aload_n hx hb dL_law_235 rfl (lv_at hl 1 rfl) ?_
  refine lv_iconst (v := 1) hx hb dL_law_236 (by decide) ?_
  refine z_vi (As := [.int 1]) (rest := []) (P2 := zLW G ad na ma mm (zRnS S 1) f) (r := zRnR S 1) CF (z_lw hmm f (s_X4_run l G ad na ma hd S hO 1 (by decide) (by decide))) (cwV 1 hts gL_law_X4_run rfl rfl rfl (by decide +kernel) ⟨Nat.le_of_ble_eq_true rfl, Nat.le_of_ble_eq_true rfl⟩) (zCP.rcv hK hW.1) hW hK hS (fun q _ h => hA q h) hA hl.1 rfl rfl (Nat.le_of_ble_eq_true rfl) dL_law_237 ⟨Nat.le_of_ble_eq_true rfl, Nat.le_of_ble_eq_true rfl⟩ (fun H locs hW hS _ => ?_)
  generalize zRnS S 1 = S2 at hW hO2 hn2 hg2 hp
  have hO := hO2
  have hn := hn2
  have hf2 : ∀ i, i < n → f (6 * i) = S2.1.2.2 0 i ∧ f ((6 * i) + 1) = S2.1.2.2 1 i := fun i hi => by
    rw [(hp.2.2.1 i).1, (hp.2.2.1 i).2]
    exact hLI.2.2.2.2.2.2.2.2.2.2 i hi
  have hcw : zCw n (t + 1) f S2.1.2.2 := ⟨hp.2.2.2.1, hp.1.2.2.1, hp.1.1, hp.2.2.2.2.1, hf2⟩
  have hHead : ∀ k, k < n → S2.1.2.2 7 k = nI k → bt MC k = true := fun k hk q => (mC k hk).mpr (hp.2.2.2.2.2.1 k hk q).1
  have hLast : ∀ k, k < n → zPh S.1.2.1 S.1.2.2 = nI cyc - 1 → bt MC k = true → ¬ S2.1.2.2 7 k = nI k → ¬ S2.1.2.2 3 k = 1 := fun k hk q1 q2 q3 q4 => by
    have e1 : S.1.2.1 3 - zPh S.1.2.1 S.1.2.2 = 1 := by
      rw [q1, hLI.2.2.2.1]
      grind
    rcases hp.2.2.2.2.2.2.2.1 e1 k hk ((mC k hk).mp q2).1 ((mC k hk).mp q2).2 with z | z
    · exact q3 z
    · exact absurd (z.symm.trans q4) (by decide)
  refine z_top (x2 := 1) (r1) ?_
  refine lv_iconst (v := 1) hx hb dL_law_240 (by decide) ?_
  refine lv_icmp_ne (tgt := 263) hx hb dL_law_241 (by decide) (fun q => absurd (by decide) q) (fun _ => ?_)
  refine lv_aload_n hx hb dL_law_244 rfl (lv_at hl 1 rfl) ?_
  refine lv_iload_n hx hb dL_law_245 rfl (lv_at hl 3 rfl) ?_
  refine z_si (As := [.ref (ma 0), .int (nI n)]) (rest := []) (P2 := zLW G ad na ma mm S2 f) (r := zEg n S2.1.2.2) CF (l_energy l G ad na ma hd mm hmm S2 hO f n hn (by omega)) (cwS 2 hts gL_law_L_energy rfl rfl rfl (by decide +kernel) ⟨Nat.le_of_ble_eq_true rfl, Nat.le_of_ble_eq_true rfl⟩) hW hK hS (fun q _ h => hA q h) hA hl.1 rfl rfl (Nat.le_of_ble_eq_true rfl) dL_law_246 ⟨Nat.le_of_ble_eq_true rfl, Nat.le_of_ble_eq_true rfl⟩ (fun H locs hW hS _ => ?_)
  refine z_top (x2 := gv) (hp.2.1.trans hLI.2.2.2.2.2.1.symm) ?_
  refine lv_iload hx hb dL_law_249 (lv_at hl 5 rfl) ?_
  refine lv_icmp_ne (tgt := 263) hx hb dL_law_251 (by decide) (fun q => absurd rfl q) (fun _ => ?_)
  refine lv_aload_n hx hb dL_law_254 rfl (lv_at hl 1 rfl) ?_
  refine lv_aload_n hx hb dL_law_255 rfl (lv_at hl 2 rfl) ?_
  refine lv_iload_n hx hb dL_law_256 rfl (lv_at hl 3 rfl) ?_
  refine z_si (As := [.ref (ma 0), .ref mm, .int (nI n)]) (rest := []) (P2 := zLW G ad na ma mm S2 f) (r := 1) CF (l_clusters l G ad na ma hd mm hmm S2 hO f n hn hn9 (t + 1) (by omega) hcw) (cwS 3 hts gL_law_L_clusters rfl rfl rfl (by decide +kernel) ⟨Nat.le_of_ble_eq_true rfl, Nat.le_of_ble_eq_true rfl⟩) hW hK hS (fun q _ h => hA q h) hA hl.1 rfl rfl (Nat.le_of_ble_eq_true rfl) dL_law_257 ⟨Nat.le_of_ble_eq_true rfl, Nat.le_of_ble_eq_true rfl⟩ (fun H locs hW hS _ => ?_)
  refine lv_if_ne (tgt := 265) hx hb dL_law_260 (by decide) (fun _ => ?_) (fun q => absurd q (by decide))
  refine lv_iconst (v := 0) hx hb dL_law_265 (by decide) ?_
  refine lv_istore (lv' := [(12, .int 0), (0, .ref b), (1, .ref (ma 0)), (2, .ref mm), (3, .int (nI n)), (4, .int (nI cyc)), (5, .int gv), (6, .int bn), (7, .int tt), (8, .int (nI t)), (9, .int (zPh S.1.2.1 S.1.2.2)), (10, .int MA), (11, .int MC)]) hx hb dL_law_266 hl (by decide) rfl (fun ls hl => ?_)
  refine lv_iconst (v := 0) hx hb dL_law_268 (by decide) ?_
  refine lv_istore (lv' := [(13, .int 0), (12, .int 0), (0, .ref b), (1, .ref (ma 0)), (2, .ref mm), (3, .int (nI n)), (4, .int (nI cyc)), (5, .int gv), (6, .int bn), (7, .int tt), (8, .int (nI t)), (9, .int (zPh S.1.2.1 S.1.2.2)), (10, .int MA), (11, .int MC)]) hx hb dL_law_269 hl (by decide) rfl (fun ls hl => ?_)
  have loop1 : ∀ (f1 k : Nat) (H : Heap) (locs : List Loc) (ls : Array Slot), k ≤ n → n < k + f1 → zLW G ad na ma mm S2 f H → va_S (zLa s) s.heap H locs → lv_has ls 15 [(13, .int (nI k)), (12, .int (zIt (zMaS MA) k (0 : Int32))), (0, .ref b), (1, .ref (ma 0)), (2, .ref mm), (3, .int (nI n)), (4, .int (nI cyc)), (5, .int gv), (6, .int (zIt (zBeS S2.1.2.2) k bn)), (7, .int tt), (8, .int (nI t)), (9, .int (zPh S.1.2.1 S.1.2.2)), (10, .int MA), (11, .int MC)] → W p l e room_1 s m #[Value.ref b] below meth c H locs 600000 7302250 (lw_Z below #[Value.ref b] s) (F0 m 271 ls []) := by
    intro f1
    induction f1 with
    | zero => intro k H locs ls h1 h2; exact absurd h2 (by omega)
    | succ f1 ih1 =>
      intro k H locs ls hk1 hf1 hW hS hl
      generalize hF_vm : zIt (zMaS MA) k (0 : Int32) = vm at hW hl 
      generalize hF_vb : zIt (zBeS S2.1.2.2) k bn = vb at hW hl 
      refine lv_iload hx hb dL_law_271 (lv_at hl 0 rfl) ?_
      refine lv_iload_n hx hb dL_law_273 rfl (lv_at hl 5 rfl) ?_
      refine lv_icmp_ge (tgt := 383) hx hb dL_law_274 (by decide) (fun c_1 => ?_) (fun c_2 => ?_)
      · skip
        have c_1 := (z_leI (a := n) (b := k) (by omega) (by omega)).mp c_1
        have hkn1 : k = n := by omega
        rw [hkn1] at hF_vm
        subst hF_vm
        rw [hkn1] at hF_vb
        subst hF_vb
        refine lv_iload hx hb dL_law_383 (lv_at hl 9 rfl) ?_
        refine lv_aload_n hx hb dL_law_385 rfl (lv_at hl 3 rfl) ?_
        refine z_vi (As := []) (rest := [.int tt]) (P2 := zLW G ad na ma mm S2 f) (r := S2.1.2.2 11 12) CF (z_lw hmm f (s_X4_lastDelivered l G ad na ma hd S2 hO)) (cwV 0 hts gL_law_X4_lastDelivered rfl rfl rfl (by decide +kernel) ⟨Nat.le_of_ble_eq_true rfl, Nat.le_of_ble_eq_true rfl⟩) (zCP.rcv hK hW.1) hW hK hS (fun q _ h => hA q h) hA hl.1 rfl rfl (Nat.le_of_ble_eq_true rfl) dL_law_386 ⟨Nat.le_of_ble_eq_true rfl, Nat.le_of_ble_eq_true rfl⟩ (fun H locs hW hS _ => ?_)
        refine lv_iadd hx hb dL_law_389 ?_
        refine lv_istore (lv' := [(7, .int (tt + (S2.1.2.2 11 12))), (13, .int (nI k)), (12, .int (zIt (zMaS MA) n (0 : Int32))), (0, .ref b), (1, .ref (ma 0)), (2, .ref mm), (3, .int (nI n)), (4, .int (nI cyc)), (5, .int gv), (6, .int (zIt (zBeS S2.1.2.2) n bn)), (8, .int (nI t)), (9, .int (zPh S.1.2.1 S.1.2.2)), (10, .int MA), (11, .int MC)]) hx hb dL_law_390 hl (by decide) rfl (fun ls hl => ?_)
        refine lv_aload_n hx hb dL_law_392 rfl (lv_at hl 4 rfl) ?_
        refine z_vi (As := []) (rest := []) (P2 := zLW G ad na ma mm S2 f) (r := S2.1.2.2 11 12) CF (z_lw hmm f (s_X4_lastDelivered l G ad na ma hd S2 hO)) (cwV 0 hts gL_law_X4_lastDelivered rfl rfl rfl (by decide +kernel) ⟨Nat.le_of_ble_eq_true rfl, Nat.le_of_ble_eq_true rfl⟩) (zCP.rcv hK hW.1) hW hK hS (fun q _ h => hA q h) hA hl.1 rfl rfl (Nat.le_of_ble_eq_true rfl) dL_law_393 ⟨Nat.le_of_ble_eq_true rfl, Nat.le_of_ble_eq_true rfl⟩ (fun H locs hW hS _ => ?_)
        obtain ⟨dl, hdl, edl⟩ := hp.2.2.2.2.2.2.2.2.1
        refine z_top (x2 := nI dl) (edl) ?_
        refine lv_iload hx hb dL_law_396 (lv_at hl 2 rfl) ?_
        have hqn := zCa_b (n := n) (by omega) S.1.2.2
        have eMn := zMa_nI (A := MA) (n := n) (by omega) mA n (Nat.le_refl n)
        generalize zSu (fun i => if zAl S.1.2.2 i = true then 1 else 0) n = qn at eMn hdl hqn
        refine z_top (x2 := nI qn) (eMn) ?_
        refine lv_icmp_gt (tgt := 410) hx hb dL_law_398 (by decide) (fun q => absurd ((z_ltI (a := qn) (b := dl) (by omega) (by omega)).mp q) (by omega)) (fun _ => ?_)
        refine lv_aload_n hx hb dL_law_401 rfl (lv_at hl 4 rfl) ?_
        refine z_vi (As := []) (rest := []) (P2 := zLW G ad na ma mm S2 f) (r := S2.1.2.2 11 13) CF (z_lw hmm f (s_X4_deliveredTotal l G ad na ma hd S2 hO)) (cwV 0 hts gL_law_X4_deliveredTotal rfl rfl rfl (by decide +kernel) ⟨Nat.le_of_ble_eq_true rfl, Nat.le_of_ble_eq_true rfl⟩) (zCP.rcv hK hW.1) hW hK hS (fun q _ h => hA q h) hA hl.1 rfl rfl (Nat.le_of_ble_eq_true rfl) dL_law_402 ⟨Nat.le_of_ble_eq_true rfl, Nat.le_of_ble_eq_true rfl⟩ (fun H locs hW hS _ => ?_)
        refine z_top (x2 := tt + (S2.1.2.2 11 12)) ((hp.2.2.2.2.2.2.2.2.2.trans (by rw [hLI.2.2.2.2.2.2.1]))) ?_
        refine lv_iload hx hb dL_law_405 (lv_at hl 0 rfl) ?_
        refine lv_icmp_eq (tgt := 412) hx hb dL_law_407 (by decide) (fun _ => ?_) (fun q => absurd rfl q)
        exact kk S2 _ _ _ _ _ (hLI.next hn9 hO2 hn2 hg2 hp hbn) hW hS (lv_sub hl [3, 4, 5, 6, 7, 8, 9, 0, 10] rfl)
      · skip
        have c_2 := (not_congr (z_leI (a := n) (b := k) (by omega) (by omega))).mp c_2
        refine lv_iload hx hb dL_law_277 (lv_at hl 1 rfl) ?_
        refine lv_iload hx hb dL_law_279 (lv_at hl 12 rfl) ?_
        refine lv_iload hx hb dL_law_281 (lv_at hl 0 rfl) ?_
        refine lv_ishr hx hb dL_law_283 ?_
        refine lv_iconst (v := 1) hx hb dL_law_284 (by decide) ?_
        refine lv_iand hx hb dL_law_285 ?_
        refine lv_iadd hx hb dL_law_286 ?_
        refine lv_istore (lv' := [(12, .int (vm + ((MA >>> ((nI k) &&& 31)) &&& 1))), (13, .int (nI k)), (0, .ref b), (1, .ref (ma 0)), (2, .ref mm), (3, .int (nI n)), (4, .int (nI cyc)), (5, .int gv), (6, .int vb), (7, .int tt), (8, .int (nI t)), (9, .int (zPh S.1.2.1 S.1.2.2)), (10, .int MA), (11, .int MC)]) hx hb dL_law_287 hl (by decide) rfl (fun ls hl => ?_)
        refine lv_aload_n hx hb dL_law_289 rfl (lv_at hl 3 rfl) ?_
        refine lv_iload hx hb dL_law_290 (lv_at hl 1 rfl) ?_
        refine z_vi (As := [.int (nI k)]) (rest := []) (P2 := zLW G ad na ma mm S2 f) (r := S2.1.2.2 7 k) CF (z_lw hmm f (s_X4_headOf l G ad na ma hd S2 hO k (by omega))) (cwV 1 hts gL_law_X4_headOf rfl rfl rfl (by decide +kernel) ⟨Nat.le_of_ble_eq_true rfl, Nat.le_of_ble_eq_true rfl⟩) (zCP.rcv hK hW.1) hW hK hS (fun q _ h => hA q h) hA hl.1 rfl rfl (Nat.le_of_ble_eq_true rfl) dL_law_292 ⟨Nat.le_of_ble_eq_true rfl, Nat.le_of_ble_eq_true rfl⟩ (fun H locs hW hS _ => ?_)
        refine lv_iload hx hb dL_law_295 (lv_at hl 1 rfl) ?_
        refine lv_icmp_ne (tgt := 304) hx hb dL_law_297 (by decide) (fun c_3 => ?_) (fun c_4 => ?_)
        · skip
          refine lv_iconst (v := 0) hx hb dL_law_304 (by decide) ?_
          refine lv_istore (lv' := [(14, .int 0), (12, .int (vm + ((MA >>> ((nI k) &&& 31)) &&& 1))), (13, .int (nI k)), (0, .ref b), (1, .ref (ma 0)), (2, .ref mm), (3, .int (nI n)), (4, .int (nI cyc)), (5, .int gv), (6, .int vb), (7, .int tt), (8, .int (nI t)), (9, .int (zPh S.1.2.1 S.1.2.2)), (10, .int MA), (11, .int MC)]) hx hb dL_law_305 hl (by decide) rfl (fun ls hl => ?_)
          refine lv_iload hx hb dL_law_307 (lv_at hl 0 rfl) ?_
          refine lv_if_eq (tgt := 322) hx hb dL_law_309 (by decide) (fun _ => ?_) (fun q => absurd (by decide) q)
          refine lv_iload hx hb dL_law_322 (lv_at hl 12 rfl) ?_
          refine lv_iload hx hb dL_law_324 (lv_at hl 7 rfl) ?_
          refine lv_iconst (v := 1) hx hb dL_law_326 (by decide) ?_
          refine lv_isub hx hb dL_law_327 ?_
          refine lv_icmp_ne (tgt := 359) hx hb dL_law_328 (by decide) (fun c_5 => ?_) (fun c_6 => ?_)
          · skip
            refine lv_iload hx hb dL_law_359 (lv_at hl 9 rfl) ?_
            refine lv_iload hx hb dL_law_361 (lv_at hl 0 rfl) ?_
            refine lv_if_eq (tgt := 373) hx hb dL_law_363 (by decide) (fun _ => ?_) (fun q => absurd (by decide) q)
            refine lv_iconst (v := 0) hx hb dL_law_373 (by decide) ?_
            refine lv_ior hx hb dL_law_374 ?_
            refine lv_istore (lv' := [(6, .int (vb ||| 0)), (14, .int 0), (12, .int (vm + ((MA >>> ((nI k) &&& 31)) &&& 1))), (13, .int (nI k)), (0, .ref b), (1, .ref (ma 0)), (2, .ref mm), (3, .int (nI n)), (4, .int (nI cyc)), (5, .int gv), (7, .int tt), (8, .int (nI t)), (9, .int (zPh S.1.2.1 S.1.2.2)), (10, .int MA), (11, .int MC)]) hx hb dL_law_375 hl (by decide) rfl (fun ls hl => ?_)
            refine lv_iinc (v := nI (k + 1)) (lv' := [(13, .int (nI (k + 1))), (6, .int (vb ||| 0)), (14, .int 0), (12, .int (vm + ((MA >>> ((nI k) &&& 31)) &&& 1))), (0, .ref b), (1, .ref (ma 0)), (2, .ref mm), (3, .int (nI n)), (4, .int (nI cyc)), (5, .int gv), (7, .int tt), (8, .int (nI t)), (9, .int (zPh S.1.2.1 S.1.2.2)), (10, .int MA), (11, .int MC)]) hx hb dL_law_377 hl (k := 3) rfl (nI_1 _) (by decide) rfl (fun ls hl => ?_)
            refine lv_goto (tgt := 271) hx hb dL_law_380 (by decide) ?_
            have e_7 : zIt (zMaS MA) (k + 1) (0 : Int32) = vm + ((MA >>> ((nI k) &&& 31)) &&& 1) := by
              rw [zIt_s, hF_vm] <;> (first | with_reducible rfl | (simp only [zMaS, zBeS, c_2, c_3, c_5, eq_self, ne_eq, not_true_eq_false, not_false_eq_true, and_true, true_and, and_self, and_false, false_and, true_or, or_true, false_or, or_false, reduceIte]; done) | (simp [zMaS, zBeS, c_2, c_3, c_5]; done) | rfl | (simp_all [zMaS, zBeS]; done))
            have e_8 : zIt (zBeS S2.1.2.2) (k + 1) bn = vb ||| 0 := by
              rw [zIt_s, hF_vb] <;> (first | with_reducible rfl | (simp only [zMaS, zBeS, c_2, c_3, c_5, eq_self, ne_eq, not_true_eq_false, not_false_eq_true, and_true, true_and, and_self, and_false, false_and, true_or, or_true, false_or, or_false, reduceIte]; done) | (simp [zMaS, zBeS, c_2, c_3, c_5]; done) | rfl | (simp_all [zMaS, zBeS]; done))
            refine ih1 (k + 1) _ _ _ (by omega) (by omega) ?_ hS ?_
            · first | exact hW | (rw [e_7, e_8]; exact hW)
            · first | exact lv_sub hl [0, 3, 4, 5, 6, 7, 8, 9, 1, 10, 11, 12, 13, 14] rfl | (rw [e_7, e_8]; exact lv_sub hl [0, 3, 4, 5, 6, 7, 8, 9, 1, 10, 11, 12, 13, 14] rfl)
          · skip
            refine lv_iload hx hb dL_law_331 (lv_at hl 14 rfl) ?_
            refine lv_iload hx hb dL_law_333 (lv_at hl 2 rfl) ?_
            refine lv_ishr hx hb dL_law_335 ?_
            refine lv_iconst (v := 1) hx hb dL_law_336 (by decide) ?_
            refine lv_iand hx hb dL_law_337 ?_
            refine z_top (x2 := zBi (bt MC k = true)) (zBt1 (by omega)) ?_
            refine lv_iconst (v := 1) hx hb dL_law_338 (by decide) ?_
            refine lv_icmp_ne (tgt := 359) hx hb dL_law_339 (by decide) (fun c_9 => ?_) (fun c_10 => ?_)
            · skip
              have c_9 := zBi_n1.mp c_9
              refine lv_iload hx hb dL_law_359 (lv_at hl 9 rfl) ?_
              refine lv_iload hx hb dL_law_361 (lv_at hl 0 rfl) ?_
              refine lv_if_eq (tgt := 373) hx hb dL_law_363 (by decide) (fun _ => ?_) (fun q => absurd (by decide) q)
              refine lv_iconst (v := 0) hx hb dL_law_373 (by decide) ?_
              refine lv_ior hx hb dL_law_374 ?_
              refine lv_istore (lv' := [(6, .int (vb ||| 0)), (14, .int 0), (12, .int (vm + ((MA >>> ((nI k) &&& 31)) &&& 1))), (13, .int (nI k)), (0, .ref b), (1, .ref (ma 0)), (2, .ref mm), (3, .int (nI n)), (4, .int (nI cyc)), (5, .int gv), (7, .int tt), (8, .int (nI t)), (9, .int (zPh S.1.2.1 S.1.2.2)), (10, .int MA), (11, .int MC)]) hx hb dL_law_375 hl (by decide) rfl (fun ls hl => ?_)
              refine lv_iinc (v := nI (k + 1)) (lv' := [(13, .int (nI (k + 1))), (6, .int (vb ||| 0)), (14, .int 0), (12, .int (vm + ((MA >>> ((nI k) &&& 31)) &&& 1))), (0, .ref b), (1, .ref (ma 0)), (2, .ref mm), (3, .int (nI n)), (4, .int (nI cyc)), (5, .int gv), (7, .int tt), (8, .int (nI t)), (9, .int (zPh S.1.2.1 S.1.2.2)), (10, .int MA), (11, .int MC)]) hx hb dL_law_377 hl (k := 3) rfl (nI_1 _) (by decide) rfl (fun ls hl => ?_)
              refine lv_goto (tgt := 271) hx hb dL_law_380 (by decide) ?_
              have e_11 : zIt (zMaS MA) (k + 1) (0 : Int32) = vm + ((MA >>> ((nI k) &&& 31)) &&& 1) := by
                rw [zIt_s, hF_vm] <;> (first | with_reducible rfl | (simp only [zMaS, zBeS, c_2, c_3, c_6, c_9, eq_self, ne_eq, not_true_eq_false, not_false_eq_true, and_true, true_and, and_self, and_false, false_and, true_or, or_true, false_or, or_false, reduceIte]; done) | (simp [zMaS, zBeS, c_2, c_3, c_6, c_9]; done) | rfl | (simp_all [zMaS, zBeS]; done))
              have e_12 : zIt (zBeS S2.1.2.2) (k + 1) bn = vb ||| 0 := by
                rw [zIt_s, hF_vb] <;> (first | with_reducible rfl | (simp only [zMaS, zBeS, c_2, c_3, c_6, c_9, eq_self, ne_eq, not_true_eq_false, not_false_eq_true, and_true, true_and, and_self, and_false, false_and, true_or, or_true, false_or, or_false, reduceIte]; done) | (simp [zMaS, zBeS, c_2, c_3, c_6, c_9]; done) | rfl | (simp_all [zMaS, zBeS]; done))
              refine ih1 (k + 1) _ _ _ (by omega) (by omega) ?_ hS ?_
              · first | exact hW | (rw [e_11, e_12]; exact hW)
              · first | exact lv_sub hl [0, 3, 4, 5, 6, 7, 8, 9, 1, 10, 11, 12, 13, 14] rfl | (rw [e_11, e_12]; exact lv_sub hl [0, 3, 4, 5, 6, 7, 8, 9, 1, 10, 11, 12, 13, 14] rfl)
            · skip
              have c_10 := zBi_1.mp c_10
              refine lv_iload hx hb dL_law_342 (lv_at hl 0 rfl) ?_
              refine lv_if_ne (tgt := 359) hx hb dL_law_344 (by decide) (fun q => absurd (by decide) q) (fun _ => ?_)
              refine lv_aload_n hx hb dL_law_347 rfl (lv_at hl 4 rfl) ?_
              refine lv_iload hx hb dL_law_348 (lv_at hl 2 rfl) ?_
              refine z_vi (As := [.int (nI k)]) (rest := []) (P2 := zLW G ad na ma mm S2 f) (r := zBi (S2.1.2.2 3 k = 1)) CF (z_lw hmm f (s_X4_isAlive l G ad na ma hd S2 hO k (by omega))) (cwV 1 hts gL_law_X4_isAlive rfl rfl rfl (by decide +kernel) ⟨Nat.le_of_ble_eq_true rfl, Nat.le_of_ble_eq_true rfl⟩) (zCP.rcv hK hW.1) hW hK hS (fun q _ h => hA q h) hA hl.1 rfl rfl (Nat.le_of_ble_eq_true rfl) dL_law_350 ⟨Nat.le_of_ble_eq_true rfl, Nat.le_of_ble_eq_true rfl⟩ (fun H locs hW hS _ => ?_)
              refine lv_iconst (v := 1) hx hb dL_law_353 (by decide) ?_
              refine lv_icmp_ne (tgt := 359) hx hb dL_law_354 (by decide) (fun _ => ?_) (fun q => absurd (zBi_1.mp q) (hLast k (by omega) c_6 c_10 c_3))
              refine lv_iload hx hb dL_law_359 (lv_at hl 9 rfl) ?_
              refine lv_iload hx hb dL_law_361 (lv_at hl 0 rfl) ?_
              refine lv_if_eq (tgt := 373) hx hb dL_law_363 (by decide) (fun _ => ?_) (fun q => absurd (by decide) q)
              refine lv_iconst (v := 0) hx hb dL_law_373 (by decide) ?_
              refine lv_ior hx hb dL_law_374 ?_
              refine lv_istore (lv' := [(6, .int (vb ||| 0)), (14, .int 0), (12, .int (vm + ((MA >>> ((nI k) &&& 31)) &&& 1))), (13, .int (nI k)), (0, .ref b), (1, .ref (ma 0)), (2, .ref mm), (3, .int (nI n)), (4, .int (nI cyc)), (5, .int gv), (7, .int tt), (8, .int (nI t)), (9, .int (zPh S.1.2.1 S.1.2.2)), (10, .int MA), (11, .int MC)]) hx hb dL_law_375 hl (by decide) rfl (fun ls hl => ?_)
              refine lv_iinc (v := nI (k + 1)) (lv' := [(13, .int (nI (k + 1))), (6, .int (vb ||| 0)), (14, .int 0), (12, .int (vm + ((MA >>> ((nI k) &&& 31)) &&& 1))), (0, .ref b), (1, .ref (ma 0)), (2, .ref mm), (3, .int (nI n)), (4, .int (nI cyc)), (5, .int gv), (7, .int tt), (8, .int (nI t)), (9, .int (zPh S.1.2.1 S.1.2.2)), (10, .int MA), (11, .int MC)]) hx hb dL_law_377 hl (k := 3) rfl (nI_1 _) (by decide) rfl (fun ls hl => ?_)
              refine lv_goto (tgt := 271) hx hb dL_law_380 (by decide) ?_
              have e_13 : zIt (zMaS MA) (k + 1) (0 : Int32) = vm + ((MA >>> ((nI k) &&& 31)) &&& 1) := by
                rw [zIt_s, hF_vm] <;> (first | with_reducible rfl | (simp only [zMaS, zBeS, c_2, c_3, c_6, c_10, eq_self, ne_eq, not_true_eq_false, not_false_eq_true, and_true, true_and, and_self, and_false, false_and, true_or, or_true, false_or, or_false, reduceIte]; done) | (simp [zMaS, zBeS, c_2, c_3, c_6, c_10]; done) | rfl | (simp_all [zMaS, zBeS]; done))
              have e_14 : zIt (zBeS S2.1.2.2) (k + 1) bn = vb ||| 0 := by
                rw [zIt_s, hF_vb] <;> (first | with_reducible rfl | (simp only [zMaS, zBeS, c_2, c_3, c_6, c_10, eq_self, ne_eq, not_true_eq_false, not_false_eq_true, and_true, true_and, and_self, and_false, false_and, true_or, or_true, false_or, or_false, reduceIte]; done) | (simp [zMaS, zBeS, c_2, c_3, c_6, c_10]; done) | rfl | (simp_all [zMaS, zBeS]; done))
              refine ih1 (k + 1) _ _ _ (by omega) (by omega) ?_ hS ?_
              · first | exact hW | (rw [e_13, e_14]; exact hW)
              · first | exact lv_sub hl [0, 3, 4, 5, 6, 7, 8, 9, 1, 10, 11, 12, 13, 14] rfl | (rw [e_13, e_14]; exact lv_sub hl [0, 3, 4, 5, 6, 7, 8, 9, 1, 10, 11, 12, 13, 14] rfl)
        · skip
          refine lv_iconst (v := 1) hx hb dL_law_300 (by decide) ?_
          refine lv_goto (tgt := 305) hx hb dL_law_301 (by decide) ?_
          refine lv_istore (lv' := [(14, .int 1), (12, .int (vm + ((MA >>> ((nI k) &&& 31)) &&& 1))), (13, .int (nI k)), (0, .ref b), (1, .ref (ma 0)), (2, .ref mm), (3, .int (nI n)), (4, .int (nI cyc)), (5, .int gv), (6, .int vb), (7, .int tt), (8, .int (nI t)), (9, .int (zPh S.1.2.1 S.1.2.2)), (10, .int MA), (11, .int MC)]) hx hb dL_law_305 hl (by decide) rfl (fun ls hl => ?_)
          refine lv_iload hx hb dL_law_307 (lv_at hl 0 rfl) ?_
          refine lv_if_eq (tgt := 322) hx hb dL_law_309 (by decide) (fun q => absurd q (by decide)) (fun _ => ?_)
          refine lv_iload hx hb dL_law_312 (lv_at hl 14 rfl) ?_
          refine lv_iload hx hb dL_law_314 (lv_at hl 2 rfl) ?_
          refine lv_ishr hx hb dL_law_316 ?_
          refine lv_iconst (v := 1) hx hb dL_law_317 (by decide) ?_
          refine lv_iand hx hb dL_law_318 ?_
          refine z_top (x2 := zBi (bt MC k = true)) (zBt1 (by omega)) ?_
          refine lv_if_eq (tgt := 357) hx hb dL_law_319 (by decide) (fun q => absurd (hHead k (by omega) c_4) (zBi_0.mp q)) (fun _ => ?_)
          refine lv_iload hx hb dL_law_322 (lv_at hl 12 rfl) ?_
          refine lv_iload hx hb dL_law_324 (lv_at hl 7 rfl) ?_
          refine lv_iconst (v := 1) hx hb dL_law_326 (by decide) ?_
          refine lv_isub hx hb dL_law_327 ?_
          refine lv_icmp_ne (tgt := 359) hx hb dL_law_328 (by decide) (fun c_15 => ?_) (fun c_16 => ?_)
          · skip
            refine lv_iload hx hb dL_law_359 (lv_at hl 9 rfl) ?_
            refine lv_iload hx hb dL_law_361 (lv_at hl 0 rfl) ?_
            refine lv_if_eq (tgt := 373) hx hb dL_law_363 (by decide) (fun q => absurd q (by decide)) (fun _ => ?_)
            refine lv_iconst (v := 1) hx hb dL_law_366 (by decide) ?_
            refine lv_iload hx hb dL_law_367 (lv_at hl 2 rfl) ?_
            refine lv_ishl hx hb dL_law_369 ?_
            refine lv_goto (tgt := 374) hx hb dL_law_370 (by decide) ?_
            refine lv_ior hx hb dL_law_374 ?_
            refine lv_istore (lv' := [(6, .int (vb ||| (1 <<< ((nI k) &&& 31)))), (14, .int 1), (12, .int (vm + ((MA >>> ((nI k) &&& 31)) &&& 1))), (13, .int (nI k)), (0, .ref b), (1, .ref (ma 0)), (2, .ref mm), (3, .int (nI n)), (4, .int (nI cyc)), (5, .int gv), (7, .int tt), (8, .int (nI t)), (9, .int (zPh S.1.2.1 S.1.2.2)), (10, .int MA), (11, .int MC)]) hx hb dL_law_375 hl (by decide) rfl (fun ls hl => ?_)
            refine lv_iinc (v := nI (k + 1)) (lv' := [(13, .int (nI (k + 1))), (6, .int (vb ||| (1 <<< ((nI k) &&& 31)))), (14, .int 1), (12, .int (vm + ((MA >>> ((nI k) &&& 31)) &&& 1))), (0, .ref b), (1, .ref (ma 0)), (2, .ref mm), (3, .int (nI n)), (4, .int (nI cyc)), (5, .int gv), (7, .int tt), (8, .int (nI t)), (9, .int (zPh S.1.2.1 S.1.2.2)), (10, .int MA), (11, .int MC)]) hx hb dL_law_377 hl (k := 3) rfl (nI_1 _) (by decide) rfl (fun ls hl => ?_)
            refine lv_goto (tgt := 271) hx hb dL_law_380 (by decide) ?_
            have e_17 : zIt (zMaS MA) (k + 1) (0 : Int32) = vm + ((MA >>> ((nI k) &&& 31)) &&& 1) := by
              rw [zIt_s, hF_vm] <;> (first | with_reducible rfl | (simp only [zMaS, zBeS, c_2, c_4, c_15, eq_self, ne_eq, not_true_eq_false, not_false_eq_true, and_true, true_and, and_self, and_false, false_and, true_or, or_true, false_or, or_false, reduceIte]; done) | (simp [zMaS, zBeS, c_2, c_4, c_15]; done) | rfl | (simp_all [zMaS, zBeS]; done))
            have e_18 : zIt (zBeS S2.1.2.2) (k + 1) bn = vb ||| (1 <<< ((nI k) &&& 31)) := by
              rw [zIt_s, hF_vb] <;> (first | with_reducible rfl | (simp only [zMaS, zBeS, c_2, c_4, c_15, eq_self, ne_eq, not_true_eq_false, not_false_eq_true, and_true, true_and, and_self, and_false, false_and, true_or, or_true, false_or, or_false, reduceIte]; done) | (simp [zMaS, zBeS, c_2, c_4, c_15]; done) | rfl | (simp_all [zMaS, zBeS]; done))
            refine ih1 (k + 1) _ _ _ (by omega) (by omega) ?_ hS ?_
            · first | exact hW | (rw [e_17, e_18]; exact hW)
            · first | exact lv_sub hl [0, 3, 4, 5, 6, 7, 8, 9, 1, 10, 11, 12, 13, 14] rfl | (rw [e_17, e_18]; exact lv_sub hl [0, 3, 4, 5, 6, 7, 8, 9, 1, 10, 11, 12, 13, 14] rfl)
          · skip
            refine lv_iload hx hb dL_law_331 (lv_at hl 14 rfl) ?_
            refine lv_iload hx hb dL_law_333 (lv_at hl 2 rfl) ?_
            refine lv_ishr hx hb dL_law_335 ?_
            refine lv_iconst (v := 1) hx hb dL_law_336 (by decide) ?_
            refine lv_iand hx hb dL_law_337 ?_
            refine z_top (x2 := zBi (bt MC k = true)) (zBt1 (by omega)) ?_
            refine lv_iconst (v := 1) hx hb dL_law_338 (by decide) ?_
            refine lv_icmp_ne (tgt := 359) hx hb dL_law_339 (by decide) (fun c_19 => ?_) (fun c_20 => ?_)
            · skip
              have c_19 := zBi_n1.mp c_19
              refine lv_iload hx hb dL_law_359 (lv_at hl 9 rfl) ?_
              refine lv_iload hx hb dL_law_361 (lv_at hl 0 rfl) ?_
              refine lv_if_eq (tgt := 373) hx hb dL_law_363 (by decide) (fun q => absurd q (by decide)) (fun _ => ?_)
              refine lv_iconst (v := 1) hx hb dL_law_366 (by decide) ?_
              refine lv_iload hx hb dL_law_367 (lv_at hl 2 rfl) ?_
              refine lv_ishl hx hb dL_law_369 ?_
              refine lv_goto (tgt := 374) hx hb dL_law_370 (by decide) ?_
              refine lv_ior hx hb dL_law_374 ?_
              refine lv_istore (lv' := [(6, .int (vb ||| (1 <<< ((nI k) &&& 31)))), (14, .int 1), (12, .int (vm + ((MA >>> ((nI k) &&& 31)) &&& 1))), (13, .int (nI k)), (0, .ref b), (1, .ref (ma 0)), (2, .ref mm), (3, .int (nI n)), (4, .int (nI cyc)), (5, .int gv), (7, .int tt), (8, .int (nI t)), (9, .int (zPh S.1.2.1 S.1.2.2)), (10, .int MA), (11, .int MC)]) hx hb dL_law_375 hl (by decide) rfl (fun ls hl => ?_)
              refine lv_iinc (v := nI (k + 1)) (lv' := [(13, .int (nI (k + 1))), (6, .int (vb ||| (1 <<< ((nI k) &&& 31)))), (14, .int 1), (12, .int (vm + ((MA >>> ((nI k) &&& 31)) &&& 1))), (0, .ref b), (1, .ref (ma 0)), (2, .ref mm), (3, .int (nI n)), (4, .int (nI cyc)), (5, .int gv), (7, .int tt), (8, .int (nI t)), (9, .int (zPh S.1.2.1 S.1.2.2)), (10, .int MA), (11, .int MC)]) hx hb dL_law_377 hl (k := 3) rfl (nI_1 _) (by decide) rfl (fun ls hl => ?_)
              refine lv_goto (tgt := 271) hx hb dL_law_380 (by decide) ?_
              have e_21 : zIt (zMaS MA) (k + 1) (0 : Int32) = vm + ((MA >>> ((nI k) &&& 31)) &&& 1) := by
                rw [zIt_s, hF_vm] <;> (first | with_reducible rfl | (simp only [zMaS, zBeS, c_2, c_4, c_16, c_19, eq_self, ne_eq, not_true_eq_false, not_false_eq_true, and_true, true_and, and_self, and_false, false_and, true_or, or_true, false_or, or_false, reduceIte]; done) | (simp [zMaS, zBeS, c_2, c_4, c_16, c_19]; done) | rfl | (simp_all [zMaS, zBeS]; done))
              have e_22 : zIt (zBeS S2.1.2.2) (k + 1) bn = vb ||| (1 <<< ((nI k) &&& 31)) := by
                rw [zIt_s, hF_vb] <;> (first | with_reducible rfl | (simp only [zMaS, zBeS, c_2, c_4, c_16, c_19, eq_self, ne_eq, not_true_eq_false, not_false_eq_true, and_true, true_and, and_self, and_false, false_and, true_or, or_true, false_or, or_false, reduceIte]; done) | (simp [zMaS, zBeS, c_2, c_4, c_16, c_19]; done) | rfl | (simp_all [zMaS, zBeS]; done))
              refine ih1 (k + 1) _ _ _ (by omega) (by omega) ?_ hS ?_
              · first | exact hW | (rw [e_21, e_22]; exact hW)
              · first | exact lv_sub hl [0, 3, 4, 5, 6, 7, 8, 9, 1, 10, 11, 12, 13, 14] rfl | (rw [e_21, e_22]; exact lv_sub hl [0, 3, 4, 5, 6, 7, 8, 9, 1, 10, 11, 12, 13, 14] rfl)
            · skip
              have c_20 := zBi_1.mp c_20
              refine lv_iload hx hb dL_law_342 (lv_at hl 0 rfl) ?_
              refine lv_if_ne (tgt := 359) hx hb dL_law_344 (by decide) (fun _ => ?_) (fun q => absurd q (by decide))
              refine lv_iload hx hb dL_law_359 (lv_at hl 9 rfl) ?_
              refine lv_iload hx hb dL_law_361 (lv_at hl 0 rfl) ?_
              refine lv_if_eq (tgt := 373) hx hb dL_law_363 (by decide) (fun q => absurd q (by decide)) (fun _ => ?_)
              refine lv_iconst (v := 1) hx hb dL_law_366 (by decide) ?_
              refine lv_iload hx hb dL_law_367 (lv_at hl 2 rfl) ?_
              refine lv_ishl hx hb dL_law_369 ?_
              refine lv_goto (tgt := 374) hx hb dL_law_370 (by decide) ?_
              refine lv_ior hx hb dL_law_374 ?_
              refine lv_istore (lv' := [(6, .int (vb ||| (1 <<< ((nI k) &&& 31)))), (14, .int 1), (12, .int (vm + ((MA >>> ((nI k) &&& 31)) &&& 1))), (13, .int (nI k)), (0, .ref b), (1, .ref (ma 0)), (2, .ref mm), (3, .int (nI n)), (4, .int (nI cyc)), (5, .int gv), (7, .int tt), (8, .int (nI t)), (9, .int (zPh S.1.2.1 S.1.2.2)), (10, .int MA), (11, .int MC)]) hx hb dL_law_375 hl (by decide) rfl (fun ls hl => ?_)
              refine lv_iinc (v := nI (k + 1)) (lv' := [(13, .int (nI (k + 1))), (6, .int (vb ||| (1 <<< ((nI k) &&& 31)))), (14, .int 1), (12, .int (vm + ((MA >>> ((nI k) &&& 31)) &&& 1))), (0, .ref b), (1, .ref (ma 0)), (2, .ref mm), (3, .int (nI n)), (4, .int (nI cyc)), (5, .int gv), (7, .int tt), (8, .int (nI t)), (9, .int (zPh S.1.2.1 S.1.2.2)), (10, .int MA), (11, .int MC)]) hx hb dL_law_377 hl (k := 3) rfl (nI_1 _) (by decide) rfl (fun ls hl => ?_)
              refine lv_goto (tgt := 271) hx hb dL_law_380 (by decide) ?_
              have e_23 : zIt (zMaS MA) (k + 1) (0 : Int32) = vm + ((MA >>> ((nI k) &&& 31)) &&& 1) := by
                rw [zIt_s, hF_vm] <;> (first | with_reducible rfl | (simp only [zMaS, zBeS, c_2, c_4, c_16, c_20, eq_self, ne_eq, not_true_eq_false, not_false_eq_true, and_true, true_and, and_self, and_false, false_and, true_or, or_true, false_or, or_false, reduceIte]; done) | (simp [zMaS, zBeS, c_2, c_4, c_16, c_20]; done) | rfl | (simp_all [zMaS, zBeS]; done))
              have e_24 : zIt (zBeS S2.1.2.2) (k + 1) bn = vb ||| (1 <<< ((nI k) &&& 31)) := by
                rw [zIt_s, hF_vb] <;> (first | with_reducible rfl | (simp only [zMaS, zBeS, c_2, c_4, c_16, c_20, eq_self, ne_eq, not_true_eq_false, not_false_eq_true, and_true, true_and, and_self, and_false, false_and, true_or, or_true, false_or, or_false, reduceIte]; done) | (simp [zMaS, zBeS, c_2, c_4, c_16, c_20]; done) | rfl | (simp_all [zMaS, zBeS]; done))
              refine ih1 (k + 1) _ _ _ (by omega) (by omega) ?_ hS ?_
              · first | exact hW | (rw [e_23, e_24]; exact hW)
              · first | exact lv_sub hl [0, 3, 4, 5, 6, 7, 8, 9, 1, 10, 11, 12, 13, 14] rfl | (rw [e_23, e_24]; exact lv_sub hl [0, 3, 4, 5, 6, 7, 8, 9, 1, 10, 11, 12, 13, 14] rfl)
  exact loop1 (n + 1) 0 _ _ _ (by omega) (by omega) hW hS (lv_sub hl [0, 1, 2, 3, 4, 5, 6, 7, 8, 9, 10, 11, 12, 13] rfl)
