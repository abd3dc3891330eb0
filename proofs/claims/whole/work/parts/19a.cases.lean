set_option maxHeartbeats 4000000 in
set_option maxRecDepth 100000 in
theorem lw_c0 {p : Program} {l : Launch} {e : Env} {s : State} {m : MethodId} {below : List Frame} {meth : Method} {c : Code} {D : va_G} {cA : ClassId} {adC adR : Nat → Nat} {b L : Nat} {xs : Nat → Int32} (hL : L ≤ 2560) (C0 : lw_At p s m meth c b L xs) (X0 : lw_Cx D cA adC adR s) (i : Nat) (σ : CS) (H : Heap) (locs : List Loc) (ls : Array Slot) (hi : i + 5 ≤ L) (hI : Inv σ) (hg : sGr σ = 0) (hbc : sBc σ ≤ 60 * i) (hPc : va_P D vwCl (cW adC cA σ) H) (hPr : va_P D vwCl (rW adR cA σ) H) (hS : va_S (fun q : Nat => s.heap.size ≤ q) s.heap H locs) (hl : lv_has ls 4 [(3, .int (nI i)), (0, .ref b), (1, .ref (adC 0)), (2, .ref (adR 0))]) (next : ∀ (σ2 : CS) (H2 : Heap) (locs2 : List Loc) (ls2 : Array Slot), Gd σ σ2 → va_P D vwCl (cW adC cA σ2) H2 → va_P D vwCl (rW adR cA σ2) H2 → va_S (fun q : Nat => s.heap.size ≤ q) s.heap H2 locs2 → lv_has ls2 4 [(3, .int (nI i)), (0, .ref b), (1, .ref (adC 0)), (2, .ref (adR 0))] → W p l e room_1 s m #[Value.ref b] below meth c H2 locs2 35 1665 (lw_Z below #[Value.ref b] s) (F0 m 825 ls2 [])) : W p l e room_1 s m #[Value.ref b] below meth c H locs 35 1665 (lw_Z below #[Value.ref b] s) (F0 m 140 ls []) := by
  obtain ⟨hx, hb, hr, hml, hown, hts0, hX, hbl, hlocks, hgv⟩ := id C0
  obtain ⟨hK, hDc, hDr, hdj, hCs, hRs⟩ := id X0
  have hown : s.vm.findClass RL = some m.cls := hown
  have hts : ∀ w ∈ TG, w.before #[Value.ref b] s = true := fun w h => hts0 w (tg_sub w h)
  have hbA : ¬ (fun q : Nat => s.heap.size ≤ q) b := Nat.not_le.mpr hbl
  refine lv_aload_n hx hb dL_law_140 rfl (lv_at hl 2 rfl) ?_
  refine lv_aload_n hx hb dL_law_141 rfl (lv_at hl 1 rfl) ?_
  refine lv_iload_n hx hb dL_law_142 rfl (lv_at hl 0 rfl) ?_
  refine lv_iconst (v := 1) hx hb dL_law_143 (by decide) ?_
  refine lv_iadd hx hb dL_law_144 ?_
  refine tp_i (z := (nI (i + 1))) (nI_add i 1) ?_
  refine ld_s hx hb hX hbl hbA hS (j := (i + 1)) (by omega) hL dL_law_145 ?_
  refine lv_aload_n hx hb dL_law_146 rfl (lv_at hl 1 rfl) ?_
  refine lv_iload_n hx hb dL_law_147 rfl (lv_at hl 0 rfl) ?_
  refine lv_iconst (v := 2) hx hb dL_law_148 (by decide) ?_
  refine lv_iadd hx hb dL_law_149 ?_
  refine tp_i (z := (nI (i + 2))) (nI_add i 2) ?_
  refine ld_s hx hb hX hbl hbA hS (j := (i + 2)) (by omega) hL dL_law_150 ?_
  refine lv_if_eq (tgt := 158) hx hb dL_law_151 (by decide) (fun cm => ?_) (fun cm => ?_)
  · refine lv_iconst (v := 0) hx hb dL_law_158 (by decide) ?_
    refine cl_i (rest := []) (c_X4_key l D cA adC (aC adC) hDc σ (xs (i + 1)) 0 hI hg (by omega)) ⟨hx, hb, hml, hown, hts⟩ hK hPc hS kv_L_13 ⟨Nat.le_of_ble_eq_true rfl, Nat.le_of_ble_eq_true rfl⟩ ⟨Nat.le_of_ble_eq_true rfl, Nat.le_of_ble_eq_true rfl⟩ 0 rfl rfl rfl hl.1 rfl (Nat.le_of_ble_eq_true rfl) hCs dL_law_159 (fun r u H locs hw hP hS hk => ?_)
    rw [hw.2] at hP
    have hPr := keepW hPr hk (fun k q h z => hdj _ z (rW_in h))
    have hPc : va_P D vwCl (cW adC cA (f_key σ (xs (i + 1)) 0).2) H := hP
    refine tp_i (z := (f_key σ (xs (i + 1)) 0).1) hw.1 ?_
    refine lv_aload_n hx hb dL_law_162 rfl (lv_at hl 3 rfl) ?_
    refine lv_aload_n hx hb dL_law_163 rfl (lv_at hl 1 rfl) ?_
    refine lv_iload_n hx hb dL_law_164 rfl (lv_at hl 0 rfl) ?_
    refine lv_iconst (v := 1) hx hb dL_law_165 (by decide) ?_
    refine lv_iadd hx hb dL_law_166 ?_
    refine tp_i (z := (nI (i + 1))) (nI_add i 1) ?_
    refine ld_s hx hb hX hbl hbA hS (j := (i + 1)) (by omega) hL dL_law_167 ?_
    refine lv_aload_n hx hb dL_law_168 rfl (lv_at hl 1 rfl) ?_
    refine lv_iload_n hx hb dL_law_169 rfl (lv_at hl 0 rfl) ?_
    refine lv_iconst (v := 2) hx hb dL_law_170 (by decide) ?_
    refine lv_iadd hx hb dL_law_171 ?_
    refine tp_i (z := (nI (i + 2))) (nI_add i 2) ?_
    refine ld_s hx hb hX hbl hbA hS (j := (i + 2)) (by omega) hL dL_law_172 ?_
    refine lv_if_eq (tgt := 180) hx hb dL_law_173 (by decide) (fun _ => ?_) (fun c9 => absurd cm c9)
    refine lv_iconst (v := 0) hx hb dL_law_180 (by decide) ?_
    refine cl_i (rest := [.int (f_key σ (xs (i + 1)) 0).1]) (c_X5_key l D cA adR (aR adR) hDr σ (xs (i + 1)) 0 hI hg (by omega)) ⟨hx, hb, hml, hown, hts⟩ hK hPr hS kv_L_17 ⟨Nat.le_of_ble_eq_true rfl, Nat.le_of_ble_eq_true rfl⟩ ⟨Nat.le_of_ble_eq_true rfl, Nat.le_of_ble_eq_true rfl⟩ 0 rfl rfl rfl hl.1 rfl (Nat.le_of_ble_eq_true rfl) hRs dL_law_181 (fun r u H locs hw hP hS hk => ?_)
    rw [hw.2] at hP
    have hPc := keepW hPc hk (fun k q h z => hdj _ (cW_in h) z)
    have hPr : va_P D vwCl (rW adR cA (f_key σ (xs (i + 1)) 0).2) H := hP
    refine tp_i (z := (f_key σ (xs (i + 1)) 0).1) hw.1 ?_
    refine lv_icmp_eq (tgt := 825) hx hb dL_law_184 (by decide) (fun _ => ?_) (fun c9 => absurd rfl c9)
    exact next (f_key σ (xs (i + 1)) 0).2 _ _ ls (gd_key hI hg) hPc hPr hS (lv_sub hl [0, 1, 2, 3] rfl)
  · refine lv_iconst (v := 1) hx hb dL_law_154 (by decide) ?_
    refine lv_goto (tgt := 159) hx hb dL_law_155 (by decide) ?_
    refine cl_i (rest := []) (c_X4_key l D cA adC (aC adC) hDc σ (xs (i + 1)) 1 hI hg (by omega)) ⟨hx, hb, hml, hown, hts⟩ hK hPc hS kv_L_13 ⟨Nat.le_of_ble_eq_true rfl, Nat.le_of_ble_eq_true rfl⟩ ⟨Nat.le_of_ble_eq_true rfl, Nat.le_of_ble_eq_true rfl⟩ 0 rfl rfl rfl hl.1 rfl (Nat.le_of_ble_eq_true rfl) hCs dL_law_159 (fun r u H locs hw hP hS hk => ?_)
    rw [hw.2] at hP
    have hPr := keepW hPr hk (fun k q h z => hdj _ z (rW_in h))
    have hPc : va_P D vwCl (cW adC cA (f_key σ (xs (i + 1)) 1).2) H := hP
    refine tp_i (z := (f_key σ (xs (i + 1)) 1).1) hw.1 ?_
    refine lv_aload_n hx hb dL_law_162 rfl (lv_at hl 3 rfl) ?_
    refine lv_aload_n hx hb dL_law_163 rfl (lv_at hl 1 rfl) ?_
    refine lv_iload_n hx hb dL_law_164 rfl (lv_at hl 0 rfl) ?_
    refine lv_iconst (v := 1) hx hb dL_law_165 (by decide) ?_
    refine lv_iadd hx hb dL_law_166 ?_
    refine tp_i (z := (nI (i + 1))) (nI_add i 1) ?_
    refine ld_s hx hb hX hbl hbA hS (j := (i + 1)) (by omega) hL dL_law_167 ?_
    refine lv_aload_n hx hb dL_law_168 rfl (lv_at hl 1 rfl) ?_
    refine lv_iload_n hx hb dL_law_169 rfl (lv_at hl 0 rfl) ?_
    refine lv_iconst (v := 2) hx hb dL_law_170 (by decide) ?_
    refine lv_iadd hx hb dL_law_171 ?_
    refine tp_i (z := (nI (i + 2))) (nI_add i 2) ?_
    refine ld_s hx hb hX hbl hbA hS (j := (i + 2)) (by omega) hL dL_law_172 ?_
    refine lv_if_eq (tgt := 180) hx hb dL_law_173 (by decide) (fun c9 => absurd c9 cm) (fun _ => ?_)
    refine lv_iconst (v := 1) hx hb dL_law_176 (by decide) ?_
    refine lv_goto (tgt := 181) hx hb dL_law_177 (by decide) ?_
    refine cl_i (rest := [.int (f_key σ (xs (i + 1)) 1).1]) (c_X5_key l D cA adR (aR adR) hDr σ (xs (i + 1)) 1 hI hg (by omega)) ⟨hx, hb, hml, hown, hts⟩ hK hPr hS kv_L_17 ⟨Nat.le_of_ble_eq_true rfl, Nat.le_of_ble_eq_true rfl⟩ ⟨Nat.le_of_ble_eq_true rfl, Nat.le_of_ble_eq_true rfl⟩ 0 rfl rfl rfl hl.1 rfl (Nat.le_of_ble_eq_true rfl) hRs dL_law_181 (fun r u H locs hw hP hS hk => ?_)
    rw [hw.2] at hP
    have hPc := keepW hPc hk (fun k q h z => hdj _ (cW_in h) z)
    have hPr : va_P D vwCl (rW adR cA (f_key σ (xs (i + 1)) 1).2) H := hP
    refine tp_i (z := (f_key σ (xs (i + 1)) 1).1) hw.1 ?_
    refine lv_icmp_eq (tgt := 825) hx hb dL_law_184 (by decide) (fun _ => ?_) (fun c9 => absurd rfl c9)
    exact next (f_key σ (xs (i + 1)) 1).2 _ _ ls (gd_key hI hg) hPc hPr hS (lv_sub hl [0, 1, 2, 3] rfl)
set_option maxHeartbeats 4000000 in
set_option maxRecDepth 100000 in
theorem lw_c1 {p : Program} {l : Launch} {e : Env} {s : State} {m : MethodId} {below : List Frame} {meth : Method} {c : Code} {D : va_G} {cA : ClassId} {adC adR : Nat → Nat} {b L : Nat} {xs : Nat → Int32} (hL : L ≤ 2560) (C0 : lw_At p s m meth c b L xs) (X0 : lw_Cx D cA adC adR s) (i : Nat) (σ : CS) (H : Heap) (locs : List Loc) (ls : Array Slot) (hi : i + 5 ≤ L) (hI : Inv σ) (hg : sGr σ = 0) (hbc : sBc σ ≤ 60 * i) (hPc : va_P D vwCl (cW adC cA σ) H) (hPr : va_P D vwCl (rW adR cA σ) H) (hS : va_S (fun q : Nat => s.heap.size ≤ q) s.heap H locs) (hl : lv_has ls 4 [(3, .int (nI i)), (0, .ref b), (1, .ref (adC 0)), (2, .ref (adR 0))]) (next : ∀ (σ2 : CS) (H2 : Heap) (locs2 : List Loc) (ls2 : Array Slot), Gd σ σ2 → va_P D vwCl (cW adC cA σ2) H2 → va_P D vwCl (rW adR cA σ2) H2 → va_S (fun q : Nat => s.heap.size ≤ q) s.heap H2 locs2 → lv_has ls2 4 [(3, .int (nI i)), (0, .ref b), (1, .ref (adC 0)), (2, .ref (adR 0))] → W p l e room_1 s m #[Value.ref b] below meth c H2 locs2 35 1665 (lw_Z below #[Value.ref b] s) (F0 m 825 ls2 [])) : W p l e room_1 s m #[Value.ref b] below meth c H locs 35 1665 (lw_Z below #[Value.ref b] s) (F0 m 189 ls []) := by
  obtain ⟨hx, hb, hr, hml, hown, hts0, hX, hbl, hlocks, hgv⟩ := id C0
  obtain ⟨hK, hDc, hDr, hdj, hCs, hRs⟩ := id X0
  have hown : s.vm.findClass RL = some m.cls := hown
  have hts : ∀ w ∈ TG, w.before #[Value.ref b] s = true := fun w h => hts0 w (tg_sub w h)
  have hbA : ¬ (fun q : Nat => s.heap.size ≤ q) b := Nat.not_le.mpr hbl
  refine lv_aload_n hx hb dL_law_189 rfl (lv_at hl 2 rfl) ?_
  refine lv_aload_n hx hb dL_law_190 rfl (lv_at hl 1 rfl) ?_
  refine lv_iload_n hx hb dL_law_191 rfl (lv_at hl 0 rfl) ?_
  refine lv_iconst (v := 1) hx hb dL_law_192 (by decide) ?_
  refine lv_iadd hx hb dL_law_193 ?_
  refine tp_i (z := (nI (i + 1))) (nI_add i 1) ?_
  refine ld_s hx hb hX hbl hbA hS (j := (i + 1)) (by omega) hL dL_law_194 ?_
  refine cl_i (rest := []) (c_X4_vault l D cA adC (aC adC) hDc σ (xs (i + 1)) hI hg (by omega)) ⟨hx, hb, hml, hown, hts⟩ hK hPc hS kv_L_18 ⟨Nat.le_of_ble_eq_true rfl, Nat.le_of_ble_eq_true rfl⟩ ⟨Nat.le_of_ble_eq_true rfl, Nat.le_of_ble_eq_true rfl⟩ 0 rfl rfl rfl hl.1 rfl (Nat.le_of_ble_eq_true rfl) hCs dL_law_195 (fun r u H locs hw hP hS hk => ?_)
  rw [hw.2] at hP
  have hPr := keepW hPr hk (fun k q h z => hdj _ z (rW_in h))
  have hPc : va_P D vwCl (cW adC cA (f_vault σ (xs (i + 1))).2) H := hP
  refine tp_i (z := (f_vault σ (xs (i + 1))).1) hw.1 ?_
  refine lv_aload_n hx hb dL_law_198 rfl (lv_at hl 3 rfl) ?_
  refine lv_aload_n hx hb dL_law_199 rfl (lv_at hl 1 rfl) ?_
  refine lv_iload_n hx hb dL_law_200 rfl (lv_at hl 0 rfl) ?_
  refine lv_iconst (v := 1) hx hb dL_law_201 (by decide) ?_
  refine lv_iadd hx hb dL_law_202 ?_
  refine tp_i (z := (nI (i + 1))) (nI_add i 1) ?_
  refine ld_s hx hb hX hbl hbA hS (j := (i + 1)) (by omega) hL dL_law_203 ?_
  refine cl_i (rest := [.int (f_vault σ (xs (i + 1))).1]) (c_X5_vault l D cA adR (aR adR) hDr σ (xs (i + 1)) hI hg (by omega)) ⟨hx, hb, hml, hown, hts⟩ hK hPr hS kv_L_22 ⟨Nat.le_of_ble_eq_true rfl, Nat.le_of_ble_eq_true rfl⟩ ⟨Nat.le_of_ble_eq_true rfl, Nat.le_of_ble_eq_true rfl⟩ 0 rfl rfl rfl hl.1 rfl (Nat.le_of_ble_eq_true rfl) hRs dL_law_204 (fun r u H locs hw hP hS hk => ?_)
  rw [hw.2] at hP
  have hPc := keepW hPc hk (fun k q h z => hdj _ (cW_in h) z)
  have hPr : va_P D vwCl (rW adR cA (f_vault σ (xs (i + 1))).2) H := hP
  refine tp_i (z := (f_vault σ (xs (i + 1))).1) hw.1 ?_
  refine lv_icmp_eq (tgt := 825) hx hb dL_law_207 (by decide) (fun _ => ?_) (fun c9 => absurd rfl c9)
  exact next (f_vault σ (xs (i + 1))).2 _ _ ls (gd_vault hI hg) hPc hPr hS (lv_sub hl [0, 1, 2, 3] rfl)
set_option maxHeartbeats 4000000 in
set_option maxRecDepth 100000 in
theorem lw_c2 {p : Program} {l : Launch} {e : Env} {s : State} {m : MethodId} {below : List Frame} {meth : Method} {c : Code} {D : va_G} {cA : ClassId} {adC adR : Nat → Nat} {b L : Nat} {xs : Nat → Int32} (hL : L ≤ 2560) (C0 : lw_At p s m meth c b L xs) (X0 : lw_Cx D cA adC adR s) (i : Nat) (σ : CS) (H : Heap) (locs : List Loc) (ls : Array Slot) (hi : i + 5 ≤ L) (hI : Inv σ) (hg : sGr σ = 0) (hbc : sBc σ ≤ 60 * i) (hPc : va_P D vwCl (cW adC cA σ) H) (hPr : va_P D vwCl (rW adR cA σ) H) (hS : va_S (fun q : Nat => s.heap.size ≤ q) s.heap H locs) (hl : lv_has ls 4 [(3, .int (nI i)), (0, .ref b), (1, .ref (adC 0)), (2, .ref (adR 0))]) (next : ∀ (σ2 : CS) (H2 : Heap) (locs2 : List Loc) (ls2 : Array Slot), Gd σ σ2 → va_P D vwCl (cW adC cA σ2) H2 → va_P D vwCl (rW adR cA σ2) H2 → va_S (fun q : Nat => s.heap.size ≤ q) s.heap H2 locs2 → lv_has ls2 4 [(3, .int (nI i)), (0, .ref b), (1, .ref (adC 0)), (2, .ref (adR 0))] → W p l e room_1 s m #[Value.ref b] below meth c H2 locs2 35 1665 (lw_Z below #[Value.ref b] s) (F0 m 825 ls2 [])) : W p l e room_1 s m #[Value.ref b] below meth c H locs 35 1665 (lw_Z below #[Value.ref b] s) (F0 m 212 ls []) := by
  obtain ⟨hx, hb, hr, hml, hown, hts0, hX, hbl, hlocks, hgv⟩ := id C0
  obtain ⟨hK, hDc, hDr, hdj, hCs, hRs⟩ := id X0
  have hown : s.vm.findClass RL = some m.cls := hown
  have hts : ∀ w ∈ TG, w.before #[Value.ref b] s = true := fun w h => hts0 w (tg_sub w h)
  have hbA : ¬ (fun q : Nat => s.heap.size ≤ q) b := Nat.not_le.mpr hbl
  refine lv_aload_n hx hb dL_law_212 rfl (lv_at hl 2 rfl) ?_
  refine lv_aload_n hx hb dL_law_213 rfl (lv_at hl 1 rfl) ?_
  refine lv_iload_n hx hb dL_law_214 rfl (lv_at hl 0 rfl) ?_
  refine lv_iconst (v := 1) hx hb dL_law_215 (by decide) ?_
  refine lv_iadd hx hb dL_law_216 ?_
  refine tp_i (z := (nI (i + 1))) (nI_add i 1) ?_
  refine ld_s hx hb hX hbl hbA hS (j := (i + 1)) (by omega) hL dL_law_217 ?_
  refine lv_aload_n hx hb dL_law_218 rfl (lv_at hl 1 rfl) ?_
  refine lv_iload_n hx hb dL_law_219 rfl (lv_at hl 0 rfl) ?_
  refine lv_iconst (v := 2) hx hb dL_law_220 (by decide) ?_
  refine lv_iadd hx hb dL_law_221 ?_
  refine tp_i (z := (nI (i + 2))) (nI_add i 2) ?_
  refine ld_s hx hb hX hbl hbA hS (j := (i + 2)) (by omega) hL dL_law_222 ?_
  refine lv_aload_n hx hb dL_law_223 rfl (lv_at hl 1 rfl) ?_
  refine lv_iload_n hx hb dL_law_224 rfl (lv_at hl 0 rfl) ?_
  refine lv_iconst (v := 3) hx hb dL_law_225 (by decide) ?_
  refine lv_iadd hx hb dL_law_226 ?_
  refine tp_i (z := (nI (i + 3))) (nI_add i 3) ?_
  refine ld_s hx hb hX hbl hbA hS (j := (i + 3)) (by omega) hL dL_law_227 ?_
  refine cl_i (rest := []) (c_X4_hang l D cA adC (aC adC) hDc σ (xs (i + 1)) (xs (i + 2)) (xs (i + 3)) hI hg (by omega)) ⟨hx, hb, hml, hown, hts⟩ hK hPc hS kv_L_23 ⟨Nat.le_of_ble_eq_true rfl, Nat.le_of_ble_eq_true rfl⟩ ⟨Nat.le_of_ble_eq_true rfl, Nat.le_of_ble_eq_true rfl⟩ 0 rfl rfl rfl hl.1 rfl (Nat.le_of_ble_eq_true rfl) hCs dL_law_228 (fun r u H locs hw hP hS hk => ?_)
  rw [hw.2] at hP
  have hPr := keepW hPr hk (fun k q h z => hdj _ z (rW_in h))
  have hPc : va_P D vwCl (cW adC cA (f_hang σ (xs (i + 1)) (xs (i + 2)) (xs (i + 3))).2) H := hP
  refine tp_i (z := (f_hang σ (xs (i + 1)) (xs (i + 2)) (xs (i + 3))).1) hw.1 ?_
  refine lv_aload_n hx hb dL_law_231 rfl (lv_at hl 3 rfl) ?_
  refine lv_aload_n hx hb dL_law_232 rfl (lv_at hl 1 rfl) ?_
  refine lv_iload_n hx hb dL_law_233 rfl (lv_at hl 0 rfl) ?_
  refine lv_iconst (v := 1) hx hb dL_law_234 (by decide) ?_
  refine lv_iadd hx hb dL_law_235 ?_
  refine tp_i (z := (nI (i + 1))) (nI_add i 1) ?_
  refine ld_s hx hb hX hbl hbA hS (j := (i + 1)) (by omega) hL dL_law_236 ?_
  refine lv_aload_n hx hb dL_law_237 rfl (lv_at hl 1 rfl) ?_
  refine lv_iload_n hx hb dL_law_238 rfl (lv_at hl 0 rfl) ?_
  refine lv_iconst (v := 2) hx hb dL_law_239 (by decide) ?_
  refine lv_iadd hx hb dL_law_240 ?_
  refine tp_i (z := (nI (i + 2))) (nI_add i 2) ?_
  refine ld_s hx hb hX hbl hbA hS (j := (i + 2)) (by omega) hL dL_law_241 ?_
  refine lv_aload_n hx hb dL_law_242 rfl (lv_at hl 1 rfl) ?_
  refine lv_iload_n hx hb dL_law_243 rfl (lv_at hl 0 rfl) ?_
  refine lv_iconst (v := 3) hx hb dL_law_244 (by decide) ?_
  refine lv_iadd hx hb dL_law_245 ?_
  refine tp_i (z := (nI (i + 3))) (nI_add i 3) ?_
  refine ld_s hx hb hX hbl hbA hS (j := (i + 3)) (by omega) hL dL_law_246 ?_
  refine cl_i (rest := [.int (f_hang σ (xs (i + 1)) (xs (i + 2)) (xs (i + 3))).1]) (c_X5_hang l D cA adR (aR adR) hDr σ (xs (i + 1)) (xs (i + 2)) (xs (i + 3)) hI hg (by omega)) ⟨hx, hb, hml, hown, hts⟩ hK hPr hS kv_L_27 ⟨Nat.le_of_ble_eq_true rfl, Nat.le_of_ble_eq_true rfl⟩ ⟨Nat.le_of_ble_eq_true rfl, Nat.le_of_ble_eq_true rfl⟩ 0 rfl rfl rfl hl.1 rfl (Nat.le_of_ble_eq_true rfl) hRs dL_law_247 (fun r u H locs hw hP hS hk => ?_)
  rw [hw.2] at hP
  have hPc := keepW hPc hk (fun k q h z => hdj _ (cW_in h) z)
  have hPr : va_P D vwCl (rW adR cA (f_hang σ (xs (i + 1)) (xs (i + 2)) (xs (i + 3))).2) H := hP
  refine tp_i (z := (f_hang σ (xs (i + 1)) (xs (i + 2)) (xs (i + 3))).1) hw.1 ?_
  refine lv_icmp_eq (tgt := 825) hx hb dL_law_250 (by decide) (fun _ => ?_) (fun c9 => absurd rfl c9)
  exact next (f_hang σ (xs (i + 1)) (xs (i + 2)) (xs (i + 3))).2 _ _ ls (gd_hang hI hg) hPc hPr hS (lv_sub hl [0, 1, 2, 3] rfl)
set_option maxHeartbeats 4000000 in
set_option maxRecDepth 100000 in
theorem lw_c3 {p : Program} {l : Launch} {e : Env} {s : State} {m : MethodId} {below : List Frame} {meth : Method} {c : Code} {D : va_G} {cA : ClassId} {adC adR : Nat → Nat} {b L : Nat} {xs : Nat → Int32} (hL : L ≤ 2560) (C0 : lw_At p s m meth c b L xs) (X0 : lw_Cx D cA adC adR s) (i : Nat) (σ : CS) (H : Heap) (locs : List Loc) (ls : Array Slot) (hi : i + 5 ≤ L) (hI : Inv σ) (hg : sGr σ = 0) (hbc : sBc σ ≤ 60 * i) (hPc : va_P D vwCl (cW adC cA σ) H) (hPr : va_P D vwCl (rW adR cA σ) H) (hS : va_S (fun q : Nat => s.heap.size ≤ q) s.heap H locs) (hl : lv_has ls 4 [(3, .int (nI i)), (0, .ref b), (1, .ref (adC 0)), (2, .ref (adR 0))]) (next : ∀ (σ2 : CS) (H2 : Heap) (locs2 : List Loc) (ls2 : Array Slot), Gd σ σ2 → va_P D vwCl (cW adC cA σ2) H2 → va_P D vwCl (rW adR cA σ2) H2 → va_S (fun q : Nat => s.heap.size ≤ q) s.heap H2 locs2 → lv_has ls2 4 [(3, .int (nI i)), (0, .ref b), (1, .ref (adC 0)), (2, .ref (adR 0))] → W p l e room_1 s m #[Value.ref b] below meth c H2 locs2 35 1665 (lw_Z below #[Value.ref b] s) (F0 m 825 ls2 [])) : W p l e room_1 s m #[Value.ref b] below meth c H locs 35 1665 (lw_Z below #[Value.ref b] s) (F0 m 255 ls []) := by
  obtain ⟨hx, hb, hr, hml, hown, hts0, hX, hbl, hlocks, hgv⟩ := id C0
  obtain ⟨hK, hDc, hDr, hdj, hCs, hRs⟩ := id X0
  have hown : s.vm.findClass RL = some m.cls := hown
  have hts : ∀ w ∈ TG, w.before #[Value.ref b] s = true := fun w h => hts0 w (tg_sub w h)
  have hbA : ¬ (fun q : Nat => s.heap.size ≤ q) b := Nat.not_le.mpr hbl
  refine lv_aload_n hx hb dL_law_255 rfl (lv_at hl 2 rfl) ?_
  refine lv_aload_n hx hb dL_law_256 rfl (lv_at hl 1 rfl) ?_
  refine lv_iload_n hx hb dL_law_257 rfl (lv_at hl 0 rfl) ?_
  refine lv_iconst (v := 1) hx hb dL_law_258 (by decide) ?_
  refine lv_iadd hx hb dL_law_259 ?_
  refine tp_i (z := (nI (i + 1))) (nI_add i 1) ?_
  refine ld_s hx hb hX hbl hbA hS (j := (i + 1)) (by omega) hL dL_law_260 ?_
  refine lv_aload_n hx hb dL_law_261 rfl (lv_at hl 1 rfl) ?_
  refine lv_iload_n hx hb dL_law_262 rfl (lv_at hl 0 rfl) ?_
  refine lv_iconst (v := 2) hx hb dL_law_263 (by decide) ?_
  refine lv_iadd hx hb dL_law_264 ?_
  refine tp_i (z := (nI (i + 2))) (nI_add i 2) ?_
  refine ld_s hx hb hX hbl hbA hS (j := (i + 2)) (by omega) hL dL_law_265 ?_
  refine cl_i (rest := []) (c_X4_link l D cA adC (aC adC) hDc σ (xs (i + 1)) (xs (i + 2)) hI hg (by omega)) ⟨hx, hb, hml, hown, hts⟩ hK hPc hS kv_L_28 ⟨Nat.le_of_ble_eq_true rfl, Nat.le_of_ble_eq_true rfl⟩ ⟨Nat.le_of_ble_eq_true rfl, Nat.le_of_ble_eq_true rfl⟩ 0 rfl rfl rfl hl.1 rfl (Nat.le_of_ble_eq_true rfl) hCs dL_law_266 (fun r u H locs hw hP hS hk => ?_)
  rw [hw.2] at hP
  have hPr := keepW hPr hk (fun k q h z => hdj _ z (rW_in h))
  have hPc : va_P D vwCl (cW adC cA (f_link σ (xs (i + 1)) (xs (i + 2))).2) H := hP
  refine tp_i (z := (f_link σ (xs (i + 1)) (xs (i + 2))).1) hw.1 ?_
  refine lv_aload_n hx hb dL_law_269 rfl (lv_at hl 3 rfl) ?_
  refine lv_aload_n hx hb dL_law_270 rfl (lv_at hl 1 rfl) ?_
  refine lv_iload_n hx hb dL_law_271 rfl (lv_at hl 0 rfl) ?_
  refine lv_iconst (v := 1) hx hb dL_law_272 (by decide) ?_
  refine lv_iadd hx hb dL_law_273 ?_
  refine tp_i (z := (nI (i + 1))) (nI_add i 1) ?_
  refine ld_s hx hb hX hbl hbA hS (j := (i + 1)) (by omega) hL dL_law_274 ?_
  refine lv_aload_n hx hb dL_law_275 rfl (lv_at hl 1 rfl) ?_
  refine lv_iload_n hx hb dL_law_276 rfl (lv_at hl 0 rfl) ?_
  refine lv_iconst (v := 2) hx hb dL_law_277 (by decide) ?_
  refine lv_iadd hx hb dL_law_278 ?_
  refine tp_i (z := (nI (i + 2))) (nI_add i 2) ?_
  refine ld_s hx hb hX hbl hbA hS (j := (i + 2)) (by omega) hL dL_law_279 ?_
  refine cl_i (rest := [.int (f_link σ (xs (i + 1)) (xs (i + 2))).1]) (c_X5_link l D cA adR (aR adR) hDr σ (xs (i + 1)) (xs (i + 2)) hI hg (by omega)) ⟨hx, hb, hml, hown, hts⟩ hK hPr hS kv_L_32 ⟨Nat.le_of_ble_eq_true rfl, Nat.le_of_ble_eq_true rfl⟩ ⟨Nat.le_of_ble_eq_true rfl, Nat.le_of_ble_eq_true rfl⟩ 0 rfl rfl rfl hl.1 rfl (Nat.le_of_ble_eq_true rfl) hRs dL_law_280 (fun r u H locs hw hP hS hk => ?_)
  rw [hw.2] at hP
  have hPc := keepW hPc hk (fun k q h z => hdj _ (cW_in h) z)
  have hPr : va_P D vwCl (rW adR cA (f_link σ (xs (i + 1)) (xs (i + 2))).2) H := hP
  refine tp_i (z := (f_link σ (xs (i + 1)) (xs (i + 2))).1) hw.1 ?_
  refine lv_icmp_eq (tgt := 825) hx hb dL_law_283 (by decide) (fun _ => ?_) (fun c9 => absurd rfl c9)
  exact next (f_link σ (xs (i + 1)) (xs (i + 2))).2 _ _ ls (gd_link hI hg) hPc hPr hS (lv_sub hl [0, 1, 2, 3] rfl)
set_option maxHeartbeats 4000000 in
set_option maxRecDepth 100000 in
theorem lw_c4 {p : Program} {l : Launch} {e : Env} {s : State} {m : MethodId} {below : List Frame} {meth : Method} {c : Code} {D : va_G} {cA : ClassId} {adC adR : Nat → Nat} {b L : Nat} {xs : Nat → Int32} (hL : L ≤ 2560) (C0 : lw_At p s m meth c b L xs) (X0 : lw_Cx D cA adC adR s) (i : Nat) (σ : CS) (H : Heap) (locs : List Loc) (ls : Array Slot) (hi : i + 5 ≤ L) (hI : Inv σ) (hg : sGr σ = 0) (hbc : sBc σ ≤ 60 * i) (hPc : va_P D vwCl (cW adC cA σ) H) (hPr : va_P D vwCl (rW adR cA σ) H) (hS : va_S (fun q : Nat => s.heap.size ≤ q) s.heap H locs) (hl : lv_has ls 4 [(3, .int (nI i)), (0, .ref b), (1, .ref (adC 0)), (2, .ref (adR 0))]) (next : ∀ (σ2 : CS) (H2 : Heap) (locs2 : List Loc) (ls2 : Array Slot), Gd σ σ2 → va_P D vwCl (cW adC cA σ2) H2 → va_P D vwCl (rW adR cA σ2) H2 → va_S (fun q : Nat => s.heap.size ≤ q) s.heap H2 locs2 → lv_has ls2 4 [(3, .int (nI i)), (0, .ref b), (1, .ref (adC 0)), (2, .ref (adR 0))] → W p l e room_1 s m #[Value.ref b] below meth c H2 locs2 35 1665 (lw_Z below #[Value.ref b] s) (F0 m 825 ls2 [])) : W p l e room_1 s m #[Value.ref b] below meth c H locs 35 1665 (lw_Z below #[Value.ref b] s) (F0 m 288 ls []) := by
  obtain ⟨hx, hb, hr, hml, hown, hts0, hX, hbl, hlocks, hgv⟩ := id C0
  obtain ⟨hK, hDc, hDr, hdj, hCs, hRs⟩ := id X0
  have hown : s.vm.findClass RL = some m.cls := hown
  have hts : ∀ w ∈ TG, w.before #[Value.ref b] s = true := fun w h => hts0 w (tg_sub w h)
  have hbA : ¬ (fun q : Nat => s.heap.size ≤ q) b := Nat.not_le.mpr hbl
  refine lv_aload_n hx hb dL_law_288 rfl (lv_at hl 2 rfl) ?_
  refine lv_aload_n hx hb dL_law_289 rfl (lv_at hl 1 rfl) ?_
  refine lv_iload_n hx hb dL_law_290 rfl (lv_at hl 0 rfl) ?_
  refine lv_iconst (v := 1) hx hb dL_law_291 (by decide) ?_
  refine lv_iadd hx hb dL_law_292 ?_
  refine tp_i (z := (nI (i + 1))) (nI_add i 1) ?_
  refine ld_s hx hb hX hbl hbA hS (j := (i + 1)) (by omega) hL dL_law_293 ?_
  refine lv_aload_n hx hb dL_law_294 rfl (lv_at hl 1 rfl) ?_
  refine lv_iload_n hx hb dL_law_295 rfl (lv_at hl 0 rfl) ?_
  refine lv_iconst (v := 2) hx hb dL_law_296 (by decide) ?_
  refine lv_iadd hx hb dL_law_297 ?_
  refine tp_i (z := (nI (i + 2))) (nI_add i 2) ?_
  refine ld_s hx hb hX hbl hbA hS (j := (i + 2)) (by omega) hL dL_law_298 ?_
  refine cl_i (rest := []) (c_X4_put l D cA adC (aC adC) hDc σ (xs (i + 1)) (xs (i + 2)) hI hg (by omega)) ⟨hx, hb, hml, hown, hts⟩ hK hPc hS kv_L_33 ⟨Nat.le_of_ble_eq_true rfl, Nat.le_of_ble_eq_true rfl⟩ ⟨Nat.le_of_ble_eq_true rfl, Nat.le_of_ble_eq_true rfl⟩ 0 rfl rfl rfl hl.1 rfl (Nat.le_of_ble_eq_true rfl) hCs dL_law_299 (fun r u H locs hw hP hS hk => ?_)
  rw [hw.2] at hP
  have hPr := keepW hPr hk (fun k q h z => hdj _ z (rW_in h))
  have hPc : va_P D vwCl (cW adC cA (f_put σ (xs (i + 1)) (xs (i + 2))).2) H := hP
  refine tp_i (z := (f_put σ (xs (i + 1)) (xs (i + 2))).1) hw.1 ?_
  refine lv_aload_n hx hb dL_law_302 rfl (lv_at hl 3 rfl) ?_
  refine lv_aload_n hx hb dL_law_303 rfl (lv_at hl 1 rfl) ?_
  refine lv_iload_n hx hb dL_law_304 rfl (lv_at hl 0 rfl) ?_
  refine lv_iconst (v := 1) hx hb dL_law_305 (by decide) ?_
  refine lv_iadd hx hb dL_law_306 ?_
  refine tp_i (z := (nI (i + 1))) (nI_add i 1) ?_
  refine ld_s hx hb hX hbl hbA hS (j := (i + 1)) (by omega) hL dL_law_307 ?_
  refine lv_aload_n hx hb dL_law_308 rfl (lv_at hl 1 rfl) ?_
  refine lv_iload_n hx hb dL_law_309 rfl (lv_at hl 0 rfl) ?_
  refine lv_iconst (v := 2) hx hb dL_law_310 (by decide) ?_
  refine lv_iadd hx hb dL_law_311 ?_
  refine tp_i (z := (nI (i + 2))) (nI_add i 2) ?_
  refine ld_s hx hb hX hbl hbA hS (j := (i + 2)) (by omega) hL dL_law_312 ?_
  refine cl_i (rest := [.int (f_put σ (xs (i + 1)) (xs (i + 2))).1]) (c_X5_put l D cA adR (aR adR) hDr σ (xs (i + 1)) (xs (i + 2)) hI hg (by omega)) ⟨hx, hb, hml, hown, hts⟩ hK hPr hS kv_L_36 ⟨Nat.le_of_ble_eq_true rfl, Nat.le_of_ble_eq_true rfl⟩ ⟨Nat.le_of_ble_eq_true rfl, Nat.le_of_ble_eq_true rfl⟩ 0 rfl rfl rfl hl.1 rfl (Nat.le_of_ble_eq_true rfl) hRs dL_law_313 (fun r u H locs hw hP hS hk => ?_)
  rw [hw.2] at hP
  have hPc := keepW hPc hk (fun k q h z => hdj _ (cW_in h) z)
  have hPr : va_P D vwCl (rW adR cA (f_put σ (xs (i + 1)) (xs (i + 2))).2) H := hP
  refine tp_i (z := (f_put σ (xs (i + 1)) (xs (i + 2))).1) hw.1 ?_
  refine lv_icmp_eq (tgt := 825) hx hb dL_law_316 (by decide) (fun _ => ?_) (fun c9 => absurd rfl c9)
  exact next (f_put σ (xs (i + 1)) (xs (i + 2))).2 _ _ ls (gd_put hI hg) hPc hPr hS (lv_sub hl [0, 1, 2, 3] rfl)
set_option maxHeartbeats 4000000 in
set_option maxRecDepth 100000 in
theorem lw_c5 {p : Program} {l : Launch} {e : Env} {s : State} {m : MethodId} {below : List Frame} {meth : Method} {c : Code} {D : va_G} {cA : ClassId} {adC adR : Nat → Nat} {b L : Nat} {xs : Nat → Int32} (hL : L ≤ 2560) (C0 : lw_At p s m meth c b L xs) (X0 : lw_Cx D cA adC adR s) (i : Nat) (σ : CS) (H : Heap) (locs : List Loc) (ls : Array Slot) (hi : i + 5 ≤ L) (hI : Inv σ) (hg : sGr σ = 0) (hbc : sBc σ ≤ 60 * i) (hPc : va_P D vwCl (cW adC cA σ) H) (hPr : va_P D vwCl (rW adR cA σ) H) (hS : va_S (fun q : Nat => s.heap.size ≤ q) s.heap H locs) (hl : lv_has ls 4 [(3, .int (nI i)), (0, .ref b), (1, .ref (adC 0)), (2, .ref (adR 0))]) (next : ∀ (σ2 : CS) (H2 : Heap) (locs2 : List Loc) (ls2 : Array Slot), Gd σ σ2 → va_P D vwCl (cW adC cA σ2) H2 → va_P D vwCl (rW adR cA σ2) H2 → va_S (fun q : Nat => s.heap.size ≤ q) s.heap H2 locs2 → lv_has ls2 4 [(3, .int (nI i)), (0, .ref b), (1, .ref (adC 0)), (2, .ref (adR 0))] → W p l e room_1 s m #[Value.ref b] below meth c H2 locs2 35 1665 (lw_Z below #[Value.ref b] s) (F0 m 825 ls2 [])) : W p l e room_1 s m #[Value.ref b] below meth c H locs 35 1665 (lw_Z below #[Value.ref b] s) (F0 m 321 ls []) := by
  obtain ⟨hx, hb, hr, hml, hown, hts0, hX, hbl, hlocks, hgv⟩ := id C0
  obtain ⟨hK, hDc, hDr, hdj, hCs, hRs⟩ := id X0
  have hown : s.vm.findClass RL = some m.cls := hown
  have hts : ∀ w ∈ TG, w.before #[Value.ref b] s = true := fun w h => hts0 w (tg_sub w h)
  have hbA : ¬ (fun q : Nat => s.heap.size ≤ q) b := Nat.not_le.mpr hbl
  refine lv_aload_n hx hb dL_law_321 rfl (lv_at hl 2 rfl) ?_
  refine lv_aload_n hx hb dL_law_322 rfl (lv_at hl 1 rfl) ?_
  refine lv_iload_n hx hb dL_law_323 rfl (lv_at hl 0 rfl) ?_
  refine lv_iconst (v := 1) hx hb dL_law_324 (by decide) ?_
  refine lv_iadd hx hb dL_law_325 ?_
  refine tp_i (z := (nI (i + 1))) (nI_add i 1) ?_
  refine ld_s hx hb hX hbl hbA hS (j := (i + 1)) (by omega) hL dL_law_326 ?_
  refine lv_aload_n hx hb dL_law_327 rfl (lv_at hl 1 rfl) ?_
  refine lv_iload_n hx hb dL_law_328 rfl (lv_at hl 0 rfl) ?_
  refine lv_iconst (v := 2) hx hb dL_law_329 (by decide) ?_
  refine lv_iadd hx hb dL_law_330 ?_
  refine tp_i (z := (nI (i + 2))) (nI_add i 2) ?_
  refine ld_s hx hb hX hbl hbA hS (j := (i + 2)) (by omega) hL dL_law_331 ?_
  refine cl_i (rest := []) (c_X4_take l D cA adC (aC adC) hDc σ (xs (i + 1)) (xs (i + 2)) hI hg (by omega)) ⟨hx, hb, hml, hown, hts⟩ hK hPc hS kv_L_37 ⟨Nat.le_of_ble_eq_true rfl, Nat.le_of_ble_eq_true rfl⟩ ⟨Nat.le_of_ble_eq_true rfl, Nat.le_of_ble_eq_true rfl⟩ 0 rfl rfl rfl hl.1 rfl (Nat.le_of_ble_eq_true rfl) hCs dL_law_332 (fun r u H locs hw hP hS hk => ?_)
  rw [hw.2] at hP
  have hPr := keepW hPr hk (fun k q h z => hdj _ z (rW_in h))
  have hPc : va_P D vwCl (cW adC cA (f_take σ (xs (i + 1)) (xs (i + 2))).2) H := hP
  refine tp_i (z := (f_take σ (xs (i + 1)) (xs (i + 2))).1) hw.1 ?_
  refine lv_aload_n hx hb dL_law_335 rfl (lv_at hl 3 rfl) ?_
  refine lv_aload_n hx hb dL_law_336 rfl (lv_at hl 1 rfl) ?_
  refine lv_iload_n hx hb dL_law_337 rfl (lv_at hl 0 rfl) ?_
  refine lv_iconst (v := 1) hx hb dL_law_338 (by decide) ?_
  refine lv_iadd hx hb dL_law_339 ?_
  refine tp_i (z := (nI (i + 1))) (nI_add i 1) ?_
  refine ld_s hx hb hX hbl hbA hS (j := (i + 1)) (by omega) hL dL_law_340 ?_
  refine lv_aload_n hx hb dL_law_341 rfl (lv_at hl 1 rfl) ?_
  refine lv_iload_n hx hb dL_law_342 rfl (lv_at hl 0 rfl) ?_
  refine lv_iconst (v := 2) hx hb dL_law_343 (by decide) ?_
  refine lv_iadd hx hb dL_law_344 ?_
  refine tp_i (z := (nI (i + 2))) (nI_add i 2) ?_
  refine ld_s hx hb hX hbl hbA hS (j := (i + 2)) (by omega) hL dL_law_345 ?_
  refine cl_i (rest := [.int (f_take σ (xs (i + 1)) (xs (i + 2))).1]) (c_X5_take l D cA adR (aR adR) hDr σ (xs (i + 1)) (xs (i + 2)) hI hg (by omega)) ⟨hx, hb, hml, hown, hts⟩ hK hPr hS kv_L_40 ⟨Nat.le_of_ble_eq_true rfl, Nat.le_of_ble_eq_true rfl⟩ ⟨Nat.le_of_ble_eq_true rfl, Nat.le_of_ble_eq_true rfl⟩ 0 rfl rfl rfl hl.1 rfl (Nat.le_of_ble_eq_true rfl) hRs dL_law_346 (fun r u H locs hw hP hS hk => ?_)
  rw [hw.2] at hP
  have hPc := keepW hPc hk (fun k q h z => hdj _ (cW_in h) z)
  have hPr : va_P D vwCl (rW adR cA (f_take σ (xs (i + 1)) (xs (i + 2))).2) H := hP
  refine tp_i (z := (f_take σ (xs (i + 1)) (xs (i + 2))).1) hw.1 ?_
  refine lv_icmp_eq (tgt := 825) hx hb dL_law_349 (by decide) (fun _ => ?_) (fun c9 => absurd rfl c9)
  exact next (f_take σ (xs (i + 1)) (xs (i + 2))).2 _ _ ls (gd_take hI hg) hPc hPr hS (lv_sub hl [0, 1, 2, 3] rfl)
set_option maxHeartbeats 4000000 in
set_option maxRecDepth 100000 in
theorem lw_c6 {p : Program} {l : Launch} {e : Env} {s : State} {m : MethodId} {below : List Frame} {meth : Method} {c : Code} {D : va_G} {cA : ClassId} {adC adR : Nat → Nat} {b L : Nat} {xs : Nat → Int32} (hL : L ≤ 2560) (C0 : lw_At p s m meth c b L xs) (X0 : lw_Cx D cA adC adR s) (i : Nat) (σ : CS) (H : Heap) (locs : List Loc) (ls : Array Slot) (hi : i + 5 ≤ L) (hI : Inv σ) (hg : sGr σ = 0) (hbc : sBc σ ≤ 60 * i) (hPc : va_P D vwCl (cW adC cA σ) H) (hPr : va_P D vwCl (rW adR cA σ) H) (hS : va_S (fun q : Nat => s.heap.size ≤ q) s.heap H locs) (hl : lv_has ls 4 [(3, .int (nI i)), (0, .ref b), (1, .ref (adC 0)), (2, .ref (adR 0))]) (next : ∀ (σ2 : CS) (H2 : Heap) (locs2 : List Loc) (ls2 : Array Slot), Gd σ σ2 → va_P D vwCl (cW adC cA σ2) H2 → va_P D vwCl (rW adR cA σ2) H2 → va_S (fun q : Nat => s.heap.size ≤ q) s.heap H2 locs2 → lv_has ls2 4 [(3, .int (nI i)), (0, .ref b), (1, .ref (adC 0)), (2, .ref (adR 0))] → W p l e room_1 s m #[Value.ref b] below meth c H2 locs2 35 1665 (lw_Z below #[Value.ref b] s) (F0 m 825 ls2 [])) : W p l e room_1 s m #[Value.ref b] below meth c H locs 35 1665 (lw_Z below #[Value.ref b] s) (F0 m 354 ls []) := by
  obtain ⟨hx, hb, hr, hml, hown, hts0, hX, hbl, hlocks, hgv⟩ := id C0
  obtain ⟨hK, hDc, hDr, hdj, hCs, hRs⟩ := id X0
  have hown : s.vm.findClass RL = some m.cls := hown
  have hts : ∀ w ∈ TG, w.before #[Value.ref b] s = true := fun w h => hts0 w (tg_sub w h)
  have hbA : ¬ (fun q : Nat => s.heap.size ≤ q) b := Nat.not_le.mpr hbl
  refine lv_aload_n hx hb dL_law_354 rfl (lv_at hl 2 rfl) ?_
  refine lv_aload_n hx hb dL_law_355 rfl (lv_at hl 1 rfl) ?_
  refine lv_iload_n hx hb dL_law_356 rfl (lv_at hl 0 rfl) ?_
  refine lv_iconst (v := 1) hx hb dL_law_357 (by decide) ?_
  refine lv_iadd hx hb dL_law_358 ?_
  refine tp_i (z := (nI (i + 1))) (nI_add i 1) ?_
  refine ld_s hx hb hX hbl hbA hS (j := (i + 1)) (by omega) hL dL_law_359 ?_
  refine lv_aload_n hx hb dL_law_360 rfl (lv_at hl 1 rfl) ?_
  refine lv_iload_n hx hb dL_law_361 rfl (lv_at hl 0 rfl) ?_
  refine lv_iconst (v := 2) hx hb dL_law_362 (by decide) ?_
  refine lv_iadd hx hb dL_law_363 ?_
  refine tp_i (z := (nI (i + 2))) (nI_add i 2) ?_
  refine ld_s hx hb hX hbl hbA hS (j := (i + 2)) (by omega) hL dL_law_364 ?_
  refine lv_aload_n hx hb dL_law_365 rfl (lv_at hl 1 rfl) ?_
  refine lv_iload_n hx hb dL_law_366 rfl (lv_at hl 0 rfl) ?_
  refine lv_iconst (v := 3) hx hb dL_law_367 (by decide) ?_
  refine lv_iadd hx hb dL_law_368 ?_
  refine tp_i (z := (nI (i + 3))) (nI_add i 3) ?_
  refine ld_s hx hb hX hbl hbA hS (j := (i + 3)) (by omega) hL dL_law_369 ?_
  refine cl_i (rest := []) (c_X4_move l D cA adC (aC adC) hDc σ (xs (i + 1)) (xs (i + 2)) (xs (i + 3)) hI hg (by omega)) ⟨hx, hb, hml, hown, hts⟩ hK hPc hS kv_L_41 ⟨Nat.le_of_ble_eq_true rfl, Nat.le_of_ble_eq_true rfl⟩ ⟨Nat.le_of_ble_eq_true rfl, Nat.le_of_ble_eq_true rfl⟩ 0 rfl rfl rfl hl.1 rfl (Nat.le_of_ble_eq_true rfl) hCs dL_law_370 (fun r u H locs hw hP hS hk => ?_)
  rw [hw.2] at hP
  have hPr := keepW hPr hk (fun k q h z => hdj _ z (rW_in h))
  have hPc : va_P D vwCl (cW adC cA (f_move σ (xs (i + 1)) (xs (i + 2)) (xs (i + 3))).2) H := hP
  refine tp_i (z := (f_move σ (xs (i + 1)) (xs (i + 2)) (xs (i + 3))).1) hw.1 ?_
  refine lv_aload_n hx hb dL_law_373 rfl (lv_at hl 3 rfl) ?_
  refine lv_aload_n hx hb dL_law_374 rfl (lv_at hl 1 rfl) ?_
  refine lv_iload_n hx hb dL_law_375 rfl (lv_at hl 0 rfl) ?_
  refine lv_iconst (v := 1) hx hb dL_law_376 (by decide) ?_
  refine lv_iadd hx hb dL_law_377 ?_
  refine tp_i (z := (nI (i + 1))) (nI_add i 1) ?_
  refine ld_s hx hb hX hbl hbA hS (j := (i + 1)) (by omega) hL dL_law_378 ?_
  refine lv_aload_n hx hb dL_law_379 rfl (lv_at hl 1 rfl) ?_
  refine lv_iload_n hx hb dL_law_380 rfl (lv_at hl 0 rfl) ?_
  refine lv_iconst (v := 2) hx hb dL_law_381 (by decide) ?_
  refine lv_iadd hx hb dL_law_382 ?_
  refine tp_i (z := (nI (i + 2))) (nI_add i 2) ?_
  refine ld_s hx hb hX hbl hbA hS (j := (i + 2)) (by omega) hL dL_law_383 ?_
  refine lv_aload_n hx hb dL_law_384 rfl (lv_at hl 1 rfl) ?_
  refine lv_iload_n hx hb dL_law_385 rfl (lv_at hl 0 rfl) ?_
  refine lv_iconst (v := 3) hx hb dL_law_386 (by decide) ?_
  refine lv_iadd hx hb dL_law_387 ?_
  refine tp_i (z := (nI (i + 3))) (nI_add i 3) ?_
  refine ld_s hx hb hX hbl hbA hS (j := (i + 3)) (by omega) hL dL_law_388 ?_
  refine cl_i (rest := [.int (f_move σ (xs (i + 1)) (xs (i + 2)) (xs (i + 3))).1]) (c_X5_move l D cA adR (aR adR) hDr σ (xs (i + 1)) (xs (i + 2)) (xs (i + 3)) hI hg (by omega)) ⟨hx, hb, hml, hown, hts⟩ hK hPr hS kv_L_44 ⟨Nat.le_of_ble_eq_true rfl, Nat.le_of_ble_eq_true rfl⟩ ⟨Nat.le_of_ble_eq_true rfl, Nat.le_of_ble_eq_true rfl⟩ 0 rfl rfl rfl hl.1 rfl (Nat.le_of_ble_eq_true rfl) hRs dL_law_389 (fun r u H locs hw hP hS hk => ?_)
  rw [hw.2] at hP
  have hPc := keepW hPc hk (fun k q h z => hdj _ (cW_in h) z)
  have hPr : va_P D vwCl (rW adR cA (f_move σ (xs (i + 1)) (xs (i + 2)) (xs (i + 3))).2) H := hP
  refine tp_i (z := (f_move σ (xs (i + 1)) (xs (i + 2)) (xs (i + 3))).1) hw.1 ?_
  refine lv_icmp_eq (tgt := 825) hx hb dL_law_392 (by decide) (fun _ => ?_) (fun c9 => absurd rfl c9)
  exact next (f_move σ (xs (i + 1)) (xs (i + 2)) (xs (i + 3))).2 _ _ ls (gd_move hI hg) hPc hPr hS (lv_sub hl [0, 1, 2, 3] rfl)
set_option maxHeartbeats 4000000 in
set_option maxRecDepth 100000 in
theorem lw_c7 {p : Program} {l : Launch} {e : Env} {s : State} {m : MethodId} {below : List Frame} {meth : Method} {c : Code} {D : va_G} {cA : ClassId} {adC adR : Nat → Nat} {b L : Nat} {xs : Nat → Int32} (hL : L ≤ 2560) (C0 : lw_At p s m meth c b L xs) (X0 : lw_Cx D cA adC adR s) (i : Nat) (σ : CS) (H : Heap) (locs : List Loc) (ls : Array Slot) (hi : i + 5 ≤ L) (hI : Inv σ) (hg : sGr σ = 0) (hbc : sBc σ ≤ 60 * i) (hPc : va_P D vwCl (cW adC cA σ) H) (hPr : va_P D vwCl (rW adR cA σ) H) (hS : va_S (fun q : Nat => s.heap.size ≤ q) s.heap H locs) (hl : lv_has ls 4 [(3, .int (nI i)), (0, .ref b), (1, .ref (adC 0)), (2, .ref (adR 0))]) (next : ∀ (σ2 : CS) (H2 : Heap) (locs2 : List Loc) (ls2 : Array Slot), Gd σ σ2 → va_P D vwCl (cW adC cA σ2) H2 → va_P D vwCl (rW adR cA σ2) H2 → va_S (fun q : Nat => s.heap.size ≤ q) s.heap H2 locs2 → lv_has ls2 4 [(3, .int (nI i)), (0, .ref b), (1, .ref (adC 0)), (2, .ref (adR 0))] → W p l e room_1 s m #[Value.ref b] below meth c H2 locs2 35 1665 (lw_Z below #[Value.ref b] s) (F0 m 825 ls2 [])) : W p l e room_1 s m #[Value.ref b] below meth c H locs 35 1665 (lw_Z below #[Value.ref b] s) (F0 m 397 ls []) := by
  obtain ⟨hx, hb, hr, hml, hown, hts0, hX, hbl, hlocks, hgv⟩ := id C0
  obtain ⟨hK, hDc, hDr, hdj, hCs, hRs⟩ := id X0
  have hown : s.vm.findClass RL = some m.cls := hown
  have hts : ∀ w ∈ TG, w.before #[Value.ref b] s = true := fun w h => hts0 w (tg_sub w h)
  have hbA : ¬ (fun q : Nat => s.heap.size ≤ q) b := Nat.not_le.mpr hbl
  refine lv_aload_n hx hb dL_law_397 rfl (lv_at hl 2 rfl) ?_
  refine lv_aload_n hx hb dL_law_398 rfl (lv_at hl 1 rfl) ?_
  refine lv_iload_n hx hb dL_law_399 rfl (lv_at hl 0 rfl) ?_
  refine lv_iconst (v := 1) hx hb dL_law_400 (by decide) ?_
  refine lv_iadd hx hb dL_law_401 ?_
  refine tp_i (z := (nI (i + 1))) (nI_add i 1) ?_
  refine ld_s hx hb hX hbl hbA hS (j := (i + 1)) (by omega) hL dL_law_402 ?_
  refine lv_aload_n hx hb dL_law_403 rfl (lv_at hl 1 rfl) ?_
  refine lv_iload_n hx hb dL_law_404 rfl (lv_at hl 0 rfl) ?_
  refine lv_iconst (v := 2) hx hb dL_law_405 (by decide) ?_
  refine lv_iadd hx hb dL_law_406 ?_
  refine tp_i (z := (nI (i + 2))) (nI_add i 2) ?_
  refine ld_s hx hb hX hbl hbA hS (j := (i + 2)) (by omega) hL dL_law_407 ?_
  refine cl_i (rest := []) (c_X4_split l D cA adC (aC adC) hDc σ (xs (i + 1)) (xs (i + 2)) hI hg (by omega)) ⟨hx, hb, hml, hown, hts⟩ hK hPc hS kv_L_45 ⟨Nat.le_of_ble_eq_true rfl, Nat.le_of_ble_eq_true rfl⟩ ⟨Nat.le_of_ble_eq_true rfl, Nat.le_of_ble_eq_true rfl⟩ 0 rfl rfl rfl hl.1 rfl (Nat.le_of_ble_eq_true rfl) hCs dL_law_408 (fun r u H locs hw hP hS hk => ?_)
  rw [hw.2] at hP
  have hPr := keepW hPr hk (fun k q h z => hdj _ z (rW_in h))
  have hPc : va_P D vwCl (cW adC cA (f_split σ (xs (i + 1)) (xs (i + 2))).2) H := hP
  refine tp_i (z := (f_split σ (xs (i + 1)) (xs (i + 2))).1) hw.1 ?_
  refine lv_aload_n hx hb dL_law_411 rfl (lv_at hl 3 rfl) ?_
  refine lv_aload_n hx hb dL_law_412 rfl (lv_at hl 1 rfl) ?_
  refine lv_iload_n hx hb dL_law_413 rfl (lv_at hl 0 rfl) ?_
  refine lv_iconst (v := 1) hx hb dL_law_414 (by decide) ?_
  refine lv_iadd hx hb dL_law_415 ?_
  refine tp_i (z := (nI (i + 1))) (nI_add i 1) ?_
  refine ld_s hx hb hX hbl hbA hS (j := (i + 1)) (by omega) hL dL_law_416 ?_
  refine lv_aload_n hx hb dL_law_417 rfl (lv_at hl 1 rfl) ?_
  refine lv_iload_n hx hb dL_law_418 rfl (lv_at hl 0 rfl) ?_
  refine lv_iconst (v := 2) hx hb dL_law_419 (by decide) ?_
  refine lv_iadd hx hb dL_law_420 ?_
  refine tp_i (z := (nI (i + 2))) (nI_add i 2) ?_
  refine ld_s hx hb hX hbl hbA hS (j := (i + 2)) (by omega) hL dL_law_421 ?_
  refine cl_i (rest := [.int (f_split σ (xs (i + 1)) (xs (i + 2))).1]) (c_X5_split l D cA adR (aR adR) hDr σ (xs (i + 1)) (xs (i + 2)) hI hg (by omega)) ⟨hx, hb, hml, hown, hts⟩ hK hPr hS kv_L_48 ⟨Nat.le_of_ble_eq_true rfl, Nat.le_of_ble_eq_true rfl⟩ ⟨Nat.le_of_ble_eq_true rfl, Nat.le_of_ble_eq_true rfl⟩ 0 rfl rfl rfl hl.1 rfl (Nat.le_of_ble_eq_true rfl) hRs dL_law_422 (fun r u H locs hw hP hS hk => ?_)
  rw [hw.2] at hP
  have hPc := keepW hPc hk (fun k q h z => hdj _ (cW_in h) z)
  have hPr : va_P D vwCl (rW adR cA (f_split σ (xs (i + 1)) (xs (i + 2))).2) H := hP
  refine tp_i (z := (f_split σ (xs (i + 1)) (xs (i + 2))).1) hw.1 ?_
  refine lv_icmp_eq (tgt := 825) hx hb dL_law_425 (by decide) (fun _ => ?_) (fun c9 => absurd rfl c9)
  exact next (f_split σ (xs (i + 1)) (xs (i + 2))).2 _ _ ls (gd_split hI hg) hPc hPr hS (lv_sub hl [0, 1, 2, 3] rfl)
set_option maxHeartbeats 4000000 in
set_option maxRecDepth 100000 in
theorem lw_c8 {p : Program} {l : Launch} {e : Env} {s : State} {m : MethodId} {below : List Frame} {meth : Method} {c : Code} {D : va_G} {cA : ClassId} {adC adR : Nat → Nat} {b L : Nat} {xs : Nat → Int32} (hL : L ≤ 2560) (C0 : lw_At p s m meth c b L xs) (X0 : lw_Cx D cA adC adR s) (i : Nat) (σ : CS) (H : Heap) (locs : List Loc) (ls : Array Slot) (hi : i + 5 ≤ L) (hI : Inv σ) (hg : sGr σ = 0) (hbc : sBc σ ≤ 60 * i) (hPc : va_P D vwCl (cW adC cA σ) H) (hPr : va_P D vwCl (rW adR cA σ) H) (hS : va_S (fun q : Nat => s.heap.size ≤ q) s.heap H locs) (hl : lv_has ls 4 [(3, .int (nI i)), (0, .ref b), (1, .ref (adC 0)), (2, .ref (adR 0))]) (next : ∀ (σ2 : CS) (H2 : Heap) (locs2 : List Loc) (ls2 : Array Slot), Gd σ σ2 → va_P D vwCl (cW adC cA σ2) H2 → va_P D vwCl (rW adR cA σ2) H2 → va_S (fun q : Nat => s.heap.size ≤ q) s.heap H2 locs2 → lv_has ls2 4 [(3, .int (nI i)), (0, .ref b), (1, .ref (adC 0)), (2, .ref (adR 0))] → W p l e room_1 s m #[Value.ref b] below meth c H2 locs2 35 1665 (lw_Z below #[Value.ref b] s) (F0 m 825 ls2 [])) : W p l e room_1 s m #[Value.ref b] below meth c H locs 35 1665 (lw_Z below #[Value.ref b] s) (F0 m 430 ls []) := by
  obtain ⟨hx, hb, hr, hml, hown, hts0, hX, hbl, hlocks, hgv⟩ := id C0
  obtain ⟨hK, hDc, hDr, hdj, hCs, hRs⟩ := id X0
  have hown : s.vm.findClass RL = some m.cls := hown
  have hts : ∀ w ∈ TG, w.before #[Value.ref b] s = true := fun w h => hts0 w (tg_sub w h)
  have hbA : ¬ (fun q : Nat => s.heap.size ≤ q) b := Nat.not_le.mpr hbl
  refine lv_aload_n hx hb dL_law_430 rfl (lv_at hl 2 rfl) ?_
  refine lv_aload_n hx hb dL_law_431 rfl (lv_at hl 1 rfl) ?_
  refine lv_iload_n hx hb dL_law_432 rfl (lv_at hl 0 rfl) ?_
  refine lv_iconst (v := 1) hx hb dL_law_433 (by decide) ?_
  refine lv_iadd hx hb dL_law_434 ?_
  refine tp_i (z := (nI (i + 1))) (nI_add i 1) ?_
  refine ld_s hx hb hX hbl hbA hS (j := (i + 1)) (by omega) hL dL_law_435 ?_
  refine cl_i (rest := []) (c_X4_swap l D cA adC (aC adC) hDc σ (xs (i + 1)) hI hg (by omega)) ⟨hx, hb, hml, hown, hts⟩ hK hPc hS kv_L_49 ⟨Nat.le_of_ble_eq_true rfl, Nat.le_of_ble_eq_true rfl⟩ ⟨Nat.le_of_ble_eq_true rfl, Nat.le_of_ble_eq_true rfl⟩ 0 rfl rfl rfl hl.1 rfl (Nat.le_of_ble_eq_true rfl) hCs dL_law_436 (fun r u H locs hw hP hS hk => ?_)
  rw [hw.2] at hP
  have hPr := keepW hPr hk (fun k q h z => hdj _ z (rW_in h))
  have hPc : va_P D vwCl (cW adC cA (f_swap σ (xs (i + 1))).2) H := hP
  refine tp_i (z := (f_swap σ (xs (i + 1))).1) hw.1 ?_
  refine lv_aload_n hx hb dL_law_439 rfl (lv_at hl 3 rfl) ?_
  refine lv_aload_n hx hb dL_law_440 rfl (lv_at hl 1 rfl) ?_
  refine lv_iload_n hx hb dL_law_441 rfl (lv_at hl 0 rfl) ?_
  refine lv_iconst (v := 1) hx hb dL_law_442 (by decide) ?_
  refine lv_iadd hx hb dL_law_443 ?_
  refine tp_i (z := (nI (i + 1))) (nI_add i 1) ?_
  refine ld_s hx hb hX hbl hbA hS (j := (i + 1)) (by omega) hL dL_law_444 ?_
  refine cl_i (rest := [.int (f_swap σ (xs (i + 1))).1]) (c_X5_swap l D cA adR (aR adR) hDr σ (xs (i + 1)) hI hg (by omega)) ⟨hx, hb, hml, hown, hts⟩ hK hPr hS kv_L_52 ⟨Nat.le_of_ble_eq_true rfl, Nat.le_of_ble_eq_true rfl⟩ ⟨Nat.le_of_ble_eq_true rfl, Nat.le_of_ble_eq_true rfl⟩ 0 rfl rfl rfl hl.1 rfl (Nat.le_of_ble_eq_true rfl) hRs dL_law_445 (fun r u H locs hw hP hS hk => ?_)
  rw [hw.2] at hP
  have hPc := keepW hPc hk (fun k q h z => hdj _ (cW_in h) z)
  have hPr : va_P D vwCl (rW adR cA (f_swap σ (xs (i + 1))).2) H := hP
  refine tp_i (z := (f_swap σ (xs (i + 1))).1) hw.1 ?_
  refine lv_icmp_eq (tgt := 825) hx hb dL_law_448 (by decide) (fun _ => ?_) (fun c9 => absurd rfl c9)
  exact next (f_swap σ (xs (i + 1))).2 _ _ ls (gd_swap hI hg) hPc hPr hS (lv_sub hl [0, 1, 2, 3] rfl)
set_option maxHeartbeats 4000000 in
set_option maxRecDepth 100000 in
theorem lw_c9 {p : Program} {l : Launch} {e : Env} {s : State} {m : MethodId} {below : List Frame} {meth : Method} {c : Code} {D : va_G} {cA : ClassId} {adC adR : Nat → Nat} {b L : Nat} {xs : Nat → Int32} (hL : L ≤ 2560) (C0 : lw_At p s m meth c b L xs) (X0 : lw_Cx D cA adC adR s) (i : Nat) (σ : CS) (H : Heap) (locs : List Loc) (ls : Array Slot) (hi : i + 5 ≤ L) (hI : Inv σ) (hg : sGr σ = 0) (hbc : sBc σ ≤ 60 * i) (hPc : va_P D vwCl (cW adC cA σ) H) (hPr : va_P D vwCl (rW adR cA σ) H) (hS : va_S (fun q : Nat => s.heap.size ≤ q) s.heap H locs) (hl : lv_has ls 4 [(3, .int (nI i)), (0, .ref b), (1, .ref (adC 0)), (2, .ref (adR 0))]) (next : ∀ (σ2 : CS) (H2 : Heap) (locs2 : List Loc) (ls2 : Array Slot), Gd σ σ2 → va_P D vwCl (cW adC cA σ2) H2 → va_P D vwCl (rW adR cA σ2) H2 → va_S (fun q : Nat => s.heap.size ≤ q) s.heap H2 locs2 → lv_has ls2 4 [(3, .int (nI i)), (0, .ref b), (1, .ref (adC 0)), (2, .ref (adR 0))] → W p l e room_1 s m #[Value.ref b] below meth c H2 locs2 35 1665 (lw_Z below #[Value.ref b] s) (F0 m 825 ls2 [])) : W p l e room_1 s m #[Value.ref b] below meth c H locs 35 1665 (lw_Z below #[Value.ref b] s) (F0 m 453 ls []) := by
  obtain ⟨hx, hb, hr, hml, hown, hts0, hX, hbl, hlocks, hgv⟩ := id C0
  obtain ⟨hK, hDc, hDr, hdj, hCs, hRs⟩ := id X0
  have hown : s.vm.findClass RL = some m.cls := hown
  have hts : ∀ w ∈ TG, w.before #[Value.ref b] s = true := fun w h => hts0 w (tg_sub w h)
  have hbA : ¬ (fun q : Nat => s.heap.size ≤ q) b := Nat.not_le.mpr hbl
  refine lv_aload_n hx hb dL_law_453 rfl (lv_at hl 2 rfl) ?_
  refine lv_aload_n hx hb dL_law_454 rfl (lv_at hl 1 rfl) ?_
  refine lv_iload_n hx hb dL_law_455 rfl (lv_at hl 0 rfl) ?_
  refine lv_iconst (v := 1) hx hb dL_law_456 (by decide) ?_
  refine lv_iadd hx hb dL_law_457 ?_
  refine tp_i (z := (nI (i + 1))) (nI_add i 1) ?_
  refine ld_s hx hb hX hbl hbA hS (j := (i + 1)) (by omega) hL dL_law_458 ?_
  refine cl_i (rest := []) (c_X4_polish l D cA adC (aC adC) hDc σ (xs (i + 1)) hI hg (by omega)) ⟨hx, hb, hml, hown, hts⟩ hK hPc hS kv_L_53 ⟨Nat.le_of_ble_eq_true rfl, Nat.le_of_ble_eq_true rfl⟩ ⟨Nat.le_of_ble_eq_true rfl, Nat.le_of_ble_eq_true rfl⟩ 0 rfl rfl rfl hl.1 rfl (Nat.le_of_ble_eq_true rfl) hCs dL_law_459 (fun r u H locs hw hP hS hk => ?_)
  rw [hw.2] at hP
  have hPr := keepW hPr hk (fun k q h z => hdj _ z (rW_in h))
  have hPc : va_P D vwCl (cW adC cA (f_polish σ (xs (i + 1))).2) H := hP
  refine tp_i (z := (f_polish σ (xs (i + 1))).1) hw.1 ?_
  refine lv_aload_n hx hb dL_law_462 rfl (lv_at hl 3 rfl) ?_
  refine lv_aload_n hx hb dL_law_463 rfl (lv_at hl 1 rfl) ?_
  refine lv_iload_n hx hb dL_law_464 rfl (lv_at hl 0 rfl) ?_
  refine lv_iconst (v := 1) hx hb dL_law_465 (by decide) ?_
  refine lv_iadd hx hb dL_law_466 ?_
  refine tp_i (z := (nI (i + 1))) (nI_add i 1) ?_
  refine ld_s hx hb hX hbl hbA hS (j := (i + 1)) (by omega) hL dL_law_467 ?_
  refine cl_i (rest := [.int (f_polish σ (xs (i + 1))).1]) (c_X5_polish l D cA adR (aR adR) hDr σ (xs (i + 1)) hI hg (by omega)) ⟨hx, hb, hml, hown, hts⟩ hK hPr hS kv_L_56 ⟨Nat.le_of_ble_eq_true rfl, Nat.le_of_ble_eq_true rfl⟩ ⟨Nat.le_of_ble_eq_true rfl, Nat.le_of_ble_eq_true rfl⟩ 0 rfl rfl rfl hl.1 rfl (Nat.le_of_ble_eq_true rfl) hRs dL_law_468 (fun r u H locs hw hP hS hk => ?_)
  rw [hw.2] at hP
  have hPc := keepW hPc hk (fun k q h z => hdj _ (cW_in h) z)
  have hPr : va_P D vwCl (rW adR cA (f_polish σ (xs (i + 1))).2) H := hP
  refine tp_i (z := (f_polish σ (xs (i + 1))).1) hw.1 ?_
  refine lv_icmp_eq (tgt := 825) hx hb dL_law_471 (by decide) (fun _ => ?_) (fun c9 => absurd rfl c9)
  exact next (f_polish σ (xs (i + 1))).2 _ _ ls (gd_polish hI hg) hPc hPr hS (lv_sub hl [0, 1, 2, 3] rfl)
set_option maxHeartbeats 4000000 in
set_option maxRecDepth 100000 in
theorem lw_c10 {p : Program} {l : Launch} {e : Env} {s : State} {m : MethodId} {below : List Frame} {meth : Method} {c : Code} {D : va_G} {cA : ClassId} {adC adR : Nat → Nat} {b L : Nat} {xs : Nat → Int32} (hL : L ≤ 2560) (C0 : lw_At p s m meth c b L xs) (X0 : lw_Cx D cA adC adR s) (i : Nat) (σ : CS) (H : Heap) (locs : List Loc) (ls : Array Slot) (hi : i + 5 ≤ L) (hI : Inv σ) (hg : sGr σ = 0) (hbc : sBc σ ≤ 60 * i) (hPc : va_P D vwCl (cW adC cA σ) H) (hPr : va_P D vwCl (rW adR cA σ) H) (hS : va_S (fun q : Nat => s.heap.size ≤ q) s.heap H locs) (hl : lv_has ls 4 [(3, .int (nI i)), (0, .ref b), (1, .ref (adC 0)), (2, .ref (adR 0))]) (next : ∀ (σ2 : CS) (H2 : Heap) (locs2 : List Loc) (ls2 : Array Slot), Gd σ σ2 → va_P D vwCl (cW adC cA σ2) H2 → va_P D vwCl (rW adR cA σ2) H2 → va_S (fun q : Nat => s.heap.size ≤ q) s.heap H2 locs2 → lv_has ls2 4 [(3, .int (nI i)), (0, .ref b), (1, .ref (adC 0)), (2, .ref (adR 0))] → W p l e room_1 s m #[Value.ref b] below meth c H2 locs2 35 1665 (lw_Z below #[Value.ref b] s) (F0 m 825 ls2 [])) : W p l e room_1 s m #[Value.ref b] below meth c H locs 35 1665 (lw_Z below #[Value.ref b] s) (F0 m 476 ls []) := by
  obtain ⟨hx, hb, hr, hml, hown, hts0, hX, hbl, hlocks, hgv⟩ := id C0
  obtain ⟨hK, hDc, hDr, hdj, hCs, hRs⟩ := id X0
  have hown : s.vm.findClass RL = some m.cls := hown
  have hts : ∀ w ∈ TG, w.before #[Value.ref b] s = true := fun w h => hts0 w (tg_sub w h)
  have hbA : ¬ (fun q : Nat => s.heap.size ≤ q) b := Nat.not_le.mpr hbl
  refine lv_aload_n hx hb dL_law_476 rfl (lv_at hl 2 rfl) ?_
  refine lv_aload_n hx hb dL_law_477 rfl (lv_at hl 1 rfl) ?_
  refine lv_iload_n hx hb dL_law_478 rfl (lv_at hl 0 rfl) ?_
  refine lv_iconst (v := 1) hx hb dL_law_479 (by decide) ?_
  refine lv_iadd hx hb dL_law_480 ?_
  refine tp_i (z := (nI (i + 1))) (nI_add i 1) ?_
  refine ld_s hx hb hX hbl hbA hS (j := (i + 1)) (by omega) hL dL_law_481 ?_
  refine lv_aload_n hx hb dL_law_482 rfl (lv_at hl 1 rfl) ?_
  refine lv_iload_n hx hb dL_law_483 rfl (lv_at hl 0 rfl) ?_
  refine lv_iconst (v := 2) hx hb dL_law_484 (by decide) ?_
  refine lv_iadd hx hb dL_law_485 ?_
  refine tp_i (z := (nI (i + 2))) (nI_add i 2) ?_
  refine ld_s hx hb hX hbl hbA hS (j := (i + 2)) (by omega) hL dL_law_486 ?_
  refine lv_aload_n hx hb dL_law_487 rfl (lv_at hl 1 rfl) ?_
  refine lv_iload_n hx hb dL_law_488 rfl (lv_at hl 0 rfl) ?_
  refine lv_iconst (v := 3) hx hb dL_law_489 (by decide) ?_
  refine lv_iadd hx hb dL_law_490 ?_
  refine tp_i (z := (nI (i + 3))) (nI_add i 3) ?_
  refine ld_s hx hb hX hbl hbA hS (j := (i + 3)) (by omega) hL dL_law_491 ?_
  refine cl_i (rest := []) (c_X4_rounds l D cA adC (aC adC) hDc σ (xs (i + 1)) (xs (i + 2)) (xs (i + 3)) hI hg (by omega)) ⟨hx, hb, hml, hown, hts⟩ hK hPc hS kv_L_57 ⟨Nat.le_of_ble_eq_true rfl, Nat.le_of_ble_eq_true rfl⟩ ⟨Nat.le_of_ble_eq_true rfl, Nat.le_of_ble_eq_true rfl⟩ 0 rfl rfl rfl hl.1 rfl (Nat.le_of_ble_eq_true rfl) hCs dL_law_492 (fun r u H locs hw hP hS hk => ?_)
  rw [hw.2] at hP
  have hPr := keepW hPr hk (fun k q h z => hdj _ z (rW_in h))
  have hPc : va_P D vwCl (cW adC cA (f_rounds σ (xs (i + 1)) (xs (i + 2)) (xs (i + 3))).2) H := hP
  refine tp_i (z := (f_rounds σ (xs (i + 1)) (xs (i + 2)) (xs (i + 3))).1) hw.1 ?_
  refine lv_aload_n hx hb dL_law_495 rfl (lv_at hl 3 rfl) ?_
  refine lv_aload_n hx hb dL_law_496 rfl (lv_at hl 1 rfl) ?_
  refine lv_iload_n hx hb dL_law_497 rfl (lv_at hl 0 rfl) ?_
  refine lv_iconst (v := 1) hx hb dL_law_498 (by decide) ?_
  refine lv_iadd hx hb dL_law_499 ?_
  refine tp_i (z := (nI (i + 1))) (nI_add i 1) ?_
  refine ld_s hx hb hX hbl hbA hS (j := (i + 1)) (by omega) hL dL_law_500 ?_
  refine lv_aload_n hx hb dL_law_501 rfl (lv_at hl 1 rfl) ?_
  refine lv_iload_n hx hb dL_law_502 rfl (lv_at hl 0 rfl) ?_
  refine lv_iconst (v := 2) hx hb dL_law_503 (by decide) ?_
  refine lv_iadd hx hb dL_law_504 ?_
  refine tp_i (z := (nI (i + 2))) (nI_add i 2) ?_
  refine ld_s hx hb hX hbl hbA hS (j := (i + 2)) (by omega) hL dL_law_505 ?_
  refine lv_aload_n hx hb dL_law_506 rfl (lv_at hl 1 rfl) ?_
  refine lv_iload_n hx hb dL_law_507 rfl (lv_at hl 0 rfl) ?_
  refine lv_iconst (v := 3) hx hb dL_law_508 (by decide) ?_
  refine lv_iadd hx hb dL_law_509 ?_
  refine tp_i (z := (nI (i + 3))) (nI_add i 3) ?_
  refine ld_s hx hb hX hbl hbA hS (j := (i + 3)) (by omega) hL dL_law_510 ?_
  refine cl_i (rest := [.int (f_rounds σ (xs (i + 1)) (xs (i + 2)) (xs (i + 3))).1]) (c_X5_rounds l D cA adR (aR adR) hDr σ (xs (i + 1)) (xs (i + 2)) (xs (i + 3)) hI hg (by omega)) ⟨hx, hb, hml, hown, hts⟩ hK hPr hS kv_L_60 ⟨Nat.le_of_ble_eq_true rfl, Nat.le_of_ble_eq_true rfl⟩ ⟨Nat.le_of_ble_eq_true rfl, Nat.le_of_ble_eq_true rfl⟩ 0 rfl rfl rfl hl.1 rfl (Nat.le_of_ble_eq_true rfl) hRs dL_law_511 (fun r u H locs hw hP hS hk => ?_)
  rw [hw.2] at hP
  have hPc := keepW hPc hk (fun k q h z => hdj _ (cW_in h) z)
  have hPr : va_P D vwCl (rW adR cA (f_rounds σ (xs (i + 1)) (xs (i + 2)) (xs (i + 3))).2) H := hP
  refine tp_i (z := (f_rounds σ (xs (i + 1)) (xs (i + 2)) (xs (i + 3))).1) hw.1 ?_
  refine lv_icmp_eq (tgt := 825) hx hb dL_law_514 (by decide) (fun _ => ?_) (fun c9 => absurd rfl c9)
  exact next (f_rounds σ (xs (i + 1)) (xs (i + 2)) (xs (i + 3))).2 _ _ ls (gd_rounds hI hg) hPc hPr hS (lv_sub hl [0, 1, 2, 3] rfl)
set_option maxHeartbeats 4000000 in
set_option maxRecDepth 100000 in
theorem lw_c11 {p : Program} {l : Launch} {e : Env} {s : State} {m : MethodId} {below : List Frame} {meth : Method} {c : Code} {D : va_G} {cA : ClassId} {adC adR : Nat → Nat} {b L : Nat} {xs : Nat → Int32} (hL : L ≤ 2560) (C0 : lw_At p s m meth c b L xs) (X0 : lw_Cx D cA adC adR s) (i : Nat) (σ : CS) (H : Heap) (locs : List Loc) (ls : Array Slot) (hi : i + 5 ≤ L) (hI : Inv σ) (hg : sGr σ = 0) (hbc : sBc σ ≤ 60 * i) (hPc : va_P D vwCl (cW adC cA σ) H) (hPr : va_P D vwCl (rW adR cA σ) H) (hS : va_S (fun q : Nat => s.heap.size ≤ q) s.heap H locs) (hl : lv_has ls 4 [(3, .int (nI i)), (0, .ref b), (1, .ref (adC 0)), (2, .ref (adR 0))]) (next : ∀ (σ2 : CS) (H2 : Heap) (locs2 : List Loc) (ls2 : Array Slot), Gd σ σ2 → va_P D vwCl (cW adC cA σ2) H2 → va_P D vwCl (rW adR cA σ2) H2 → va_S (fun q : Nat => s.heap.size ≤ q) s.heap H2 locs2 → lv_has ls2 4 [(3, .int (nI i)), (0, .ref b), (1, .ref (adC 0)), (2, .ref (adR 0))] → W p l e room_1 s m #[Value.ref b] below meth c H2 locs2 35 1665 (lw_Z below #[Value.ref b] s) (F0 m 825 ls2 [])) : W p l e room_1 s m #[Value.ref b] below meth c H locs 35 1665 (lw_Z below #[Value.ref b] s) (F0 m 519 ls []) := by
  obtain ⟨hx, hb, hr, hml, hown, hts0, hX, hbl, hlocks, hgv⟩ := id C0
  obtain ⟨hK, hDc, hDr, hdj, hCs, hRs⟩ := id X0
  have hown : s.vm.findClass RL = some m.cls := hown
  have hts : ∀ w ∈ TG, w.before #[Value.ref b] s = true := fun w h => hts0 w (tg_sub w h)
  have hbA : ¬ (fun q : Nat => s.heap.size ≤ q) b := Nat.not_le.mpr hbl
  refine lv_aload_n hx hb dL_law_519 rfl (lv_at hl 2 rfl) ?_
  refine lv_aload_n hx hb dL_law_520 rfl (lv_at hl 1 rfl) ?_
  refine lv_iload_n hx hb dL_law_521 rfl (lv_at hl 0 rfl) ?_
  refine lv_iconst (v := 1) hx hb dL_law_522 (by decide) ?_
  refine lv_iadd hx hb dL_law_523 ?_
  refine tp_i (z := (nI (i + 1))) (nI_add i 1) ?_
  refine ld_s hx hb hX hbl hbA hS (j := (i + 1)) (by omega) hL dL_law_524 ?_
  refine lv_aload_n hx hb dL_law_525 rfl (lv_at hl 1 rfl) ?_
  refine lv_iload_n hx hb dL_law_526 rfl (lv_at hl 0 rfl) ?_
  refine lv_iconst (v := 2) hx hb dL_law_527 (by decide) ?_
  refine lv_iadd hx hb dL_law_528 ?_
  refine tp_i (z := (nI (i + 2))) (nI_add i 2) ?_
  refine ld_s hx hb hX hbl hbA hS (j := (i + 2)) (by omega) hL dL_law_529 ?_
  refine lv_aload_n hx hb dL_law_530 rfl (lv_at hl 1 rfl) ?_
  refine lv_iload_n hx hb dL_law_531 rfl (lv_at hl 0 rfl) ?_
  refine lv_iconst (v := 3) hx hb dL_law_532 (by decide) ?_
  refine lv_iadd hx hb dL_law_533 ?_
  refine tp_i (z := (nI (i + 3))) (nI_add i 3) ?_
  refine ld_s hx hb hX hbl hbA hS (j := (i + 3)) (by omega) hL dL_law_534 ?_
  refine cl_i (rest := []) (c_X4_sweep l D cA adC (aC adC) hDc σ (xs (i + 1)) (xs (i + 2)) (xs (i + 3)) hI hg (by omega)) ⟨hx, hb, hml, hown, hts⟩ hK hPc hS kv_L_61 ⟨Nat.le_of_ble_eq_true rfl, Nat.le_of_ble_eq_true rfl⟩ ⟨Nat.le_of_ble_eq_true rfl, Nat.le_of_ble_eq_true rfl⟩ 0 rfl rfl rfl hl.1 rfl (Nat.le_of_ble_eq_true rfl) hCs dL_law_535 (fun r u H locs hw hP hS hk => ?_)
  rw [hw.2] at hP
  have hPr := keepW hPr hk (fun k q h z => hdj _ z (rW_in h))
  have hPc : va_P D vwCl (cW adC cA (f_sweep σ (xs (i + 1)) (xs (i + 2)) (xs (i + 3))).2) H := hP
  refine tp_i (z := (f_sweep σ (xs (i + 1)) (xs (i + 2)) (xs (i + 3))).1) hw.1 ?_
  refine lv_aload_n hx hb dL_law_538 rfl (lv_at hl 3 rfl) ?_
  refine lv_aload_n hx hb dL_law_539 rfl (lv_at hl 1 rfl) ?_
  refine lv_iload_n hx hb dL_law_540 rfl (lv_at hl 0 rfl) ?_
  refine lv_iconst (v := 1) hx hb dL_law_541 (by decide) ?_
  refine lv_iadd hx hb dL_law_542 ?_
  refine tp_i (z := (nI (i + 1))) (nI_add i 1) ?_
  refine ld_s hx hb hX hbl hbA hS (j := (i + 1)) (by omega) hL dL_law_543 ?_
  refine lv_aload_n hx hb dL_law_544 rfl (lv_at hl 1 rfl) ?_
  refine lv_iload_n hx hb dL_law_545 rfl (lv_at hl 0 rfl) ?_
  refine lv_iconst (v := 2) hx hb dL_law_546 (by decide) ?_
  refine lv_iadd hx hb dL_law_547 ?_
  refine tp_i (z := (nI (i + 2))) (nI_add i 2) ?_
  refine ld_s hx hb hX hbl hbA hS (j := (i + 2)) (by omega) hL dL_law_548 ?_
  refine lv_aload_n hx hb dL_law_549 rfl (lv_at hl 1 rfl) ?_
  refine lv_iload_n hx hb dL_law_550 rfl (lv_at hl 0 rfl) ?_
  refine lv_iconst (v := 3) hx hb dL_law_551 (by decide) ?_
  refine lv_iadd hx hb dL_law_552 ?_
  refine tp_i (z := (nI (i + 3))) (nI_add i 3) ?_
  refine ld_s hx hb hX hbl hbA hS (j := (i + 3)) (by omega) hL dL_law_553 ?_
  refine cl_i (rest := [.int (f_sweep σ (xs (i + 1)) (xs (i + 2)) (xs (i + 3))).1]) (c_X5_sweep l D cA adR (aR adR) hDr σ (xs (i + 1)) (xs (i + 2)) (xs (i + 3)) hI hg (by omega)) ⟨hx, hb, hml, hown, hts⟩ hK hPr hS kv_L_64 ⟨Nat.le_of_ble_eq_true rfl, Nat.le_of_ble_eq_true rfl⟩ ⟨Nat.le_of_ble_eq_true rfl, Nat.le_of_ble_eq_true rfl⟩ 0 rfl rfl rfl hl.1 rfl (Nat.le_of_ble_eq_true rfl) hRs dL_law_554 (fun r u H locs hw hP hS hk => ?_)
  rw [hw.2] at hP
  have hPc := keepW hPc hk (fun k q h z => hdj _ (cW_in h) z)
  have hPr : va_P D vwCl (rW adR cA (f_sweep σ (xs (i + 1)) (xs (i + 2)) (xs (i + 3))).2) H := hP
  refine tp_i (z := (f_sweep σ (xs (i + 1)) (xs (i + 2)) (xs (i + 3))).1) hw.1 ?_
  refine lv_icmp_eq (tgt := 825) hx hb dL_law_557 (by decide) (fun _ => ?_) (fun c9 => absurd rfl c9)
  exact next (f_sweep σ (xs (i + 1)) (xs (i + 2)) (xs (i + 3))).2 _ _ ls (gd_sweep hI hg) hPc hPr hS (lv_sub hl [0, 1, 2, 3] rfl)
