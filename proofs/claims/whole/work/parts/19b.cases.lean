set_option maxHeartbeats 4000000 in
set_option maxRecDepth 100000 in
theorem lw_c12 {p : Program} {l : Launch} {e : Env} {s : State} {m : MethodId} {below : List Frame} {meth : Method} {c : Code} {D : va_G} {cA : ClassId} {adC adR : Nat → Nat} {b L : Nat} {xs : Nat → Int32} (hL : L ≤ 2560) (C0 : lw_At p s m meth c b L xs) (X0 : lw_Cx D cA adC adR s) (i : Nat) (σ : CS) (H : Heap) (locs : List Loc) (ls : Array Slot) (hi : i + 5 ≤ L) (hI : Inv σ) (hg : sGr σ = 0) (hbc : sBc σ ≤ 60 * i) (hPc : va_P D vwCl (cW adC cA σ) H) (hPr : va_P D vwCl (rW adR cA σ) H) (hS : va_S (fun q : Nat => s.heap.size ≤ q) s.heap H locs) (hl : lv_has ls 4 [(3, .int (nI i)), (0, .ref b), (1, .ref (adC 0)), (2, .ref (adR 0))]) (next : ∀ (σ2 : CS) (H2 : Heap) (locs2 : List Loc) (ls2 : Array Slot), Gd σ σ2 → va_P D vwCl (cW adC cA σ2) H2 → va_P D vwCl (rW adR cA σ2) H2 → va_S (fun q : Nat => s.heap.size ≤ q) s.heap H2 locs2 → lv_has ls2 4 [(3, .int (nI i)), (0, .ref b), (1, .ref (adC 0)), (2, .ref (adR 0))] → W p l e room_1 s m #[Value.ref b] below meth c H2 locs2 35 1665 (lw_Z below #[Value.ref b] s) (F0 m 825 ls2 [])) : W p l e room_1 s m #[Value.ref b] below meth c H locs 35 1665 (lw_Z below #[Value.ref b] s) (F0 m 562 ls []) := by
  obtain ⟨hx, hb, hr, hml, hown, hts0, hX, hbl, hlocks, hgv⟩ := id C0
  obtain ⟨hK, hDc, hDr, hdj, hCs, hRs⟩ := id X0
  have hown : s.vm.findClass RL = some m.cls := hown
  have hts : ∀ w ∈ TG, w.before #[Value.ref b] s = true := fun w h => hts0 w (tg_sub w h)
  have hbA : ¬ (fun q : Nat => s.heap.size ≤ q) b := Nat.not_le.mpr hbl
  refine lv_aload_n hx hb dL_law_562 rfl (lv_at hl 2 rfl) ?_
  refine lv_aload_n hx hb dL_law_563 rfl (lv_at hl 1 rfl) ?_
  refine lv_iload_n hx hb dL_law_564 rfl (lv_at hl 0 rfl) ?_
  refine lv_iconst (v := 1) hx hb dL_law_565 (by decide) ?_
  refine lv_iadd hx hb dL_law_566 ?_
  refine tp_i (z := (nI (i + 1))) (nI_add i 1) ?_
  refine ld_s hx hb hX hbl hbA hS (j := (i + 1)) (by omega) hL dL_law_567 ?_
  refine lv_aload_n hx hb dL_law_568 rfl (lv_at hl 1 rfl) ?_
  refine lv_iload_n hx hb dL_law_569 rfl (lv_at hl 0 rfl) ?_
  refine lv_iconst (v := 2) hx hb dL_law_570 (by decide) ?_
  refine lv_iadd hx hb dL_law_571 ?_
  refine tp_i (z := (nI (i + 2))) (nI_add i 2) ?_
  refine ld_s hx hb hX hbl hbA hS (j := (i + 2)) (by omega) hL dL_law_572 ?_
  refine lv_aload_n hx hb dL_law_573 rfl (lv_at hl 1 rfl) ?_
  refine lv_iload_n hx hb dL_law_574 rfl (lv_at hl 0 rfl) ?_
  refine lv_iconst (v := 3) hx hb dL_law_575 (by decide) ?_
  refine lv_iadd hx hb dL_law_576 ?_
  refine tp_i (z := (nI (i + 3))) (nI_add i 3) ?_
  refine ld_s hx hb hX hbl hbA hS (j := (i + 3)) (by omega) hL dL_law_577 ?_
  refine cl_i (rest := []) (c_X4_walk l D cA adC (aC adC) hDc σ (xs (i + 1)) (xs (i + 2)) (xs (i + 3)) hI hg (by omega)) ⟨hx, hb, hml, hown, hts⟩ hK hPc hS kv_L_65 ⟨Nat.le_of_ble_eq_true rfl, Nat.le_of_ble_eq_true rfl⟩ ⟨Nat.le_of_ble_eq_true rfl, Nat.le_of_ble_eq_true rfl⟩ 0 rfl rfl rfl hl.1 rfl (Nat.le_of_ble_eq_true rfl) hCs dL_law_578 (fun r u H locs hw hP hS hk => ?_)
  rw [hw.2] at hP
  have hPr := keepW hPr hk (fun k q h z => hdj _ z (rW_in h))
  have hPc : va_P D vwCl (cW adC cA (f_walk σ (xs (i + 1)) (xs (i + 2)) (xs (i + 3))).2) H := hP
  refine tp_i (z := (f_walk σ (xs (i + 1)) (xs (i + 2)) (xs (i + 3))).1) hw.1 ?_
  refine lv_aload_n hx hb dL_law_581 rfl (lv_at hl 3 rfl) ?_
  refine lv_aload_n hx hb dL_law_582 rfl (lv_at hl 1 rfl) ?_
  refine lv_iload_n hx hb dL_law_583 rfl (lv_at hl 0 rfl) ?_
  refine lv_iconst (v := 1) hx hb dL_law_584 (by decide) ?_
  refine lv_iadd hx hb dL_law_585 ?_
  refine tp_i (z := (nI (i + 1))) (nI_add i 1) ?_
  refine ld_s hx hb hX hbl hbA hS (j := (i + 1)) (by omega) hL dL_law_586 ?_
  refine lv_aload_n hx hb dL_law_587 rfl (lv_at hl 1 rfl) ?_
  refine lv_iload_n hx hb dL_law_588 rfl (lv_at hl 0 rfl) ?_
  refine lv_iconst (v := 2) hx hb dL_law_589 (by decide) ?_
  refine lv_iadd hx hb dL_law_590 ?_
  refine tp_i (z := (nI (i + 2))) (nI_add i 2) ?_
  refine ld_s hx hb hX hbl hbA hS (j := (i + 2)) (by omega) hL dL_law_591 ?_
  refine lv_aload_n hx hb dL_law_592 rfl (lv_at hl 1 rfl) ?_
  refine lv_iload_n hx hb dL_law_593 rfl (lv_at hl 0 rfl) ?_
  refine lv_iconst (v := 3) hx hb dL_law_594 (by decide) ?_
  refine lv_iadd hx hb dL_law_595 ?_
  refine tp_i (z := (nI (i + 3))) (nI_add i 3) ?_
  refine ld_s hx hb hX hbl hbA hS (j := (i + 3)) (by omega) hL dL_law_596 ?_
  refine cl_i (rest := [.int (f_walk σ (xs (i + 1)) (xs (i + 2)) (xs (i + 3))).1]) (c_X5_walk l D cA adR (aR adR) hDr σ (xs (i + 1)) (xs (i + 2)) (xs (i + 3)) hI hg (by omega)) ⟨hx, hb, hml, hown, hts⟩ hK hPr hS kv_L_68 ⟨Nat.le_of_ble_eq_true rfl, Nat.le_of_ble_eq_true rfl⟩ ⟨Nat.le_of_ble_eq_true rfl, Nat.le_of_ble_eq_true rfl⟩ 0 rfl rfl rfl hl.1 rfl (Nat.le_of_ble_eq_true rfl) hRs dL_law_597 (fun r u H locs hw hP hS hk => ?_)
  rw [hw.2] at hP
  have hPc := keepW hPc hk (fun k q h z => hdj _ (cW_in h) z)
  have hPr : va_P D vwCl (rW adR cA (f_walk σ (xs (i + 1)) (xs (i + 2)) (xs (i + 3))).2) H := hP
  refine tp_i (z := (f_walk σ (xs (i + 1)) (xs (i + 2)) (xs (i + 3))).1) hw.1 ?_
  refine lv_icmp_eq (tgt := 825) hx hb dL_law_600 (by decide) (fun _ => ?_) (fun c9 => absurd rfl c9)
  exact next (f_walk σ (xs (i + 1)) (xs (i + 2)) (xs (i + 3))).2 _ _ ls (gd_walk hI hg) hPc hPr hS (lv_sub hl [0, 1, 2, 3] rfl)
set_option maxHeartbeats 4000000 in
set_option maxRecDepth 100000 in
theorem lw_c13 {p : Program} {l : Launch} {e : Env} {s : State} {m : MethodId} {below : List Frame} {meth : Method} {c : Code} {D : va_G} {cA : ClassId} {adC adR : Nat → Nat} {b L : Nat} {xs : Nat → Int32} (hL : L ≤ 2560) (C0 : lw_At p s m meth c b L xs) (X0 : lw_Cx D cA adC adR s) (i : Nat) (σ : CS) (H : Heap) (locs : List Loc) (ls : Array Slot) (hi : i + 5 ≤ L) (hI : Inv σ) (hg : sGr σ = 0) (hbc : sBc σ ≤ 60 * i) (hPc : va_P D vwCl (cW adC cA σ) H) (hPr : va_P D vwCl (rW adR cA σ) H) (hS : va_S (fun q : Nat => s.heap.size ≤ q) s.heap H locs) (hl : lv_has ls 4 [(3, .int (nI i)), (0, .ref b), (1, .ref (adC 0)), (2, .ref (adR 0))]) (next : ∀ (σ2 : CS) (H2 : Heap) (locs2 : List Loc) (ls2 : Array Slot), Gd σ σ2 → va_P D vwCl (cW adC cA σ2) H2 → va_P D vwCl (rW adR cA σ2) H2 → va_S (fun q : Nat => s.heap.size ≤ q) s.heap H2 locs2 → lv_has ls2 4 [(3, .int (nI i)), (0, .ref b), (1, .ref (adC 0)), (2, .ref (adR 0))] → W p l e room_1 s m #[Value.ref b] below meth c H2 locs2 35 1665 (lw_Z below #[Value.ref b] s) (F0 m 825 ls2 [])) : W p l e room_1 s m #[Value.ref b] below meth c H locs 35 1665 (lw_Z below #[Value.ref b] s) (F0 m 605 ls []) := by
  obtain ⟨hx, hb, hr, hml, hown, hts0, hX, hbl, hlocks, hgv⟩ := id C0
  obtain ⟨hK, hDc, hDr, hdj, hCs, hRs⟩ := id X0
  have hown : s.vm.findClass RL = some m.cls := hown
  have hts : ∀ w ∈ TG, w.before #[Value.ref b] s = true := fun w h => hts0 w (tg_sub w h)
  have hbA : ¬ (fun q : Nat => s.heap.size ≤ q) b := Nat.not_le.mpr hbl
  refine lv_aload_n hx hb dL_law_605 rfl (lv_at hl 2 rfl) ?_
  refine lv_aload_n hx hb dL_law_606 rfl (lv_at hl 1 rfl) ?_
  refine lv_iload_n hx hb dL_law_607 rfl (lv_at hl 0 rfl) ?_
  refine lv_iconst (v := 1) hx hb dL_law_608 (by decide) ?_
  refine lv_iadd hx hb dL_law_609 ?_
  refine tp_i (z := (nI (i + 1))) (nI_add i 1) ?_
  refine ld_s hx hb hX hbl hbA hS (j := (i + 1)) (by omega) hL dL_law_610 ?_
  refine lv_aload_n hx hb dL_law_611 rfl (lv_at hl 1 rfl) ?_
  refine lv_iload_n hx hb dL_law_612 rfl (lv_at hl 0 rfl) ?_
  refine lv_iconst (v := 2) hx hb dL_law_613 (by decide) ?_
  refine lv_iadd hx hb dL_law_614 ?_
  refine tp_i (z := (nI (i + 2))) (nI_add i 2) ?_
  refine ld_s hx hb hX hbl hbA hS (j := (i + 2)) (by omega) hL dL_law_615 ?_
  refine lv_aload_n hx hb dL_law_616 rfl (lv_at hl 1 rfl) ?_
  refine lv_iload_n hx hb dL_law_617 rfl (lv_at hl 0 rfl) ?_
  refine lv_iconst (v := 3) hx hb dL_law_618 (by decide) ?_
  refine lv_iadd hx hb dL_law_619 ?_
  refine tp_i (z := (nI (i + 3))) (nI_add i 3) ?_
  refine ld_s hx hb hX hbl hbA hS (j := (i + 3)) (by omega) hL dL_law_620 ?_
  refine lv_aload_n hx hb dL_law_621 rfl (lv_at hl 1 rfl) ?_
  refine lv_iload_n hx hb dL_law_622 rfl (lv_at hl 0 rfl) ?_
  refine lv_iconst (v := 4) hx hb dL_law_623 (by decide) ?_
  refine lv_iadd hx hb dL_law_624 ?_
  refine tp_i (z := (nI (i + 4))) (nI_add i 4) ?_
  refine ld_s hx hb hX hbl hbA hS (j := (i + 4)) (by omega) hL dL_law_625 ?_
  refine cl_i (rest := []) (c_X4_order l D cA adC (aC adC) hDc σ (xs (i + 1)) (xs (i + 2)) (xs (i + 3)) (xs (i + 4)) hI hg (by omega)) ⟨hx, hb, hml, hown, hts⟩ hK hPc hS kv_L_69 ⟨Nat.le_of_ble_eq_true rfl, Nat.le_of_ble_eq_true rfl⟩ ⟨Nat.le_of_ble_eq_true rfl, Nat.le_of_ble_eq_true rfl⟩ 0 rfl rfl rfl hl.1 rfl (Nat.le_of_ble_eq_true rfl) hCs dL_law_626 (fun r u H locs hw hP hS hk => ?_)
  rw [hw.2] at hP
  have hPr := keepW hPr hk (fun k q h z => hdj _ z (rW_in h))
  have hPc : va_P D vwCl (cW adC cA (f_order σ (xs (i + 1)) (xs (i + 2)) (xs (i + 3)) (xs (i + 4))).2) H := hP
  refine tp_i (z := (f_order σ (xs (i + 1)) (xs (i + 2)) (xs (i + 3)) (xs (i + 4))).1) hw.1 ?_
  refine lv_aload_n hx hb dL_law_629 rfl (lv_at hl 3 rfl) ?_
  refine lv_aload_n hx hb dL_law_630 rfl (lv_at hl 1 rfl) ?_
  refine lv_iload_n hx hb dL_law_631 rfl (lv_at hl 0 rfl) ?_
  refine lv_iconst (v := 1) hx hb dL_law_632 (by decide) ?_
  refine lv_iadd hx hb dL_law_633 ?_
  refine tp_i (z := (nI (i + 1))) (nI_add i 1) ?_
  refine ld_s hx hb hX hbl hbA hS (j := (i + 1)) (by omega) hL dL_law_634 ?_
  refine lv_aload_n hx hb dL_law_635 rfl (lv_at hl 1 rfl) ?_
  refine lv_iload_n hx hb dL_law_636 rfl (lv_at hl 0 rfl) ?_
  refine lv_iconst (v := 2) hx hb dL_law_637 (by decide) ?_
  refine lv_iadd hx hb dL_law_638 ?_
  refine tp_i (z := (nI (i + 2))) (nI_add i 2) ?_
  refine ld_s hx hb hX hbl hbA hS (j := (i + 2)) (by omega) hL dL_law_639 ?_
  refine lv_aload_n hx hb dL_law_640 rfl (lv_at hl 1 rfl) ?_
  refine lv_iload_n hx hb dL_law_641 rfl (lv_at hl 0 rfl) ?_
  refine lv_iconst (v := 3) hx hb dL_law_642 (by decide) ?_
  refine lv_iadd hx hb dL_law_643 ?_
  refine tp_i (z := (nI (i + 3))) (nI_add i 3) ?_
  refine ld_s hx hb hX hbl hbA hS (j := (i + 3)) (by omega) hL dL_law_644 ?_
  refine lv_aload_n hx hb dL_law_645 rfl (lv_at hl 1 rfl) ?_
  refine lv_iload_n hx hb dL_law_646 rfl (lv_at hl 0 rfl) ?_
  refine lv_iconst (v := 4) hx hb dL_law_647 (by decide) ?_
  refine lv_iadd hx hb dL_law_648 ?_
  refine tp_i (z := (nI (i + 4))) (nI_add i 4) ?_
  refine ld_s hx hb hX hbl hbA hS (j := (i + 4)) (by omega) hL dL_law_649 ?_
  refine cl_i (rest := [.int (f_order σ (xs (i + 1)) (xs (i + 2)) (xs (i + 3)) (xs (i + 4))).1]) (c_X5_order l D cA adR (aR adR) hDr σ (xs (i + 1)) (xs (i + 2)) (xs (i + 3)) (xs (i + 4)) hI hg (by omega)) ⟨hx, hb, hml, hown, hts⟩ hK hPr hS kv_L_73 ⟨Nat.le_of_ble_eq_true rfl, Nat.le_of_ble_eq_true rfl⟩ ⟨Nat.le_of_ble_eq_true rfl, Nat.le_of_ble_eq_true rfl⟩ 0 rfl rfl rfl hl.1 rfl (Nat.le_of_ble_eq_true rfl) hRs dL_law_650 (fun r u H locs hw hP hS hk => ?_)
  rw [hw.2] at hP
  have hPc := keepW hPc hk (fun k q h z => hdj _ (cW_in h) z)
  have hPr : va_P D vwCl (rW adR cA (f_order σ (xs (i + 1)) (xs (i + 2)) (xs (i + 3)) (xs (i + 4))).2) H := hP
  refine tp_i (z := (f_order σ (xs (i + 1)) (xs (i + 2)) (xs (i + 3)) (xs (i + 4))).1) hw.1 ?_
  refine lv_icmp_eq (tgt := 825) hx hb dL_law_653 (by decide) (fun _ => ?_) (fun c9 => absurd rfl c9)
  exact next (f_order σ (xs (i + 1)) (xs (i + 2)) (xs (i + 3)) (xs (i + 4))).2 _ _ ls (gd_order hI hg) hPc hPr hS (lv_sub hl [0, 1, 2, 3] rfl)
set_option maxHeartbeats 4000000 in
set_option maxRecDepth 100000 in
theorem lw_c14 {p : Program} {l : Launch} {e : Env} {s : State} {m : MethodId} {below : List Frame} {meth : Method} {c : Code} {D : va_G} {cA : ClassId} {adC adR : Nat → Nat} {b L : Nat} {xs : Nat → Int32} (hL : L ≤ 2560) (C0 : lw_At p s m meth c b L xs) (X0 : lw_Cx D cA adC adR s) (i : Nat) (σ : CS) (H : Heap) (locs : List Loc) (ls : Array Slot) (hi : i + 5 ≤ L) (hI : Inv σ) (hg : sGr σ = 0) (hbc : sBc σ ≤ 60 * i) (hPc : va_P D vwCl (cW adC cA σ) H) (hPr : va_P D vwCl (rW adR cA σ) H) (hS : va_S (fun q : Nat => s.heap.size ≤ q) s.heap H locs) (hl : lv_has ls 4 [(3, .int (nI i)), (0, .ref b), (1, .ref (adC 0)), (2, .ref (adR 0))]) (next : ∀ (σ2 : CS) (H2 : Heap) (locs2 : List Loc) (ls2 : Array Slot), Gd σ σ2 → va_P D vwCl (cW adC cA σ2) H2 → va_P D vwCl (rW adR cA σ2) H2 → va_S (fun q : Nat => s.heap.size ≤ q) s.heap H2 locs2 → lv_has ls2 4 [(3, .int (nI i)), (0, .ref b), (1, .ref (adC 0)), (2, .ref (adR 0))] → W p l e room_1 s m #[Value.ref b] below meth c H2 locs2 35 1665 (lw_Z below #[Value.ref b] s) (F0 m 825 ls2 [])) : W p l e room_1 s m #[Value.ref b] below meth c H locs 35 1665 (lw_Z below #[Value.ref b] s) (F0 m 658 ls []) := by
  obtain ⟨hx, hb, hr, hml, hown, hts0, hX, hbl, hlocks, hgv⟩ := id C0
  obtain ⟨hK, hDc, hDr, hdj, hCs, hRs⟩ := id X0
  have hown : s.vm.findClass RL = some m.cls := hown
  have hts : ∀ w ∈ TG, w.before #[Value.ref b] s = true := fun w h => hts0 w (tg_sub w h)
  have hbA : ¬ (fun q : Nat => s.heap.size ≤ q) b := Nat.not_le.mpr hbl
  refine lv_aload_n hx hb dL_law_658 rfl (lv_at hl 2 rfl) ?_
  refine cl_i (rest := []) (c_X4_run l D cA adC (aC adC) hDc σ hI hg (by omega)) ⟨hx, hb, hml, hown, hts⟩ hK hPc hS kv_L_74 ⟨Nat.le_of_ble_eq_true rfl, Nat.le_of_ble_eq_true rfl⟩ ⟨Nat.le_of_ble_eq_true rfl, Nat.le_of_ble_eq_true rfl⟩ 0 rfl rfl rfl hl.1 rfl (Nat.le_of_ble_eq_true rfl) hCs dL_law_659 (fun r u H locs hw hP hS hk => ?_)
  rw [hw.2] at hP
  have hPr := keepW hPr hk (fun k q h z => hdj _ z (rW_in h))
  have hPc : va_P D vwCl (cW adC cA (f_run σ).2) H := hP
  refine tp_i (z := (f_run σ).1) hw.1 ?_
  refine lv_aload_n hx hb dL_law_662 rfl (lv_at hl 3 rfl) ?_
  refine cl_i (rest := [.int (f_run σ).1]) (c_X5_run l D cA adR (aR adR) hDr σ hI hg (by omega)) ⟨hx, hb, hml, hown, hts⟩ hK hPr hS kv_L_78 ⟨Nat.le_of_ble_eq_true rfl, Nat.le_of_ble_eq_true rfl⟩ ⟨Nat.le_of_ble_eq_true rfl, Nat.le_of_ble_eq_true rfl⟩ 0 rfl rfl rfl hl.1 rfl (Nat.le_of_ble_eq_true rfl) hRs dL_law_663 (fun r u H locs hw hP hS hk => ?_)
  rw [hw.2] at hP
  have hPc := keepW hPc hk (fun k q h z => hdj _ (cW_in h) z)
  have hPr : va_P D vwCl (rW adR cA (f_run σ).2) H := hP
  refine tp_i (z := (f_run σ).1) hw.1 ?_
  refine lv_icmp_eq (tgt := 825) hx hb dL_law_666 (by decide) (fun _ => ?_) (fun c9 => absurd rfl c9)
  exact next (f_run σ).2 _ _ ls (gd_run hI hg) hPc hPr hS (lv_sub hl [0, 1, 2, 3] rfl)
set_option maxHeartbeats 4000000 in
set_option maxRecDepth 100000 in
theorem lw_c15 {p : Program} {l : Launch} {e : Env} {s : State} {m : MethodId} {below : List Frame} {meth : Method} {c : Code} {D : va_G} {cA : ClassId} {adC adR : Nat → Nat} {b L : Nat} {xs : Nat → Int32} (hL : L ≤ 2560) (C0 : lw_At p s m meth c b L xs) (X0 : lw_Cx D cA adC adR s) (i : Nat) (σ : CS) (H : Heap) (locs : List Loc) (ls : Array Slot) (hi : i + 5 ≤ L) (hI : Inv σ) (hg : sGr σ = 0) (hbc : sBc σ ≤ 60 * i) (hPc : va_P D vwCl (cW adC cA σ) H) (hPr : va_P D vwCl (rW adR cA σ) H) (hS : va_S (fun q : Nat => s.heap.size ≤ q) s.heap H locs) (hl : lv_has ls 4 [(3, .int (nI i)), (0, .ref b), (1, .ref (adC 0)), (2, .ref (adR 0))]) (next : ∀ (σ2 : CS) (H2 : Heap) (locs2 : List Loc) (ls2 : Array Slot), Gd σ σ2 → va_P D vwCl (cW adC cA σ2) H2 → va_P D vwCl (rW adR cA σ2) H2 → va_S (fun q : Nat => s.heap.size ≤ q) s.heap H2 locs2 → lv_has ls2 4 [(3, .int (nI i)), (0, .ref b), (1, .ref (adC 0)), (2, .ref (adR 0))] → W p l e room_1 s m #[Value.ref b] below meth c H2 locs2 35 1665 (lw_Z below #[Value.ref b] s) (F0 m 825 ls2 [])) : W p l e room_1 s m #[Value.ref b] below meth c H locs 35 1665 (lw_Z below #[Value.ref b] s) (F0 m 671 ls []) := by
  obtain ⟨hx, hb, hr, hml, hown, hts0, hX, hbl, hlocks, hgv⟩ := id C0
  obtain ⟨hK, hDc, hDr, hdj, hCs, hRs⟩ := id X0
  have hown : s.vm.findClass RL = some m.cls := hown
  have hts : ∀ w ∈ TG, w.before #[Value.ref b] s = true := fun w h => hts0 w (tg_sub w h)
  have hbA : ¬ (fun q : Nat => s.heap.size ≤ q) b := Nat.not_le.mpr hbl
  refine lv_aload_n hx hb dL_law_671 rfl (lv_at hl 2 rfl) ?_
  refine lv_aload_n hx hb dL_law_672 rfl (lv_at hl 1 rfl) ?_
  refine lv_iload_n hx hb dL_law_673 rfl (lv_at hl 0 rfl) ?_
  refine lv_iconst (v := 1) hx hb dL_law_674 (by decide) ?_
  refine lv_iadd hx hb dL_law_675 ?_
  refine tp_i (z := (nI (i + 1))) (nI_add i 1) ?_
  refine ld_s hx hb hX hbl hbA hS (j := (i + 1)) (by omega) hL dL_law_676 ?_
  refine cl_i (rest := []) (c_X4_sum l D cA adC (aC adC) hDc σ (xs (i + 1)) hI hg (by omega)) ⟨hx, hb, hml, hown, hts⟩ hK hPc hS kv_L_79 ⟨Nat.le_of_ble_eq_true rfl, Nat.le_of_ble_eq_true rfl⟩ ⟨Nat.le_of_ble_eq_true rfl, Nat.le_of_ble_eq_true rfl⟩ 0 rfl rfl rfl hl.1 rfl (Nat.le_of_ble_eq_true rfl) hCs dL_law_677 (fun r u H locs hw hP hS hk => ?_)
  rw [hw.2] at hP
  have hPr := keepW hPr hk (fun k q h z => hdj _ z (rW_in h))
  have hPc : va_P D vwCl (cW adC cA σ) H := hP
  refine tp_i (z := (f_sum σ (xs (i + 1)))) hw.1 ?_
  refine lv_aload_n hx hb dL_law_680 rfl (lv_at hl 3 rfl) ?_
  refine lv_aload_n hx hb dL_law_681 rfl (lv_at hl 1 rfl) ?_
  refine lv_iload_n hx hb dL_law_682 rfl (lv_at hl 0 rfl) ?_
  refine lv_iconst (v := 1) hx hb dL_law_683 (by decide) ?_
  refine lv_iadd hx hb dL_law_684 ?_
  refine tp_i (z := (nI (i + 1))) (nI_add i 1) ?_
  refine ld_s hx hb hX hbl hbA hS (j := (i + 1)) (by omega) hL dL_law_685 ?_
  refine cl_i (rest := [.int (f_sum σ (xs (i + 1)))]) (c_X5_sum l D cA adR (aR adR) hDr σ (xs (i + 1)) hI hg (by omega)) ⟨hx, hb, hml, hown, hts⟩ hK hPr hS kv_L_82 ⟨Nat.le_of_ble_eq_true rfl, Nat.le_of_ble_eq_true rfl⟩ ⟨Nat.le_of_ble_eq_true rfl, Nat.le_of_ble_eq_true rfl⟩ 0 rfl rfl rfl hl.1 rfl (Nat.le_of_ble_eq_true rfl) hRs dL_law_686 (fun r u H locs hw hP hS hk => ?_)
  rw [hw.2] at hP
  have hPc := keepW hPc hk (fun k q h z => hdj _ (cW_in h) z)
  have hPr : va_P D vwCl (rW adR cA σ) H := hP
  refine tp_i (z := (f_sum σ (xs (i + 1)))) hw.1 ?_
  refine lv_icmp_eq (tgt := 825) hx hb dL_law_689 (by decide) (fun _ => ?_) (fun c9 => absurd rfl c9)
  exact next σ _ _ ls (Gd.rf hI hg) hPc hPr hS (lv_sub hl [0, 1, 2, 3] rfl)
set_option maxHeartbeats 4000000 in
set_option maxRecDepth 100000 in
theorem lw_c16 {p : Program} {l : Launch} {e : Env} {s : State} {m : MethodId} {below : List Frame} {meth : Method} {c : Code} {D : va_G} {cA : ClassId} {adC adR : Nat → Nat} {b L : Nat} {xs : Nat → Int32} (hL : L ≤ 2560) (C0 : lw_At p s m meth c b L xs) (X0 : lw_Cx D cA adC adR s) (i : Nat) (σ : CS) (H : Heap) (locs : List Loc) (ls : Array Slot) (hi : i + 5 ≤ L) (hI : Inv σ) (hg : sGr σ = 0) (hbc : sBc σ ≤ 60 * i) (hPc : va_P D vwCl (cW adC cA σ) H) (hPr : va_P D vwCl (rW adR cA σ) H) (hS : va_S (fun q : Nat => s.heap.size ≤ q) s.heap H locs) (hl : lv_has ls 4 [(3, .int (nI i)), (0, .ref b), (1, .ref (adC 0)), (2, .ref (adR 0))]) (next : ∀ (σ2 : CS) (H2 : Heap) (locs2 : List Loc) (ls2 : Array Slot), Gd σ σ2 → va_P D vwCl (cW adC cA σ2) H2 → va_P D vwCl (rW adR cA σ2) H2 → va_S (fun q : Nat => s.heap.size ≤ q) s.heap H2 locs2 → lv_has ls2 4 [(3, .int (nI i)), (0, .ref b), (1, .ref (adC 0)), (2, .ref (adR 0))] → W p l e room_1 s m #[Value.ref b] below meth c H2 locs2 35 1665 (lw_Z below #[Value.ref b] s) (F0 m 825 ls2 [])) : W p l e room_1 s m #[Value.ref b] below meth c H locs 35 1665 (lw_Z below #[Value.ref b] s) (F0 m 694 ls []) := by
  obtain ⟨hx, hb, hr, hml, hown, hts0, hX, hbl, hlocks, hgv⟩ := id C0
  obtain ⟨hK, hDc, hDr, hdj, hCs, hRs⟩ := id X0
  have hown : s.vm.findClass RL = some m.cls := hown
  have hts : ∀ w ∈ TG, w.before #[Value.ref b] s = true := fun w h => hts0 w (tg_sub w h)
  have hbA : ¬ (fun q : Nat => s.heap.size ≤ q) b := Nat.not_le.mpr hbl
  refine lv_aload_n hx hb dL_law_694 rfl (lv_at hl 2 rfl) ?_
  refine lv_aload_n hx hb dL_law_695 rfl (lv_at hl 1 rfl) ?_
  refine lv_iload_n hx hb dL_law_696 rfl (lv_at hl 0 rfl) ?_
  refine lv_iconst (v := 1) hx hb dL_law_697 (by decide) ?_
  refine lv_iadd hx hb dL_law_698 ?_
  refine tp_i (z := (nI (i + 1))) (nI_add i 1) ?_
  refine ld_s hx hb hX hbl hbA hS (j := (i + 1)) (by omega) hL dL_law_699 ?_
  refine lv_aload_n hx hb dL_law_700 rfl (lv_at hl 1 rfl) ?_
  refine lv_iload_n hx hb dL_law_701 rfl (lv_at hl 0 rfl) ?_
  refine lv_iconst (v := 2) hx hb dL_law_702 (by decide) ?_
  refine lv_iadd hx hb dL_law_703 ?_
  refine tp_i (z := (nI (i + 2))) (nI_add i 2) ?_
  refine ld_s hx hb hX hbl hbA hS (j := (i + 2)) (by omega) hL dL_law_704 ?_
  refine cl_i (rest := []) (c_X4_hung l D cA adC (aC adC) hDc σ (xs (i + 1)) (xs (i + 2)) hI hg (by omega)) ⟨hx, hb, hml, hown, hts⟩ hK hPc hS kv_L_83 ⟨Nat.le_of_ble_eq_true rfl, Nat.le_of_ble_eq_true rfl⟩ ⟨Nat.le_of_ble_eq_true rfl, Nat.le_of_ble_eq_true rfl⟩ 0 rfl rfl rfl hl.1 rfl (Nat.le_of_ble_eq_true rfl) hCs dL_law_705 (fun r u H locs hw hP hS hk => ?_)
  rw [hw.2] at hP
  have hPr := keepW hPr hk (fun k q h z => hdj _ z (rW_in h))
  have hPc : va_P D vwCl (cW adC cA σ) H := hP
  refine tp_i (z := (f_hung σ (xs (i + 1)) (xs (i + 2)))) hw.1 ?_
  refine lv_aload_n hx hb dL_law_708 rfl (lv_at hl 3 rfl) ?_
  refine lv_aload_n hx hb dL_law_709 rfl (lv_at hl 1 rfl) ?_
  refine lv_iload_n hx hb dL_law_710 rfl (lv_at hl 0 rfl) ?_
  refine lv_iconst (v := 1) hx hb dL_law_711 (by decide) ?_
  refine lv_iadd hx hb dL_law_712 ?_
  refine tp_i (z := (nI (i + 1))) (nI_add i 1) ?_
  refine ld_s hx hb hX hbl hbA hS (j := (i + 1)) (by omega) hL dL_law_713 ?_
  refine lv_aload_n hx hb dL_law_714 rfl (lv_at hl 1 rfl) ?_
  refine lv_iload_n hx hb dL_law_715 rfl (lv_at hl 0 rfl) ?_
  refine lv_iconst (v := 2) hx hb dL_law_716 (by decide) ?_
  refine lv_iadd hx hb dL_law_717 ?_
  refine tp_i (z := (nI (i + 2))) (nI_add i 2) ?_
  refine ld_s hx hb hX hbl hbA hS (j := (i + 2)) (by omega) hL dL_law_718 ?_
  refine cl_i (rest := [.int (f_hung σ (xs (i + 1)) (xs (i + 2)))]) (c_X5_hung l D cA adR (aR adR) hDr σ (xs (i + 1)) (xs (i + 2)) hI hg (by omega)) ⟨hx, hb, hml, hown, hts⟩ hK hPr hS kv_L_86 ⟨Nat.le_of_ble_eq_true rfl, Nat.le_of_ble_eq_true rfl⟩ ⟨Nat.le_of_ble_eq_true rfl, Nat.le_of_ble_eq_true rfl⟩ 0 rfl rfl rfl hl.1 rfl (Nat.le_of_ble_eq_true rfl) hRs dL_law_719 (fun r u H locs hw hP hS hk => ?_)
  rw [hw.2] at hP
  have hPc := keepW hPc hk (fun k q h z => hdj _ (cW_in h) z)
  have hPr : va_P D vwCl (rW adR cA σ) H := hP
  refine tp_i (z := (f_hung σ (xs (i + 1)) (xs (i + 2)))) hw.1 ?_
  refine lv_icmp_eq (tgt := 825) hx hb dL_law_722 (by decide) (fun _ => ?_) (fun c9 => absurd rfl c9)
  exact next σ _ _ ls (Gd.rf hI hg) hPc hPr hS (lv_sub hl [0, 1, 2, 3] rfl)
set_option maxHeartbeats 4000000 in
set_option maxRecDepth 100000 in
theorem lw_c17 {p : Program} {l : Launch} {e : Env} {s : State} {m : MethodId} {below : List Frame} {meth : Method} {c : Code} {D : va_G} {cA : ClassId} {adC adR : Nat → Nat} {b L : Nat} {xs : Nat → Int32} (hL : L ≤ 2560) (C0 : lw_At p s m meth c b L xs) (X0 : lw_Cx D cA adC adR s) (i : Nat) (σ : CS) (H : Heap) (locs : List Loc) (ls : Array Slot) (hi : i + 5 ≤ L) (hI : Inv σ) (hg : sGr σ = 0) (hbc : sBc σ ≤ 60 * i) (hPc : va_P D vwCl (cW adC cA σ) H) (hPr : va_P D vwCl (rW adR cA σ) H) (hS : va_S (fun q : Nat => s.heap.size ≤ q) s.heap H locs) (hl : lv_has ls 4 [(3, .int (nI i)), (0, .ref b), (1, .ref (adC 0)), (2, .ref (adR 0))]) (next : ∀ (σ2 : CS) (H2 : Heap) (locs2 : List Loc) (ls2 : Array Slot), Gd σ σ2 → va_P D vwCl (cW adC cA σ2) H2 → va_P D vwCl (rW adR cA σ2) H2 → va_S (fun q : Nat => s.heap.size ≤ q) s.heap H2 locs2 → lv_has ls2 4 [(3, .int (nI i)), (0, .ref b), (1, .ref (adC 0)), (2, .ref (adR 0))] → W p l e room_1 s m #[Value.ref b] below meth c H2 locs2 35 1665 (lw_Z below #[Value.ref b] s) (F0 m 825 ls2 [])) : W p l e room_1 s m #[Value.ref b] below meth c H locs 35 1665 (lw_Z below #[Value.ref b] s) (F0 m 727 ls []) := by
  obtain ⟨hx, hb, hr, hml, hown, hts0, hX, hbl, hlocks, hgv⟩ := id C0
  obtain ⟨hK, hDc, hDr, hdj, hCs, hRs⟩ := id X0
  have hown : s.vm.findClass RL = some m.cls := hown
  have hts : ∀ w ∈ TG, w.before #[Value.ref b] s = true := fun w h => hts0 w (tg_sub w h)
  have hbA : ¬ (fun q : Nat => s.heap.size ≤ q) b := Nat.not_le.mpr hbl
  refine lv_aload_n hx hb dL_law_727 rfl (lv_at hl 2 rfl) ?_
  refine lv_aload_n hx hb dL_law_728 rfl (lv_at hl 1 rfl) ?_
  refine lv_iload_n hx hb dL_law_729 rfl (lv_at hl 0 rfl) ?_
  refine lv_iconst (v := 1) hx hb dL_law_730 (by decide) ?_
  refine lv_iadd hx hb dL_law_731 ?_
  refine tp_i (z := (nI (i + 1))) (nI_add i 1) ?_
  refine ld_s hx hb hX hbl hbA hS (j := (i + 1)) (by omega) hL dL_law_732 ?_
  refine cl_i (rest := []) (c_X4_wear l D cA adC (aC adC) hDc σ (xs (i + 1)) hI hg (by omega)) ⟨hx, hb, hml, hown, hts⟩ hK hPc hS kv_L_87 ⟨Nat.le_of_ble_eq_true rfl, Nat.le_of_ble_eq_true rfl⟩ ⟨Nat.le_of_ble_eq_true rfl, Nat.le_of_ble_eq_true rfl⟩ 0 rfl rfl rfl hl.1 rfl (Nat.le_of_ble_eq_true rfl) hCs dL_law_733 (fun r u H locs hw hP hS hk => ?_)
  rw [hw.2] at hP
  have hPr := keepW hPr hk (fun k q h z => hdj _ z (rW_in h))
  have hPc : va_P D vwCl (cW adC cA σ) H := hP
  refine tp_i (z := (f_wear σ (xs (i + 1)))) hw.1 ?_
  refine lv_aload_n hx hb dL_law_736 rfl (lv_at hl 3 rfl) ?_
  refine lv_aload_n hx hb dL_law_737 rfl (lv_at hl 1 rfl) ?_
  refine lv_iload_n hx hb dL_law_738 rfl (lv_at hl 0 rfl) ?_
  refine lv_iconst (v := 1) hx hb dL_law_739 (by decide) ?_
  refine lv_iadd hx hb dL_law_740 ?_
  refine tp_i (z := (nI (i + 1))) (nI_add i 1) ?_
  refine ld_s hx hb hX hbl hbA hS (j := (i + 1)) (by omega) hL dL_law_741 ?_
  refine cl_i (rest := [.int (f_wear σ (xs (i + 1)))]) (c_X5_wear l D cA adR (aR adR) hDr σ (xs (i + 1)) hI hg (by omega)) ⟨hx, hb, hml, hown, hts⟩ hK hPr hS kv_L_90 ⟨Nat.le_of_ble_eq_true rfl, Nat.le_of_ble_eq_true rfl⟩ ⟨Nat.le_of_ble_eq_true rfl, Nat.le_of_ble_eq_true rfl⟩ 0 rfl rfl rfl hl.1 rfl (Nat.le_of_ble_eq_true rfl) hRs dL_law_742 (fun r u H locs hw hP hS hk => ?_)
  rw [hw.2] at hP
  have hPc := keepW hPc hk (fun k q h z => hdj _ (cW_in h) z)
  have hPr : va_P D vwCl (rW adR cA σ) H := hP
  refine tp_i (z := (f_wear σ (xs (i + 1)))) hw.1 ?_
  refine lv_icmp_eq (tgt := 825) hx hb dL_law_745 (by decide) (fun _ => ?_) (fun c9 => absurd rfl c9)
  exact next σ _ _ ls (Gd.rf hI hg) hPc hPr hS (lv_sub hl [0, 1, 2, 3] rfl)
set_option maxHeartbeats 4000000 in
set_option maxRecDepth 100000 in
theorem lw_c18 {p : Program} {l : Launch} {e : Env} {s : State} {m : MethodId} {below : List Frame} {meth : Method} {c : Code} {D : va_G} {cA : ClassId} {adC adR : Nat → Nat} {b L : Nat} {xs : Nat → Int32} (hL : L ≤ 2560) (C0 : lw_At p s m meth c b L xs) (X0 : lw_Cx D cA adC adR s) (i : Nat) (σ : CS) (H : Heap) (locs : List Loc) (ls : Array Slot) (hi : i + 5 ≤ L) (hI : Inv σ) (hg : sGr σ = 0) (hbc : sBc σ ≤ 60 * i) (hPc : va_P D vwCl (cW adC cA σ) H) (hPr : va_P D vwCl (rW adR cA σ) H) (hS : va_S (fun q : Nat => s.heap.size ≤ q) s.heap H locs) (hl : lv_has ls 4 [(3, .int (nI i)), (0, .ref b), (1, .ref (adC 0)), (2, .ref (adR 0))]) (next : ∀ (σ2 : CS) (H2 : Heap) (locs2 : List Loc) (ls2 : Array Slot), Gd σ σ2 → va_P D vwCl (cW adC cA σ2) H2 → va_P D vwCl (rW adR cA σ2) H2 → va_S (fun q : Nat => s.heap.size ≤ q) s.heap H2 locs2 → lv_has ls2 4 [(3, .int (nI i)), (0, .ref b), (1, .ref (adC 0)), (2, .ref (adR 0))] → W p l e room_1 s m #[Value.ref b] below meth c H2 locs2 35 1665 (lw_Z below #[Value.ref b] s) (F0 m 825 ls2 [])) : W p l e room_1 s m #[Value.ref b] below meth c H locs 35 1665 (lw_Z below #[Value.ref b] s) (F0 m 750 ls []) := by
  obtain ⟨hx, hb, hr, hml, hown, hts0, hX, hbl, hlocks, hgv⟩ := id C0
  obtain ⟨hK, hDc, hDr, hdj, hCs, hRs⟩ := id X0
  have hown : s.vm.findClass RL = some m.cls := hown
  have hts : ∀ w ∈ TG, w.before #[Value.ref b] s = true := fun w h => hts0 w (tg_sub w h)
  have hbA : ¬ (fun q : Nat => s.heap.size ≤ q) b := Nat.not_le.mpr hbl
  refine lv_aload_n hx hb dL_law_750 rfl (lv_at hl 2 rfl) ?_
  refine cl_i (rest := []) (c_X4_entries l D cA adC (aC adC) hDc σ hI hg (by omega)) ⟨hx, hb, hml, hown, hts⟩ hK hPc hS kv_L_91 ⟨Nat.le_of_ble_eq_true rfl, Nat.le_of_ble_eq_true rfl⟩ ⟨Nat.le_of_ble_eq_true rfl, Nat.le_of_ble_eq_true rfl⟩ 0 rfl rfl rfl hl.1 rfl (Nat.le_of_ble_eq_true rfl) hCs dL_law_751 (fun r u H locs hw hP hS hk => ?_)
  rw [hw.2] at hP
  have hPr := keepW hPr hk (fun k q h z => hdj _ z (rW_in h))
  have hPc : va_P D vwCl (cW adC cA σ) H := hP
  refine tp_i (z := (nI (sBc σ))) hw.1 ?_
  refine lv_aload_n hx hb dL_law_754 rfl (lv_at hl 3 rfl) ?_
  refine cl_i (rest := [.int (nI (sBc σ))]) (c_X5_entries l D cA adR (aR adR) hDr σ hI hg (by omega)) ⟨hx, hb, hml, hown, hts⟩ hK hPr hS kv_L_94 ⟨Nat.le_of_ble_eq_true rfl, Nat.le_of_ble_eq_true rfl⟩ ⟨Nat.le_of_ble_eq_true rfl, Nat.le_of_ble_eq_true rfl⟩ 0 rfl rfl rfl hl.1 rfl (Nat.le_of_ble_eq_true rfl) hRs dL_law_755 (fun r u H locs hw hP hS hk => ?_)
  rw [hw.2] at hP
  have hPc := keepW hPc hk (fun k q h z => hdj _ (cW_in h) z)
  have hPr : va_P D vwCl (rW adR cA σ) H := hP
  refine tp_i (z := (nI (sBc σ))) hw.1 ?_
  refine lv_icmp_eq (tgt := 825) hx hb dL_law_758 (by decide) (fun _ => ?_) (fun c9 => absurd rfl c9)
  exact next σ _ _ ls (Gd.rf hI hg) hPc hPr hS (lv_sub hl [0, 1, 2, 3] rfl)
set_option maxHeartbeats 4000000 in
set_option maxRecDepth 100000 in
theorem lw_c19 {p : Program} {l : Launch} {e : Env} {s : State} {m : MethodId} {below : List Frame} {meth : Method} {c : Code} {D : va_G} {cA : ClassId} {adC adR : Nat → Nat} {b L : Nat} {xs : Nat → Int32} (hL : L ≤ 2560) (C0 : lw_At p s m meth c b L xs) (X0 : lw_Cx D cA adC adR s) (i : Nat) (σ : CS) (H : Heap) (locs : List Loc) (ls : Array Slot) (hi : i + 5 ≤ L) (hI : Inv σ) (hg : sGr σ = 0) (hbc : sBc σ ≤ 60 * i) (hPc : va_P D vwCl (cW adC cA σ) H) (hPr : va_P D vwCl (rW adR cA σ) H) (hS : va_S (fun q : Nat => s.heap.size ≤ q) s.heap H locs) (hl : lv_has ls 4 [(3, .int (nI i)), (0, .ref b), (1, .ref (adC 0)), (2, .ref (adR 0))]) (next : ∀ (σ2 : CS) (H2 : Heap) (locs2 : List Loc) (ls2 : Array Slot), Gd σ σ2 → va_P D vwCl (cW adC cA σ2) H2 → va_P D vwCl (rW adR cA σ2) H2 → va_S (fun q : Nat => s.heap.size ≤ q) s.heap H2 locs2 → lv_has ls2 4 [(3, .int (nI i)), (0, .ref b), (1, .ref (adC 0)), (2, .ref (adR 0))] → W p l e room_1 s m #[Value.ref b] below meth c H2 locs2 35 1665 (lw_Z below #[Value.ref b] s) (F0 m 825 ls2 [])) : W p l e room_1 s m #[Value.ref b] below meth c H locs 35 1665 (lw_Z below #[Value.ref b] s) (F0 m 763 ls []) := by
  obtain ⟨hx, hb, hr, hml, hown, hts0, hX, hbl, hlocks, hgv⟩ := id C0
  obtain ⟨hK, hDc, hDr, hdj, hCs, hRs⟩ := id X0
  have hown : s.vm.findClass RL = some m.cls := hown
  have hts : ∀ w ∈ TG, w.before #[Value.ref b] s = true := fun w h => hts0 w (tg_sub w h)
  have hbA : ¬ (fun q : Nat => s.heap.size ≤ q) b := Nat.not_le.mpr hbl
  refine lv_aload_n hx hb dL_law_763 rfl (lv_at hl 2 rfl) ?_
  refine lv_aload_n hx hb dL_law_764 rfl (lv_at hl 1 rfl) ?_
  refine lv_iload_n hx hb dL_law_765 rfl (lv_at hl 0 rfl) ?_
  refine lv_iconst (v := 1) hx hb dL_law_766 (by decide) ?_
  refine lv_iadd hx hb dL_law_767 ?_
  refine tp_i (z := (nI (i + 1))) (nI_add i 1) ?_
  refine ld_s hx hb hX hbl hbA hS (j := (i + 1)) (by omega) hL dL_law_768 ?_
  refine cl_i (rest := []) (c_X4_entry l D cA adC (aC adC) hDc σ (xs (i + 1)) hI hg (by omega)) ⟨hx, hb, hml, hown, hts⟩ hK hPc hS kv_L_95 ⟨Nat.le_of_ble_eq_true rfl, Nat.le_of_ble_eq_true rfl⟩ ⟨Nat.le_of_ble_eq_true rfl, Nat.le_of_ble_eq_true rfl⟩ 0 rfl rfl rfl hl.1 rfl (Nat.le_of_ble_eq_true rfl) hCs dL_law_769 (fun r u H locs hw hP hS hk => ?_)
  rw [hw.2] at hP
  have hPr := keepW hPr hk (fun k q h z => hdj _ z (rW_in h))
  have hPc : va_P D vwCl (cW adC cA σ) H := hP
  refine tp_i (z := (f_entry σ (xs (i + 1)))) hw.1 ?_
  refine lv_aload_n hx hb dL_law_772 rfl (lv_at hl 3 rfl) ?_
  refine lv_aload_n hx hb dL_law_773 rfl (lv_at hl 1 rfl) ?_
  refine lv_iload_n hx hb dL_law_774 rfl (lv_at hl 0 rfl) ?_
  refine lv_iconst (v := 1) hx hb dL_law_775 (by decide) ?_
  refine lv_iadd hx hb dL_law_776 ?_
  refine tp_i (z := (nI (i + 1))) (nI_add i 1) ?_
  refine ld_s hx hb hX hbl hbA hS (j := (i + 1)) (by omega) hL dL_law_777 ?_
  refine cl_i (rest := [.int (f_entry σ (xs (i + 1)))]) (c_X5_entry l D cA adR (aR adR) hDr σ (xs (i + 1)) (by omega)) ⟨hx, hb, hml, hown, hts⟩ hK hPr hS kv_L_98 ⟨Nat.le_of_ble_eq_true rfl, Nat.le_of_ble_eq_true rfl⟩ ⟨Nat.le_of_ble_eq_true rfl, Nat.le_of_ble_eq_true rfl⟩ 0 rfl rfl rfl hl.1 rfl (Nat.le_of_ble_eq_true rfl) hRs dL_law_778 (fun r u H locs hw hP hS hk => ?_)
  rw [hw.2] at hP
  have hPc := keepW hPc hk (fun k q h z => hdj _ (cW_in h) z)
  have hPr : va_P D vwCl (rW adR cA σ) H := hP
  refine tp_i (z := (f_entry σ (xs (i + 1)))) hw.1 ?_
  refine lv_icmp_eq (tgt := 825) hx hb dL_law_781 (by decide) (fun _ => ?_) (fun c9 => absurd rfl c9)
  exact next σ _ _ ls (Gd.rf hI hg) hPc hPr hS (lv_sub hl [0, 1, 2, 3] rfl)
set_option maxHeartbeats 4000000 in
set_option maxRecDepth 100000 in
theorem lw_c20 {p : Program} {l : Launch} {e : Env} {s : State} {m : MethodId} {below : List Frame} {meth : Method} {c : Code} {D : va_G} {cA : ClassId} {adC adR : Nat → Nat} {b L : Nat} {xs : Nat → Int32} (hL : L ≤ 2560) (C0 : lw_At p s m meth c b L xs) (X0 : lw_Cx D cA adC adR s) (i : Nat) (σ : CS) (H : Heap) (locs : List Loc) (ls : Array Slot) (hi : i + 5 ≤ L) (hI : Inv σ) (hg : sGr σ = 0) (hbc : sBc σ ≤ 60 * i) (hPc : va_P D vwCl (cW adC cA σ) H) (hPr : va_P D vwCl (rW adR cA σ) H) (hS : va_S (fun q : Nat => s.heap.size ≤ q) s.heap H locs) (hl : lv_has ls 4 [(3, .int (nI i)), (0, .ref b), (1, .ref (adC 0)), (2, .ref (adR 0))]) (next : ∀ (σ2 : CS) (H2 : Heap) (locs2 : List Loc) (ls2 : Array Slot), Gd σ σ2 → va_P D vwCl (cW adC cA σ2) H2 → va_P D vwCl (rW adR cA σ2) H2 → va_S (fun q : Nat => s.heap.size ≤ q) s.heap H2 locs2 → lv_has ls2 4 [(3, .int (nI i)), (0, .ref b), (1, .ref (adC 0)), (2, .ref (adR 0))] → W p l e room_1 s m #[Value.ref b] below meth c H2 locs2 35 1665 (lw_Z below #[Value.ref b] s) (F0 m 825 ls2 [])) : W p l e room_1 s m #[Value.ref b] below meth c H locs 35 1665 (lw_Z below #[Value.ref b] s) (F0 m 786 ls []) := by
  obtain ⟨hx, hb, hr, hml, hown, hts0, hX, hbl, hlocks, hgv⟩ := id C0
  obtain ⟨hK, hDc, hDr, hdj, hCs, hRs⟩ := id X0
  have hown : s.vm.findClass RL = some m.cls := hown
  have hts : ∀ w ∈ TG, w.before #[Value.ref b] s = true := fun w h => hts0 w (tg_sub w h)
  have hbA : ¬ (fun q : Nat => s.heap.size ≤ q) b := Nat.not_le.mpr hbl
  refine lv_aload_n hx hb dL_law_786 rfl (lv_at hl 2 rfl) ?_
  refine cl_i (rest := []) (c_X4_clear l D cA adC (aC adC) hDc σ hI hg (by omega)) ⟨hx, hb, hml, hown, hts⟩ hK hPc hS kv_L_99 ⟨Nat.le_of_ble_eq_true rfl, Nat.le_of_ble_eq_true rfl⟩ ⟨Nat.le_of_ble_eq_true rfl, Nat.le_of_ble_eq_true rfl⟩ 0 rfl rfl rfl hl.1 rfl (Nat.le_of_ble_eq_true rfl) hCs dL_law_787 (fun r u H locs hw hP hS hk => ?_)
  rw [hw.2] at hP
  have hPr := keepW hPr hk (fun k q h z => hdj _ z (rW_in h))
  have hPc : va_P D vwCl (cW adC cA (sbc σ 0)) H := hP
  refine tp_i (z := (nI (sBc σ))) hw.1 ?_
  refine lv_aload_n hx hb dL_law_790 rfl (lv_at hl 3 rfl) ?_
  refine cl_i (rest := [.int (nI (sBc σ))]) (c_X5_clear l D cA adR (aR adR) hDr σ hI hg (by omega)) ⟨hx, hb, hml, hown, hts⟩ hK hPr hS kv_L_102 ⟨Nat.le_of_ble_eq_true rfl, Nat.le_of_ble_eq_true rfl⟩ ⟨Nat.le_of_ble_eq_true rfl, Nat.le_of_ble_eq_true rfl⟩ 0 rfl rfl rfl hl.1 rfl (Nat.le_of_ble_eq_true rfl) hRs dL_law_791 (fun r u H locs hw hP hS hk => ?_)
  rw [hw.2] at hP
  have hPc := keepW hPc hk (fun k q h z => hdj _ (cW_in h) z)
  have hPr : va_P D vwCl (rW adR cA (sbc σ 0)) H := hP
  refine tp_i (z := (nI (sBc σ))) hw.1 ?_
  refine lv_icmp_eq (tgt := 825) hx hb dL_law_794 (by decide) (fun _ => ?_) (fun c9 => absurd rfl c9)
  exact next (sbc σ 0) _ _ ls (gd_clear hI hg) hPc hPr hS (lv_sub hl [0, 1, 2, 3] rfl)
set_option maxHeartbeats 4000000 in
set_option maxRecDepth 100000 in
theorem lw_c21 {p : Program} {l : Launch} {e : Env} {s : State} {m : MethodId} {below : List Frame} {meth : Method} {c : Code} {D : va_G} {cA : ClassId} {adC adR : Nat → Nat} {b L : Nat} {xs : Nat → Int32} (hL : L ≤ 2560) (C0 : lw_At p s m meth c b L xs) (X0 : lw_Cx D cA adC adR s) (i : Nat) (σ : CS) (H : Heap) (locs : List Loc) (ls : Array Slot) (hi : i + 5 ≤ L) (hI : Inv σ) (hg : sGr σ = 0) (hbc : sBc σ ≤ 60 * i) (hPc : va_P D vwCl (cW adC cA σ) H) (hPr : va_P D vwCl (rW adR cA σ) H) (hS : va_S (fun q : Nat => s.heap.size ≤ q) s.heap H locs) (hl : lv_has ls 4 [(3, .int (nI i)), (0, .ref b), (1, .ref (adC 0)), (2, .ref (adR 0))]) (next : ∀ (σ2 : CS) (H2 : Heap) (locs2 : List Loc) (ls2 : Array Slot), Gd σ σ2 → va_P D vwCl (cW adC cA σ2) H2 → va_P D vwCl (rW adR cA σ2) H2 → va_S (fun q : Nat => s.heap.size ≤ q) s.heap H2 locs2 → lv_has ls2 4 [(3, .int (nI i)), (0, .ref b), (1, .ref (adC 0)), (2, .ref (adR 0))] → W p l e room_1 s m #[Value.ref b] below meth c H2 locs2 35 1665 (lw_Z below #[Value.ref b] s) (F0 m 825 ls2 [])) : W p l e room_1 s m #[Value.ref b] below meth c H locs 35 1665 (lw_Z below #[Value.ref b] s) (F0 m 799 ls []) := by
  obtain ⟨hx, hb, hr, hml, hown, hts0, hX, hbl, hlocks, hgv⟩ := id C0
  obtain ⟨hK, hDc, hDr, hdj, hCs, hRs⟩ := id X0
  have hown : s.vm.findClass RL = some m.cls := hown
  have hts : ∀ w ∈ TG, w.before #[Value.ref b] s = true := fun w h => hts0 w (tg_sub w h)
  have hbA : ¬ (fun q : Nat => s.heap.size ≤ q) b := Nat.not_le.mpr hbl
  refine lv_aload_n hx hb dL_law_799 rfl (lv_at hl 2 rfl) ?_
  refine cl_i (rest := []) (c_X4_alarms l D cA adC (aC adC) hDc σ hI hg (by omega)) ⟨hx, hb, hml, hown, hts⟩ hK hPc hS kv_L_103 ⟨Nat.le_of_ble_eq_true rfl, Nat.le_of_ble_eq_true rfl⟩ ⟨Nat.le_of_ble_eq_true rfl, Nat.le_of_ble_eq_true rfl⟩ 0 rfl rfl rfl hl.1 rfl (Nat.le_of_ble_eq_true rfl) hCs dL_law_800 (fun r u H locs hw hP hS hk => ?_)
  rw [hw.2] at hP
  have hPr := keepW hPr hk (fun k q h z => hdj _ z (rW_in h))
  have hPc : va_P D vwCl (cW adC cA σ) H := hP
  refine tp_i (z := (sAl σ)) hw.1 ?_
  refine lv_aload_n hx hb dL_law_803 rfl (lv_at hl 3 rfl) ?_
  refine cl_i (rest := [.int (sAl σ)]) (c_X5_alarms l D cA adR (aR adR) hDr σ hI hg (by omega)) ⟨hx, hb, hml, hown, hts⟩ hK hPr hS kv_L_106 ⟨Nat.le_of_ble_eq_true rfl, Nat.le_of_ble_eq_true rfl⟩ ⟨Nat.le_of_ble_eq_true rfl, Nat.le_of_ble_eq_true rfl⟩ 0 rfl rfl rfl hl.1 rfl (Nat.le_of_ble_eq_true rfl) hRs dL_law_804 (fun r u H locs hw hP hS hk => ?_)
  rw [hw.2] at hP
  have hPc := keepW hPc hk (fun k q h z => hdj _ (cW_in h) z)
  have hPr : va_P D vwCl (rW adR cA σ) H := hP
  refine tp_i (z := (sAl σ)) hw.1 ?_
  refine lv_icmp_eq (tgt := 825) hx hb dL_law_807 (by decide) (fun _ => ?_) (fun c9 => absurd rfl c9)
  exact next σ _ _ ls (Gd.rf hI hg) hPc hPr hS (lv_sub hl [0, 1, 2, 3] rfl)
set_option maxHeartbeats 4000000 in
set_option maxRecDepth 100000 in
theorem lw_c22 {p : Program} {l : Launch} {e : Env} {s : State} {m : MethodId} {below : List Frame} {meth : Method} {c : Code} {D : va_G} {cA : ClassId} {adC adR : Nat → Nat} {b L : Nat} {xs : Nat → Int32} (hL : L ≤ 2560) (C0 : lw_At p s m meth c b L xs) (X0 : lw_Cx D cA adC adR s) (i : Nat) (σ : CS) (H : Heap) (locs : List Loc) (ls : Array Slot) (hi : i + 5 ≤ L) (hI : Inv σ) (hg : sGr σ = 0) (hbc : sBc σ ≤ 60 * i) (hPc : va_P D vwCl (cW adC cA σ) H) (hPr : va_P D vwCl (rW adR cA σ) H) (hS : va_S (fun q : Nat => s.heap.size ≤ q) s.heap H locs) (hl : lv_has ls 4 [(3, .int (nI i)), (0, .ref b), (1, .ref (adC 0)), (2, .ref (adR 0))]) (next : ∀ (σ2 : CS) (H2 : Heap) (locs2 : List Loc) (ls2 : Array Slot), Gd σ σ2 → va_P D vwCl (cW adC cA σ2) H2 → va_P D vwCl (rW adR cA σ2) H2 → va_S (fun q : Nat => s.heap.size ≤ q) s.heap H2 locs2 → lv_has ls2 4 [(3, .int (nI i)), (0, .ref b), (1, .ref (adC 0)), (2, .ref (adR 0))] → W p l e room_1 s m #[Value.ref b] below meth c H2 locs2 35 1665 (lw_Z below #[Value.ref b] s) (F0 m 825 ls2 [])) : W p l e room_1 s m #[Value.ref b] below meth c H locs 35 1665 (lw_Z below #[Value.ref b] s) (F0 m 812 ls []) := by
  obtain ⟨hx, hb, hr, hml, hown, hts0, hX, hbl, hlocks, hgv⟩ := id C0
  obtain ⟨hK, hDc, hDr, hdj, hCs, hRs⟩ := id X0
  have hown : s.vm.findClass RL = some m.cls := hown
  have hts : ∀ w ∈ TG, w.before #[Value.ref b] s = true := fun w h => hts0 w (tg_sub w h)
  have hbA : ¬ (fun q : Nat => s.heap.size ≤ q) b := Nat.not_le.mpr hbl
  refine lv_aload_n hx hb dL_law_812 rfl (lv_at hl 2 rfl) ?_
  refine cl_i (rest := []) (c_X4_orders l D cA adC (aC adC) hDc σ hI hg (by omega)) ⟨hx, hb, hml, hown, hts⟩ hK hPc hS kv_L_107 ⟨Nat.le_of_ble_eq_true rfl, Nat.le_of_ble_eq_true rfl⟩ ⟨Nat.le_of_ble_eq_true rfl, Nat.le_of_ble_eq_true rfl⟩ 0 rfl rfl rfl hl.1 rfl (Nat.le_of_ble_eq_true rfl) hCs dL_law_813 (fun r u H locs hw hP hS hk => ?_)
  rw [hw.2] at hP
  have hPr := keepW hPr hk (fun k q h z => hdj _ z (rW_in h))
  have hPc : va_P D vwCl (cW adC cA σ) H := hP
  refine tp_i (z := (nI (sTc σ))) hw.1 ?_
  refine lv_aload_n hx hb dL_law_816 rfl (lv_at hl 3 rfl) ?_
  refine cl_i (rest := [.int (nI (sTc σ))]) (c_X5_orders l D cA adR (aR adR) hDr σ hI hg (by omega)) ⟨hx, hb, hml, hown, hts⟩ hK hPr hS kv_L_110 ⟨Nat.le_of_ble_eq_true rfl, Nat.le_of_ble_eq_true rfl⟩ ⟨Nat.le_of_ble_eq_true rfl, Nat.le_of_ble_eq_true rfl⟩ 0 rfl rfl rfl hl.1 rfl (Nat.le_of_ble_eq_true rfl) hRs dL_law_817 (fun r u H locs hw hP hS hk => ?_)
  rw [hw.2] at hP
  have hPc := keepW hPc hk (fun k q h z => hdj _ (cW_in h) z)
  have hPr : va_P D vwCl (rW adR cA σ) H := hP
  refine tp_i (z := (nI (sTc σ))) hw.1 ?_
  refine lv_icmp_eq (tgt := 825) hx hb dL_law_820 (by decide) (fun _ => ?_) (fun c9 => absurd rfl c9)
  exact next σ _ _ ls (Gd.rf hI hg) hPc hPr hS (lv_sub hl [0, 1, 2, 3] rfl)
