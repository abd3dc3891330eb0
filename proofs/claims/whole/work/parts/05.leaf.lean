set_option maxHeartbeats 4000000 in
set_option maxRecDepth 100000 in
theorem c_X0_write (l : Launch) (D : va_G) (cA : ClassId) (ad : Nat → Nat) (A : Nat → Prop) (hDD : ∀ u, va_D A (cW ad cA u)) (σ : CS) (x : Int32) (hb9 : sBc σ < 2147483647) : Cv l D cA (cW ad cA) A yX0_write cX0_write 2 0 0 [.ref (ad 3), .int x] σ (fun u => u = wr x σ) := by
  refine Cv.of (by decide) (Nat.le_of_ble_eq_true rfl) ?_
  intro p e s m below meth c ls S0 hr hlocks hK hP hS hl
  obtain ⟨hx, hb, hml, hown, hts⟩ := id S0
  have hl : lv_has ls 2 [(0, .ref (ad 3)), (1, .int x)] := hl
  refine lv_aload_n hx hb dX0_write_0 rfl (lv_at hl 0 rfl) ?_
  refine va_get (D := D) (ci := 0) (v := .int (nI (sBc σ))) (C := RX0) (T := TX0) (N := 2) hx hb hts in_X0 hown hK hP 3 rfl rfl 1 (by decide) (hts _ kf_X0_15) (fun _ h9 => h9) rfl dX0_write_1 ?_
  refine lv_if_lt (tgt := 27) hx hb dX0_write_4 (by decide) (fun c9 => absurd c9 (nI_pos (by omega))) (fun _ => ?_)
  refine lv_aload_n hx hb dX0_write_7 rfl (lv_at hl 0 rfl) ?_
  refine va_get (D := D) (ci := 0) (v := .int (nI (sBc σ))) (C := RX0) (T := TX0) (N := 2) hx hb hts in_X0 hown hK hP 3 rfl rfl 1 (by decide) (hts _ kf_X0_15) (fun _ h9 => h9) rfl dX0_write_8 ?_
  refine lv_sipush (v := 400) hx hb dX0_write_11 (by decide) ?_
  refine lv_icmp_ge (tgt := 27) hx hb dX0_write_14 (by decide) (fun c14 => ?_) (fun c14 => ?_)
  · refine lv_aload_n hx hb dX0_write_27 rfl (lv_at hl 0 rfl) ?_
    refine lv_dup hx hb dX0_write_28 rfl ?_
    refine va_get (D := D) (ci := 0) (v := .int (nI (sBc σ))) (C := RX0) (T := TX0) (N := 2) hx hb hts in_X0 hown hK hP 3 rfl rfl 1 (by decide) (hts _ kf_X0_15) (fun _ h9 => h9) rfl dX0_write_29 ?_
    refine lv_iconst (v := 1) hx hb dX0_write_32 (by decide) ?_
    refine lv_iadd hx hb dX0_write_33 ?_
    refine tp_i (z := (nI ((sBc σ) + 1))) (nI_1 _) ?_
    refine va_put (D := D) (ci := 0) (v := .int (nI ((sBc σ) + 1))) (ty := .int) (C := RX0) (T := TX0) (N := 2) hx hb hts in_X0 tyX0 tyX0_ok nmX0 hown hK hP (hDD _) hS 3 rfl rfl 1 (by decide) (hts _ kf_X0_15) (fun _ h9 => h9) rfl (by decide +kernel) rfl rfl (Nat.le_of_ble_eq_true rfl) dX0_write_34 (fun H locs hP _ hS => ?_)
    have hP : va_P D vwCl (cW ad cA (σ.1, σ.2.1, ((sKp σ), ((sBc σ) + 1)), σ.2.2.2.1, σ.2.2.2.2)) H := hP
    exact rt_v (u := (σ.1, σ.2.1, ((sKp σ), ((sBc σ) + 1)), σ.2.2.2.1, σ.2.2.2.2)) hx hb hr hlocks hS hP ((wr_hi (Nat.not_lt.mpr (ge_of_c (a := 400) rfl rfl (by omega) (by omega) c14))).symm) dX0_write_37
  · have h4 : sBc σ < 400 := lt_of_c (a := 400) rfl rfl (by omega) (by omega) c14
    refine lv_aload_n hx hb dX0_write_17 rfl (lv_at hl 0 rfl) ?_
    refine va_get (D := D) (ci := 0) (v := .ref (ad 15)) (C := RX0) (T := TX0) (N := 2) hx hb hts in_X0 hown hK hP 3 rfl rfl 0 (by decide) (hts _ kf_X0_9) (fun _ h9 => h9) rfl dX0_write_18 ?_
    refine lv_aload_n hx hb dX0_write_21 rfl (lv_at hl 0 rfl) ?_
    refine va_get (D := D) (ci := 0) (v := .int (nI (sBc σ))) (C := RX0) (T := TX0) (N := 2) hx hb hts in_X0 hown hK hP 3 rfl rfl 1 (by decide) (hts _ kf_X0_15) (fun _ h9 => h9) rfl dX0_write_22 ?_
    refine lv_iload_n hx hb dX0_write_25 rfl (lv_at hl 1 rfl) ?_
    refine ar_p hx hb hK hP (hDD _) hS 15 rfl (x := x) h4 (by decide) dX0_write_26 (fun H locs hP hS => ?_)
    have hP : va_P D vwCl (cW ad cA (σ.1, σ.2.1, ((upd (sKp σ) (sBc σ) x), (sBc σ)), σ.2.2.2.1, σ.2.2.2.2)) H := hP
    refine lv_aload_n hx hb dX0_write_27 rfl (lv_at hl 0 rfl) ?_
    refine lv_dup hx hb dX0_write_28 rfl ?_
    refine va_get (D := D) (ci := 0) (v := .int (nI (sBc σ))) (C := RX0) (T := TX0) (N := 2) hx hb hts in_X0 hown hK hP 3 rfl rfl 1 (by decide) (hts _ kf_X0_15) (fun _ h9 => h9) rfl dX0_write_29 ?_
    refine lv_iconst (v := 1) hx hb dX0_write_32 (by decide) ?_
    refine lv_iadd hx hb dX0_write_33 ?_
    refine tp_i (z := (nI ((sBc σ) + 1))) (nI_1 _) ?_
    refine va_put (D := D) (ci := 0) (v := .int (nI ((sBc σ) + 1))) (ty := .int) (C := RX0) (T := TX0) (N := 2) hx hb hts in_X0 tyX0 tyX0_ok nmX0 hown hK hP (hDD _) hS 3 rfl rfl 1 (by decide) (hts _ kf_X0_15) (fun _ h9 => h9) rfl (by decide +kernel) rfl rfl (Nat.le_of_ble_eq_true rfl) dX0_write_34 (fun H locs hP _ hS => ?_)
    have hP : va_P D vwCl (cW ad cA (σ.1, σ.2.1, ((upd (sKp σ) (sBc σ) x), ((sBc σ) + 1)), σ.2.2.2.1, σ.2.2.2.2)) H := hP
    exact rt_v (u := (σ.1, σ.2.1, ((upd (sKp σ) (sBc σ) x), ((sBc σ) + 1)), σ.2.2.2.1, σ.2.2.2.2)) hx hb hr hlocks hS hP ((wr_lo h4).symm) dX0_write_37
set_option maxHeartbeats 4000000 in
set_option maxRecDepth 100000 in
theorem c_X5_enter (l : Launch) (D : va_G) (cA : ClassId) (ad : Nat → Nat) (A : Nat → Prop) (hDD : ∀ u, va_D A (rW ad cA u)) (σ : CS) (x : Int32) (hb9 : sBc σ < 2147483647) : Cv l D cA (rW ad cA) A yX5_enter cX5_enter 2 0 0 [.ref (ad 0), .int x] σ (fun u => u = wr x σ) := by
  refine Cv.of (by decide) (Nat.le_of_ble_eq_true rfl) ?_
  intro p e s m below meth c ls S0 hr hlocks hK hP hS hl
  obtain ⟨hx, hb, hml, hown, hts⟩ := id S0
  have hl : lv_has ls 2 [(0, .ref (ad 0)), (1, .int x)] := hl
  refine lv_aload_n hx hb dX5_enter_0 rfl (lv_at hl 0 rfl) ?_
  refine va_get (D := D) (ci := 5) (v := .int (nI (sBc σ))) (C := RX5) (T := TX5) (N := 20) hx hb hts in_X5 hown hK hP 0 rfl rfl 13 (by decide) (hts _ kf_X5_60) (fun _ h9 => h9) rfl dX5_enter_1 ?_
  refine lv_sipush (v := 400) hx hb dX5_enter_4 (by decide) ?_
  refine lv_icmp_ge (tgt := 20) hx hb dX5_enter_7 (by decide) (fun c14 => ?_) (fun c14 => ?_)
  · refine lv_aload_n hx hb dX5_enter_20 rfl (lv_at hl 0 rfl) ?_
    refine lv_dup hx hb dX5_enter_21 rfl ?_
    refine va_get (D := D) (ci := 5) (v := .int (nI (sBc σ))) (C := RX5) (T := TX5) (N := 20) hx hb hts in_X5 hown hK hP 0 rfl rfl 13 (by decide) (hts _ kf_X5_60) (fun _ h9 => h9) rfl dX5_enter_22 ?_
    refine lv_iconst (v := 1) hx hb dX5_enter_25 (by decide) ?_
    refine lv_iadd hx hb dX5_enter_26 ?_
    refine tp_i (z := (nI ((sBc σ) + 1))) (nI_1 _) ?_
    refine va_put (D := D) (ci := 5) (v := .int (nI ((sBc σ) + 1))) (ty := .int) (C := RX5) (T := TX5) (N := 20) hx hb hts in_X5 tyX5 tyX5_ok nmX5 hown hK hP (hDD _) hS 0 rfl rfl 13 (by decide) (hts _ kf_X5_60) (fun _ h9 => h9) rfl (by decide +kernel) rfl rfl (Nat.le_of_ble_eq_true rfl) dX5_enter_27 (fun H locs hP _ hS => ?_)
    have hP : va_P D vwCl (rW ad cA (σ.1, σ.2.1, ((sKp σ), ((sBc σ) + 1)), σ.2.2.2.1, σ.2.2.2.2)) H := hP
    exact rt_v (u := (σ.1, σ.2.1, ((sKp σ), ((sBc σ) + 1)), σ.2.2.2.1, σ.2.2.2.2)) hx hb hr hlocks hS hP ((wr_hi (Nat.not_lt.mpr (ge_of_c (a := 400) rfl rfl (by omega) (by omega) c14))).symm) dX5_enter_30
  · have h4 : sBc σ < 400 := lt_of_c (a := 400) rfl rfl (by omega) (by omega) c14
    refine lv_aload_n hx hb dX5_enter_10 rfl (lv_at hl 0 rfl) ?_
    refine va_get (D := D) (ci := 5) (v := .ref (ad 10)) (C := RX5) (T := TX5) (N := 20) hx hb hts in_X5 hown hK hP 0 rfl rfl 12 (by decide) (hts _ kf_X5_37) (fun _ h9 => h9) rfl dX5_enter_11 ?_
    refine lv_aload_n hx hb dX5_enter_14 rfl (lv_at hl 0 rfl) ?_
    refine va_get (D := D) (ci := 5) (v := .int (nI (sBc σ))) (C := RX5) (T := TX5) (N := 20) hx hb hts in_X5 hown hK hP 0 rfl rfl 13 (by decide) (hts _ kf_X5_60) (fun _ h9 => h9) rfl dX5_enter_15 ?_
    refine lv_iload_n hx hb dX5_enter_18 rfl (lv_at hl 1 rfl) ?_
    refine ar_p hx hb hK hP (hDD _) hS 10 rfl (x := x) h4 (by decide) dX5_enter_19 (fun H locs hP hS => ?_)
    have hP : va_P D vwCl (rW ad cA (σ.1, σ.2.1, ((upd (sKp σ) (sBc σ) x), (sBc σ)), σ.2.2.2.1, σ.2.2.2.2)) H := hP
    refine lv_aload_n hx hb dX5_enter_20 rfl (lv_at hl 0 rfl) ?_
    refine lv_dup hx hb dX5_enter_21 rfl ?_
    refine va_get (D := D) (ci := 5) (v := .int (nI (sBc σ))) (C := RX5) (T := TX5) (N := 20) hx hb hts in_X5 hown hK hP 0 rfl rfl 13 (by decide) (hts _ kf_X5_60) (fun _ h9 => h9) rfl dX5_enter_22 ?_
    refine lv_iconst (v := 1) hx hb dX5_enter_25 (by decide) ?_
    refine lv_iadd hx hb dX5_enter_26 ?_
    refine tp_i (z := (nI ((sBc σ) + 1))) (nI_1 _) ?_
    refine va_put (D := D) (ci := 5) (v := .int (nI ((sBc σ) + 1))) (ty := .int) (C := RX5) (T := TX5) (N := 20) hx hb hts in_X5 tyX5 tyX5_ok nmX5 hown hK hP (hDD _) hS 0 rfl rfl 13 (by decide) (hts _ kf_X5_60) (fun _ h9 => h9) rfl (by decide +kernel) rfl rfl (Nat.le_of_ble_eq_true rfl) dX5_enter_27 (fun H locs hP _ hS => ?_)
    have hP : va_P D vwCl (rW ad cA (σ.1, σ.2.1, ((upd (sKp σ) (sBc σ) x), ((sBc σ) + 1)), σ.2.2.2.1, σ.2.2.2.2)) H := hP
    exact rt_v (u := (σ.1, σ.2.1, ((upd (sKp σ) (sBc σ) x), ((sBc σ) + 1)), σ.2.2.2.1, σ.2.2.2.2)) hx hb hr hlocks hS hP ((wr_lo h4).symm) dX5_enter_30
set_option maxHeartbeats 4000000 in
set_option maxRecDepth 100000 in
theorem c_X1_has (l : Launch) (D : va_G) (cA : ClassId) (ad : Nat → Nat) (A : Nat → Prop) (hDD : ∀ u, va_D A (cW ad cA u)) (σ : CS) (x : Int32) : Ct l D cA (cW ad cA) A yX1_has cX1_has 2 (some .boolean) 0 0 [.ref (ad 1), .int x] σ (fun r u => r = hz (sKc σ) x ∧ u = σ) := by
  refine Ct.of (by decide) (Nat.le_of_ble_eq_true rfl) ?_
  intro p e s m below meth c ls S0 hr hlocks hK hP hS hl
  obtain ⟨hx, hb, hml, hown, hts⟩ := id S0
  have hl : lv_has ls 2 [(0, .ref (ad 1)), (1, .int x)] := hl
  refine lv_iload_n hx hb dX1_has_0 rfl (lv_at hl 1 rfl) ?_
  refine lv_if_lt (tgt := 16) hx hb dX1_has_1 (by decide) (fun c1 => ?_) (fun c1 => ?_)
  · refine lv_iconst (v := 0) hx hb dX1_has_16 (by decide) ?_
    exact rt_z (v := 0) (u := σ) hx hb hr hlocks rfl hS hP (⟨(hz_0 (ix_lt0 c1)).symm, rfl⟩) dX1_has_17
  · refine lv_iload_n hx hb dX1_has_4 rfl (lv_at hl 1 rfl) ?_
    refine lv_aload_n hx hb dX1_has_5 rfl (lv_at hl 0 rfl) ?_
    refine va_get (D := D) (ci := 1) (v := .int (nI (sKc σ))) (C := RX1) (T := TX1) (N := 5) hx hb hts in_X1 hown hK hP 1 rfl rfl 4 (by decide) (hts _ kf_X1_24) (fun _ h9 => h9) rfl dX1_has_6 ?_
    refine lv_icmp_ge (tgt := 16) hx hb dX1_has_9 (by decide) (fun c9 => ?_) (fun c9 => ?_)
    · refine lv_iconst (v := 0) hx hb dX1_has_16 (by decide) ?_
      exact rt_z (v := 0) (u := σ) hx hb hr hlocks rfl hS hP (⟨(hz_0 (ix_ge c9)).symm, rfl⟩) dX1_has_17
    · refine lv_iconst (v := 1) hx hb dX1_has_12 (by decide) ?_
      refine lv_goto (tgt := 17) hx hb dX1_has_13 (by decide) ?_
      exact rt_z (v := 1) (u := σ) hx hb hr hlocks rfl hS hP (⟨(hz_1 (ix_in c1 c9)).symm, rfl⟩) dX1_has_17
set_option maxHeartbeats 4000000 in
set_option maxRecDepth 100000 in
theorem c_X3_has (l : Launch) (D : va_G) (cA : ClassId) (ad : Nat → Nat) (A : Nat → Prop) (hDD : ∀ u, va_D A (cW ad cA u)) (σ : CS) (x : Int32) : Ct l D cA (cW ad cA) A yX3_has cX3_has 2 (some .boolean) 0 0 [.ref (ad 2), .int x] σ (fun r u => r = hz (sVc σ) x ∧ u = σ) := by
  refine Ct.of (by decide) (Nat.le_of_ble_eq_true rfl) ?_
  intro p e s m below meth c ls S0 hr hlocks hK hP hS hl
  obtain ⟨hx, hb, hml, hown, hts⟩ := id S0
  have hl : lv_has ls 2 [(0, .ref (ad 2)), (1, .int x)] := hl
  refine lv_iload_n hx hb dX3_has_0 rfl (lv_at hl 1 rfl) ?_
  refine lv_if_lt (tgt := 16) hx hb dX3_has_1 (by decide) (fun c1 => ?_) (fun c1 => ?_)
  · refine lv_iconst (v := 0) hx hb dX3_has_16 (by decide) ?_
    exact rt_z (v := 0) (u := σ) hx hb hr hlocks rfl hS hP (⟨(hz_0 (ix_lt0 c1)).symm, rfl⟩) dX3_has_17
  · refine lv_iload_n hx hb dX3_has_4 rfl (lv_at hl 1 rfl) ?_
    refine lv_aload_n hx hb dX3_has_5 rfl (lv_at hl 0 rfl) ?_
    refine va_get (D := D) (ci := 3) (v := .int (nI (sVc σ))) (C := RX3) (T := TX3) (N := 6) hx hb hts in_X3 hown hK hP 2 rfl rfl 5 (by decide) (hts _ kf_X3_27) (fun _ h9 => h9) rfl dX3_has_6 ?_
    refine lv_icmp_ge (tgt := 16) hx hb dX3_has_9 (by decide) (fun c9 => ?_) (fun c9 => ?_)
    · refine lv_iconst (v := 0) hx hb dX3_has_16 (by decide) ?_
      exact rt_z (v := 0) (u := σ) hx hb hr hlocks rfl hS hP (⟨(hz_0 (ix_ge c9)).symm, rfl⟩) dX3_has_17
    · refine lv_iconst (v := 1) hx hb dX3_has_12 (by decide) ?_
      refine lv_goto (tgt := 17) hx hb dX3_has_13 (by decide) ?_
      exact rt_z (v := 1) (u := σ) hx hb hr hlocks rfl hS hP (⟨(hz_1 (ix_in c1 c9)).symm, rfl⟩) dX3_has_17
set_option maxHeartbeats 4000000 in
set_option maxRecDepth 100000 in
theorem c_X5_isKey (l : Launch) (D : va_G) (cA : ClassId) (ad : Nat → Nat) (A : Nat → Prop) (hDD : ∀ u, va_D A (rW ad cA u)) (σ : CS) (x : Int32) : Ct l D cA (rW ad cA) A yX5_isKey cX5_isKey 2 (some .boolean) 0 0 [.ref (ad 0), .int x] σ (fun r u => r = hz (sKc σ) x ∧ u = σ) := by
  refine Ct.of (by decide) (Nat.le_of_ble_eq_true rfl) ?_
  intro p e s m below meth c ls S0 hr hlocks hK hP hS hl
  obtain ⟨hx, hb, hml, hown, hts⟩ := id S0
  have hl : lv_has ls 2 [(0, .ref (ad 0)), (1, .int x)] := hl
  refine lv_iload_n hx hb dX5_isKey_0 rfl (lv_at hl 1 rfl) ?_
  refine lv_if_lt (tgt := 16) hx hb dX5_isKey_1 (by decide) (fun c1 => ?_) (fun c1 => ?_)
  · refine lv_iconst (v := 0) hx hb dX5_isKey_16 (by decide) ?_
    exact rt_z (v := 0) (u := σ) hx hb hr hlocks rfl hS hP (⟨(hz_0 (ix_lt0 c1)).symm, rfl⟩) dX5_isKey_17
  · refine lv_iload_n hx hb dX5_isKey_4 rfl (lv_at hl 1 rfl) ?_
    refine lv_aload_n hx hb dX5_isKey_5 rfl (lv_at hl 0 rfl) ?_
    refine va_get (D := D) (ci := 5) (v := .int (nI (sKc σ))) (C := RX5) (T := TX5) (N := 20) hx hb hts in_X5 hown hK hP 0 rfl rfl 4 (by decide) (hts _ kf_X5_52) (fun _ h9 => h9) rfl dX5_isKey_6 ?_
    refine lv_icmp_ge (tgt := 16) hx hb dX5_isKey_9 (by decide) (fun c9 => ?_) (fun c9 => ?_)
    · refine lv_iconst (v := 0) hx hb dX5_isKey_16 (by decide) ?_
      exact rt_z (v := 0) (u := σ) hx hb hr hlocks rfl hS hP (⟨(hz_0 (ix_ge c9)).symm, rfl⟩) dX5_isKey_17
    · refine lv_iconst (v := 1) hx hb dX5_isKey_12 (by decide) ?_
      refine lv_goto (tgt := 17) hx hb dX5_isKey_13 (by decide) ?_
      exact rt_z (v := 1) (u := σ) hx hb hr hlocks rfl hS hP (⟨(hz_1 (ix_in c1 c9)).symm, rfl⟩) dX5_isKey_17
set_option maxHeartbeats 4000000 in
set_option maxRecDepth 100000 in
theorem c_X5_isVault (l : Launch) (D : va_G) (cA : ClassId) (ad : Nat → Nat) (A : Nat → Prop) (hDD : ∀ u, va_D A (rW ad cA u)) (σ : CS) (x : Int32) : Ct l D cA (rW ad cA) A yX5_isVault cX5_isVault 2 (some .boolean) 0 0 [.ref (ad 0), .int x] σ (fun r u => r = hz (sVc σ) x ∧ u = σ) := by
  refine Ct.of (by decide) (Nat.le_of_ble_eq_true rfl) ?_
  intro p e s m below meth c ls S0 hr hlocks hK hP hS hl
  obtain ⟨hx, hb, hml, hown, hts⟩ := id S0
  have hl : lv_has ls 2 [(0, .ref (ad 0)), (1, .int x)] := hl
  refine lv_iload_n hx hb dX5_isVault_0 rfl (lv_at hl 1 rfl) ?_
  refine lv_if_lt (tgt := 16) hx hb dX5_isVault_1 (by decide) (fun c1 => ?_) (fun c1 => ?_)
  · refine lv_iconst (v := 0) hx hb dX5_isVault_16 (by decide) ?_
    exact rt_z (v := 0) (u := σ) hx hb hr hlocks rfl hS hP (⟨(hz_0 (ix_lt0 c1)).symm, rfl⟩) dX5_isVault_17
  · refine lv_iload_n hx hb dX5_isVault_4 rfl (lv_at hl 1 rfl) ?_
    refine lv_aload_n hx hb dX5_isVault_5 rfl (lv_at hl 0 rfl) ?_
    refine va_get (D := D) (ci := 5) (v := .int (nI (sVc σ))) (C := RX5) (T := TX5) (N := 20) hx hb hts in_X5 hown hK hP 0 rfl rfl 9 (by decide) (hts _ kf_X5_56) (fun _ h9 => h9) rfl dX5_isVault_6 ?_
    refine lv_icmp_ge (tgt := 16) hx hb dX5_isVault_9 (by decide) (fun c9 => ?_) (fun c9 => ?_)
    · refine lv_iconst (v := 0) hx hb dX5_isVault_16 (by decide) ?_
      exact rt_z (v := 0) (u := σ) hx hb hr hlocks rfl hS hP (⟨(hz_0 (ix_ge c9)).symm, rfl⟩) dX5_isVault_17
    · refine lv_iconst (v := 1) hx hb dX5_isVault_12 (by decide) ?_
      refine lv_goto (tgt := 17) hx hb dX5_isVault_13 (by decide) ?_
      exact rt_z (v := 1) (u := σ) hx hb hr hlocks rfl hS hP (⟨(hz_1 (ix_in c1 c9)).symm, rfl⟩) dX5_isVault_17
