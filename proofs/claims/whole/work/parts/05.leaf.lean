set_option maxHeartbeats 4000000 in
set_option maxRecDepth 100000 in
theorem c_X0_write (l : Launch) (D : va_G) (cA : ClassId) (ad : Nat → Nat) (A : Nat → Prop) (hDD : ∀ u, va_D A (cW ad cA u)) (σ : CS) (x : Int32) (hb9 : sBc σ < 2147483647) : Cv l D cA (cW ad cA) A yX0_write cX0_write 2 0 0 [.ref (ad 3), .int x] σ (fun u => u = wr x σ) := by
  refine Cv.of (by decide) (Nat.le_of_ble_eq_true rfl) ?_
  intro p e s m below meth c ls S0 hr hlocks hK hP hS hl
  obtain ⟨hx, hb, hml, hown, hts⟩ := id S0
  have hl : lv_has ls 2 [(0, .ref (ad 3)), (1, .int x)] := hl
  refine lv_aload_n hx hb dX0_write_0 rfl (lv_at hl 0 rfl) ?_
  refine va_get (D := D) (ci := 0) (v := .int (nI (sBc σ))) (C := RX0) (T := TX0) (N := 2) hx hb hts in_X0 hown hK hP 3 rfl rfl 1 (by decide) (hts _ kf_X0_15) (fun _ h9 => h9) rfl dX0_write_1 ?_
  refine lv_if_lt (tgt := 27) hx hb dX0_write_4 (by decide) (fun c9 => absurd c9 (nI_pos (by omega))) (fun _ => ?_)
  refine lv_aload_n hx hb dX0_write_7 rfl (lv_at hl 0 rfl) ?_
  refine va_get (D := D) (ci := 0) (v := .int (nI (sBc σ))) (C := RX0) (T := TX0) (N := 2) hx hb hts in_X0 hown hK hP 3 rfl rfl 1 (by decide) (hts _ kf_X0_15) (fun _ h9 => h9) rfl dX0_write_8 ?_
  refine lv_sipush (v := 400) hx hb dX0_write_11 (by decide) ?_
  refine lv_icmp_ge (tgt := 27) hx hb dX0_write_14 (by decide) (fun c14 => ?_) (fun c14 => ?_)
  · refine lv_aload_n hx hb dX0_write_27 rfl (lv_at hl 0 rfl) ?_
    refine lv_dup hx hb dX0_write_28 rfl ?_
    refine va_get (D := D) (ci := 0) (v := .int (nI (sBc σ))) (C := RX0) (T := TX0) (N := 2) hx hb hts in_X0 hown hK hP 3 rfl rfl 1 (by decide) (hts _ kf_X0_15) (fun _ h9 => h9) rfl dX0_write_29 ?_
    refine lv_iconst (v := 1) hx hb dX0_write_32 (by decide) ?_
    refine lv_iadd hx hb dX0_write_33 ?_
    refine tp_i (z := (nI ((sBc σ) + 1))) (nI_1 _) ?_
    refine va_put (D := D) (ci := 0) (v := .int (nI ((sBc σ) + 1))) (ty := .int) (C := RX0) (T := TX0) (N := 2) hx hb hts in_X0 tyX0 tyX0_ok nmX0 hown hK hP (hDD _) hS 3 rfl rfl 1 (by decide) (hts _ kf_X0_15) (fun _ h9 => h9) rfl (by decide +kernel) rfl rfl (Nat.le_of_ble_eq_true rfl) dX0_write_34 (fun H locs hP _ hS => ?_)
    have hP : va_P D vwCl (cW ad cA (σ.1, σ.2.1, ((sKp σ), ((sBc σ) + 1)), σ.2.2.2.1, σ.2.2.2.2)) H := hP
    exact rt_v (u := (σ.1, σ.2.1, ((sKp σ), ((sBc σ) + 1)), σ.2.2.2.1, σ.2.2.2.2)) hx hb hr hlocks hS hP ((wr_hi (Nat.not_lt.mpr (ge_of_c (a := 400) rfl rfl (by omega) (by omega) c14))).symm) dX0_write_37
  · have h4 : sBc σ < 400 := lt_of_c (a := 400) rfl rfl (by omega) (by omega) c14
    refine lv_aload_n hx hb dX0_write_17 rfl (lv_at hl 0 rfl) ?_
    refine va_get (D := D) (ci := 0) (v := .ref (ad 15)) (C := RX0) (T := TX0) (N := 2) hx hb hts in_X0 hown hK hP 3 rfl rfl 0 (by decide) (hts _ kf_X0_9) (fun _ h9 => h9) rfl dX0_write_18 ?_
    refine lv_aload_n hx hb dX0_write_21 rfl (lv_at hl 0 rfl) ?_
    refine va_get (D := D) (ci := 0) (v := .int (nI (sBc σ))) (C := RX0) (T := TX0) (N := 2) hx hb hts in_X0 hown hK hP 3 rfl rfl 1 (by decide) (hts _ kf_X0_15) (fun _ h9 => h9) rfl dX0_write_22 ?_
    refine lv_iload_n hx hb dX0_write_25 rfl (lv_at hl 1 rfl) ?_
    refine ar_p hx hb hK hP (hDD _) hS 15 rfl (x := x) h4 (by decide) dX0_write_26 (fun H locs hP hS => ?_)
    have hP : va_P D vwCl (cW ad cA (σ.1, σ.2.1, ((upd (sKp σ) (sBc σ) x), (sBc σ)), σ.2.2.2.1, σ.2.2.2.2)) H := hP
    refine lv_aload_n hx hb dX0_write_27 rfl (lv_at hl 0 rfl) ?_
    refine lv_dup hx hb dX0_write_28 rfl ?_
    refine va_get (D := D) (ci := 0) (v := .int (nI (sBc σ))) (C := RX0) (T := TX0) (N := 2) hx hb hts in_X0 hown hK hP 3 rfl rfl 1 (by decide) (hts _ kf_X0_15) (fun _ h9 => h9) rfl dX0_write_29 ?_
    refine lv_iconst (v := 1) hx hb dX0_write_32 (by decide) ?_
    refine lv_iadd hx hb dX0_write_33 ?_
    refine tp_i (z := (nI ((sBc σ) + 1))) (nI_1 _) ?_
    refine va_put (D := D) (ci := 0) (v := .int (nI ((sBc σ) + 1))) (ty := .int) (C := RX0) (T := TX0) (N := 2) hx hb hts in_X0 tyX0 tyX0_ok nmX0 hown hK hP (hDD _) hS 3 rfl rfl 1 (by decide) (hts _ kf_X0_15) (fun _ h9 => h9) rfl (by decide +kernel) rfl rfl (Nat.le_of_ble_eq_true rfl) dX0_write_34 (fun H locs hP _ hS => ?_)
    have hP : va_P D vwCl (cW ad cA (σ.1, σ.2.1, ((upd (sKp σ) (sBc σ) x), ((sBc σ) + 1)), σ.2.2.2.1, σ.2.2.2.2)) H := hP
    exact rt_v (u := (σ.1, σ.2.1, ((upd (sKp σ) (sBc σ) x), ((sBc σ) + 1)), σ.2.2.2.1, σ.2.2.2.2)) hx hb hr hlocks hS hP ((wr_lo h4).symm) dX0_write_37
set_option maxHeartbeats 4000000 in
set_option maxRecDepth 100000 in
theorem c_X5_enter (l : Launch) (D : va_G) (cA : ClassId) (ad : Nat → Nat) (A : Nat → Prop) (hDD : ∀ u, va_D A (rW ad cA u)) (σ : CS) (x : Int32) (hb9 : sBc σ < 2147483647) : Cv l D cA (rW ad cA) A yX5_enter cX5_enter 2 0 0 [.ref (ad 0), .int x] σ (fun u => u = wr x σ) := by
  refine Cv.of (by decide) (Nat.le_of_ble_eq_true rfl) ?_
  intro p e s m below meth c ls S0 hr hlocks hK hP hS hl
  obtain ⟨hx, hb, hml, hown, hts⟩ := id S0
  have hl : lv_has ls 2 [(0, .ref (ad 0)), (1, .int x)] := hl
  refine lv_aload_n hx hb dX5_enter_0 rfl (lv_at hl 0 rfl) ?_
  refine va_get (D := D) (ci := 5) (v := .int (nI (sBc σ))) (C := RX5) (T := TX5) (N := 20) hx hb hts in_X5 hown hK hP 0 rfl rfl 13 (by decide) (hts _ kf_X5_60) (fun _ h9 => h9) rfl dX5_enter_1 ?_
  refine lv_sipush (v := 400) hx hb dX5_enter_4 (by decide) ?_
  refine lv_icmp_ge (tgt := 20) hx hb dX5_enter_7 (by decide) (fun c14 => ?_) (fun c14 => ?_)
  · refine lv_aload_n hx hb dX5_enter_20 rfl (lv_at hl 0 rfl) ?_
    refine lv_dup hx hb dX5_enter_21 rfl ?_
    refine va_get (D := D) (ci := 5) (v := .int (nI (sBc σ))) (C := RX5) (T := TX5) (N := 20) hx hb hts in_X5 hown hK hP 0 rfl rfl 13 (by decide) (hts _ kf_X5_60) (fun _ h9 => h9) rfl dX5_enter_22 ?_
    refine lv_iconst (v := 1) hx hb dX5_enter_25 (by decide) ?_
    refine lv_iadd hx hb dX5_enter_26 ?_
    refine tp_i (z := (nI ((sBc σ) + 1))) (nI_1 _) ?_
    refine va_put (D := D) (ci := 5) (v := .int (nI ((sBc σ) + 1))) (ty := .int) (C := RX5) (T := TX5) (N := 20) hx hb hts in_X5 tyX5 tyX5_ok nmX5 hown hK hP (hDD _) hS 0 rfl rfl 13 (by decide) (hts _ kf_X5_60) (fun _ h9 => h9) rfl (by decide +kernel) rfl rfl (Nat.le_of_ble_eq_true rfl) dX5_enter_27 (fun H locs hP _ hS => ?_)
    have hP : va_P D vwCl (rW ad cA (σ.1, σ.2.1, ((sKp σ), ((sBc σ) + 1)), σ.2.2.2.1, σ.2.2.2.2)) H := hP
    exact rt_v (u := (σ.1, σ.2.1, ((sKp σ), ((sBc σ) + 1)), σ.2.2.2.1, σ.2.2.2.2)) hx hb hr hlocks hS hP ((wr_hi (Nat.not_lt.mpr (ge_of_c (a := 400) rfl rfl (by omega) (by omega) c14))).symm) dX5_enter_30
  · have h4 : sBc σ < 400 := lt_of_c (a := 400) rfl rfl (by omega) (by omega) c14
    refine lv_aload_n hx hb dX5_enter_10 rfl (lv_at hl 0 rfl) ?_
    refine va_get (D := D) (ci := 5) (v := .ref (ad 10)) (C := RX5) (T := TX5) (N := 20) hx hb hts in_X5 hown hK hP 0 rfl rfl 12 (by decide) (hts _ kf_X5_37) (fun _ h9 => h9) rfl dX5_enter_11 ?_
    refine lv_aload_n hx hb dX5_enter_14 rfl (lv_at hl 0 rfl) ?_
    refine va_get (D := D) (ci := 5) (v := .int (nI (sBc σ))) (C := RX5) (T := TX5) (N := 20) hx hb hts in_X5 hown hK hP 0 rfl rfl 13 (by decide) (hts _ kf_X5_60) (fun _ h9 => h9) rfl dX5_enter_15 ?_
    refine lv_iload_n hx hb dX5_enter_18 rfl (lv_at hl 1 rfl) ?_
    refine ar_p hx hb hK hP (hDD _) hS 10 rfl (x := x) h4 (by decide) dX5_enter_19 (fun H locs hP hS => ?_)
    have hP : va_P D vwCl (rW ad cA (σ.1, σ.2.1, ((upd (sKp σ) (sBc σ) x), (sBc σ)), σ.2.2.2.1, σ.2.2.2.2)) H := hP
    refine lv_aload_n hx hb dX5_enter_20 rfl (lv_at hl 0 rfl) ?_
    refine lv_dup hx hb dX5_enter_21 rfl ?_
    refine va_get (D := D) (ci := 5) (v := .int (nI (sBc σ))) (C := RX5) (T := TX5) (N := 20) hx hb hts in_X5 hown hK hP 0 rfl rfl 13 (by decide) (hts _ kf_X5_60) (fun _ h9 => h9) rfl dX5_enter_22 ?_
    refine lv_iconst (v := 1) hx hb dX5_enter_25 (by decide) ?_
    refine lv_iadd hx hb dX5_enter_26 ?_
    refine tp_i (z := (nI ((sBc σ) + 1))) (nI_1 _) ?_
    refine va_put (D := D) (ci := 5) (v := .int (nI ((sBc σ) + 1))) (ty := .int) (C := RX5) (T := TX5) (N := 20) hx hb hts in_X5 tyX5 tyX5_ok nmX5 hown hK hP (hDD _) hS 0 rfl rfl 13 (by decide) (hts _ kf_X5_60) (fun _ h9 => h9) rfl (by decide +kernel) rfl rfl (Nat.le_of_ble_eq_true rfl) dX5_enter_27 (fun H locs hP _ hS => ?_)
    have hP : va_P D vwCl (rW ad cA (σ.1, σ.2.1, ((upd (sKp σ) (sBc σ) x), ((sBc σ) + 1)), σ.2.2.2.1, σ.2.2.2.2)) H := hP
    exact rt_v (u := (σ.1, σ.2.1, ((upd (sKp σ) (sBc σ) x), ((sBc σ) + 1)), σ.2.2.2.1, σ.2.2.2.2)) hx hb hr hlocks hS hP ((wr_lo h4).symm) dX5_enter_30
set_option maxHeartbeats 4000000 in
set_option maxRecDepth 100000 in
theorem c_X1_has (l : Launch) (D : va_G) (cA : ClassId) (ad : Nat → Nat) (A : Nat → Prop) (hDD : ∀ u, va_D A (cW ad cA u)) (σ : CS) (x : Int32) : Ct l D cA (cW ad cA) A yX1_has cX1_has 2 (some .boolean) 0 0 [.ref (ad 1), .int x] σ (fun r u => r = hz (sKc σ) x ∧ u = σ) := by
  refine Ct.of (by decide) (Nat.le_of_ble_eq_true rfl) ?_
  intro p e s m below meth c ls S0 hr hlocks hK hP hS hl
  obtain ⟨hx, hb, hml, hown, hts⟩ := id S0
  have hl : lv_has ls 2 [(0, .ref (ad 1)), (1, .int x)] := hl
  refine lv_iload_n hx hb dX1_has_0 rfl (lv_at hl 1 rfl) ?_
  refine lv_if_lt (tgt := 16) hx hb dX1_has_1 (by decide) (fun c1 => ?_) (fun c1 => ?_)
  · refine lv_iconst (v := 0) hx hb dX1_has_16 (by decide) ?_
    exact rt_z (v := 0) (u := σ) hx hb hr hlocks rfl hS hP (⟨(hz_0 (ix_lt0 c1)).symm, rfl⟩) dX1_has_17
  · refine lv_iload_n hx hb dX1_has_4 rfl (lv_at hl 1 rfl) ?_
    refine lv_aload_n hx hb dX1_has_5 rfl (lv_at hl 0 rfl) ?_
    refine va_get (D := D) (ci := 1) (v := .int (nI (sKc σ))) (C := RX1) (T := TX1) (N := 5) hx hb hts in_X1 hown hK hP 1 rfl rfl 4 (by decide) (hts _ kf_X1_24) (fun _ h9 => h9) rfl dX1_has_6 ?_
    refine lv_icmp_ge (tgt := 16) hx hb dX1_has_9 (by decide) (fun c9 => ?_) (fun c9 => ?_)
    · refine lv_iconst (v := 0) hx hb dX1_has_16 (by decide) ?_
      exact rt_z (v := 0) (u := σ) hx hb hr hlocks rfl hS hP (⟨(hz_0 (ix_ge c9)).symm, rfl⟩) dX1_has_17
    · refine lv_iconst (v := 1) hx hb dX1_has_12 (by decide) ?_
      refine lv_goto (tgt := 17) hx hb dX1_has_13 (by decide) ?_
      exact rt_z (v := 1) (u := σ) hx hb hr hlocks rfl hS hP (⟨(hz_1 (ix_in c1 c9)).symm, rfl⟩) dX1_has_17
set_option maxHeartbeats 4000000 in
set_option maxRecDepth 100000 in
theorem c_X3_has (l : Launch) (D : va_G) (cA : ClassId) (ad : Nat → Nat) (A : Nat → Prop) (hDD : ∀ u, va_D A (cW ad cA u)) (σ : CS) (x : Int32) : Ct l D cA (cW ad cA) A yX3_has cX3_has 2 (some .boolean) 0 0 [.ref (ad 2), .int x] σ (fun r u => r = hz (sVc σ) x ∧ u = σ) := by
  refine Ct.of (by decide) (Nat.le_of_ble_eq_true rfl) ?_
  intro p e s m below meth c ls S0 hr hlocks hK hP hS hl
  obtain ⟨hx, hb, hml, hown, hts⟩ := id S0
  have hl : lv_has ls 2 [(0, .ref (ad 2)), (1, .int x)] := hl
  refine lv_iload_n hx hb dX3_has_0 rfl (lv_at hl 1 rfl) ?_
  refine lv_if_lt (tgt := 16) hx hb dX3_has_1 (by decide) (fun c1 => ?_) (fun c1 => ?_)
  · refine lv_iconst (v := 0) hx hb dX3_has_16 (by decide) ?_
    exact rt_z (v := 0) (u := σ) hx hb hr hlocks rfl hS hP (⟨(hz_0 (ix_lt0 c1)).symm, rfl⟩) dX3_has_17
  · refine lv_iload_n hx hb dX3_has_4 rfl (lv_at hl 1 rfl) ?_
    refine lv_aload_n hx hb dX3_has_5 rfl (lv_at hl 0 rfl) ?_
    refine va_get (D := D) (ci := 3) (v := .int (nI (sVc σ))) (C := RX3) (T := TX3) (N := 6) hx hb hts in_X3 hown hK hP 2 rfl rfl 5 (by decide) (hts _ kf_X3_27) (fun _ h9 => h9) rfl dX3_has_6 ?_
    refine lv_icmp_ge (tgt := 16) hx hb dX3_has_9 (by decide) (fun c9 => ?_) (fun c9 => ?_)
    · refine lv_iconst (v := 0) hx hb dX3_has_16 (by decide) ?_
      exact rt_z (v := 0) (u := σ) hx hb hr hlocks rfl hS hP (⟨(hz_0 (ix_ge c9)).symm, rfl⟩) dX3_has_17
    · refine lv_iconst (v := 1) hx hb dX3_has_12 (by decide) ?_
      refine lv_goto (tgt := 17) hx hb dX3_has_13 (by decide) ?_
      exact rt_z (v := 1) (u := σ) hx hb hr hlocks rfl hS hP (⟨(hz_1 (ix_in c1 c9)).symm, rfl⟩) dX3_has_17
set_option maxHeartbeats 4000000 in
set_option maxRecDepth 100000 in
theorem c_X5_isKey (l : Launch) (D : va_G) (cA : ClassId) (ad : Nat → Nat) (A : Nat → Prop) (hDD : ∀ u, va_D A (rW ad cA u)) (σ : CS) (x : Int32) : Ct l D cA (rW ad cA) A yX5_isKey cX5_isKey 2 (some .boolean) 0 0 [.ref (ad 0), .int x] σ (fun r u => r = hz (sKc σ) x ∧ u = σ) := by
  refine Ct.of (by decide) (Nat.le_of_ble_eq_true rfl) ?_
  intro p e s m below meth c ls S0 hr hlocks hK hP hS hl
  obtain ⟨hx, hb, hml, hown, hts⟩ := id S0
  have hl : lv_has ls 2 [(0, .ref (ad 0)), (1, .int x)] := hl
  refine lv_iload_n hx hb dX5_isKey_0 rfl (lv_at hl 1 rfl) ?_
  refine lv_if_lt (tgt := 16) hx hb dX5_isKey_1 (by decide) (fun c1 => ?_) (fun c1 => ?_)
  · refine lv_iconst (v := 0) hx hb dX5_isKey_16 (by decide) ?_
    exact rt_z (v := 0) (u := σ) hx hb hr hlocks rfl hS hP (⟨(hz_0 (ix_lt0 c1)).symm, rfl⟩) dX5_isKey_17
  · refine lv_iload_n hx hb dX5_isKey_4 rfl (lv_at hl 1 rfl) ?_
    refine lv_aload_n hx hb dX5_isKey_5 rfl (lv_at hl 0 rfl) ?_
    refine va_get (D := D) (ci := 5) (v := .int (nI (sKc σ))) (C := RX5) (T := TX5) (N := 20) hx hb hts in_X5 hown hK hP 0 rfl rfl 4 (by decide) (hts _ kf_X5_52) (fun _ h9 => h9) rfl dX5_isKey_6 ?_
    refine lv_icmp_ge (tgt := 16) hx hb dX5_isKey_9 (by decide) (fun c9 => ?_) (fun c9 => ?_)
    · refine lv_iconst (v := 0) hx hb dX5_isKey_16 (by decide) ?_
      exact rt_z (v := 0) (u := σ) hx hb hr hlocks rfl hS hP (⟨(hz_0 (ix_ge c9)).symm, rfl⟩) dX5_isKey_17
    · refine lv_iconst (v := 1) hx hb dX5_isKey_12 (by decide) ?_
      refine lv_goto (tgt := 17) hx hb dX5_isKey_13 (by decide) ?_
      exact rt_z (v := 1) (u := σ) hx hb hr hlocks rfl hS hP (⟨(hz_1 (ix_in c1 c9)).symm, rfl⟩) dX5_isKey_17
set_option maxHeartbeats 4000000 in
set_option maxRecDepth 100000 in
theorem c_X5_isVault (l : Launch) (D : va_G) (cA : ClassId) (ad : Nat → Nat) (A : Nat → Prop) (hDD : ∀ u, va_D A (rW ad cA u)) (σ : CS) (x : Int32) : Ct l D cA (rW ad cA) A yX5_isVault cX5_isVault 2 (some .boolean) 0 0 [.ref (ad 0), .int x] σ (fun r u => r = hz (sVc σ) x ∧ u = σ) := by
  refine Ct.of (by decide) (Nat.le_of_ble_eq_true rfl) ?_
  intro p e s m below meth c ls S0 hr hlocks hK hP hS hl
  obtain ⟨hx, hb, hml, hown, hts⟩ := id S0
  have hl : lv_has ls 2 [(0, .ref (ad 0)), (1, .int x)] := hl
  refine lv_iload_n hx hb dX5_isVault_0 rfl (lv_at hl 1 rfl) ?_
  refine lv_if_lt (tgt := 16) hx hb dX5_isVault_1 (by decide) (fun c1 => ?_) (fun c1 => ?_)
  · refine lv_iconst (v := 0) hx hb dX5_isVault_16 (by decide) ?_
    exact rt_z (v := 0) (u := σ) hx hb hr hlocks rfl hS hP (⟨(hz_0 (ix_lt0 c1)).symm, rfl⟩) dX5_isVault_17
  · refine lv_iload_n hx hb dX5_isVault_4 rfl (lv_at hl 1 rfl) ?_
    refine lv_aload_n hx hb dX5_isVault_5 rfl (lv_at hl 0 rfl) ?_
    refine va_get (D := D) (ci := 5) (v := .int (nI (sVc σ))) (C := RX5) (T := TX5) (N := 20) hx hb hts in_X5 hown hK hP 0 rfl rfl 9 (by decide) (hts _ kf_X5_56) (fun _ h9 => h9) rfl dX5_isVault_6 ?_
    refine lv_icmp_ge (tgt := 16) hx hb dX5_isVault_9 (by decide) (fun c9 => ?_) (fun c9 => ?_)
    · refine lv_iconst (v := 0) hx hb dX5_isVault_16 (by decide) ?_
      exact rt_z (v := 0) (u := σ) hx hb hr hlocks rfl hS hP (⟨(hz_0 (ix_ge c9)).symm, rfl⟩) dX5_isVault_17
    · refine lv_iconst (v := 1) hx hb dX5_isVault_12 (by decide) ?_
      refine lv_goto (tgt := 17) hx hb dX5_isVault_13 (by decide) ?_
      exact rt_z (v := 1) (u := σ) hx hb hr hlocks rfl hS hP (⟨(hz_1 (ix_in c1 c9)).symm, rfl⟩) dX5_isVault_17
set_option maxHeartbeats 4000000 in
set_option maxRecDepth 100000 in
theorem c_X0_read (l : Launch) (D : va_G) (cA : ClassId) (ad : Nat → Nat) (A : Nat → Prop) (hDD : ∀ u, va_D A (cW ad cA u)) (σ : CS) (x : Int32) (hb9 : sBc σ < 2147483648) : Ct l D cA (cW ad cA) A yX0_read cX0_read 2 (some .int) 0 0 [.ref (ad 3), .int x] σ (fun r u => r = f_entry σ x ∧ u = σ) := by
  refine Ct.of (by decide) (Nat.le_of_ble_eq_true rfl) ?_
  intro p e s m below meth c ls S0 hr hlocks hK hP hS hl
  obtain ⟨hx, hb, hml, hown, hts⟩ := id S0
  have hl : lv_has ls 2 [(0, .ref (ad 3)), (1, .int x)] := hl
  refine lv_iload_n hx hb dX0_read_0 rfl (lv_at hl 1 rfl) ?_
  refine lv_if_lt (tgt := 28) hx hb dX0_read_1 (by decide) (fun c1 => ?_) (fun c1 => ?_)
  · refine lv_iconst (v := (-1)) hx hb dX0_read_28 (by decide) ?_
    exact rt_i (v := (-1)) (u := σ) hx hb hr hlocks hS hP (⟨(fe_n (ix_lt0 c1)).symm, rfl⟩) dX0_read_29
  · refine lv_iload_n hx hb dX0_read_4 rfl (lv_at hl 1 rfl) ?_
    refine lv_aload_n hx hb dX0_read_5 rfl (lv_at hl 0 rfl) ?_
    refine va_get (D := D) (ci := 0) (v := .int (nI (sBc σ))) (C := RX0) (T := TX0) (N := 2) hx hb hts in_X0 hown hK hP 3 rfl rfl 1 (by decide) (hts _ kf_X0_15) (fun _ h9 => h9) rfl dX0_read_6 ?_
    refine lv_icmp_ge (tgt := 28) hx hb dX0_read_9 (by decide) (fun c9 => ?_) (fun c9 => ?_)
    · refine lv_iconst (v := (-1)) hx hb dX0_read_28 (by decide) ?_
      exact rt_i (v := (-1)) (u := σ) hx hb hr hlocks hS hP (⟨(fe_n (ix_ge c9)).symm, rfl⟩) dX0_read_29
    · obtain ⟨j, hj, rfl⟩ := ix_ex (by omega) c1 c9
      refine lv_iload_n hx hb dX0_read_12 rfl (lv_at hl 1 rfl) ?_
      refine lv_sipush (v := 400) hx hb dX0_read_13 (by decide) ?_
      refine lv_icmp_ge (tgt := 28) hx hb dX0_read_16 (by decide) (fun c16 => ?_) (fun c16 => ?_)
      · refine lv_iconst (v := (-1)) hx hb dX0_read_28 (by decide) ?_
        exact rt_i (v := (-1)) (u := σ) hx hb hr hlocks hS hP (⟨(fe_h (ix_nI hj (by omega)) (Nat.not_lt.mpr (ge_of_c (a := 400) rfl rfl (by omega) (by omega) c16))).symm, rfl⟩) dX0_read_29
      · have h4 : j < 400 := lt_of_c (a := 400) rfl rfl (by omega) (by omega) c16
        refine lv_aload_n hx hb dX0_read_19 rfl (lv_at hl 0 rfl) ?_
        refine va_get (D := D) (ci := 0) (v := .ref (ad 15)) (C := RX0) (T := TX0) (N := 2) hx hb hts in_X0 hown hK hP 3 rfl rfl 0 (by decide) (hts _ kf_X0_9) (fun _ h9 => h9) rfl dX0_read_20 ?_
        refine lv_iload_n hx hb dX0_read_23 rfl (lv_at hl 1 rfl) ?_
        refine ar_g hx hb hK hP 15 rfl h4 (by decide) dX0_read_24 ?_
        refine lv_goto (tgt := 29) hx hb dX0_read_25 (by decide) ?_
        exact rt_i (v := (sKp σ j)) (u := σ) hx hb hr hlocks hS hP (⟨(fe_s (ix_nI hj (by omega)) h4).symm, rfl⟩) dX0_read_29
set_option maxHeartbeats 4000000 in
set_option maxRecDepth 100000 in
theorem c_X5_entry (l : Launch) (D : va_G) (cA : ClassId) (ad : Nat → Nat) (A : Nat → Prop) (hDD : ∀ u, va_D A (rW ad cA u)) (σ : CS) (x : Int32) (hb9 : sBc σ < 2147483648) : Ct l D cA (rW ad cA) A yX5_entry cX5_entry 2 (some .int) 0 0 [.ref (ad 0), .int x] σ (fun r u => r = f_entry σ x ∧ u = σ) := by
  refine Ct.of (by decide) (Nat.le_of_ble_eq_true rfl) ?_
  intro p e s m below meth c ls S0 hr hlocks hK hP hS hl
  obtain ⟨hx, hb, hml, hown, hts⟩ := id S0
  have hl : lv_has ls 2 [(0, .ref (ad 0)), (1, .int x)] := hl
  refine lv_iload_n hx hb dX5_entry_0 rfl (lv_at hl 1 rfl) ?_
  refine lv_if_lt (tgt := 28) hx hb dX5_entry_1 (by decide) (fun c1 => ?_) (fun c1 => ?_)
  · refine lv_iconst (v := (-1)) hx hb dX5_entry_28 (by decide) ?_
    exact rt_i (v := (-1)) (u := σ) hx hb hr hlocks hS hP (⟨(fe_n (ix_lt0 c1)).symm, rfl⟩) dX5_entry_29
  · refine lv_iload_n hx hb dX5_entry_4 rfl (lv_at hl 1 rfl) ?_
    refine lv_aload_n hx hb dX5_entry_5 rfl (lv_at hl 0 rfl) ?_
    refine va_get (D := D) (ci := 5) (v := .int (nI (sBc σ))) (C := RX5) (T := TX5) (N := 20) hx hb hts in_X5 hown hK hP 0 rfl rfl 13 (by decide) (hts _ kf_X5_60) (fun _ h9 => h9) rfl dX5_entry_6 ?_
    refine lv_icmp_ge (tgt := 28) hx hb dX5_entry_9 (by decide) (fun c9 => ?_) (fun c9 => ?_)
    · refine lv_iconst (v := (-1)) hx hb dX5_entry_28 (by decide) ?_
      exact rt_i (v := (-1)) (u := σ) hx hb hr hlocks hS hP (⟨(fe_n (ix_ge c9)).symm, rfl⟩) dX5_entry_29
    · obtain ⟨j, hj, rfl⟩ := ix_ex (by omega) c1 c9
      refine lv_iload_n hx hb dX5_entry_12 rfl (lv_at hl 1 rfl) ?_
      refine lv_sipush (v := 400) hx hb dX5_entry_13 (by decide) ?_
      refine lv_icmp_ge (tgt := 28) hx hb dX5_entry_16 (by decide) (fun c16 => ?_) (fun c16 => ?_)
      · refine lv_iconst (v := (-1)) hx hb dX5_entry_28 (by decide) ?_
        exact rt_i (v := (-1)) (u := σ) hx hb hr hlocks hS hP (⟨(fe_h (ix_nI hj (by omega)) (Nat.not_lt.mpr (ge_of_c (a := 400) rfl rfl (by omega) (by omega) c16))).symm, rfl⟩) dX5_entry_29
      · have h4 : j < 400 := lt_of_c (a := 400) rfl rfl (by omega) (by omega) c16
        refine lv_aload_n hx hb dX5_entry_19 rfl (lv_at hl 0 rfl) ?_
        refine va_get (D := D) (ci := 5) (v := .ref (ad 10)) (C := RX5) (T := TX5) (N := 20) hx hb hts in_X5 hown hK hP 0 rfl rfl 12 (by decide) (hts _ kf_X5_37) (fun _ h9 => h9) rfl dX5_entry_20 ?_
        refine lv_iload_n hx hb dX5_entry_23 rfl (lv_at hl 1 rfl) ?_
        refine ar_g hx hb hK hP 10 rfl h4 (by decide) dX5_entry_24 ?_
        refine lv_goto (tgt := 29) hx hb dX5_entry_25 (by decide) ?_
        exact rt_i (v := (sKp σ j)) (u := σ) hx hb hr hlocks hS hP (⟨(fe_s (ix_nI hj (by omega)) h4).symm, rfl⟩) dX5_entry_29
set_option maxHeartbeats 4000000 in
set_option maxRecDepth 100000 in
theorem c_X1_add (l : Launch) (D : va_G) (cA : ClassId) (ad : Nat → Nat) (A : Nat → Prop) (hDD : ∀ u, va_D A (cW ad cA u)) (σ : CS) (t w : Int32) (hN : sKc σ ≤ 40) : Ct l D cA (cW ad cA) A yX1_add cX1_add 3 (some .int) 0 0 [.ref (ad 1), .int t, .int w] σ (fun r u => r = (a_key σ t w).1 ∧ u = (a_key σ t w).2) := by
  refine Ct.of (by decide) (Nat.le_of_ble_eq_true rfl) ?_
  intro p e s m below meth c ls S0 hr hlocks hK hP hS hl
  obtain ⟨hx, hb, hml, hown, hts⟩ := id S0
  have hl : lv_has ls 3 [(0, .ref (ad 1)), (1, .int t), (2, .int w)] := hl
  refine lv_aload_n hx hb dX1_add_0 rfl (lv_at hl 0 rfl) ?_
  refine va_get (D := D) (ci := 1) (v := .int (nI (sKc σ))) (C := RX1) (T := TX1) (N := 5) hx hb hts in_X1 hown hK hP 1 rfl rfl 4 (by decide) (hts _ kf_X1_24) (fun _ h9 => h9) rfl dX1_add_1 ?_
  refine lv_bipush (v := 40) hx hb dX1_add_4 (by decide) ?_
  refine lv_icmp_lt (tgt := 12) hx hb dX1_add_6 (by decide) (fun c6 => ?_) (fun c6 => ?_)
  · have h4 : sKc σ < 40 := (nI_ltI (b := 40) (by omega) (by decide)).mp c6
    refine lv_aload_n hx hb dX1_add_12 rfl (lv_at hl 0 rfl) ?_
    refine va_get (D := D) (ci := 1) (v := .ref (ad 6)) (C := RX1) (T := TX1) (N := 5) hx hb hts in_X1 hown hK hP 1 rfl rfl 0 (by decide) (hts _ kf_X1_9) (fun _ h9 => h9) rfl dX1_add_13 ?_
    refine lv_aload_n hx hb dX1_add_16 rfl (lv_at hl 0 rfl) ?_
    refine va_get (D := D) (ci := 1) (v := .int (nI (sKc σ))) (C := RX1) (T := TX1) (N := 5) hx hb hts in_X1 hown hK hP 1 rfl rfl 4 (by decide) (hts _ kf_X1_24) (fun _ h9 => h9) rfl dX1_add_17 ?_
    refine lv_iload_n hx hb dX1_add_20 rfl (lv_at hl 1 rfl) ?_
    refine ar_p hx hb hK hP (hDD _) hS 6 rfl (x := t) h4 (by decide) dX1_add_21 (fun H locs hP hS => ?_)
    have hP : va_P D vwCl (cW ad cA (((upd (sTee σ) (sKc σ) t), (sStr σ), (sWea σ), (sHel σ), (sKc σ)), σ.2.1, σ.2.2.1, σ.2.2.2.1, σ.2.2.2.2)) H := hP
    refine lv_aload_n hx hb dX1_add_22 rfl (lv_at hl 0 rfl) ?_
    refine va_get (D := D) (ci := 1) (v := .ref (ad 7)) (C := RX1) (T := TX1) (N := 5) hx hb hts in_X1 hown hK hP 1 rfl rfl 1 (by decide) (hts _ kf_X1_15) (fun _ h9 => h9) rfl dX1_add_23 ?_
    refine lv_aload_n hx hb dX1_add_26 rfl (lv_at hl 0 rfl) ?_
    refine va_get (D := D) (ci := 1) (v := .int (nI (sKc σ))) (C := RX1) (T := TX1) (N := 5) hx hb hts in_X1 hown hK hP 1 rfl rfl 4 (by decide) (hts _ kf_X1_24) (fun _ h9 => h9) rfl dX1_add_27 ?_
    refine lv_iload_n hx hb dX1_add_30 rfl (lv_at hl 2 rfl) ?_
    refine ar_p hx hb hK hP (hDD _) hS 7 rfl (x := w) h4 (by decide) dX1_add_31 (fun H locs hP hS => ?_)
    have hP : va_P D vwCl (cW ad cA (((upd (sTee σ) (sKc σ) t), (upd (sStr σ) (sKc σ) w), (sWea σ), (sHel σ), (sKc σ)), σ.2.1, σ.2.2.1, σ.2.2.2.1, σ.2.2.2.2)) H := hP
    refine lv_aload_n hx hb dX1_add_32 rfl (lv_at hl 0 rfl) ?_
    refine lv_dup hx hb dX1_add_33 rfl ?_
    refine va_get (D := D) (ci := 1) (v := .int (nI (sKc σ))) (C := RX1) (T := TX1) (N := 5) hx hb hts in_X1 hown hK hP 1 rfl rfl 4 (by decide) (hts _ kf_X1_24) (fun _ h9 => h9) rfl dX1_add_34 ?_
    refine lv_iconst (v := 1) hx hb dX1_add_37 (by decide) ?_
    refine lv_iadd hx hb dX1_add_38 ?_
    refine tp_i (z := (nI ((sKc σ) + 1))) (nI_1 _) ?_
    refine va_put (D := D) (ci := 1) (v := .int (nI ((sKc σ) + 1))) (ty := .int) (C := RX1) (T := TX1) (N := 5) hx hb hts in_X1 tyX1 tyX1_ok nmX1 hown hK hP (hDD _) hS 1 rfl rfl 4 (by decide) (hts _ kf_X1_24) (fun _ h9 => h9) rfl (by decide +kernel) rfl rfl (Nat.le_of_ble_eq_true rfl) dX1_add_39 (fun H locs hP _ hS => ?_)
    have hP : va_P D vwCl (cW ad cA (((upd (sTee σ) (sKc σ) t), (upd (sStr σ) (sKc σ) w), (sWea σ), (sHel σ), ((sKc σ) + 1)), σ.2.1, σ.2.2.1, σ.2.2.2.1, σ.2.2.2.2)) H := hP
    refine lv_aload_n hx hb dX1_add_42 rfl (lv_at hl 0 rfl) ?_
    refine va_get (D := D) (ci := 1) (v := .int (nI ((sKc σ) + 1))) (C := RX1) (T := TX1) (N := 5) hx hb hts in_X1 hown hK hP 1 rfl rfl 4 (by decide) (hts _ kf_X1_24) (fun _ h9 => h9) rfl dX1_add_43 ?_
    refine lv_iconst (v := 1) hx hb dX1_add_46 (by decide) ?_
    refine lv_isub hx hb dX1_add_47 ?_
    refine tp_i (z := (nI (sKc σ))) (nI_pred _) ?_
    exact rt_i (v := (nI (sKc σ))) (u := (((upd (sTee σ) (sKc σ) t), (upd (sStr σ) (sKc σ) w), (sWea σ), (sHel σ), ((sKc σ) + 1)), σ.2.1, σ.2.2.1, σ.2.2.2.1, σ.2.2.2.2)) hx hb hr hlocks hS hP (pr2 (by first | (unfold a_key; rw [if_neg (show ¬ sKc σ = 40 by omega)]; done) | (unfold a_key; rw [if_neg (show ¬ sKc σ = 40 by omega)]; rfl))) dX1_add_48
  · refine lv_bipush (v := (-3)) hx hb dX1_add_9 (by decide) ?_
    exact rt_i (v := (-3)) (u := σ) hx hb hr hlocks hS hP (pr2 (by first | (unfold a_key; rw [if_pos (show sKc σ = 40 from Nat.le_antisymm hN (Nat.not_lt.mp fun q => c6 (nI_lt q (by decide))))]; done) | (unfold a_key; rw [if_pos (show sKc σ = 40 from Nat.le_antisymm hN (Nat.not_lt.mp fun q => c6 (nI_lt q (by decide))))]; rfl))) dX1_add_11
set_option maxHeartbeats 4000000 in
set_option maxRecDepth 100000 in
theorem c_X3_add (l : Launch) (D : va_G) (cA : ClassId) (ad : Nat → Nat) (A : Nat → Prop) (hDD : ∀ u, va_D A (cW ad cA u)) (σ : CS) (t : Int32) (hN : sVc σ ≤ 12) : Ct l D cA (cW ad cA) A yX3_add cX3_add 2 (some .int) 0 0 [.ref (ad 2), .int t] σ (fun r u => r = (a_vault σ t).1 ∧ u = (a_vault σ t).2) := by
  refine Ct.of (by decide) (Nat.le_of_ble_eq_true rfl) ?_
  intro p e s m below meth c ls S0 hr hlocks hK hP hS hl
  obtain ⟨hx, hb, hml, hown, hts⟩ := id S0
  have hl : lv_has ls 2 [(0, .ref (ad 2)), (1, .int t)] := hl
  refine lv_aload_n hx hb dX3_add_0 rfl (lv_at hl 0 rfl) ?_
  refine va_get (D := D) (ci := 3) (v := .int (nI (sVc σ))) (C := RX3) (T := TX3) (N := 6) hx hb hts in_X3 hown hK hP 2 rfl rfl 5 (by decide) (hts _ kf_X3_27) (fun _ h9 => h9) rfl dX3_add_1 ?_
  refine lv_bipush (v := 12) hx hb dX3_add_4 (by decide) ?_
  refine lv_icmp_lt (tgt := 12) hx hb dX3_add_6 (by decide) (fun c6 => ?_) (fun c6 => ?_)
  · have h4 : sVc σ < 12 := (nI_ltI (b := 12) (by omega) (by decide)).mp c6
    refine lv_aload_n hx hb dX3_add_12 rfl (lv_at hl 0 rfl) ?_
    refine va_get (D := D) (ci := 3) (v := .ref (ad 10)) (C := RX3) (T := TX3) (N := 6) hx hb hts in_X3 hown hK hP 2 rfl rfl 0 (by decide) (hts _ kf_X3_9) (fun _ h9 => h9) rfl dX3_add_13 ?_
    refine lv_aload_n hx hb dX3_add_16 rfl (lv_at hl 0 rfl) ?_
    refine va_get (D := D) (ci := 3) (v := .int (nI (sVc σ))) (C := RX3) (T := TX3) (N := 6) hx hb hts in_X3 hown hK hP 2 rfl rfl 5 (by decide) (hts _ kf_X3_27) (fun _ h9 => h9) rfl dX3_add_17 ?_
    refine lv_iload_n hx hb dX3_add_20 rfl (lv_at hl 1 rfl) ?_
    refine ar_p hx hb hK hP (hDD _) hS 10 rfl (x := t) h4 (by decide) dX3_add_21 (fun H locs hP hS => ?_)
    have hP : va_P D vwCl (cW ad cA (σ.1, ((upd (sLim σ) (sVc σ) t), (sSm σ), (sNx σ), (sLf σ), (sRt σ), (sVc σ)), σ.2.2.1, σ.2.2.2.1, σ.2.2.2.2)) H := hP
    refine lv_aload_n hx hb dX3_add_22 rfl (lv_at hl 0 rfl) ?_
    refine va_get (D := D) (ci := 3) (v := .ref (ad 12)) (C := RX3) (T := TX3) (N := 6) hx hb hts in_X3 hown hK hP 2 rfl rfl 2 (by decide) (hts _ kf_X3_18) (fun _ h9 => h9) rfl dX3_add_23 ?_
    refine lv_aload_n hx hb dX3_add_26 rfl (lv_at hl 0 rfl) ?_
    refine va_get (D := D) (ci := 3) (v := .int (nI (sVc σ))) (C := RX3) (T := TX3) (N := 6) hx hb hts in_X3 hown hK hP 2 rfl rfl 5 (by decide) (hts _ kf_X3_27) (fun _ h9 => h9) rfl dX3_add_27 ?_
    refine lv_iconst (v := (-1)) hx hb dX3_add_30 (by decide) ?_
    refine ar_p hx hb hK hP (hDD _) hS 12 rfl (x := (-1)) h4 (by decide) dX3_add_31 (fun H locs hP hS => ?_)
    have hP : va_P D vwCl (cW ad cA (σ.1, ((upd (sLim σ) (sVc σ) t), (sSm σ), (upd (sNx σ) (sVc σ) (-1)), (sLf σ), (sRt σ), (sVc σ)), σ.2.2.1, σ.2.2.2.1, σ.2.2.2.2)) H := hP
    refine lv_aload_n hx hb dX3_add_32 rfl (lv_at hl 0 rfl) ?_
    refine va_get (D := D) (ci := 3) (v := .ref (ad 13)) (C := RX3) (T := TX3) (N := 6) hx hb hts in_X3 hown hK hP 2 rfl rfl 3 (by decide) (hts _ kf_X3_21) (fun _ h9 => h9) rfl dX3_add_33 ?_
    refine lv_aload_n hx hb dX3_add_36 rfl (lv_at hl 0 rfl) ?_
    refine va_get (D := D) (ci := 3) (v := .int (nI (sVc σ))) (C := RX3) (T := TX3) (N := 6) hx hb hts in_X3 hown hK hP 2 rfl rfl 5 (by decide) (hts _ kf_X3_27) (fun _ h9 => h9) rfl dX3_add_37 ?_
    refine lv_iconst (v := (-1)) hx hb dX3_add_40 (by decide) ?_
    refine ar_p hx hb hK hP (hDD _) hS 13 rfl (x := (-1)) h4 (by decide) dX3_add_41 (fun H locs hP hS => ?_)
    have hP : va_P D vwCl (cW ad cA (σ.1, ((upd (sLim σ) (sVc σ) t), (sSm σ), (upd (sNx σ) (sVc σ) (-1)), (upd (sLf σ) (sVc σ) (-1)), (sRt σ), (sVc σ)), σ.2.2.1, σ.2.2.2.1, σ.2.2.2.2)) H := hP
    refine lv_aload_n hx hb dX3_add_42 rfl (lv_at hl 0 rfl) ?_
    refine va_get (D := D) (ci := 3) (v := .ref (ad 14)) (C := RX3) (T := TX3) (N := 6) hx hb hts in_X3 hown hK hP 2 rfl rfl 4 (by decide) (hts _ kf_X3_24) (fun _ h9 => h9) rfl dX3_add_43 ?_
    refine lv_aload_n hx hb dX3_add_46 rfl (lv_at hl 0 rfl) ?_
    refine va_get (D := D) (ci := 3) (v := .int (nI (sVc σ))) (C := RX3) (T := TX3) (N := 6) hx hb hts in_X3 hown hK hP 2 rfl rfl 5 (by decide) (hts _ kf_X3_27) (fun _ h9 => h9) rfl dX3_add_47 ?_
    refine lv_iconst (v := (-1)) hx hb dX3_add_50 (by decide) ?_
    refine ar_p hx hb hK hP (hDD _) hS 14 rfl (x := (-1)) h4 (by decide) dX3_add_51 (fun H locs hP hS => ?_)
    have hP : va_P D vwCl (cW ad cA (σ.1, ((upd (sLim σ) (sVc σ) t), (sSm σ), (upd (sNx σ) (sVc σ) (-1)), (upd (sLf σ) (sVc σ) (-1)), (upd (sRt σ) (sVc σ) (-1)), (sVc σ)), σ.2.2.1, σ.2.2.2.1, σ.2.2.2.2)) H := hP
    refine lv_aload_n hx hb dX3_add_52 rfl (lv_at hl 0 rfl) ?_
    refine lv_dup hx hb dX3_add_53 rfl ?_
    refine va_get (D := D) (ci := 3) (v := .int (nI (sVc σ))) (C := RX3) (T := TX3) (N := 6) hx hb hts in_X3 hown hK hP 2 rfl rfl 5 (by decide) (hts _ kf_X3_27) (fun _ h9 => h9) rfl dX3_add_54 ?_
    refine lv_iconst (v := 1) hx hb dX3_add_57 (by decide) ?_
    refine lv_iadd hx hb dX3_add_58 ?_
    refine tp_i (z := (nI ((sVc σ) + 1))) (nI_1 _) ?_
    refine va_put (D := D) (ci := 3) (v := .int (nI ((sVc σ) + 1))) (ty := .int) (C := RX3) (T := TX3) (N := 6) hx hb hts in_X3 tyX3 tyX3_ok nmX3 hown hK hP (hDD _) hS 2 rfl rfl 5 (by decide) (hts _ kf_X3_27) (fun _ h9 => h9) rfl (by decide +kernel) rfl rfl (Nat.le_of_ble_eq_true rfl) dX3_add_59 (fun H locs hP _ hS => ?_)
    have hP : va_P D vwCl (cW ad cA (σ.1, ((upd (sLim σ) (sVc σ) t), (sSm σ), (upd (sNx σ) (sVc σ) (-1)), (upd (sLf σ) (sVc σ) (-1)), (upd (sRt σ) (sVc σ) (-1)), ((sVc σ) + 1)), σ.2.2.1, σ.2.2.2.1, σ.2.2.2.2)) H := hP
    refine lv_aload_n hx hb dX3_add_62 rfl (lv_at hl 0 rfl) ?_
    refine va_get (D := D) (ci := 3) (v := .int (nI ((sVc σ) + 1))) (C := RX3) (T := TX3) (N := 6) hx hb hts in_X3 hown hK hP 2 rfl rfl 5 (by decide) (hts _ kf_X3_27) (fun _ h9 => h9) rfl dX3_add_63 ?_
    refine lv_iconst (v := 1) hx hb dX3_add_66 (by decide) ?_
    refine lv_isub hx hb dX3_add_67 ?_
    refine tp_i (z := (nI (sVc σ))) (nI_pred _) ?_
    exact rt_i (v := (nI (sVc σ))) (u := (σ.1, ((upd (sLim σ) (sVc σ) t), (sSm σ), (upd (sNx σ) (sVc σ) (-1)), (upd (sLf σ) (sVc σ) (-1)), (upd (sRt σ) (sVc σ) (-1)), ((sVc σ) + 1)), σ.2.2.1, σ.2.2.2.1, σ.2.2.2.2)) hx hb hr hlocks hS hP (pr2 (by first | (unfold a_vault; rw [if_neg (show ¬ sVc σ = 12 by omega)]; done) | (unfold a_vault; rw [if_neg (show ¬ sVc σ = 12 by omega)]; rfl))) dX3_add_68
  · refine lv_bipush (v := (-3)) hx hb dX3_add_9 (by decide) ?_
    exact rt_i (v := (-3)) (u := σ) hx hb hr hlocks hS hP (pr2 (by first | (unfold a_vault; rw [if_pos (show sVc σ = 12 from Nat.le_antisymm hN (Nat.not_lt.mp fun q => c6 (nI_lt q (by decide))))]; done) | (unfold a_vault; rw [if_pos (show sVc σ = 12 from Nat.le_antisymm hN (Nat.not_lt.mp fun q => c6 (nI_lt q (by decide))))]; rfl))) dX3_add_11
set_option maxHeartbeats 4000000 in
set_option maxRecDepth 100000 in
theorem c_X2_add (l : Launch) (D : va_G) (cA : ClassId) (ad : Nat → Nat) (A : Nat → Prop) (hDD : ∀ u, va_D A (cW ad cA u)) (σ : CS) (o v w n : Int32) (hN : sTc σ ≤ 32) : Ct l D cA (cW ad cA) A yX2_add cX2_add 5 (some .int) 0 0 [.ref (ad 4), .int o, .int v, .int w, .int n] σ (fun r u => r = (a_ord σ o v w n).1 ∧ u = (a_ord σ o v w n).2) := by
  refine Ct.of (by decide) (Nat.le_of_ble_eq_true rfl) ?_
  intro p e s m below meth c ls S0 hr hlocks hK hP hS hl
  obtain ⟨hx, hb, hml, hown, hts⟩ := id S0
  have hl : lv_has ls 5 [(0, .ref (ad 4)), (1, .int o), (2, .int v), (3, .int w), (4, .int n)] := hl
  refine lv_aload_n hx hb dX2_add_0 rfl (lv_at hl 0 rfl) ?_
  refine va_get (D := D) (ci := 2) (v := .int (nI (sTc σ))) (C := RX2) (T := TX2) (N := 5) hx hb hts in_X2 hown hK hP 4 rfl rfl 4 (by decide) (hts _ kf_X2_24) (fun _ h9 => h9) rfl dX2_add_1 ?_
  refine lv_bipush (v := 32) hx hb dX2_add_4 (by decide) ?_
  refine lv_icmp_lt (tgt := 12) hx hb dX2_add_6 (by decide) (fun c6 => ?_) (fun c6 => ?_)
  · have h4 : sTc σ < 32 := (nI_ltI (b := 32) (by omega) (by decide)).mp c6
    refine lv_aload_n hx hb dX2_add_12 rfl (lv_at hl 0 rfl) ?_
    refine va_get (D := D) (ci := 2) (v := .ref (ad 16)) (C := RX2) (T := TX2) (N := 5) hx hb hts in_X2 hown hK hP 4 rfl rfl 0 (by decide) (hts _ kf_X2_9) (fun _ h9 => h9) rfl dX2_add_13 ?_
    refine lv_aload_n hx hb dX2_add_16 rfl (lv_at hl 0 rfl) ?_
    refine va_get (D := D) (ci := 2) (v := .int (nI (sTc σ))) (C := RX2) (T := TX2) (N := 5) hx hb hts in_X2 hown hK hP 4 rfl rfl 4 (by decide) (hts _ kf_X2_24) (fun _ h9 => h9) rfl dX2_add_17 ?_
    refine lv_iload_n hx hb dX2_add_20 rfl (lv_at hl 1 rfl) ?_
    refine ar_p hx hb hK hP (hDD _) hS 16 rfl (x := o) h4 (by decide) dX2_add_21 (fun H locs hP hS => ?_)
    have hP : va_P D vwCl (cW ad cA (σ.1, σ.2.1, σ.2.2.1, ((upd (sOp σ) (sTc σ) o), (sFi σ), (sSe σ), (sAm σ), (sTc σ)), σ.2.2.2.2)) H := hP
    refine lv_aload_n hx hb dX2_add_22 rfl (lv_at hl 0 rfl) ?_
    refine va_get (D := D) (ci := 2) (v := .ref (ad 17)) (C := RX2) (T := TX2) (N := 5) hx hb hts in_X2 hown hK hP 4 rfl rfl 1 (by decide) (hts _ kf_X2_15) (fun _ h9 => h9) rfl dX2_add_23 ?_
    refine lv_aload_n hx hb dX2_add_26 rfl (lv_at hl 0 rfl) ?_
    refine va_get (D := D) (ci := 2) (v := .int (nI (sTc σ))) (C := RX2) (T := TX2) (N := 5) hx hb hts in_X2 hown hK hP 4 rfl rfl 4 (by decide) (hts _ kf_X2_24) (fun _ h9 => h9) rfl dX2_add_27 ?_
    refine lv_iload_n hx hb dX2_add_30 rfl (lv_at hl 2 rfl) ?_
    refine ar_p hx hb hK hP (hDD _) hS 17 rfl (x := v) h4 (by decide) dX2_add_31 (fun H locs hP hS => ?_)
    have hP : va_P D vwCl (cW ad cA (σ.1, σ.2.1, σ.2.2.1, ((upd (sOp σ) (sTc σ) o), (upd (sFi σ) (sTc σ) v), (sSe σ), (sAm σ), (sTc σ)), σ.2.2.2.2)) H := hP
    refine lv_aload_n hx hb dX2_add_32 rfl (lv_at hl 0 rfl) ?_
    refine va_get (D := D) (ci := 2) (v := .ref (ad 18)) (C := RX2) (T := TX2) (N := 5) hx hb hts in_X2 hown hK hP 4 rfl rfl 2 (by decide) (hts _ kf_X2_18) (fun _ h9 => h9) rfl dX2_add_33 ?_
    refine lv_aload_n hx hb dX2_add_36 rfl (lv_at hl 0 rfl) ?_
    refine va_get (D := D) (ci := 2) (v := .int (nI (sTc σ))) (C := RX2) (T := TX2) (N := 5) hx hb hts in_X2 hown hK hP 4 rfl rfl 4 (by decide) (hts _ kf_X2_24) (fun _ h9 => h9) rfl dX2_add_37 ?_
    refine lv_iload_n hx hb dX2_add_40 rfl (lv_at hl 3 rfl) ?_
    refine ar_p hx hb hK hP (hDD _) hS 18 rfl (x := w) h4 (by decide) dX2_add_41 (fun H locs hP hS => ?_)
    have hP : va_P D vwCl (cW ad cA (σ.1, σ.2.1, σ.2.2.1, ((upd (sOp σ) (sTc σ) o), (upd (sFi σ) (sTc σ) v), (upd (sSe σ) (sTc σ) w), (sAm σ), (sTc σ)), σ.2.2.2.2)) H := hP
    refine lv_aload_n hx hb dX2_add_42 rfl (lv_at hl 0 rfl) ?_
    refine va_get (D := D) (ci := 2) (v := .ref (ad 19)) (C := RX2) (T := TX2) (N := 5) hx hb hts in_X2 hown hK hP 4 rfl rfl 3 (by decide) (hts _ kf_X2_21) (fun _ h9 => h9) rfl dX2_add_43 ?_
    refine lv_aload_n hx hb dX2_add_46 rfl (lv_at hl 0 rfl) ?_
    refine va_get (D := D) (ci := 2) (v := .int (nI (sTc σ))) (C := RX2) (T := TX2) (N := 5) hx hb hts in_X2 hown hK hP 4 rfl rfl 4 (by decide) (hts _ kf_X2_24) (fun _ h9 => h9) rfl dX2_add_47 ?_
    refine lv_iload hx hb dX2_add_50 (lv_at hl 4 rfl) ?_
    refine ar_p hx hb hK hP (hDD _) hS 19 rfl (x := n) h4 (by decide) dX2_add_52 (fun H locs hP hS => ?_)
    have hP : va_P D vwCl (cW ad cA (σ.1, σ.2.1, σ.2.2.1, ((upd (sOp σ) (sTc σ) o), (upd (sFi σ) (sTc σ) v), (upd (sSe σ) (sTc σ) w), (upd (sAm σ) (sTc σ) n), (sTc σ)), σ.2.2.2.2)) H := hP
    refine lv_aload_n hx hb dX2_add_53 rfl (lv_at hl 0 rfl) ?_
    refine lv_dup hx hb dX2_add_54 rfl ?_
    refine va_get (D := D) (ci := 2) (v := .int (nI (sTc σ))) (C := RX2) (T := TX2) (N := 5) hx hb hts in_X2 hown hK hP 4 rfl rfl 4 (by decide) (hts _ kf_X2_24) (fun _ h9 => h9) rfl dX2_add_55 ?_
    refine lv_iconst (v := 1) hx hb dX2_add_58 (by decide) ?_
    refine lv_iadd hx hb dX2_add_59 ?_
    refine tp_i (z := (nI ((sTc σ) + 1))) (nI_1 _) ?_
    refine va_put (D := D) (ci := 2) (v := .int (nI ((sTc σ) + 1))) (ty := .int) (C := RX2) (T := TX2) (N := 5) hx hb hts in_X2 tyX2 tyX2_ok nmX2 hown hK hP (hDD _) hS 4 rfl rfl 4 (by decide) (hts _ kf_X2_24) (fun _ h9 => h9) rfl (by decide +kernel) rfl rfl (Nat.le_of_ble_eq_true rfl) dX2_add_60 (fun H locs hP _ hS => ?_)
    have hP : va_P D vwCl (cW ad cA (σ.1, σ.2.1, σ.2.2.1, ((upd (sOp σ) (sTc σ) o), (upd (sFi σ) (sTc σ) v), (upd (sSe σ) (sTc σ) w), (upd (sAm σ) (sTc σ) n), ((sTc σ) + 1)), σ.2.2.2.2)) H := hP
    refine lv_aload_n hx hb dX2_add_63 rfl (lv_at hl 0 rfl) ?_
    refine va_get (D := D) (ci := 2) (v := .int (nI ((sTc σ) + 1))) (C := RX2) (T := TX2) (N := 5) hx hb hts in_X2 hown hK hP 4 rfl rfl 4 (by decide) (hts _ kf_X2_24) (fun _ h9 => h9) rfl dX2_add_64 ?_
    exact rt_i (v := (nI ((sTc σ) + 1))) (u := (σ.1, σ.2.1, σ.2.2.1, ((upd (sOp σ) (sTc σ) o), (upd (sFi σ) (sTc σ) v), (upd (sSe σ) (sTc σ) w), (upd (sAm σ) (sTc σ) n), ((sTc σ) + 1)), σ.2.2.2.2)) hx hb hr hlocks hS hP (pr2 (by first | (unfold a_ord; rw [if_neg (show ¬ sTc σ = 32 by omega)]; done) | (unfold a_ord; rw [if_neg (show ¬ sTc σ = 32 by omega)]; rfl))) dX2_add_67
  · refine lv_bipush (v := (-3)) hx hb dX2_add_9 (by decide) ?_
    exact rt_i (v := (-3)) (u := σ) hx hb hr hlocks hS hP (pr2 (by first | (unfold a_ord; rw [if_pos (show sTc σ = 32 from Nat.le_antisymm hN (Nat.not_lt.mp fun q => c6 (nI_lt q (by decide))))]; done) | (unfold a_ord; rw [if_pos (show sTc σ = 32 from Nat.le_antisymm hN (Nat.not_lt.mp fun q => c6 (nI_lt q (by decide))))]; rfl))) dX2_add_11
set_option maxHeartbeats 4000000 in
set_option maxRecDepth 100000 in
theorem c_X3_hasHand (l : Launch) (D : va_G) (cA : ClassId) (ad : Nat → Nat) (A : Nat → Prop) (hDD : ∀ u, va_D A (cW ad cA u)) (σ : CS) (v h : Int32) (hvc : sVc σ ≤ 12) : Ct l D cA (cW ad cA) A yX3_hasHand cX3_hasHand 3 (some .boolean) 1 21 [.ref (ad 2), .int v, .int h] σ (fun r u => r = bz ((ix (sVc σ) v).isSome = true ∧ okh h) ∧ u = σ) := by
  refine Ct.of (by decide) (Nat.le_of_ble_eq_true rfl) ?_
  intro p e s m below meth c ls S0 hr hlocks hK hP hS hl
  obtain ⟨hx, hb, hml, hown, hts⟩ := id S0
  have hl : lv_has ls 3 [(0, .ref (ad 2)), (1, .int v), (2, .int h)] := hl
  rcases ix_cases (n := sVc σ) v (by omega) with h0 | ⟨j, hj, rfl⟩
  · refine lv_aload_n hx hb dX3_hasHand_0 rfl (lv_at hl 0 rfl) ?_
    refine lv_iload_n hx hb dX3_hasHand_1 rfl (lv_at hl 1 rfl) ?_
    refine cl_i (rest := []) (c_X3_has l D cA ad A hDD σ v ) ⟨hx, hb, hml, hown, hts⟩ hK hP hS kv_X3_31 ⟨Nat.le_of_ble_eq_true rfl, Nat.le_of_ble_eq_true rfl⟩ ⟨Nat.zero_le _, Nat.zero_le _⟩ 2 rfl rfl rfl hl.1 rfl (Nat.le_of_ble_eq_true rfl) (fun q h => h) dX3_hasHand_2 (fun r u H locs hw hP hS _ => ?_)
    rw [hw.2] at hP
    refine tp_i (z := (hz (sVc σ) v)) hw.1 ?_
    refine tp_i (z := 0) (hz_0 h0) ?_
    refine lv_if_eq (tgt := 21) hx hb dX3_hasHand_5 (by decide) (fun _ => ?_) (fun c9 => absurd (by decide) c9)
    refine lv_iconst (v := 0) hx hb dX3_hasHand_21 (by decide) ?_
    exact rt_z (v := 0) (u := σ) hx hb hr hlocks rfl hS hP (⟨(bz_0 (fun q => ix_none_s h0 q.1)).symm, rfl⟩) dX3_hasHand_22
  · have h0 := ix_nI hj (n := sVc σ) (by omega)
    refine lv_aload_n hx hb dX3_hasHand_0 rfl (lv_at hl 0 rfl) ?_
    refine lv_iload_n hx hb dX3_hasHand_1 rfl (lv_at hl 1 rfl) ?_
    refine cl_i (rest := []) (c_X3_has l D cA ad A hDD σ (nI j) ) ⟨hx, hb, hml, hown, hts⟩ hK hP hS kv_X3_31 ⟨Nat.le_of_ble_eq_true rfl, Nat.le_of_ble_eq_true rfl⟩ ⟨Nat.zero_le _, Nat.zero_le _⟩ 2 rfl rfl rfl hl.1 rfl (Nat.le_of_ble_eq_true rfl) (fun q h => h) dX3_hasHand_2 (fun r u H locs hw hP hS _ => ?_)
    rw [hw.2] at hP
    refine tp_i (z := (hz (sVc σ) (nI j))) hw.1 ?_
    refine tp_i (z := 1) (hz_1 h0) ?_
    refine lv_if_eq (tgt := 21) hx hb dX3_hasHand_5 (by decide) (fun c9 => absurd c9 (by decide)) (fun _ => ?_)
    refine lv_iload_n hx hb dX3_hasHand_8 rfl (lv_at hl 2 rfl) ?_
    refine lv_if_eq (tgt := 17) hx hb dX3_hasHand_9 (by decide) (fun c9 => ?_) (fun c9 => ?_)
    · refine lv_iconst (v := 1) hx hb dX3_hasHand_17 (by decide) ?_
      refine lv_goto (tgt := 22) hx hb dX3_hasHand_18 (by decide) ?_
      exact rt_z (v := 1) (u := σ) hx hb hr hlocks rfl hS hP (⟨(bz_1 ⟨ix_some_s h0, Or.inl c9⟩).symm, rfl⟩) dX3_hasHand_22
    · refine lv_iload_n hx hb dX3_hasHand_12 rfl (lv_at hl 2 rfl) ?_
      refine lv_iconst (v := 1) hx hb dX3_hasHand_13 (by decide) ?_
      refine lv_icmp_ne (tgt := 21) hx hb dX3_hasHand_14 (by decide) (fun c14 => ?_) (fun c14 => ?_)
      · refine lv_iconst (v := 0) hx hb dX3_hasHand_21 (by decide) ?_
        exact rt_z (v := 0) (u := σ) hx hb hr hlocks rfl hS hP (⟨(bz_0 (fun q => q.2.elim c9 c14)).symm, rfl⟩) dX3_hasHand_22
      · refine lv_iconst (v := 1) hx hb dX3_hasHand_17 (by decide) ?_
        refine lv_goto (tgt := 22) hx hb dX3_hasHand_18 (by decide) ?_
        exact rt_z (v := 1) (u := σ) hx hb hr hlocks rfl hS hP (⟨(bz_1 ⟨ix_some_s h0, Or.inr c14⟩).symm, rfl⟩) dX3_hasHand_22
set_option maxHeartbeats 4000000 in
set_option maxRecDepth 100000 in
theorem c_X3_keyAt (l : Launch) (D : va_G) (cA : ClassId) (ad : Nat → Nat) (A : Nat → Prop) (hDD : ∀ u, va_D A (cW ad cA u)) (σ : CS) (j : Nat) (h : Int32) (hj : j < sVc σ) (hvc : sVc σ ≤ 12) : Ct l D cA (cW ad cA) A yX3_keyAt cX3_keyAt 3 (some .int) 1 21 [.ref (ad 2), .int (nI j), .int h] σ (fun r u => r = hd σ j h ∧ u = σ) := by
  refine Ct.of (by decide) (Nat.le_of_ble_eq_true rfl) ?_
  intro p e s m below meth c ls S0 hr hlocks hK hP hS hl
  obtain ⟨hx, hb, hml, hown, hts⟩ := id S0
  have hl : lv_has ls 3 [(0, .ref (ad 2)), (1, .int (nI j)), (2, .int h)] := hl
  refine lv_aload_n hx hb dX3_keyAt_0 rfl (lv_at hl 0 rfl) ?_
  refine lv_iload_n hx hb dX3_keyAt_1 rfl (lv_at hl 1 rfl) ?_
  refine cl_i (rest := []) (c_X3_has l D cA ad A hDD σ (nI j) ) ⟨hx, hb, hml, hown, hts⟩ hK hP hS kv_X3_31 ⟨Nat.le_of_ble_eq_true rfl, Nat.le_of_ble_eq_true rfl⟩ ⟨Nat.zero_le _, Nat.zero_le _⟩ 2 rfl rfl rfl hl.1 rfl (Nat.le_of_ble_eq_true rfl) (fun q h => h) dX3_keyAt_2 (fun r u H locs hw hP hS _ => ?_)
  rw [hw.2] at hP
  refine tp_i (z := (hz (sVc σ) (nI j))) hw.1 ?_
  refine tp_i (z := 1) (hz_1 (ix_nI hj (by omega))) ?_
  refine lv_if_ne (tgt := 10) hx hb dX3_keyAt_5 (by decide) (fun _ => ?_) (fun c9 => absurd c9 (by decide))
  refine lv_iload_n hx hb dX3_keyAt_10 rfl (lv_at hl 2 rfl) ?_
  refine lv_if_ne (tgt := 23) hx hb dX3_keyAt_11 (by decide) (fun c11 => ?_) (fun c11 => ?_)
  · refine lv_aload_n hx hb dX3_keyAt_23 rfl (lv_at hl 0 rfl) ?_
    refine va_get (D := D) (ci := 3) (v := .ref (ad 14)) (C := RX3) (T := TX3) (N := 6) hx hb hts in_X3 hown hK hP 2 rfl rfl 4 (by decide) (hts _ kf_X3_24) (fun _ h9 => h9) rfl dX3_keyAt_24 ?_
    refine lv_iload_n hx hb dX3_keyAt_27 rfl (lv_at hl 1 rfl) ?_
    refine ar_g hx hb hK hP 14 rfl (by omega) (by decide) dX3_keyAt_28 ?_
    exact rt_i (v := (sRt σ j)) (u := σ) hx hb hr hlocks hS hP (⟨(if_neg c11).symm, rfl⟩) dX3_keyAt_29
  · refine lv_aload_n hx hb dX3_keyAt_14 rfl (lv_at hl 0 rfl) ?_
    refine va_get (D := D) (ci := 3) (v := .ref (ad 13)) (C := RX3) (T := TX3) (N := 6) hx hb hts in_X3 hown hK hP 2 rfl rfl 3 (by decide) (hts _ kf_X3_21) (fun _ h9 => h9) rfl dX3_keyAt_15 ?_
    refine lv_iload_n hx hb dX3_keyAt_18 rfl (lv_at hl 1 rfl) ?_
    refine ar_g hx hb hK hP 13 rfl (by omega) (by decide) dX3_keyAt_19 ?_
    refine lv_goto (tgt := 29) hx hb dX3_keyAt_20 (by decide) ?_
    exact rt_i (v := (sLf σ j)) (u := σ) hx hb hr hlocks hS hP (⟨(if_pos c11).symm, rfl⟩) dX3_keyAt_29
set_option maxHeartbeats 4000000 in
set_option maxRecDepth 100000 in
theorem c_X3_setKeyAt (l : Launch) (D : va_G) (cA : ClassId) (ad : Nat → Nat) (A : Nat → Prop) (hDD : ∀ u, va_D A (cW ad cA u)) (σ : CS) (j : Nat) (h k : Int32) (hj : j < sVc σ) (hvc : sVc σ ≤ 12) : Cv l D cA (cW ad cA) A yX3_setKeyAt cX3_setKeyAt 4 1 21 [.ref (ad 2), .int (nI j), .int h, .int k] σ (fun u => u = shk σ j h k) := by
  refine Cv.of (by decide) (Nat.le_of_ble_eq_true rfl) ?_
  intro p e s m below meth c ls S0 hr hlocks hK hP hS hl
  obtain ⟨hx, hb, hml, hown, hts⟩ := id S0
  have hl : lv_has ls 4 [(0, .ref (ad 2)), (1, .int (nI j)), (2, .int h), (3, .int k)] := hl
  refine lv_aload_n hx hb dX3_setKeyAt_0 rfl (lv_at hl 0 rfl) ?_
  refine lv_iload_n hx hb dX3_setKeyAt_1 rfl (lv_at hl 1 rfl) ?_
  refine cl_i (rest := []) (c_X3_has l D cA ad A hDD σ (nI j) ) ⟨hx, hb, hml, hown, hts⟩ hK hP hS kv_X3_31 ⟨Nat.le_of_ble_eq_true rfl, Nat.le_of_ble_eq_true rfl⟩ ⟨Nat.zero_le _, Nat.zero_le _⟩ 2 rfl rfl rfl hl.1 rfl (Nat.le_of_ble_eq_true rfl) (fun q h => h) dX3_setKeyAt_2 (fun r u H locs hw hP hS _ => ?_)
  rw [hw.2] at hP
  refine tp_i (z := (hz (sVc σ) (nI j))) hw.1 ?_
  refine tp_i (z := 1) (hz_1 (ix_nI hj (by omega))) ?_
  refine lv_if_ne (tgt := 9) hx hb dX3_setKeyAt_5 (by decide) (fun _ => ?_) (fun c9 => absurd c9 (by decide))
  refine lv_iload_n hx hb dX3_setKeyAt_9 rfl (lv_at hl 2 rfl) ?_
  refine lv_if_ne (tgt := 23) hx hb dX3_setKeyAt_10 (by decide) (fun c10 => ?_) (fun c10 => ?_)
  · refine lv_aload_n hx hb dX3_setKeyAt_23 rfl (lv_at hl 0 rfl) ?_
    refine va_get (D := D) (ci := 3) (v := .ref (ad 14)) (C := RX3) (T := TX3) (N := 6) hx hb hts in_X3 hown hK hP 2 rfl rfl 4 (by decide) (hts _ kf_X3_24) (fun _ h9 => h9) rfl dX3_setKeyAt_24 ?_
    refine lv_iload_n hx hb dX3_setKeyAt_27 rfl (lv_at hl 1 rfl) ?_
    refine lv_iload_n hx hb dX3_setKeyAt_28 rfl (lv_at hl 3 rfl) ?_
    refine ar_p hx hb hK hP (hDD _) hS 14 rfl (x := k) (by omega) (by decide) dX3_setKeyAt_29 (fun H locs hP hS => ?_)
    have hP : va_P D vwCl (cW ad cA (σ.1, ((sLim σ), (sSm σ), (sNx σ), (sLf σ), (upd (sRt σ) j k), (sVc σ)), σ.2.2.1, σ.2.2.2.1, σ.2.2.2.2)) H := hP
    exact rt_v (u := (σ.1, ((sLim σ), (sSm σ), (sNx σ), (sLf σ), (upd (sRt σ) j k), (sVc σ)), σ.2.2.1, σ.2.2.2.1, σ.2.2.2.2)) hx hb hr hlocks hS hP ((if_neg c10).symm) dX3_setKeyAt_30
  · refine lv_aload_n hx hb dX3_setKeyAt_13 rfl (lv_at hl 0 rfl) ?_
    refine va_get (D := D) (ci := 3) (v := .ref (ad 13)) (C := RX3) (T := TX3) (N := 6) hx hb hts in_X3 hown hK hP 2 rfl rfl 3 (by decide) (hts _ kf_X3_21) (fun _ h9 => h9) rfl dX3_setKeyAt_14 ?_
    refine lv_iload_n hx hb dX3_setKeyAt_17 rfl (lv_at hl 1 rfl) ?_
    refine lv_iload_n hx hb dX3_setKeyAt_18 rfl (lv_at hl 3 rfl) ?_
    refine ar_p hx hb hK hP (hDD _) hS 13 rfl (x := k) (by omega) (by decide) dX3_setKeyAt_19 (fun H locs hP hS => ?_)
    have hP : va_P D vwCl (cW ad cA (σ.1, ((sLim σ), (sSm σ), (sNx σ), (upd (sLf σ) j k), (sRt σ), (sVc σ)), σ.2.2.1, σ.2.2.2.1, σ.2.2.2.2)) H := hP
    refine lv_goto (tgt := 30) hx hb dX3_setKeyAt_20 (by decide) ?_
    exact rt_v (u := (σ.1, ((sLim σ), (sSm σ), (sNx σ), (upd (sLf σ) j k), (sRt σ), (sVc σ)), σ.2.2.1, σ.2.2.2.1, σ.2.2.2.2)) hx hb hr hlocks hS hP ((if_pos c10).symm) dX3_setKeyAt_30
set_option maxHeartbeats 4000000 in
set_option maxRecDepth 100000 in
theorem c_X3_isTooMuch (l : Launch) (D : va_G) (cA : ClassId) (ad : Nat → Nat) (A : Nat → Prop) (hDD : ∀ u, va_D A (cW ad cA u)) (σ : CS) (j : Nat) (n : Int32) (hj : j < sVc σ) (hvc : sVc σ ≤ 12) : Ct l D cA (cW ad cA) A yX3_isTooMuch cX3_isTooMuch 3 (some .boolean) 1 21 [.ref (ad 2), .int (nI j), .int n] σ (fun r u => r = bz (sLim σ j < sSm σ j + n) ∧ u = σ) := by
  refine Ct.of (by decide) (Nat.le_of_ble_eq_true rfl) ?_
  intro p e s m below meth c ls S0 hr hlocks hK hP hS hl
  obtain ⟨hx, hb, hml, hown, hts⟩ := id S0
  have hl : lv_has ls 3 [(0, .ref (ad 2)), (1, .int (nI j)), (2, .int n)] := hl
  refine lv_aload_n hx hb dX3_isTooMuch_0 rfl (lv_at hl 0 rfl) ?_
  refine lv_iload_n hx hb dX3_isTooMuch_1 rfl (lv_at hl 1 rfl) ?_
  refine cl_i (rest := []) (c_X3_has l D cA ad A hDD σ (nI j) ) ⟨hx, hb, hml, hown, hts⟩ hK hP hS kv_X3_31 ⟨Nat.le_of_ble_eq_true rfl, Nat.le_of_ble_eq_true rfl⟩ ⟨Nat.zero_le _, Nat.zero_le _⟩ 2 rfl rfl rfl hl.1 rfl (Nat.le_of_ble_eq_true rfl) (fun q h => h) dX3_isTooMuch_2 (fun r u H locs hw hP hS _ => ?_)
  rw [hw.2] at hP
  refine tp_i (z := (hz (sVc σ) (nI j))) hw.1 ?_
  refine tp_i (z := 1) (hz_1 (ix_nI hj (by omega))) ?_
  refine lv_if_eq (tgt := 29) hx hb dX3_isTooMuch_5 (by decide) (fun c9 => absurd c9 (by decide)) (fun _ => ?_)
  refine lv_aload_n hx hb dX3_isTooMuch_8 rfl (lv_at hl 0 rfl) ?_
  refine va_get (D := D) (ci := 3) (v := .ref (ad 11)) (C := RX3) (T := TX3) (N := 6) hx hb hts in_X3 hown hK hP 2 rfl rfl 1 (by decide) (hts _ kf_X3_15) (fun _ h9 => h9) rfl dX3_isTooMuch_9 ?_
  refine lv_iload_n hx hb dX3_isTooMuch_12 rfl (lv_at hl 1 rfl) ?_
  refine ar_g hx hb hK hP 11 rfl (by omega) (by decide) dX3_isTooMuch_13 ?_
  refine lv_iload_n hx hb dX3_isTooMuch_14 rfl (lv_at hl 2 rfl) ?_
  refine lv_iadd hx hb dX3_isTooMuch_15 ?_
  refine lv_aload_n hx hb dX3_isTooMuch_16 rfl (lv_at hl 0 rfl) ?_
  refine va_get (D := D) (ci := 3) (v := .ref (ad 10)) (C := RX3) (T := TX3) (N := 6) hx hb hts in_X3 hown hK hP 2 rfl rfl 0 (by decide) (hts _ kf_X3_9) (fun _ h9 => h9) rfl dX3_isTooMuch_17 ?_
  refine lv_iload_n hx hb dX3_isTooMuch_20 rfl (lv_at hl 1 rfl) ?_
  refine ar_g hx hb hK hP 10 rfl (by omega) (by decide) dX3_isTooMuch_21 ?_
  refine lv_icmp_le (tgt := 29) hx hb dX3_isTooMuch_22 (by decide) (fun c22 => ?_) (fun c22 => ?_)
  · refine lv_iconst (v := 0) hx hb dX3_isTooMuch_29 (by decide) ?_
    exact rt_z (v := 0) (u := σ) hx hb hr hlocks rfl hS hP (⟨(bz_0 (i_nlt.mpr c22)).symm, rfl⟩) dX3_isTooMuch_30
  · refine lv_iconst (v := 1) hx hb dX3_isTooMuch_25 (by decide) ?_
    refine lv_goto (tgt := 30) hx hb dX3_isTooMuch_26 (by decide) ?_
    exact rt_z (v := 1) (u := σ) hx hb hr hlocks rfl hS hP (⟨(bz_1 (i_nle.mp c22)).symm, rfl⟩) dX3_isTooMuch_30
set_option maxHeartbeats 4000000 in
set_option maxRecDepth 100000 in
theorem c_X4_isWithin (l : Launch) (D : va_G) (cA : ClassId) (ad : Nat → Nat) (A : Nat → Prop) (hDD : ∀ u, va_D A (cW ad cA u)) (σ : CS) (x lo hi : Int32) : Ct l D cA (cW ad cA) A yX4_isWithin cX4_isWithin 3 (some .boolean) 0 0 [.int x, .int lo, .int hi] σ (fun r u => r = bz (lo ≤ x ∧ x ≤ hi) ∧ u = σ) := by
  refine Ct.of (by decide) (Nat.le_of_ble_eq_true rfl) ?_
  intro p e s m below meth c ls S0 hr hlocks hK hP hS hl
  obtain ⟨hx, hb, hml, hown, hts⟩ := id S0
  have hl : lv_has ls 3 [(0, .int x), (1, .int lo), (2, .int hi)] := hl
  refine lv_iload_n hx hb dX4_isWithin_0 rfl (lv_at hl 0 rfl) ?_
  refine lv_iload_n hx hb dX4_isWithin_1 rfl (lv_at hl 1 rfl) ?_
  refine lv_icmp_lt (tgt := 14) hx hb dX4_isWithin_2 (by decide) (fun c2 => ?_) (fun c2 => ?_)
  · refine lv_iconst (v := 0) hx hb dX4_isWithin_14 (by decide) ?_
    exact rt_z (v := 0) (u := σ) hx hb hr hlocks rfl hS hP (⟨(bz_0 (fun q => i_nle.mpr c2 q.1)).symm, rfl⟩) dX4_isWithin_15
  · refine lv_iload_n hx hb dX4_isWithin_5 rfl (lv_at hl 0 rfl) ?_
    refine lv_iload_n hx hb dX4_isWithin_6 rfl (lv_at hl 2 rfl) ?_
    refine lv_icmp_gt (tgt := 14) hx hb dX4_isWithin_7 (by decide) (fun c7 => ?_) (fun c7 => ?_)
    · refine lv_iconst (v := 0) hx hb dX4_isWithin_14 (by decide) ?_
      exact rt_z (v := 0) (u := σ) hx hb hr hlocks rfl hS hP (⟨(bz_0 (fun q => i_nle.mpr c7 q.2)).symm, rfl⟩) dX4_isWithin_15
    · refine lv_iconst (v := 1) hx hb dX4_isWithin_10 (by decide) ?_
      refine lv_goto (tgt := 15) hx hb dX4_isWithin_11 (by decide) ?_
      exact rt_z (v := 1) (u := σ) hx hb hr hlocks rfl hS hP (⟨(bz_1 ⟨i_nlt.mp c2, i_nlt.mp c7⟩).symm, rfl⟩) dX4_isWithin_15
set_option maxHeartbeats 4000000 in
set_option maxRecDepth 100000 in
theorem c_X4_isAmount (l : Launch) (D : va_G) (cA : ClassId) (ad : Nat → Nat) (A : Nat → Prop) (hDD : ∀ u, va_D A (cW ad cA u)) (σ : CS) (x : Int32) : Ct l D cA (cW ad cA) A yX4_isAmount cX4_isAmount 1 (some .boolean) 1 22 [.int x] σ (fun r u => r = bz (amt x) ∧ u = σ) := by
  refine Ct.of (by decide) (Nat.le_of_ble_eq_true rfl) ?_
  intro p e s m below meth c ls S0 hr hlocks hK hP hS hl
  obtain ⟨hx, hb, hml, hown, hts⟩ := id S0
  have hl : lv_has ls 1 [(0, .int x)] := hl
  refine lv_iload_n hx hb dX4_isAmount_0 rfl (lv_at hl 0 rfl) ?_
  refine lv_iconst (v := 0) hx hb dX4_isAmount_1 (by decide) ?_
  refine lv_ldc (v := 1000000) hx hb hown (hts _ kc_X4_56) dX4_isAmount_2 ?_
  refine cl_s (rest := []) (c_X4_isWithin l D cA ad A hDD σ x 0 1000000 ) ⟨hx, hb, hml, hown, hts⟩ hK hP hS kv_X4_48 ⟨Nat.le_of_ble_eq_true rfl, Nat.le_of_ble_eq_true rfl⟩ ⟨Nat.zero_le _, Nat.zero_le _⟩ rfl hl.1 rfl (Nat.le_of_ble_eq_true rfl) (fun q h => h) dX4_isAmount_4 (fun r u H locs hw hP hS => ?_)
  rw [hw.2] at hP
  refine tp_i (z := (bz (0 ≤ x ∧ x ≤ 1000000))) hw.1 ?_
  exact rt_z (v := (bz (0 ≤ x ∧ x ≤ 1000000))) (u := σ) hx hb hr hlocks bz_nar hS hP (⟨rfl, rfl⟩) dX4_isAmount_7
set_option maxHeartbeats 4000000 in
set_option maxRecDepth 100000 in
theorem c_X5_isAmount (l : Launch) (D : va_G) (cA : ClassId) (ad : Nat → Nat) (A : Nat → Prop) (hDD : ∀ u, va_D A (rW ad cA u)) (σ : CS) (x : Int32) : Ct l D cA (rW ad cA) A yX5_isAmount cX5_isAmount 1 (some .boolean) 0 0 [.int x] σ (fun r u => r = bz (amt x) ∧ u = σ) := by
  refine Ct.of (by decide) (Nat.le_of_ble_eq_true rfl) ?_
  intro p e s m below meth c ls S0 hr hlocks hK hP hS hl
  obtain ⟨hx, hb, hml, hown, hts⟩ := id S0
  have hl : lv_has ls 1 [(0, .int x)] := hl
  refine lv_iload_n hx hb dX5_isAmount_0 rfl (lv_at hl 0 rfl) ?_
  refine lv_if_lt (tgt := 14) hx hb dX5_isAmount_1 (by decide) (fun c1 => ?_) (fun c1 => ?_)
  · refine lv_iconst (v := 0) hx hb dX5_isAmount_14 (by decide) ?_
    exact rt_z (v := 0) (u := σ) hx hb hr hlocks rfl hS hP (⟨(bz_0 (fun q => i_nlt.mpr q.1 c1)).symm, rfl⟩) dX5_isAmount_15
  · refine lv_iload_n hx hb dX5_isAmount_4 rfl (lv_at hl 0 rfl) ?_
    refine lv_ldc (v := 1000000) hx hb hown (hts _ kc_X5_59) dX5_isAmount_5 ?_
    refine lv_icmp_gt (tgt := 14) hx hb dX5_isAmount_7 (by decide) (fun c7 => ?_) (fun c7 => ?_)
    · refine lv_iconst (v := 0) hx hb dX5_isAmount_14 (by decide) ?_
      exact rt_z (v := 0) (u := σ) hx hb hr hlocks rfl hS hP (⟨(bz_0 (fun q => i_nle.mpr c7 q.2)).symm, rfl⟩) dX5_isAmount_15
    · refine lv_iconst (v := 1) hx hb dX5_isAmount_10 (by decide) ?_
      refine lv_goto (tgt := 15) hx hb dX5_isAmount_11 (by decide) ?_
      exact rt_z (v := 1) (u := σ) hx hb hr hlocks rfl hS hP (⟨(bz_1 ⟨i_nlt.mp c1, i_nlt.mp c7⟩).symm, rfl⟩) dX5_isAmount_15
set_option maxHeartbeats 4000000 in
set_option maxRecDepth 100000 in
theorem c_X5_isHand (l : Launch) (D : va_G) (cA : ClassId) (ad : Nat → Nat) (A : Nat → Prop) (hDD : ∀ u, va_D A (rW ad cA u)) (σ : CS) (x : Int32) : Ct l D cA (rW ad cA) A yX5_isHand cX5_isHand 1 (some .boolean) 0 0 [.int x] σ (fun r u => r = bz (okh x) ∧ u = σ) := by
  refine Ct.of (by decide) (Nat.le_of_ble_eq_true rfl) ?_
  intro p e s m below meth c ls S0 hr hlocks hK hP hS hl
  obtain ⟨hx, hb, hml, hown, hts⟩ := id S0
  have hl : lv_has ls 1 [(0, .int x)] := hl
  refine lv_iload_n hx hb dX5_isHand_0 rfl (lv_at hl 0 rfl) ?_
  refine lv_if_eq (tgt := 9) hx hb dX5_isHand_1 (by decide) (fun c1 => ?_) (fun c1 => ?_)
  · refine lv_iconst (v := 1) hx hb dX5_isHand_9 (by decide) ?_
    refine lv_goto (tgt := 14) hx hb dX5_isHand_10 (by decide) ?_
    exact rt_z (v := 1) (u := σ) hx hb hr hlocks rfl hS hP (⟨(bz_1 (Or.inl c1)).symm, rfl⟩) dX5_isHand_14
  · refine lv_iload_n hx hb dX5_isHand_4 rfl (lv_at hl 0 rfl) ?_
    refine lv_iconst (v := 1) hx hb dX5_isHand_5 (by decide) ?_
    refine lv_icmp_ne (tgt := 13) hx hb dX5_isHand_6 (by decide) (fun c6 => ?_) (fun c6 => ?_)
    · refine lv_iconst (v := 0) hx hb dX5_isHand_13 (by decide) ?_
      exact rt_z (v := 0) (u := σ) hx hb hr hlocks rfl hS hP (⟨(bz_0 (fun q => q.elim c1 c6)).symm, rfl⟩) dX5_isHand_14
    · refine lv_iconst (v := 1) hx hb dX5_isHand_9 (by decide) ?_
      refine lv_goto (tgt := 14) hx hb dX5_isHand_10 (by decide) ?_
      exact rt_z (v := 1) (u := σ) hx hb hr hlocks rfl hS hP (⟨(bz_1 (Or.inr c6)).symm, rfl⟩) dX5_isHand_14
