set_option maxHeartbeats 4000000 in
set_option maxRecDepth 100000 in
theorem c_X4_key (l : Launch) (D : va_G) (cA : ClassId) (ad : Nat → Nat) (A : Nat → Prop) (hDD : ∀ u, va_D A (cW ad cA u)) (σ : CS) (t mm : Int32) (hI : Inv σ) (hg : sGr σ = 0) (hb9 : sBc σ ≤ 1000000000) : Ct l D cA (cW ad cA) A yX4_key cX4_key 3 (some .int) 1 22 [.ref (ad 0), .int t, .int mm] σ (fun r u => r = (f_key σ t mm).1 ∧ u = (f_key σ t mm).2) := by
  refine Ct.of (by decide) (Nat.le_of_ble_eq_true rfl) ?_
  intro p e s m below meth c ls S0 hr hlocks hK hP hS hl
  obtain ⟨hx, hb, hml, hown, hts⟩ := id S0
  have hl : lv_has ls 3 [(0, .ref (ad 0)), (1, .int t), (2, .int mm)] := hl
  have hkc := hI.kc
  have hvc := hI.vc
  have hgc := hI.gr
  have htc := hI.tc
  by_cases ht : 1 ≤ t ∧ t ≤ 9
  · skip
    refine lv_iload_n hx hb dX4_key_0 rfl (lv_at hl 1 rfl) ?_
    refine lv_iconst (v := 1) hx hb dX4_key_1 (by decide) ?_
    refine lv_bipush (v := 9) hx hb dX4_key_2 (by decide) ?_
    refine cl_s (rest := []) (c_X4_isWithin l D cA ad A hDD σ t 1 9 ) ⟨hx, hb, hml, hown, hts⟩ hK hP hS kv_X4_48 ⟨Nat.le_of_ble_eq_true rfl, Nat.le_of_ble_eq_true rfl⟩ ⟨Nat.zero_le _, Nat.zero_le _⟩ rfl hl.1 rfl (Nat.le_of_ble_eq_true rfl) (fun q h => h) dX4_key_4 (fun r u H locs hw hP hS => ?_)
    rw [hw.2] at hP
    refine tp_i (z := (bz (1 ≤ t ∧ t ≤ 9))) hw.1 ?_
    refine tp_i (z := 1) (bz_1 ht) ?_
    refine lv_if_ne (tgt := 13) hx hb dX4_key_7 (by decide) (fun _ => ?_) (fun c9 => absurd c9 (by decide))
    refine lv_aload_n hx hb dX4_key_13 rfl (lv_at hl 0 rfl) ?_
    refine va_get (D := D) (ci := 4) (v := .ref (ad 1)) (C := RX4) (T := TX4) (N := 7) hx hb hts in_X4 hown hK hP 0 rfl rfl 0 (by decide) (hts _ kf_X4_10) (fun _ h9 => h9) rfl dX4_key_14 ?_
    refine lv_iload_n hx hb dX4_key_17 rfl (lv_at hl 1 rfl) ?_
    refine lv_iload_n hx hb dX4_key_18 rfl (lv_at hl 2 rfl) ?_
    refine lv_if_eq (tgt := 26) hx hb dX4_key_19 (by decide) (fun c19 => ?_) (fun c19 => ?_)
    · refine lv_iconst (v := 1) hx hb dX4_key_26 (by decide) ?_
      refine cl_i (rest := []) (c_X1_add l D cA ad A hDD σ t 1 hkc) ⟨hx, hb, hml, hown, hts⟩ hK hP hS kv_X4_52 ⟨Nat.le_of_ble_eq_true rfl, Nat.le_of_ble_eq_true rfl⟩ ⟨Nat.zero_le _, Nat.zero_le _⟩ 1 rfl rfl rfl hl.1 rfl (Nat.le_of_ble_eq_true rfl) (fun q h => h) dX4_key_27 (fun r u H locs hw hP hS _ => ?_)
      rw [hw.2] at hP
      refine tp_i (z := (a_key σ t 1).1) hw.1 ?_
      exact rt_i (v := (a_key σ t 1).1) (u := (a_key σ t 1).2) hx hb hr hlocks hS hP ((by rw [f_key_a hI hg ht (if_pos c19)]; exact ⟨rfl, rfl⟩)) dX4_key_30
    · refine lv_iconst (v := 2) hx hb dX4_key_22 (by decide) ?_
      refine lv_goto (tgt := 27) hx hb dX4_key_23 (by decide) ?_
      refine cl_i (rest := []) (c_X1_add l D cA ad A hDD σ t 2 hkc) ⟨hx, hb, hml, hown, hts⟩ hK hP hS kv_X4_52 ⟨Nat.le_of_ble_eq_true rfl, Nat.le_of_ble_eq_true rfl⟩ ⟨Nat.zero_le _, Nat.zero_le _⟩ 1 rfl rfl rfl hl.1 rfl (Nat.le_of_ble_eq_true rfl) (fun q h => h) dX4_key_27 (fun r u H locs hw hP hS _ => ?_)
      rw [hw.2] at hP
      refine tp_i (z := (a_key σ t 2).1) hw.1 ?_
      exact rt_i (v := (a_key σ t 2).1) (u := (a_key σ t 2).2) hx hb hr hlocks hS hP ((by rw [f_key_a hI hg ht (if_neg c19)]; exact ⟨rfl, rfl⟩)) dX4_key_30
  · skip
    refine lv_iload_n hx hb dX4_key_0 rfl (lv_at hl 1 rfl) ?_
    refine lv_iconst (v := 1) hx hb dX4_key_1 (by decide) ?_
    refine lv_bipush (v := 9) hx hb dX4_key_2 (by decide) ?_
    refine cl_s (rest := []) (c_X4_isWithin l D cA ad A hDD σ t 1 9 ) ⟨hx, hb, hml, hown, hts⟩ hK hP hS kv_X4_48 ⟨Nat.le_of_ble_eq_true rfl, Nat.le_of_ble_eq_true rfl⟩ ⟨Nat.zero_le _, Nat.zero_le _⟩ rfl hl.1 rfl (Nat.le_of_ble_eq_true rfl) (fun q h => h) dX4_key_4 (fun r u H locs hw hP hS => ?_)
    rw [hw.2] at hP
    refine tp_i (z := (bz (1 ≤ t ∧ t ≤ 9))) hw.1 ?_
    refine tp_i (z := 0) (bz_0 ht) ?_
    refine lv_if_ne (tgt := 13) hx hb dX4_key_7 (by decide) (fun c9 => absurd (by decide) c9) (fun _ => ?_)
    refine lv_bipush (v := (-2)) hx hb dX4_key_10 (by decide) ?_
    exact rt_i (v := (-2)) (u := σ) hx hb hr hlocks hS hP (pr2 (if_neg ht)) dX4_key_12
set_option maxHeartbeats 4000000 in
set_option maxRecDepth 100000 in
theorem c_X4_vault (l : Launch) (D : va_G) (cA : ClassId) (ad : Nat → Nat) (A : Nat → Prop) (hDD : ∀ u, va_D A (cW ad cA u)) (σ : CS) (x : Int32) (hI : Inv σ) (hg : sGr σ = 0) (hb9 : sBc σ ≤ 1000000000) : Ct l D cA (cW ad cA) A yX4_vault cX4_vault 2 (some .int) 1 22 [.ref (ad 0), .int x] σ (fun r u => r = (f_vault σ x).1 ∧ u = (f_vault σ x).2) := by
  refine Ct.of (by decide) (Nat.le_of_ble_eq_true rfl) ?_
  intro p e s m below meth c ls S0 hr hlocks hK hP hS hl
  obtain ⟨hx, hb, hml, hown, hts⟩ := id S0
  have hl : lv_has ls 2 [(0, .ref (ad 0)), (1, .int x)] := hl
  have hkc := hI.kc
  have hvc := hI.vc
  have hgc := hI.gr
  have htc := hI.tc
  by_cases hn : amt x
  · skip
    refine lv_iload_n hx hb dX4_vault_0 rfl (lv_at hl 1 rfl) ?_
    refine lv_iconst (v := 0) hx hb dX4_vault_1 (by decide) ?_
    refine lv_ldc (v := 1000000) hx hb hown (hts _ kc_X4_56) dX4_vault_2 ?_
    refine cl_s (rest := []) (c_X4_isWithin l D cA ad A hDD σ x 0 1000000 ) ⟨hx, hb, hml, hown, hts⟩ hK hP hS kv_X4_48 ⟨Nat.le_of_ble_eq_true rfl, Nat.le_of_ble_eq_true rfl⟩ ⟨Nat.zero_le _, Nat.zero_le _⟩ rfl hl.1 rfl (Nat.le_of_ble_eq_true rfl) (fun q h => h) dX4_vault_4 (fun r u H locs hw hP hS => ?_)
    rw [hw.2] at hP
    refine tp_i (z := (bz (0 ≤ x ∧ x ≤ 1000000))) hw.1 ?_
    refine tp_i (z := 1) (bz_1 hn) ?_
    refine lv_if_ne (tgt := 13) hx hb dX4_vault_7 (by decide) (fun _ => ?_) (fun c9 => absurd c9 (by decide))
    refine lv_aload_n hx hb dX4_vault_13 rfl (lv_at hl 0 rfl) ?_
    refine va_get (D := D) (ci := 4) (v := .ref (ad 2)) (C := RX4) (T := TX4) (N := 7) hx hb hts in_X4 hown hK hP 0 rfl rfl 1 (by decide) (hts _ kf_X4_19) (fun _ h9 => h9) rfl dX4_vault_14 ?_
    refine lv_iload_n hx hb dX4_vault_17 rfl (lv_at hl 1 rfl) ?_
    refine cl_i (rest := []) (c_X3_add l D cA ad A hDD σ x hvc) ⟨hx, hb, hml, hown, hts⟩ hK hP hS kv_X4_57 ⟨Nat.le_of_ble_eq_true rfl, Nat.le_of_ble_eq_true rfl⟩ ⟨Nat.zero_le _, Nat.zero_le _⟩ 2 rfl rfl rfl hl.1 rfl (Nat.le_of_ble_eq_true rfl) (fun q h => h) dX4_vault_18 (fun r u H locs hw hP hS _ => ?_)
    rw [hw.2] at hP
    refine tp_i (z := (a_vault σ x).1) hw.1 ?_
    exact rt_i (v := (a_vault σ x).1) (u := (a_vault σ x).2) hx hb hr hlocks hS hP ((by rw [f_vault_a hI hn]; exact ⟨rfl, rfl⟩)) dX4_vault_21
  · skip
    refine lv_iload_n hx hb dX4_vault_0 rfl (lv_at hl 1 rfl) ?_
    refine lv_iconst (v := 0) hx hb dX4_vault_1 (by decide) ?_
    refine lv_ldc (v := 1000000) hx hb hown (hts _ kc_X4_56) dX4_vault_2 ?_
    refine cl_s (rest := []) (c_X4_isWithin l D cA ad A hDD σ x 0 1000000 ) ⟨hx, hb, hml, hown, hts⟩ hK hP hS kv_X4_48 ⟨Nat.le_of_ble_eq_true rfl, Nat.le_of_ble_eq_true rfl⟩ ⟨Nat.zero_le _, Nat.zero_le _⟩ rfl hl.1 rfl (Nat.le_of_ble_eq_true rfl) (fun q h => h) dX4_vault_4 (fun r u H locs hw hP hS => ?_)
    rw [hw.2] at hP
    refine tp_i (z := (bz (0 ≤ x ∧ x ≤ 1000000))) hw.1 ?_
    refine tp_i (z := 0) (bz_0 hn) ?_
    refine lv_if_ne (tgt := 13) hx hb dX4_vault_7 (by decide) (fun c9 => absurd (by decide) c9) (fun _ => ?_)
    refine lv_bipush (v := (-2)) hx hb dX4_vault_10 (by decide) ?_
    exact rt_i (v := (-2)) (u := σ) hx hb hr hlocks hS hP (pr2 (if_neg hn)) dX4_vault_12
set_option maxHeartbeats 4000000 in
set_option maxRecDepth 100000 in
theorem c_X4_hang (l : Launch) (D : va_G) (cA : ClassId) (ad : Nat → Nat) (A : Nat → Prop) (hDD : ∀ u, va_D A (cW ad cA u)) (σ : CS) (v h k : Int32) (hI : Inv σ) (hg : sGr σ = 0) (hb9 : sBc σ ≤ 1000000000) : Ct l D cA (cW ad cA) A yX4_hang cX4_hang 5 (some .int) 2 44 [.ref (ad 0), .int v, .int h, .int k] σ (fun r u => r = (f_hang σ v h k).1 ∧ u = (f_hang σ v h k).2) := by
  refine Ct.of (by decide) (Nat.le_of_ble_eq_true rfl) ?_
  intro p e s m below meth c ls S0 hr hlocks hK hP hS hl
  obtain ⟨hx, hb, hml, hown, hts⟩ := id S0
  have hl : lv_has ls 5 [(0, .ref (ad 0)), (1, .int v), (2, .int h), (3, .int k)] := hl
  have hkc := hI.kc
  have hvc := hI.vc
  have hgc := hI.gr
  have htc := hI.tc
  rcases ix_cases (n := sVc σ) v (by omega) with h0 | ⟨j, hj, rfl⟩
  · refine lv_aload_n hx hb dX4_hang_0 rfl (lv_at hl 0 rfl) ?_
    refine va_get (D := D) (ci := 4) (v := .ref (ad 2)) (C := RX4) (T := TX4) (N := 7) hx hb hts in_X4 hown hK hP 0 rfl rfl 1 (by decide) (hts _ kf_X4_19) (fun _ h9 => h9) rfl dX4_hang_1 ?_
    refine lv_iload_n hx hb dX4_hang_4 rfl (lv_at hl 1 rfl) ?_
    refine lv_iload_n hx hb dX4_hang_5 rfl (lv_at hl 2 rfl) ?_
    refine cl_i (rest := []) (c_X3_hasHand l D cA ad A hDD σ v h hvc) ⟨hx, hb, hml, hown, hts⟩ hK hP hS kv_X4_60 ⟨Nat.le_of_ble_eq_true rfl, Nat.le_of_ble_eq_true rfl⟩ ⟨Nat.zero_le _, Nat.zero_le _⟩ 2 rfl rfl rfl hl.1 rfl (Nat.le_of_ble_eq_true rfl) (fun q h => h) dX4_hang_6 (fun r u H locs hw hP hS _ => ?_)
    rw [hw.2] at hP
    refine tp_i (z := (bz ((ix (sVc σ) v).isSome = true ∧ okh h))) hw.1 ?_
    refine tp_i (z := 0) (bz_0 (fun q => ix_none_s h0 q.1)) ?_
    refine lv_if_eq (tgt := 28) hx hb dX4_hang_9 (by decide) (fun _ => ?_) (fun c9 => absurd (by decide) c9)
    refine lv_bipush (v := (-2)) hx hb dX4_hang_28 (by decide) ?_
    exact rt_i (v := (-2)) (u := σ) hx hb hr hlocks hS hP (pr2 (hang_b1 h0)) dX4_hang_30
  · have h0 := ix_nI hj (n := sVc σ) (by omega)
    refine lv_aload_n hx hb dX4_hang_0 rfl (lv_at hl 0 rfl) ?_
    by_cases hh : okh h
    · skip
      refine va_get (D := D) (ci := 4) (v := .ref (ad 2)) (C := RX4) (T := TX4) (N := 7) hx hb hts in_X4 hown hK hP 0 rfl rfl 1 (by decide) (hts _ kf_X4_19) (fun _ h9 => h9) rfl dX4_hang_1 ?_
      refine lv_iload_n hx hb dX4_hang_4 rfl (lv_at hl 1 rfl) ?_
      refine lv_iload_n hx hb dX4_hang_5 rfl (lv_at hl 2 rfl) ?_
      refine cl_i (rest := []) (c_X3_hasHand l D cA ad A hDD σ (nI j) h hvc) ⟨hx, hb, hml, hown, hts⟩ hK hP hS kv_X4_60 ⟨Nat.le_of_ble_eq_true rfl, Nat.le_of_ble_eq_true rfl⟩ ⟨Nat.zero_le _, Nat.zero_le _⟩ 2 rfl rfl rfl hl.1 rfl (Nat.le_of_ble_eq_true rfl) (fun q h => h) dX4_hang_6 (fun r u H locs hw hP hS _ => ?_)
      rw [hw.2] at hP
      refine tp_i (z := (bz ((ix (sVc σ) (nI j)).isSome = true ∧ okh h))) hw.1 ?_
      refine tp_i (z := 1) (bz_1 ⟨ix_some_s h0, hh⟩) ?_
      refine lv_if_eq (tgt := 28) hx hb dX4_hang_9 (by decide) (fun c9 => absurd c9 (by decide)) (fun _ => ?_)
      refine lv_iload_n hx hb dX4_hang_12 rfl (lv_at hl 3 rfl) ?_
      refine lv_iconst (v := (-1)) hx hb dX4_hang_13 (by decide) ?_
      refine lv_icmp_eq (tgt := 31) hx hb dX4_hang_14 (by decide) (fun c14 => ?_) (fun c14 => ?_)
      · refine lv_aload_n hx hb dX4_hang_31 rfl (lv_at hl 0 rfl) ?_
        refine va_get (D := D) (ci := 4) (v := .ref (ad 2)) (C := RX4) (T := TX4) (N := 7) hx hb hts in_X4 hown hK hP 0 rfl rfl 1 (by decide) (hts _ kf_X4_19) (fun _ h9 => h9) rfl dX4_hang_32 ?_
        refine lv_iload_n hx hb dX4_hang_35 rfl (lv_at hl 1 rfl) ?_
        refine lv_iload_n hx hb dX4_hang_36 rfl (lv_at hl 2 rfl) ?_
        refine cl_i (rest := []) (c_X3_keyAt l D cA ad A hDD σ j h hj hvc) ⟨hx, hb, hml, hown, hts⟩ hK hP hS kv_X4_68 ⟨Nat.le_of_ble_eq_true rfl, Nat.le_of_ble_eq_true rfl⟩ ⟨Nat.zero_le _, Nat.zero_le _⟩ 2 rfl rfl rfl hl.1 rfl (Nat.le_of_ble_eq_true rfl) (fun q h => h) dX4_hang_37 (fun r u H locs hw hP hS _ => ?_)
        rw [hw.2] at hP
        refine tp_i (z := (hd σ j h)) hw.1 ?_
        refine lv_istore (lv' := [(4, .int (hd σ j h)), (0, .ref (ad 0)), (1, .int (nI j)), (2, .int h), (3, .int k)]) hx hb dX4_hang_40 hl (by decide) rfl (fun ls hl => ?_)
        refine lv_aload_n hx hb dX4_hang_42 rfl (lv_at hl 1 rfl) ?_
        refine va_get (D := D) (ci := 4) (v := .ref (ad 2)) (C := RX4) (T := TX4) (N := 7) hx hb hts in_X4 hown hK hP 0 rfl rfl 1 (by decide) (hts _ kf_X4_19) (fun _ h9 => h9) rfl dX4_hang_43 ?_
        refine lv_iload_n hx hb dX4_hang_46 rfl (lv_at hl 2 rfl) ?_
        refine lv_iload_n hx hb dX4_hang_47 rfl (lv_at hl 3 rfl) ?_
        refine lv_iload_n hx hb dX4_hang_48 rfl (lv_at hl 4 rfl) ?_
        refine cl_v (rest := []) (c_X3_setKeyAt l D cA ad A hDD σ j h k hj hvc) ⟨hx, hb, hml, hown, hts⟩ hK hP hS kv_X4_71 ⟨Nat.le_of_ble_eq_true rfl, Nat.le_of_ble_eq_true rfl⟩ ⟨Nat.zero_le _, Nat.zero_le _⟩ 2 rfl rfl rfl hl.1 rfl (Nat.le_of_ble_eq_true rfl) (fun q h => h) dX4_hang_49 (fun u H locs hw hP hS _ => ?_)
        rw [hw] at hP
        refine lv_iload hx hb dX4_hang_52 (lv_at hl 0 rfl) ?_
        exact rt_i (v := (hd σ j h)) (u := (shk σ j h k)) hx hb hr hlocks hS hP (pr2 (hang_ok h0 hh (Or.inl c14))) dX4_hang_54
      · rcases ix_cases (n := sKc σ) k (by omega) with hq | ⟨i, hi, rfl⟩
        · refine lv_aload_n hx hb dX4_hang_17 rfl (lv_at hl 0 rfl) ?_
          refine va_get (D := D) (ci := 4) (v := .ref (ad 1)) (C := RX4) (T := TX4) (N := 7) hx hb hts in_X4 hown hK hP 0 rfl rfl 0 (by decide) (hts _ kf_X4_10) (fun _ h9 => h9) rfl dX4_hang_18 ?_
          refine lv_iload_n hx hb dX4_hang_21 rfl (lv_at hl 3 rfl) ?_
          refine cl_i (rest := []) (c_X1_has l D cA ad A hDD σ k ) ⟨hx, hb, hml, hown, hts⟩ hK hP hS kv_X4_64 ⟨Nat.le_of_ble_eq_true rfl, Nat.le_of_ble_eq_true rfl⟩ ⟨Nat.zero_le _, Nat.zero_le _⟩ 1 rfl rfl rfl hl.1 rfl (Nat.le_of_ble_eq_true rfl) (fun q h => h) dX4_hang_22 (fun r u H locs hw hP hS _ => ?_)
          rw [hw.2] at hP
          refine tp_i (z := (hz (sKc σ) k)) hw.1 ?_
          refine tp_i (z := 0) (hz_0 hq) ?_
          refine lv_if_ne (tgt := 31) hx hb dX4_hang_25 (by decide) (fun c9 => absurd (by decide) c9) (fun _ => ?_)
          refine lv_bipush (v := (-2)) hx hb dX4_hang_28 (by decide) ?_
          exact rt_i (v := (-2)) (u := σ) hx hb hr hlocks hS hP (pr2 (hang_b2 h0 (fun q => q.2.elim c14 (ix_none_s hq)))) dX4_hang_30
        · have hq := ix_nI hi (n := sKc σ) (by omega)
          refine lv_aload_n hx hb dX4_hang_17 rfl (lv_at hl 0 rfl) ?_
          refine va_get (D := D) (ci := 4) (v := .ref (ad 1)) (C := RX4) (T := TX4) (N := 7) hx hb hts in_X4 hown hK hP 0 rfl rfl 0 (by decide) (hts _ kf_X4_10) (fun _ h9 => h9) rfl dX4_hang_18 ?_
          refine lv_iload_n hx hb dX4_hang_21 rfl (lv_at hl 3 rfl) ?_
          refine cl_i (rest := []) (c_X1_has l D cA ad A hDD σ (nI i) ) ⟨hx, hb, hml, hown, hts⟩ hK hP hS kv_X4_64 ⟨Nat.le_of_ble_eq_true rfl, Nat.le_of_ble_eq_true rfl⟩ ⟨Nat.zero_le _, Nat.zero_le _⟩ 1 rfl rfl rfl hl.1 rfl (Nat.le_of_ble_eq_true rfl) (fun q h => h) dX4_hang_22 (fun r u H locs hw hP hS _ => ?_)
          rw [hw.2] at hP
          refine tp_i (z := (hz (sKc σ) (nI i))) hw.1 ?_
          refine tp_i (z := 1) (hz_1 hq) ?_
          refine lv_if_ne (tgt := 31) hx hb dX4_hang_25 (by decide) (fun _ => ?_) (fun c9 => absurd c9 (by decide))
          refine lv_aload_n hx hb dX4_hang_31 rfl (lv_at hl 0 rfl) ?_
          refine va_get (D := D) (ci := 4) (v := .ref (ad 2)) (C := RX4) (T := TX4) (N := 7) hx hb hts in_X4 hown hK hP 0 rfl rfl 1 (by decide) (hts _ kf_X4_19) (fun _ h9 => h9) rfl dX4_hang_32 ?_
          refine lv_iload_n hx hb dX4_hang_35 rfl (lv_at hl 1 rfl) ?_
          refine lv_iload_n hx hb dX4_hang_36 rfl (lv_at hl 2 rfl) ?_
          refine cl_i (rest := []) (c_X3_keyAt l D cA ad A hDD σ j h hj hvc) ⟨hx, hb, hml, hown, hts⟩ hK hP hS kv_X4_68 ⟨Nat.le_of_ble_eq_true rfl, Nat.le_of_ble_eq_true rfl⟩ ⟨Nat.zero_le _, Nat.zero_le _⟩ 2 rfl rfl rfl hl.1 rfl (Nat.le_of_ble_eq_true rfl) (fun q h => h) dX4_hang_37 (fun r u H locs hw hP hS _ => ?_)
          rw [hw.2] at hP
          refine tp_i (z := (hd σ j h)) hw.1 ?_
          refine lv_istore (lv' := [(4, .int (hd σ j h)), (0, .ref (ad 0)), (1, .int (nI j)), (2, .int h), (3, .int (nI i))]) hx hb dX4_hang_40 hl (by decide) rfl (fun ls hl => ?_)
          refine lv_aload_n hx hb dX4_hang_42 rfl (lv_at hl 1 rfl) ?_
          refine va_get (D := D) (ci := 4) (v := .ref (ad 2)) (C := RX4) (T := TX4) (N := 7) hx hb hts in_X4 hown hK hP 0 rfl rfl 1 (by decide) (hts _ kf_X4_19) (fun _ h9 => h9) rfl dX4_hang_43 ?_
          refine lv_iload_n hx hb dX4_hang_46 rfl (lv_at hl 2 rfl) ?_
          refine lv_iload_n hx hb dX4_hang_47 rfl (lv_at hl 3 rfl) ?_
          refine lv_iload_n hx hb dX4_hang_48 rfl (lv_at hl 4 rfl) ?_
          refine cl_v (rest := []) (c_X3_setKeyAt l D cA ad A hDD σ j h (nI i) hj hvc) ⟨hx, hb, hml, hown, hts⟩ hK hP hS kv_X4_71 ⟨Nat.le_of_ble_eq_true rfl, Nat.le_of_ble_eq_true rfl⟩ ⟨Nat.zero_le _, Nat.zero_le _⟩ 2 rfl rfl rfl hl.1 rfl (Nat.le_of_ble_eq_true rfl) (fun q h => h) dX4_hang_49 (fun u H locs hw hP hS _ => ?_)
          rw [hw] at hP
          refine lv_iload hx hb dX4_hang_52 (lv_at hl 0 rfl) ?_
          exact rt_i (v := (hd σ j h)) (u := (shk σ j h (nI i))) hx hb hr hlocks hS hP (pr2 (hang_ok h0 hh (Or.inr (ix_some_s hq)))) dX4_hang_54
    · skip
      refine va_get (D := D) (ci := 4) (v := .ref (ad 2)) (C := RX4) (T := TX4) (N := 7) hx hb hts in_X4 hown hK hP 0 rfl rfl 1 (by decide) (hts _ kf_X4_19) (fun _ h9 => h9) rfl dX4_hang_1 ?_
      refine lv_iload_n hx hb dX4_hang_4 rfl (lv_at hl 1 rfl) ?_
      refine lv_iload_n hx hb dX4_hang_5 rfl (lv_at hl 2 rfl) ?_
      refine cl_i (rest := []) (c_X3_hasHand l D cA ad A hDD σ (nI j) h hvc) ⟨hx, hb, hml, hown, hts⟩ hK hP hS kv_X4_60 ⟨Nat.le_of_ble_eq_true rfl, Nat.le_of_ble_eq_true rfl⟩ ⟨Nat.zero_le _, Nat.zero_le _⟩ 2 rfl rfl rfl hl.1 rfl (Nat.le_of_ble_eq_true rfl) (fun q h => h) dX4_hang_6 (fun r u H locs hw hP hS _ => ?_)
      rw [hw.2] at hP
      refine tp_i (z := (bz ((ix (sVc σ) (nI j)).isSome = true ∧ okh h))) hw.1 ?_
      refine tp_i (z := 0) (bz_0 (fun q => hh q.2)) ?_
      refine lv_if_eq (tgt := 28) hx hb dX4_hang_9 (by decide) (fun _ => ?_) (fun c9 => absurd (by decide) c9)
      refine lv_bipush (v := (-2)) hx hb dX4_hang_28 (by decide) ?_
      exact rt_i (v := (-2)) (u := σ) hx hb hr hlocks hS hP (pr2 (hang_b2 h0 (fun q => hh q.1))) dX4_hang_30
set_option maxHeartbeats 4000000 in
set_option maxRecDepth 100000 in
theorem c_X4_link (l : Launch) (D : va_G) (cA : ClassId) (ad : Nat → Nat) (A : Nat → Prop) (hDD : ∀ u, va_D A (cW ad cA u)) (σ : CS) (v w : Int32) (hI : Inv σ) (hg : sGr σ = 0) (hb9 : sBc σ ≤ 1000000000) : Ct l D cA (cW ad cA) A yX4_link cX4_link 4 (some .int) 1 21 [.ref (ad 0), .int v, .int w] σ (fun r u => r = (f_link σ v w).1 ∧ u = (f_link σ v w).2) := by
  refine Ct.of (by decide) (Nat.le_of_ble_eq_true rfl) ?_
  intro p e s m below meth c ls S0 hr hlocks hK hP hS hl
  obtain ⟨hx, hb, hml, hown, hts⟩ := id S0
  have hl : lv_has ls 4 [(0, .ref (ad 0)), (1, .int v), (2, .int w)] := hl
  have hkc := hI.kc
  have hvc := hI.vc
  have hgc := hI.gr
  have htc := hI.tc
  rcases ix_cases (n := sVc σ) v (by omega) with h0 | ⟨j, hj, rfl⟩
  · refine lv_aload_n hx hb dX4_link_0 rfl (lv_at hl 0 rfl) ?_
    refine va_get (D := D) (ci := 4) (v := .ref (ad 2)) (C := RX4) (T := TX4) (N := 7) hx hb hts in_X4 hown hK hP 0 rfl rfl 1 (by decide) (hts _ kf_X4_19) (fun _ h9 => h9) rfl dX4_link_1 ?_
    refine lv_iload_n hx hb dX4_link_4 rfl (lv_at hl 1 rfl) ?_
    refine cl_i (rest := []) (c_X3_has l D cA ad A hDD σ v ) ⟨hx, hb, hml, hown, hts⟩ hK hP hS kv_X4_75 ⟨Nat.le_of_ble_eq_true rfl, Nat.le_of_ble_eq_true rfl⟩ ⟨Nat.zero_le _, Nat.zero_le _⟩ 2 rfl rfl rfl hl.1 rfl (Nat.le_of_ble_eq_true rfl) (fun q h => h) dX4_link_5 (fun r u H locs hw hP hS _ => ?_)
    rw [hw.2] at hP
    refine tp_i (z := (hz (sVc σ) v)) hw.1 ?_
    refine tp_i (z := 0) (hz_0 h0) ?_
    refine lv_if_eq (tgt := 27) hx hb dX4_link_8 (by decide) (fun _ => ?_) (fun c9 => absurd (by decide) c9)
    refine lv_bipush (v := (-2)) hx hb dX4_link_27 (by decide) ?_
    exact rt_i (v := (-2)) (u := σ) hx hb hr hlocks hS hP (pr2 (link_b1 h0)) dX4_link_29
  · have h0 := ix_nI hj (n := sVc σ) (by omega)
    refine lv_aload_n hx hb dX4_link_0 rfl (lv_at hl 0 rfl) ?_
    refine va_get (D := D) (ci := 4) (v := .ref (ad 2)) (C := RX4) (T := TX4) (N := 7) hx hb hts in_X4 hown hK hP 0 rfl rfl 1 (by decide) (hts _ kf_X4_19) (fun _ h9 => h9) rfl dX4_link_1 ?_
    refine lv_iload_n hx hb dX4_link_4 rfl (lv_at hl 1 rfl) ?_
    refine cl_i (rest := []) (c_X3_has l D cA ad A hDD σ (nI j) ) ⟨hx, hb, hml, hown, hts⟩ hK hP hS kv_X4_75 ⟨Nat.le_of_ble_eq_true rfl, Nat.le_of_ble_eq_true rfl⟩ ⟨Nat.zero_le _, Nat.zero_le _⟩ 2 rfl rfl rfl hl.1 rfl (Nat.le_of_ble_eq_true rfl) (fun q h => h) dX4_link_5 (fun r u H locs hw hP hS _ => ?_)
    rw [hw.2] at hP
    refine tp_i (z := (hz (sVc σ) (nI j))) hw.1 ?_
    refine tp_i (z := 1) (hz_1 h0) ?_
    refine lv_if_eq (tgt := 27) hx hb dX4_link_8 (by decide) (fun c9 => absurd c9 (by decide)) (fun _ => ?_)
    refine lv_iload_n hx hb dX4_link_11 rfl (lv_at hl 2 rfl) ?_
    refine lv_iconst (v := (-1)) hx hb dX4_link_12 (by decide) ?_
    refine lv_icmp_eq (tgt := 30) hx hb dX4_link_13 (by decide) (fun c13 => ?_) (fun c13 => ?_)
    · refine lv_aload_n hx hb dX4_link_30 rfl (lv_at hl 0 rfl) ?_
      refine va_get (D := D) (ci := 4) (v := .ref (ad 2)) (C := RX4) (T := TX4) (N := 7) hx hb hts in_X4 hown hK hP 0 rfl rfl 1 (by decide) (hts _ kf_X4_19) (fun _ h9 => h9) rfl dX4_link_31 ?_
      refine va_get (D := D) (ci := 3) (v := .ref (ad 12)) (C := RX3) (T := TX3) (N := 6) hx hb hts in_X3 hown hK hP 2 rfl rfl 2 (by decide) (hts _ kf_X4_76) (fun _ h9 => h9) rfl dX4_link_34 ?_
      refine lv_iload_n hx hb dX4_link_37 rfl (lv_at hl 1 rfl) ?_
      refine ar_g hx hb hK hP 12 rfl (by omega) (by decide) dX4_link_38 ?_
      refine lv_istore_n (lv' := [(3, .int (sNx σ j)), (0, .ref (ad 0)), (1, .int (nI j)), (2, .int w)]) hx hb dX4_link_39 rfl hl (by decide) rfl (fun ls hl => ?_)
      refine lv_aload_n hx hb dX4_link_40 rfl (lv_at hl 1 rfl) ?_
      refine va_get (D := D) (ci := 4) (v := .ref (ad 2)) (C := RX4) (T := TX4) (N := 7) hx hb hts in_X4 hown hK hP 0 rfl rfl 1 (by decide) (hts _ kf_X4_19) (fun _ h9 => h9) rfl dX4_link_41 ?_
      refine va_get (D := D) (ci := 3) (v := .ref (ad 12)) (C := RX3) (T := TX3) (N := 6) hx hb hts in_X3 hown hK hP 2 rfl rfl 2 (by decide) (hts _ kf_X4_76) (fun _ h9 => h9) rfl dX4_link_44 ?_
      refine lv_iload_n hx hb dX4_link_47 rfl (lv_at hl 2 rfl) ?_
      refine lv_iload_n hx hb dX4_link_48 rfl (lv_at hl 3 rfl) ?_
      refine ar_p hx hb hK hP (hDD _) hS 12 rfl (x := w) (by omega) (by decide) dX4_link_49 (fun H locs hP hS => ?_)
      have hP : va_P D vwCl (cW ad cA (σ.1, ((sLim σ), (sSm σ), (upd (sNx σ) j w), (sLf σ), (sRt σ), (sVc σ)), σ.2.2.1, σ.2.2.2.1, σ.2.2.2.2)) H := hP
      refine lv_iload_n hx hb dX4_link_50 rfl (lv_at hl 0 rfl) ?_
      exact rt_i (v := (sNx σ j)) (u := (σ.1, ((sLim σ), (sSm σ), (upd (sNx σ) j w), (sLf σ), (sRt σ), (sVc σ)), σ.2.2.1, σ.2.2.2.1, σ.2.2.2.2)) hx hb hr hlocks hS hP (pr2 (link_ok h0 (Or.inl c13))) dX4_link_51
    · rcases ix_cases (n := sVc σ) w (by omega) with hq | ⟨i, hi, rfl⟩
      · refine lv_aload_n hx hb dX4_link_16 rfl (lv_at hl 0 rfl) ?_
        refine va_get (D := D) (ci := 4) (v := .ref (ad 2)) (C := RX4) (T := TX4) (N := 7) hx hb hts in_X4 hown hK hP 0 rfl rfl 1 (by decide) (hts _ kf_X4_19) (fun _ h9 => h9) rfl dX4_link_17 ?_
        refine lv_iload_n hx hb dX4_link_20 rfl (lv_at hl 2 rfl) ?_
        refine cl_i (rest := []) (c_X3_has l D cA ad A hDD σ w ) ⟨hx, hb, hml, hown, hts⟩ hK hP hS kv_X4_75 ⟨Nat.le_of_ble_eq_true rfl, Nat.le_of_ble_eq_true rfl⟩ ⟨Nat.zero_le _, Nat.zero_le _⟩ 2 rfl rfl rfl hl.1 rfl (Nat.le_of_ble_eq_true rfl) (fun q h => h) dX4_link_21 (fun r u H locs hw hP hS _ => ?_)
        rw [hw.2] at hP
        refine tp_i (z := (hz (sVc σ) w)) hw.1 ?_
        refine tp_i (z := 0) (hz_0 hq) ?_
        refine lv_if_ne (tgt := 30) hx hb dX4_link_24 (by decide) (fun c9 => absurd (by decide) c9) (fun _ => ?_)
        refine lv_bipush (v := (-2)) hx hb dX4_link_27 (by decide) ?_
        exact rt_i (v := (-2)) (u := σ) hx hb hr hlocks hS hP (pr2 (link_b2 h0 (fun q => q.elim c13 (ix_none_s hq)))) dX4_link_29
      · have hq := ix_nI hi (n := sVc σ) (by omega)
        refine lv_aload_n hx hb dX4_link_16 rfl (lv_at hl 0 rfl) ?_
        refine va_get (D := D) (ci := 4) (v := .ref (ad 2)) (C := RX4) (T := TX4) (N := 7) hx hb hts in_X4 hown hK hP 0 rfl rfl 1 (by decide) (hts _ kf_X4_19) (fun _ h9 => h9) rfl dX4_link_17 ?_
        refine lv_iload_n hx hb dX4_link_20 rfl (lv_at hl 2 rfl) ?_
        refine cl_i (rest := []) (c_X3_has l D cA ad A hDD σ (nI i) ) ⟨hx, hb, hml, hown, hts⟩ hK hP hS kv_X4_75 ⟨Nat.le_of_ble_eq_true rfl, Nat.le_of_ble_eq_true rfl⟩ ⟨Nat.zero_le _, Nat.zero_le _⟩ 2 rfl rfl rfl hl.1 rfl (Nat.le_of_ble_eq_true rfl) (fun q h => h) dX4_link_21 (fun r u H locs hw hP hS _ => ?_)
        rw [hw.2] at hP
        refine tp_i (z := (hz (sVc σ) (nI i))) hw.1 ?_
        refine tp_i (z := 1) (hz_1 hq) ?_
        refine lv_if_ne (tgt := 30) hx hb dX4_link_24 (by decide) (fun _ => ?_) (fun c9 => absurd c9 (by decide))
        refine lv_aload_n hx hb dX4_link_30 rfl (lv_at hl 0 rfl) ?_
        refine va_get (D := D) (ci := 4) (v := .ref (ad 2)) (C := RX4) (T := TX4) (N := 7) hx hb hts in_X4 hown hK hP 0 rfl rfl 1 (by decide) (hts _ kf_X4_19) (fun _ h9 => h9) rfl dX4_link_31 ?_
        refine va_get (D := D) (ci := 3) (v := .ref (ad 12)) (C := RX3) (T := TX3) (N := 6) hx hb hts in_X3 hown hK hP 2 rfl rfl 2 (by decide) (hts _ kf_X4_76) (fun _ h9 => h9) rfl dX4_link_34 ?_
        refine lv_iload_n hx hb dX4_link_37 rfl (lv_at hl 1 rfl) ?_
        refine ar_g hx hb hK hP 12 rfl (by omega) (by decide) dX4_link_38 ?_
        refine lv_istore_n (lv' := [(3, .int (sNx σ j)), (0, .ref (ad 0)), (1, .int (nI j)), (2, .int (nI i))]) hx hb dX4_link_39 rfl hl (by decide) rfl (fun ls hl => ?_)
        refine lv_aload_n hx hb dX4_link_40 rfl (lv_at hl 1 rfl) ?_
        refine va_get (D := D) (ci := 4) (v := .ref (ad 2)) (C := RX4) (T := TX4) (N := 7) hx hb hts in_X4 hown hK hP 0 rfl rfl 1 (by decide) (hts _ kf_X4_19) (fun _ h9 => h9) rfl dX4_link_41 ?_
        refine va_get (D := D) (ci := 3) (v := .ref (ad 12)) (C := RX3) (T := TX3) (N := 6) hx hb hts in_X3 hown hK hP 2 rfl rfl 2 (by decide) (hts _ kf_X4_76) (fun _ h9 => h9) rfl dX4_link_44 ?_
        refine lv_iload_n hx hb dX4_link_47 rfl (lv_at hl 2 rfl) ?_
        refine lv_iload_n hx hb dX4_link_48 rfl (lv_at hl 3 rfl) ?_
        refine ar_p hx hb hK hP (hDD _) hS 12 rfl (x := (nI i)) (by omega) (by decide) dX4_link_49 (fun H locs hP hS => ?_)
        have hP : va_P D vwCl (cW ad cA (σ.1, ((sLim σ), (sSm σ), (upd (sNx σ) j (nI i)), (sLf σ), (sRt σ), (sVc σ)), σ.2.2.1, σ.2.2.2.1, σ.2.2.2.2)) H := hP
        refine lv_iload_n hx hb dX4_link_50 rfl (lv_at hl 0 rfl) ?_
        exact rt_i (v := (sNx σ j)) (u := (σ.1, ((sLim σ), (sSm σ), (upd (sNx σ) j (nI i)), (sLf σ), (sRt σ), (sVc σ)), σ.2.2.1, σ.2.2.2.1, σ.2.2.2.2)) hx hb hr hlocks hS hP (pr2 (link_ok h0 (Or.inr (ix_some_s hq)))) dX4_link_51
set_option maxHeartbeats 4000000 in
set_option maxRecDepth 100000 in
theorem c_X4_put (l : Launch) (D : va_G) (cA : ClassId) (ad : Nat → Nat) (A : Nat → Prop) (hDD : ∀ u, va_D A (cW ad cA u)) (σ : CS) (v n : Int32) (hI : Inv σ) (hg : sGr σ = 0) (hb9 : sBc σ ≤ 1000000000) : Ct l D cA (cW ad cA) A yX4_put cX4_put 4 (some .int) 4 88 [.ref (ad 0), .int v, .int n] σ (fun r u => r = (f_put σ v n).1 ∧ u = (f_put σ v n).2) := by
  refine Ct.of (by decide) (Nat.le_of_ble_eq_true rfl) ?_
  intro p e s m below meth c ls S0 hr hlocks hK hP hS hl
  obtain ⟨hx, hb, hml, hown, hts⟩ := id S0
  have hl : lv_has ls 4 [(0, .ref (ad 0)), (1, .int v), (2, .int n)] := hl
  have hkc := hI.kc
  have hvc := hI.vc
  have hgc := hI.gr
  have htc := hI.tc
  rcases ix_cases (n := sVc σ) v (by omega) with h0 | ⟨j, hj, rfl⟩
  · refine lv_aload_n hx hb dX4_put_0 rfl (lv_at hl 0 rfl) ?_
    refine va_get (D := D) (ci := 4) (v := .ref (ad 2)) (C := RX4) (T := TX4) (N := 7) hx hb hts in_X4 hown hK hP 0 rfl rfl 1 (by decide) (hts _ kf_X4_19) (fun _ h9 => h9) rfl dX4_put_1 ?_
    refine lv_iload_n hx hb dX4_put_4 rfl (lv_at hl 1 rfl) ?_
    refine cl_i (rest := []) (c_X3_has l D cA ad A hDD σ v ) ⟨hx, hb, hml, hown, hts⟩ hK hP hS kv_X4_75 ⟨Nat.le_of_ble_eq_true rfl, Nat.le_of_ble_eq_true rfl⟩ ⟨Nat.zero_le _, Nat.zero_le _⟩ 2 rfl rfl rfl hl.1 rfl (Nat.le_of_ble_eq_true rfl) (fun q h => h) dX4_put_5 (fun r u H locs hw hP hS _ => ?_)
    rw [hw.2] at hP
    refine tp_i (z := (hz (sVc σ) v)) hw.1 ?_
    refine tp_i (z := 0) (hz_0 h0) ?_
    refine lv_if_eq (tgt := 18) hx hb dX4_put_8 (by decide) (fun _ => ?_) (fun c9 => absurd (by decide) c9)
    refine lv_bipush (v := (-2)) hx hb dX4_put_18 (by decide) ?_
    exact rt_i (v := (-2)) (u := σ) hx hb hr hlocks hS hP (pr2 (put_b1 h0)) dX4_put_20
  · have h0 := ix_nI hj (n := sVc σ) (by omega)
    refine lv_aload_n hx hb dX4_put_0 rfl (lv_at hl 0 rfl) ?_
    refine va_get (D := D) (ci := 4) (v := .ref (ad 2)) (C := RX4) (T := TX4) (N := 7) hx hb hts in_X4 hown hK hP 0 rfl rfl 1 (by decide) (hts _ kf_X4_19) (fun _ h9 => h9) rfl dX4_put_1 ?_
    refine lv_iload_n hx hb dX4_put_4 rfl (lv_at hl 1 rfl) ?_
    refine cl_i (rest := []) (c_X3_has l D cA ad A hDD σ (nI j) ) ⟨hx, hb, hml, hown, hts⟩ hK hP hS kv_X4_75 ⟨Nat.le_of_ble_eq_true rfl, Nat.le_of_ble_eq_true rfl⟩ ⟨Nat.zero_le _, Nat.zero_le _⟩ 2 rfl rfl rfl hl.1 rfl (Nat.le_of_ble_eq_true rfl) (fun q h => h) dX4_put_5 (fun r u H locs hw hP hS _ => ?_)
    rw [hw.2] at hP
    refine tp_i (z := (hz (sVc σ) (nI j))) hw.1 ?_
    refine tp_i (z := 1) (hz_1 h0) ?_
    refine lv_if_eq (tgt := 18) hx hb dX4_put_8 (by decide) (fun c9 => absurd c9 (by decide)) (fun _ => ?_)
    by_cases hn : amt n
    · skip
      refine lv_iload_n hx hb dX4_put_11 rfl (lv_at hl 2 rfl) ?_
      refine cl_s (rest := []) (c_X4_isAmount l D cA ad A hDD σ n ) ⟨hx, hb, hml, hown, hts⟩ hK hP hS kv_X4_79 ⟨Nat.le_of_ble_eq_true rfl, Nat.le_of_ble_eq_true rfl⟩ ⟨Nat.zero_le _, Nat.zero_le _⟩ rfl hl.1 rfl (Nat.le_of_ble_eq_true rfl) (fun q h => h) dX4_put_12 (fun r u H locs hw hP hS => ?_)
      rw [hw.2] at hP
      refine tp_i (z := (bz (amt n))) hw.1 ?_
      refine tp_i (z := 1) (bz_1 hn) ?_
      refine lv_if_ne (tgt := 21) hx hb dX4_put_15 (by decide) (fun _ => ?_) (fun c9 => absurd c9 (by decide))
      refine lv_aload_n hx hb dX4_put_21 rfl (lv_at hl 0 rfl) ?_
      refine lv_iload_n hx hb dX4_put_22 rfl (lv_at hl 1 rfl) ?_
      refine cl_i (rest := []) (c_X4_turnBoth l D cA ad A hDD σ j  hI hj (by omega) (by omega)) ⟨hx, hb, hml, hown, hts⟩ hK hP hS kv_X4_82 ⟨Nat.le_of_ble_eq_true rfl, Nat.le_of_ble_eq_true rfl⟩ ⟨Nat.zero_le _, Nat.zero_le _⟩ 0 rfl rfl rfl hl.1 rfl (Nat.le_of_ble_eq_true rfl) (fun q h => h) dX4_put_23 (fun r u H locs hw hP hS _ => ?_)
      rw [hw.2] at hP
      refine tp_i (z := (tb σ j).1) hw.1 ?_
      refine lv_istore_n (lv' := [(3, .int (tb σ j).1), (0, .ref (ad 0)), (1, .int (nI j)), (2, .int n)]) hx hb dX4_put_26 rfl hl (by decide) rfl (fun ls hl => ?_)
      refine lv_iload_n hx hb dX4_put_27 rfl (lv_at hl 0 rfl) ?_
      refine lv_if_eq (tgt := 33) hx hb dX4_put_28 (by decide) (fun c28 => ?_) (fun c28 => ?_)
      · have st1 := tb_st (v := j) hI hj (by omega)
        have b1 := st1.2.2.2.2
        have hj1 : j < sVc (tb σ j).2 := by rw [st1.2.1]; exact hj
        have hvc1 := st1.1.vc
        by_cases hc : sLim (tb σ j).2 j < sSm (tb σ j).2 j + n
        · skip
          refine lv_aload_n hx hb dX4_put_33 rfl (lv_at hl 1 rfl) ?_
          refine va_get (D := D) (ci := 4) (v := .ref (ad 2)) (C := RX4) (T := TX4) (N := 7) hx hb hts in_X4 hown hK hP 0 rfl rfl 1 (by decide) (hts _ kf_X4_19) (fun _ h9 => h9) rfl dX4_put_34 ?_
          refine lv_iload_n hx hb dX4_put_37 rfl (lv_at hl 2 rfl) ?_
          refine lv_iload_n hx hb dX4_put_38 rfl (lv_at hl 3 rfl) ?_
          refine cl_i (rest := []) (c_X3_isTooMuch l D cA ad A hDD (tb σ j).2 j n hj1 hvc1) ⟨hx, hb, hml, hown, hts⟩ hK hP hS kv_X4_85 ⟨Nat.le_of_ble_eq_true rfl, Nat.le_of_ble_eq_true rfl⟩ ⟨Nat.zero_le _, Nat.zero_le _⟩ 2 rfl rfl rfl hl.1 rfl (Nat.le_of_ble_eq_true rfl) (fun q h => h) dX4_put_39 (fun r u H locs hw hP hS _ => ?_)
          rw [hw.2] at hP
          refine tp_i (z := (bz (sLim (tb σ j).2 j < sSm (tb σ j).2 j + n))) hw.1 ?_
          refine tp_i (z := 1) (bz_1 hc) ?_
          refine lv_if_eq (tgt := 55) hx hb dX4_put_42 (by decide) (fun c9 => absurd c9 (by decide)) (fun _ => ?_)
          refine lv_aload_n hx hb dX4_put_45 rfl (lv_at hl 1 rfl) ?_
          refine lv_sipush (v := 300) hx hb dX4_put_46 (by decide) ?_
          refine lv_bipush (v := (-5)) hx hb dX4_put_49 (by decide) ?_
          refine cl_i (rest := []) (c_X4_letGo l D cA ad A hDD (tb σ j).2 300 (-5) st1.1 (by omega)) ⟨hx, hb, hml, hown, hts⟩ hK hP hS kv_X4_88 ⟨Nat.le_of_ble_eq_true rfl, Nat.le_of_ble_eq_true rfl⟩ ⟨Nat.zero_le _, Nat.zero_le _⟩ 0 rfl rfl rfl hl.1 rfl (Nat.le_of_ble_eq_true rfl) (fun q h => h) dX4_put_51 (fun r u H locs hw hP hS _ => ?_)
          rw [hw.2] at hP
          refine tp_i (z := (-5)) hw.1 ?_
          exact rt_i (v := (-5)) (u := (da 300 (tb σ j).2)) hx hb hr hlocks hS hP ((by rw [put_g h0 hn]; unfold g_put; rw [if_pos c28, if_pos hc]; exact ⟨rfl, rfl⟩)) dX4_put_54
        · skip
          refine lv_aload_n hx hb dX4_put_33 rfl (lv_at hl 1 rfl) ?_
          refine va_get (D := D) (ci := 4) (v := .ref (ad 2)) (C := RX4) (T := TX4) (N := 7) hx hb hts in_X4 hown hK hP 0 rfl rfl 1 (by decide) (hts _ kf_X4_19) (fun _ h9 => h9) rfl dX4_put_34 ?_
          refine lv_iload_n hx hb dX4_put_37 rfl (lv_at hl 2 rfl) ?_
          refine lv_iload_n hx hb dX4_put_38 rfl (lv_at hl 3 rfl) ?_
          refine cl_i (rest := []) (c_X3_isTooMuch l D cA ad A hDD (tb σ j).2 j n hj1 hvc1) ⟨hx, hb, hml, hown, hts⟩ hK hP hS kv_X4_85 ⟨Nat.le_of_ble_eq_true rfl, Nat.le_of_ble_eq_true rfl⟩ ⟨Nat.zero_le _, Nat.zero_le _⟩ 2 rfl rfl rfl hl.1 rfl (Nat.le_of_ble_eq_true rfl) (fun q h => h) dX4_put_39 (fun r u H locs hw hP hS _ => ?_)
          rw [hw.2] at hP
          refine tp_i (z := (bz (sLim (tb σ j).2 j < sSm (tb σ j).2 j + n))) hw.1 ?_
          refine tp_i (z := 0) (bz_0 hc) ?_
          refine lv_if_eq (tgt := 55) hx hb dX4_put_42 (by decide) (fun _ => ?_) (fun c9 => absurd (by decide) c9)
          refine lv_aload_n hx hb dX4_put_55 rfl (lv_at hl 1 rfl) ?_
          refine va_get (D := D) (ci := 4) (v := .ref (ad 2)) (C := RX4) (T := TX4) (N := 7) hx hb hts in_X4 hown hK hP 0 rfl rfl 1 (by decide) (hts _ kf_X4_19) (fun _ h9 => h9) rfl dX4_put_56 ?_
          refine va_get (D := D) (ci := 3) (v := .ref (ad 11)) (C := RX3) (T := TX3) (N := 6) hx hb hts in_X3 hown hK hP 2 rfl rfl 1 (by decide) (hts _ kf_X4_91) (fun _ h9 => h9) rfl dX4_put_59 ?_
          refine lv_iload_n hx hb dX4_put_62 rfl (lv_at hl 2 rfl) ?_
          refine lv_dup2_11 hx hb dX4_put_63 rfl rfl ?_
          refine ar_g hx hb hK hP 11 rfl (by omega) (by decide) dX4_put_64 ?_
          refine lv_iload_n hx hb dX4_put_65 rfl (lv_at hl 3 rfl) ?_
          refine lv_iadd hx hb dX4_put_66 ?_
          refine ar_p hx hb hK hP (hDD _) hS 11 rfl (x := ((sSm (tb σ j).2 j) + n)) (by omega) (by decide) dX4_put_67 (fun H locs hP hS => ?_)
          have hP : va_P D vwCl (cW ad cA ((tb σ j).2.1, ((sLim (tb σ j).2), (upd (sSm (tb σ j).2) j ((sSm (tb σ j).2 j) + n)), (sNx (tb σ j).2), (sLf (tb σ j).2), (sRt (tb σ j).2), (sVc (tb σ j).2)), (tb σ j).2.2.2.1, (tb σ j).2.2.2.2.1, (tb σ j).2.2.2.2.2)) H := hP
          refine lv_aload_n hx hb dX4_put_68 rfl (lv_at hl 1 rfl) ?_
          refine lv_sipush (v := 200) hx hb dX4_put_69 (by decide) ?_
          refine lv_aload_n hx hb dX4_put_72 rfl (lv_at hl 1 rfl) ?_
          refine va_get (D := D) (ci := 4) (v := .ref (ad 2)) (C := RX4) (T := TX4) (N := 7) hx hb hts in_X4 hown hK hP 0 rfl rfl 1 (by decide) (hts _ kf_X4_19) (fun _ h9 => h9) rfl dX4_put_73 ?_
          refine va_get (D := D) (ci := 3) (v := .ref (ad 11)) (C := RX3) (T := TX3) (N := 6) hx hb hts in_X3 hown hK hP 2 rfl rfl 1 (by decide) (hts _ kf_X4_91) (fun _ h9 => h9) rfl dX4_put_76 ?_
          refine lv_iload_n hx hb dX4_put_79 rfl (lv_at hl 2 rfl) ?_
          refine ar_g hx hb hK hP 11 rfl (by omega) (by decide) dX4_put_80 ?_
          refine tp_i (z := ((sSm (tb σ j).2 j) + n)) upd_eq ?_
          refine cl_i (rest := []) (c_X4_letGo l D cA ad A hDD ((tb σ j).2.1, ((sLim (tb σ j).2), (upd (sSm (tb σ j).2) j ((sSm (tb σ j).2 j) + n)), (sNx (tb σ j).2), (sLf (tb σ j).2), (sRt (tb σ j).2), (sVc (tb σ j).2)), (tb σ j).2.2.2.1, (tb σ j).2.2.2.2.1, (tb σ j).2.2.2.2.2) 200 ((sSm (tb σ j).2 j) + n) (put_inv st1.1 hj1 hn hc) (by show sBc (tb σ j).2 + sGr (tb σ j).2 < 2147483647; omega)) ⟨hx, hb, hml, hown, hts⟩ hK hP hS kv_X4_88 ⟨Nat.le_of_ble_eq_true rfl, Nat.le_of_ble_eq_true rfl⟩ ⟨Nat.zero_le _, Nat.zero_le _⟩ 0 rfl rfl rfl hl.1 rfl (Nat.le_of_ble_eq_true rfl) (fun q h => h) dX4_put_81 (fun r u H locs hw hP hS _ => ?_)
          rw [hw.2] at hP
          refine tp_i (z := ((sSm (tb σ j).2 j) + n)) hw.1 ?_
          exact rt_i (v := ((sSm (tb σ j).2 j) + n)) (u := (da 200 ((tb σ j).2.1, ((sLim (tb σ j).2), (upd (sSm (tb σ j).2) j ((sSm (tb σ j).2 j) + n)), (sNx (tb σ j).2), (sLf (tb σ j).2), (sRt (tb σ j).2), (sVc (tb σ j).2)), (tb σ j).2.2.2.1, (tb σ j).2.2.2.2.1, (tb σ j).2.2.2.2.2))) hx hb hr hlocks hS hP ((by rw [put_g h0 hn]; unfold g_put; rw [if_pos c28, if_neg hc]; exact ⟨rfl, rfl⟩)) dX4_put_84
      · refine lv_iload_n hx hb dX4_put_31 rfl (lv_at hl 0 rfl) ?_
        exact rt_i (v := (tb σ j).1) (u := (tb σ j).2) hx hb hr hlocks hS hP ((by rw [put_g h0 hn]; unfold g_put; rw [if_neg c28]; exact ⟨rfl, rfl⟩)) dX4_put_32
    · skip
      refine lv_iload_n hx hb dX4_put_11 rfl (lv_at hl 2 rfl) ?_
      refine cl_s (rest := []) (c_X4_isAmount l D cA ad A hDD σ n ) ⟨hx, hb, hml, hown, hts⟩ hK hP hS kv_X4_79 ⟨Nat.le_of_ble_eq_true rfl, Nat.le_of_ble_eq_true rfl⟩ ⟨Nat.zero_le _, Nat.zero_le _⟩ rfl hl.1 rfl (Nat.le_of_ble_eq_true rfl) (fun q h => h) dX4_put_12 (fun r u H locs hw hP hS => ?_)
      rw [hw.2] at hP
      refine tp_i (z := (bz (amt n))) hw.1 ?_
      refine tp_i (z := 0) (bz_0 hn) ?_
      refine lv_if_ne (tgt := 21) hx hb dX4_put_15 (by decide) (fun c9 => absurd (by decide) c9) (fun _ => ?_)
      refine lv_bipush (v := (-2)) hx hb dX4_put_18 (by decide) ?_
      exact rt_i (v := (-2)) (u := σ) hx hb hr hlocks hS hP (pr2 (put_b2 h0 hn)) dX4_put_20
set_option maxHeartbeats 4000000 in
set_option maxRecDepth 100000 in
theorem c_X4_take (l : Launch) (D : va_G) (cA : ClassId) (ad : Nat → Nat) (A : Nat → Prop) (hDD : ∀ u, va_D A (cW ad cA u)) (σ : CS) (v n : Int32) (hI : Inv σ) (hg : sGr σ = 0) (hb9 : sBc σ ≤ 1000000000) : Ct l D cA (cW ad cA) A yX4_take cX4_take 4 (some .int) 4 88 [.ref (ad 0), .int v, .int n] σ (fun r u => r = (f_take σ v n).1 ∧ u = (f_take σ v n).2) := by
  refine Ct.of (by decide) (Nat.le_of_ble_eq_true rfl) ?_
  intro p e s m below meth c ls S0 hr hlocks hK hP hS hl
  obtain ⟨hx, hb, hml, hown, hts⟩ := id S0
  have hl : lv_has ls 4 [(0, .ref (ad 0)), (1, .int v), (2, .int n)] := hl
  have hkc := hI.kc
  have hvc := hI.vc
  have hgc := hI.gr
  have htc := hI.tc
  rcases ix_cases (n := sVc σ) v (by omega) with h0 | ⟨j, hj, rfl⟩
  · refine lv_aload_n hx hb dX4_take_0 rfl (lv_at hl 0 rfl) ?_
    refine va_get (D := D) (ci := 4) (v := .ref (ad 2)) (C := RX4) (T := TX4) (N := 7) hx hb hts in_X4 hown hK hP 0 rfl rfl 1 (by decide) (hts _ kf_X4_19) (fun _ h9 => h9) rfl dX4_take_1 ?_
    refine lv_iload_n hx hb dX4_take_4 rfl (lv_at hl 1 rfl) ?_
    refine cl_i (rest := []) (c_X3_has l D cA ad A hDD σ v ) ⟨hx, hb, hml, hown, hts⟩ hK hP hS kv_X4_75 ⟨Nat.le_of_ble_eq_true rfl, Nat.le_of_ble_eq_true rfl⟩ ⟨Nat.zero_le _, Nat.zero_le _⟩ 2 rfl rfl rfl hl.1 rfl (Nat.le_of_ble_eq_true rfl) (fun q h => h) dX4_take_5 (fun r u H locs hw hP hS _ => ?_)
    rw [hw.2] at hP
    refine tp_i (z := (hz (sVc σ) v)) hw.1 ?_
    refine tp_i (z := 0) (hz_0 h0) ?_
    refine lv_if_eq (tgt := 18) hx hb dX4_take_8 (by decide) (fun _ => ?_) (fun c9 => absurd (by decide) c9)
    refine lv_bipush (v := (-2)) hx hb dX4_take_18 (by decide) ?_
    exact rt_i (v := (-2)) (u := σ) hx hb hr hlocks hS hP (pr2 (take_b1 h0)) dX4_take_20
  · have h0 := ix_nI hj (n := sVc σ) (by omega)
    refine lv_aload_n hx hb dX4_take_0 rfl (lv_at hl 0 rfl) ?_
    refine va_get (D := D) (ci := 4) (v := .ref (ad 2)) (C := RX4) (T := TX4) (N := 7) hx hb hts in_X4 hown hK hP 0 rfl rfl 1 (by decide) (hts _ kf_X4_19) (fun _ h9 => h9) rfl dX4_take_1 ?_
    refine lv_iload_n hx hb dX4_take_4 rfl (lv_at hl 1 rfl) ?_
    refine cl_i (rest := []) (c_X3_has l D cA ad A hDD σ (nI j) ) ⟨hx, hb, hml, hown, hts⟩ hK hP hS kv_X4_75 ⟨Nat.le_of_ble_eq_true rfl, Nat.le_of_ble_eq_true rfl⟩ ⟨Nat.zero_le _, Nat.zero_le _⟩ 2 rfl rfl rfl hl.1 rfl (Nat.le_of_ble_eq_true rfl) (fun q h => h) dX4_take_5 (fun r u H locs hw hP hS _ => ?_)
    rw [hw.2] at hP
    refine tp_i (z := (hz (sVc σ) (nI j))) hw.1 ?_
    refine tp_i (z := 1) (hz_1 h0) ?_
    refine lv_if_eq (tgt := 18) hx hb dX4_take_8 (by decide) (fun c9 => absurd c9 (by decide)) (fun _ => ?_)
    by_cases hn : amt n
    · skip
      refine lv_iload_n hx hb dX4_take_11 rfl (lv_at hl 2 rfl) ?_
      refine cl_s (rest := []) (c_X4_isAmount l D cA ad A hDD σ n ) ⟨hx, hb, hml, hown, hts⟩ hK hP hS kv_X4_79 ⟨Nat.le_of_ble_eq_true rfl, Nat.le_of_ble_eq_true rfl⟩ ⟨Nat.zero_le _, Nat.zero_le _⟩ rfl hl.1 rfl (Nat.le_of_ble_eq_true rfl) (fun q h => h) dX4_take_12 (fun r u H locs hw hP hS => ?_)
      rw [hw.2] at hP
      refine tp_i (z := (bz (amt n))) hw.1 ?_
      refine tp_i (z := 1) (bz_1 hn) ?_
      refine lv_if_ne (tgt := 21) hx hb dX4_take_15 (by decide) (fun _ => ?_) (fun c9 => absurd c9 (by decide))
      refine lv_aload_n hx hb dX4_take_21 rfl (lv_at hl 0 rfl) ?_
      refine lv_iload_n hx hb dX4_take_22 rfl (lv_at hl 1 rfl) ?_
      refine cl_i (rest := []) (c_X4_turnBoth l D cA ad A hDD σ j  hI hj (by omega) (by omega)) ⟨hx, hb, hml, hown, hts⟩ hK hP hS kv_X4_82 ⟨Nat.le_of_ble_eq_true rfl, Nat.le_of_ble_eq_true rfl⟩ ⟨Nat.zero_le _, Nat.zero_le _⟩ 0 rfl rfl rfl hl.1 rfl (Nat.le_of_ble_eq_true rfl) (fun q h => h) dX4_take_23 (fun r u H locs hw hP hS _ => ?_)
      rw [hw.2] at hP
      refine tp_i (z := (tb σ j).1) hw.1 ?_
      refine lv_istore_n (lv' := [(3, .int (tb σ j).1), (0, .ref (ad 0)), (1, .int (nI j)), (2, .int n)]) hx hb dX4_take_26 rfl hl (by decide) rfl (fun ls hl => ?_)
      refine lv_iload_n hx hb dX4_take_27 rfl (lv_at hl 0 rfl) ?_
      refine lv_if_eq (tgt := 33) hx hb dX4_take_28 (by decide) (fun c28 => ?_) (fun c28 => ?_)
      · have st1 := tb_st (v := j) hI hj (by omega)
        have b1 := st1.2.2.2.2
        have hj1 : j < sVc (tb σ j).2 := by rw [st1.2.1]; exact hj
        have hvc1 := st1.1.vc
        by_cases hc : sSm (tb σ j).2 j < n
        · skip
          refine lv_aload_n hx hb dX4_take_33 rfl (lv_at hl 1 rfl) ?_
          refine va_get (D := D) (ci := 4) (v := .ref (ad 2)) (C := RX4) (T := TX4) (N := 7) hx hb hts in_X4 hown hK hP 0 rfl rfl 1 (by decide) (hts _ kf_X4_19) (fun _ h9 => h9) rfl dX4_take_34 ?_
          refine va_get (D := D) (ci := 3) (v := .ref (ad 11)) (C := RX3) (T := TX3) (N := 6) hx hb hts in_X3 hown hK hP 2 rfl rfl 1 (by decide) (hts _ kf_X4_91) (fun _ h9 => h9) rfl dX4_take_37 ?_
          refine lv_iload_n hx hb dX4_take_40 rfl (lv_at hl 2 rfl) ?_
          refine ar_g hx hb hK hP 11 rfl (by omega) (by decide) dX4_take_41 ?_
          refine lv_iload_n hx hb dX4_take_42 rfl (lv_at hl 3 rfl) ?_
          refine lv_icmp_ge (tgt := 53) hx hb dX4_take_43 (by decide) (fun c9 => absurd c9 (i_nle.mpr hc)) (fun _ => ?_)
          refine lv_aload_n hx hb dX4_take_46 rfl (lv_at hl 1 rfl) ?_
          refine lv_bipush (v := (-6)) hx hb dX4_take_47 (by decide) ?_
          refine cl_i (rest := []) (c_X4_raiseAlarm l D cA ad A hDD (tb σ j).2 (-6) st1.1 (by omega)) ⟨hx, hb, hml, hown, hts⟩ hK hP hS kv_X4_94 ⟨Nat.le_of_ble_eq_true rfl, Nat.le_of_ble_eq_true rfl⟩ ⟨Nat.zero_le _, Nat.zero_le _⟩ 0 rfl rfl rfl hl.1 rfl (Nat.le_of_ble_eq_true rfl) (fun q h => h) dX4_take_49 (fun r u H locs hw hP hS _ => ?_)
          rw [hw.2] at hP
          refine tp_i (z := (-6)) hw.1 ?_
          exact rt_i (v := (-6)) (u := (ra (tb σ j).2)) hx hb hr hlocks hS hP ((by rw [take_g h0 hn]; unfold g_take; rw [if_pos c28, if_pos hc]; exact ⟨rfl, rfl⟩)) dX4_take_52
        · skip
          refine lv_aload_n hx hb dX4_take_33 rfl (lv_at hl 1 rfl) ?_
          refine va_get (D := D) (ci := 4) (v := .ref (ad 2)) (C := RX4) (T := TX4) (N := 7) hx hb hts in_X4 hown hK hP 0 rfl rfl 1 (by decide) (hts _ kf_X4_19) (fun _ h9 => h9) rfl dX4_take_34 ?_
          refine va_get (D := D) (ci := 3) (v := .ref (ad 11)) (C := RX3) (T := TX3) (N := 6) hx hb hts in_X3 hown hK hP 2 rfl rfl 1 (by decide) (hts _ kf_X4_91) (fun _ h9 => h9) rfl dX4_take_37 ?_
          refine lv_iload_n hx hb dX4_take_40 rfl (lv_at hl 2 rfl) ?_
          refine ar_g hx hb hK hP 11 rfl (by omega) (by decide) dX4_take_41 ?_
          refine lv_iload_n hx hb dX4_take_42 rfl (lv_at hl 3 rfl) ?_
          refine lv_icmp_ge (tgt := 53) hx hb dX4_take_43 (by decide) (fun _ => ?_) (fun c9 => absurd (i_nlt.mp hc) c9)
          refine lv_aload_n hx hb dX4_take_53 rfl (lv_at hl 1 rfl) ?_
          refine va_get (D := D) (ci := 4) (v := .ref (ad 2)) (C := RX4) (T := TX4) (N := 7) hx hb hts in_X4 hown hK hP 0 rfl rfl 1 (by decide) (hts _ kf_X4_19) (fun _ h9 => h9) rfl dX4_take_54 ?_
          refine va_get (D := D) (ci := 3) (v := .ref (ad 11)) (C := RX3) (T := TX3) (N := 6) hx hb hts in_X3 hown hK hP 2 rfl rfl 1 (by decide) (hts _ kf_X4_91) (fun _ h9 => h9) rfl dX4_take_57 ?_
          refine lv_iload_n hx hb dX4_take_60 rfl (lv_at hl 2 rfl) ?_
          refine lv_dup2_11 hx hb dX4_take_61 rfl rfl ?_
          refine ar_g hx hb hK hP 11 rfl (by omega) (by decide) dX4_take_62 ?_
          refine lv_iload_n hx hb dX4_take_63 rfl (lv_at hl 3 rfl) ?_
          refine lv_isub hx hb dX4_take_64 ?_
          refine ar_p hx hb hK hP (hDD _) hS 11 rfl (x := ((sSm (tb σ j).2 j) - n)) (by omega) (by decide) dX4_take_65 (fun H locs hP hS => ?_)
          have hP : va_P D vwCl (cW ad cA ((tb σ j).2.1, ((sLim (tb σ j).2), (upd (sSm (tb σ j).2) j ((sSm (tb σ j).2 j) - n)), (sNx (tb σ j).2), (sLf (tb σ j).2), (sRt (tb σ j).2), (sVc (tb σ j).2)), (tb σ j).2.2.2.1, (tb σ j).2.2.2.2.1, (tb σ j).2.2.2.2.2)) H := hP
          refine lv_aload_n hx hb dX4_take_66 rfl (lv_at hl 1 rfl) ?_
          refine lv_sipush (v := 200) hx hb dX4_take_67 (by decide) ?_
          refine lv_aload_n hx hb dX4_take_70 rfl (lv_at hl 1 rfl) ?_
          refine va_get (D := D) (ci := 4) (v := .ref (ad 2)) (C := RX4) (T := TX4) (N := 7) hx hb hts in_X4 hown hK hP 0 rfl rfl 1 (by decide) (hts _ kf_X4_19) (fun _ h9 => h9) rfl dX4_take_71 ?_
          refine va_get (D := D) (ci := 3) (v := .ref (ad 11)) (C := RX3) (T := TX3) (N := 6) hx hb hts in_X3 hown hK hP 2 rfl rfl 1 (by decide) (hts _ kf_X4_91) (fun _ h9 => h9) rfl dX4_take_74 ?_
          refine lv_iload_n hx hb dX4_take_77 rfl (lv_at hl 2 rfl) ?_
          refine ar_g hx hb hK hP 11 rfl (by omega) (by decide) dX4_take_78 ?_
          refine tp_i (z := ((sSm (tb σ j).2 j) - n)) upd_eq ?_
          refine cl_i (rest := []) (c_X4_letGo l D cA ad A hDD ((tb σ j).2.1, ((sLim (tb σ j).2), (upd (sSm (tb σ j).2) j ((sSm (tb σ j).2 j) - n)), (sNx (tb σ j).2), (sLf (tb σ j).2), (sRt (tb σ j).2), (sVc (tb σ j).2)), (tb σ j).2.2.2.1, (tb σ j).2.2.2.2.1, (tb σ j).2.2.2.2.2) 200 ((sSm (tb σ j).2 j) - n) (take_inv st1.1 hj1 hn hc) (by show sBc (tb σ j).2 + sGr (tb σ j).2 < 2147483647; omega)) ⟨hx, hb, hml, hown, hts⟩ hK hP hS kv_X4_88 ⟨Nat.le_of_ble_eq_true rfl, Nat.le_of_ble_eq_true rfl⟩ ⟨Nat.zero_le _, Nat.zero_le _⟩ 0 rfl rfl rfl hl.1 rfl (Nat.le_of_ble_eq_true rfl) (fun q h => h) dX4_take_79 (fun r u H locs hw hP hS _ => ?_)
          rw [hw.2] at hP
          refine tp_i (z := ((sSm (tb σ j).2 j) - n)) hw.1 ?_
          exact rt_i (v := ((sSm (tb σ j).2 j) - n)) (u := (da 200 ((tb σ j).2.1, ((sLim (tb σ j).2), (upd (sSm (tb σ j).2) j ((sSm (tb σ j).2 j) - n)), (sNx (tb σ j).2), (sLf (tb σ j).2), (sRt (tb σ j).2), (sVc (tb σ j).2)), (tb σ j).2.2.2.1, (tb σ j).2.2.2.2.1, (tb σ j).2.2.2.2.2))) hx hb hr hlocks hS hP ((by rw [take_g h0 hn]; unfold g_take; rw [if_pos c28, if_neg hc]; exact ⟨rfl, rfl⟩)) dX4_take_82
      · refine lv_iload_n hx hb dX4_take_31 rfl (lv_at hl 0 rfl) ?_
        exact rt_i (v := (tb σ j).1) (u := (tb σ j).2) hx hb hr hlocks hS hP ((by rw [take_g h0 hn]; unfold g_take; rw [if_neg c28]; exact ⟨rfl, rfl⟩)) dX4_take_32
    · skip
      refine lv_iload_n hx hb dX4_take_11 rfl (lv_at hl 2 rfl) ?_
      refine cl_s (rest := []) (c_X4_isAmount l D cA ad A hDD σ n ) ⟨hx, hb, hml, hown, hts⟩ hK hP hS kv_X4_79 ⟨Nat.le_of_ble_eq_true rfl, Nat.le_of_ble_eq_true rfl⟩ ⟨Nat.zero_le _, Nat.zero_le _⟩ rfl hl.1 rfl (Nat.le_of_ble_eq_true rfl) (fun q h => h) dX4_take_12 (fun r u H locs hw hP hS => ?_)
      rw [hw.2] at hP
      refine tp_i (z := (bz (amt n))) hw.1 ?_
      refine tp_i (z := 0) (bz_0 hn) ?_
      refine lv_if_ne (tgt := 21) hx hb dX4_take_15 (by decide) (fun c9 => absurd (by decide) c9) (fun _ => ?_)
      refine lv_bipush (v := (-2)) hx hb dX4_take_18 (by decide) ?_
      exact rt_i (v := (-2)) (u := σ) hx hb hr hlocks hS hP (pr2 (take_b2 h0 hn)) dX4_take_20
set_option maxHeartbeats 4000000 in
set_option maxRecDepth 100000 in
theorem c_X4_split (l : Launch) (D : va_G) (cA : ClassId) (ad : Nat → Nat) (A : Nat → Prop) (hDD : ∀ u, va_D A (cW ad cA u)) (σ : CS) (v n : Int32) (hI : Inv σ) (hg : sGr σ = 0) (hb9 : sBc σ ≤ 1000000000) : Ct l D cA (cW ad cA) A yX4_split cX4_split 4 (some .int) 4 88 [.ref (ad 0), .int v, .int n] σ (fun r u => r = (f_split σ v n).1 ∧ u = (f_split σ v n).2) := by
  refine Ct.of (by decide) (Nat.le_of_ble_eq_true rfl) ?_
  intro p e s m below meth c ls S0 hr hlocks hK hP hS hl
  obtain ⟨hx, hb, hml, hown, hts⟩ := id S0
  have hl : lv_has ls 4 [(0, .ref (ad 0)), (1, .int v), (2, .int n)] := hl
  have hkc := hI.kc
  have hvc := hI.vc
  have hgc := hI.gr
  have htc := hI.tc
  rcases ix_cases (n := sVc σ) v (by omega) with h0 | ⟨j, hj, rfl⟩
  · refine lv_aload_n hx hb dX4_split_0 rfl (lv_at hl 0 rfl) ?_
    refine va_get (D := D) (ci := 4) (v := .ref (ad 2)) (C := RX4) (T := TX4) (N := 7) hx hb hts in_X4 hown hK hP 0 rfl rfl 1 (by decide) (hts _ kf_X4_19) (fun _ h9 => h9) rfl dX4_split_1 ?_
    refine lv_iload_n hx hb dX4_split_4 rfl (lv_at hl 1 rfl) ?_
    refine cl_i (rest := []) (c_X3_has l D cA ad A hDD σ v ) ⟨hx, hb, hml, hown, hts⟩ hK hP hS kv_X4_75 ⟨Nat.le_of_ble_eq_true rfl, Nat.le_of_ble_eq_true rfl⟩ ⟨Nat.zero_le _, Nat.zero_le _⟩ 2 rfl rfl rfl hl.1 rfl (Nat.le_of_ble_eq_true rfl) (fun q h => h) dX4_split_5 (fun r u H locs hw hP hS _ => ?_)
    rw [hw.2] at hP
    refine tp_i (z := (hz (sVc σ) v)) hw.1 ?_
    refine tp_i (z := 0) (hz_0 h0) ?_
    refine lv_if_eq (tgt := 22) hx hb dX4_split_8 (by decide) (fun _ => ?_) (fun c9 => absurd (by decide) c9)
    refine lv_bipush (v := (-2)) hx hb dX4_split_22 (by decide) ?_
    exact rt_i (v := (-2)) (u := σ) hx hb hr hlocks hS hP (pr2 (split_b1 h0)) dX4_split_24
  · have h0 := ix_nI hj (n := sVc σ) (by omega)
    refine lv_aload_n hx hb dX4_split_0 rfl (lv_at hl 0 rfl) ?_
    refine va_get (D := D) (ci := 4) (v := .ref (ad 2)) (C := RX4) (T := TX4) (N := 7) hx hb hts in_X4 hown hK hP 0 rfl rfl 1 (by decide) (hts _ kf_X4_19) (fun _ h9 => h9) rfl dX4_split_1 ?_
    refine lv_iload_n hx hb dX4_split_4 rfl (lv_at hl 1 rfl) ?_
    refine cl_i (rest := []) (c_X3_has l D cA ad A hDD σ (nI j) ) ⟨hx, hb, hml, hown, hts⟩ hK hP hS kv_X4_75 ⟨Nat.le_of_ble_eq_true rfl, Nat.le_of_ble_eq_true rfl⟩ ⟨Nat.zero_le _, Nat.zero_le _⟩ 2 rfl rfl rfl hl.1 rfl (Nat.le_of_ble_eq_true rfl) (fun q h => h) dX4_split_5 (fun r u H locs hw hP hS _ => ?_)
    rw [hw.2] at hP
    refine tp_i (z := (hz (sVc σ) (nI j))) hw.1 ?_
    refine tp_i (z := 1) (hz_1 h0) ?_
    refine lv_if_eq (tgt := 22) hx hb dX4_split_8 (by decide) (fun c9 => absurd c9 (by decide)) (fun _ => ?_)
    by_cases hn : 0 ≤ n ∧ n ≤ 1000
    · skip
      refine lv_iload_n hx hb dX4_split_11 rfl (lv_at hl 2 rfl) ?_
      refine lv_iconst (v := 0) hx hb dX4_split_12 (by decide) ?_
      refine lv_sipush (v := 1000) hx hb dX4_split_13 (by decide) ?_
      refine cl_s (rest := []) (c_X4_isWithin l D cA ad A hDD σ n 0 1000 ) ⟨hx, hb, hml, hown, hts⟩ hK hP hS kv_X4_48 ⟨Nat.le_of_ble_eq_true rfl, Nat.le_of_ble_eq_true rfl⟩ ⟨Nat.zero_le _, Nat.zero_le _⟩ rfl hl.1 rfl (Nat.le_of_ble_eq_true rfl) (fun q h => h) dX4_split_16 (fun r u H locs hw hP hS => ?_)
      rw [hw.2] at hP
      refine tp_i (z := (bz (0 ≤ n ∧ n ≤ 1000))) hw.1 ?_
      refine tp_i (z := 1) (bz_1 hn) ?_
      refine lv_if_ne (tgt := 25) hx hb dX4_split_19 (by decide) (fun _ => ?_) (fun c9 => absurd c9 (by decide))
      refine lv_aload_n hx hb dX4_split_25 rfl (lv_at hl 0 rfl) ?_
      refine lv_iload_n hx hb dX4_split_26 rfl (lv_at hl 1 rfl) ?_
      refine cl_i (rest := []) (c_X4_turnBoth l D cA ad A hDD σ j  hI hj (by omega) (by omega)) ⟨hx, hb, hml, hown, hts⟩ hK hP hS kv_X4_82 ⟨Nat.le_of_ble_eq_true rfl, Nat.le_of_ble_eq_true rfl⟩ ⟨Nat.zero_le _, Nat.zero_le _⟩ 0 rfl rfl rfl hl.1 rfl (Nat.le_of_ble_eq_true rfl) (fun q h => h) dX4_split_27 (fun r u H locs hw hP hS _ => ?_)
      rw [hw.2] at hP
      refine tp_i (z := (tb σ j).1) hw.1 ?_
      refine lv_istore_n (lv' := [(3, .int (tb σ j).1), (0, .ref (ad 0)), (1, .int (nI j)), (2, .int n)]) hx hb dX4_split_30 rfl hl (by decide) rfl (fun ls hl => ?_)
      refine lv_iload_n hx hb dX4_split_31 rfl (lv_at hl 0 rfl) ?_
      refine lv_if_eq (tgt := 37) hx hb dX4_split_32 (by decide) (fun c32 => ?_) (fun c32 => ?_)
      · have st1 := tb_st (v := j) hI hj (by omega)
        have b1 := st1.2.2.2.2
        have hj1 : j < sVc (tb σ j).2 := by rw [st1.2.1]; exact hj
        have hvc1 := st1.1.vc
        refine lv_iload_n hx hb dX4_split_37 rfl (lv_at hl 3 rfl) ?_
        refine lv_if_ne (tgt := 48) hx hb dX4_split_38 (by decide) (fun c38 => ?_) (fun c38 => ?_)
        · refine lv_aload_n hx hb dX4_split_48 rfl (lv_at hl 1 rfl) ?_
          refine lv_sipush (v := 200) hx hb dX4_split_49 (by decide) ?_
          refine lv_aload_n hx hb dX4_split_52 rfl (lv_at hl 1 rfl) ?_
          refine va_get (D := D) (ci := 4) (v := .ref (ad 2)) (C := RX4) (T := TX4) (N := 7) hx hb hts in_X4 hown hK hP 0 rfl rfl 1 (by decide) (hts _ kf_X4_19) (fun _ h9 => h9) rfl dX4_split_53 ?_
          refine va_get (D := D) (ci := 3) (v := .ref (ad 11)) (C := RX3) (T := TX3) (N := 6) hx hb hts in_X3 hown hK hP 2 rfl rfl 1 (by decide) (hts _ kf_X4_91) (fun _ h9 => h9) rfl dX4_split_56 ?_
          refine lv_iload_n hx hb dX4_split_59 rfl (lv_at hl 2 rfl) ?_
          refine ar_g hx hb hK hP 11 rfl (by omega) (by decide) dX4_split_60 ?_
          refine lv_iload_n hx hb dX4_split_61 rfl (lv_at hl 3 rfl) ?_
          refine lv_idiv hx hb dX4_split_62 c38 ?_
          refine cl_i (rest := []) (c_X4_letGo l D cA ad A hDD (tb σ j).2 200 ((sSm (tb σ j).2 j) / n) st1.1 (by omega)) ⟨hx, hb, hml, hown, hts⟩ hK hP hS kv_X4_88 ⟨Nat.le_of_ble_eq_true rfl, Nat.le_of_ble_eq_true rfl⟩ ⟨Nat.zero_le _, Nat.zero_le _⟩ 0 rfl rfl rfl hl.1 rfl (Nat.le_of_ble_eq_true rfl) (fun q h => h) dX4_split_63 (fun r u H locs hw hP hS _ => ?_)
          rw [hw.2] at hP
          refine tp_i (z := ((sSm (tb σ j).2 j) / n)) hw.1 ?_
          exact rt_i (v := ((sSm (tb σ j).2 j) / n)) (u := (da 200 (tb σ j).2)) hx hb hr hlocks hS hP ((by rw [split_g h0 hn]; unfold g_split; rw [if_pos c32, if_neg c38]; exact ⟨rfl, rfl⟩)) dX4_split_66
        · refine lv_aload_n hx hb dX4_split_41 rfl (lv_at hl 1 rfl) ?_
          refine lv_bipush (v := (-8)) hx hb dX4_split_42 (by decide) ?_
          refine cl_i (rest := []) (c_X4_raiseAlarm l D cA ad A hDD (tb σ j).2 (-8) st1.1 (by omega)) ⟨hx, hb, hml, hown, hts⟩ hK hP hS kv_X4_94 ⟨Nat.le_of_ble_eq_true rfl, Nat.le_of_ble_eq_true rfl⟩ ⟨Nat.zero_le _, Nat.zero_le _⟩ 0 rfl rfl rfl hl.1 rfl (Nat.le_of_ble_eq_true rfl) (fun q h => h) dX4_split_44 (fun r u H locs hw hP hS _ => ?_)
          rw [hw.2] at hP
          refine tp_i (z := (-8)) hw.1 ?_
          exact rt_i (v := (-8)) (u := (ra (tb σ j).2)) hx hb hr hlocks hS hP ((by rw [split_g h0 hn]; unfold g_split; rw [if_pos c32, if_pos c38]; exact ⟨rfl, rfl⟩)) dX4_split_47
      · refine lv_iload_n hx hb dX4_split_35 rfl (lv_at hl 0 rfl) ?_
        exact rt_i (v := (tb σ j).1) (u := (tb σ j).2) hx hb hr hlocks hS hP ((by rw [split_g h0 hn]; unfold g_split; rw [if_neg c32]; exact ⟨rfl, rfl⟩)) dX4_split_36
    · skip
      refine lv_iload_n hx hb dX4_split_11 rfl (lv_at hl 2 rfl) ?_
      refine lv_iconst (v := 0) hx hb dX4_split_12 (by decide) ?_
      refine lv_sipush (v := 1000) hx hb dX4_split_13 (by decide) ?_
      refine cl_s (rest := []) (c_X4_isWithin l D cA ad A hDD σ n 0 1000 ) ⟨hx, hb, hml, hown, hts⟩ hK hP hS kv_X4_48 ⟨Nat.le_of_ble_eq_true rfl, Nat.le_of_ble_eq_true rfl⟩ ⟨Nat.zero_le _, Nat.zero_le _⟩ rfl hl.1 rfl (Nat.le_of_ble_eq_true rfl) (fun q h => h) dX4_split_16 (fun r u H locs hw hP hS => ?_)
      rw [hw.2] at hP
      refine tp_i (z := (bz (0 ≤ n ∧ n ≤ 1000))) hw.1 ?_
      refine tp_i (z := 0) (bz_0 hn) ?_
      refine lv_if_ne (tgt := 25) hx hb dX4_split_19 (by decide) (fun c9 => absurd (by decide) c9) (fun _ => ?_)
      refine lv_bipush (v := (-2)) hx hb dX4_split_22 (by decide) ?_
      exact rt_i (v := (-2)) (u := σ) hx hb hr hlocks hS hP (pr2 (split_b2 h0 hn)) dX4_split_24
set_option maxHeartbeats 4000000 in
set_option maxRecDepth 100000 in
theorem c_X4_move (l : Launch) (D : va_G) (cA : ClassId) (ad : Nat → Nat) (A : Nat → Prop) (hDD : ∀ u, va_D A (cW ad cA u)) (σ : CS) (a b n : Int32) (hI : Inv σ) (hg : sGr σ = 0) (hb9 : sBc σ ≤ 1000000000) : Ct l D cA (cW ad cA) A yX4_move cX4_move 5 (some .int) 4 88 [.ref (ad 0), .int a, .int b, .int n] σ (fun r u => r = (f_move σ a b n).1 ∧ u = (f_move σ a b n).2) := by
  refine Ct.of (by decide) (Nat.le_of_ble_eq_true rfl) ?_
  intro p e s m below meth c ls S0 hr hlocks hK hP hS hl
  obtain ⟨hx, hb, hml, hown, hts⟩ := id S0
  have hl : lv_has ls 5 [(0, .ref (ad 0)), (1, .int a), (2, .int b), (3, .int n)] := hl
  have hkc := hI.kc
  have hvc := hI.vc
  have hgc := hI.gr
  have htc := hI.tc
  rcases ix_cases (n := sVc σ) a (by omega) with h0 | ⟨i, hi, rfl⟩
  · refine lv_aload_n hx hb dX4_move_0 rfl (lv_at hl 0 rfl) ?_
    refine va_get (D := D) (ci := 4) (v := .ref (ad 2)) (C := RX4) (T := TX4) (N := 7) hx hb hts in_X4 hown hK hP 0 rfl rfl 1 (by decide) (hts _ kf_X4_19) (fun _ h9 => h9) rfl dX4_move_1 ?_
    refine lv_iload_n hx hb dX4_move_4 rfl (lv_at hl 1 rfl) ?_
    refine cl_i (rest := []) (c_X3_has l D cA ad A hDD σ a ) ⟨hx, hb, hml, hown, hts⟩ hK hP hS kv_X4_75 ⟨Nat.le_of_ble_eq_true rfl, Nat.le_of_ble_eq_true rfl⟩ ⟨Nat.zero_le _, Nat.zero_le _⟩ 2 rfl rfl rfl hl.1 rfl (Nat.le_of_ble_eq_true rfl) (fun q h => h) dX4_move_5 (fun r u H locs hw hP hS _ => ?_)
    rw [hw.2] at hP
    refine tp_i (z := (hz (sVc σ) a)) hw.1 ?_
    refine tp_i (z := 0) (hz_0 h0) ?_
    refine lv_if_eq (tgt := 29) hx hb dX4_move_8 (by decide) (fun _ => ?_) (fun c9 => absurd (by decide) c9)
    refine lv_bipush (v := (-2)) hx hb dX4_move_29 (by decide) ?_
    exact rt_i (v := (-2)) (u := σ) hx hb hr hlocks hS hP (pr2 (move_b1 h0)) dX4_move_31
  · have h0 := ix_nI hi (n := sVc σ) (by omega)
    refine lv_aload_n hx hb dX4_move_0 rfl (lv_at hl 0 rfl) ?_
    refine va_get (D := D) (ci := 4) (v := .ref (ad 2)) (C := RX4) (T := TX4) (N := 7) hx hb hts in_X4 hown hK hP 0 rfl rfl 1 (by decide) (hts _ kf_X4_19) (fun _ h9 => h9) rfl dX4_move_1 ?_
    refine lv_iload_n hx hb dX4_move_4 rfl (lv_at hl 1 rfl) ?_
    refine cl_i (rest := []) (c_X3_has l D cA ad A hDD σ (nI i) ) ⟨hx, hb, hml, hown, hts⟩ hK hP hS kv_X4_75 ⟨Nat.le_of_ble_eq_true rfl, Nat.le_of_ble_eq_true rfl⟩ ⟨Nat.zero_le _, Nat.zero_le _⟩ 2 rfl rfl rfl hl.1 rfl (Nat.le_of_ble_eq_true rfl) (fun q h => h) dX4_move_5 (fun r u H locs hw hP hS _ => ?_)
    rw [hw.2] at hP
    refine tp_i (z := (hz (sVc σ) (nI i))) hw.1 ?_
    refine tp_i (z := 1) (hz_1 h0) ?_
    refine lv_if_eq (tgt := 29) hx hb dX4_move_8 (by decide) (fun c9 => absurd c9 (by decide)) (fun _ => ?_)
    rcases ix_cases (n := sVc σ) b (by omega) with h1 | ⟨j, hj, rfl⟩
    · refine lv_aload_n hx hb dX4_move_11 rfl (lv_at hl 0 rfl) ?_
      refine va_get (D := D) (ci := 4) (v := .ref (ad 2)) (C := RX4) (T := TX4) (N := 7) hx hb hts in_X4 hown hK hP 0 rfl rfl 1 (by decide) (hts _ kf_X4_19) (fun _ h9 => h9) rfl dX4_move_12 ?_
      refine lv_iload_n hx hb dX4_move_15 rfl (lv_at hl 2 rfl) ?_
      refine cl_i (rest := []) (c_X3_has l D cA ad A hDD σ b ) ⟨hx, hb, hml, hown, hts⟩ hK hP hS kv_X4_75 ⟨Nat.le_of_ble_eq_true rfl, Nat.le_of_ble_eq_true rfl⟩ ⟨Nat.zero_le _, Nat.zero_le _⟩ 2 rfl rfl rfl hl.1 rfl (Nat.le_of_ble_eq_true rfl) (fun q h => h) dX4_move_16 (fun r u H locs hw hP hS _ => ?_)
      rw [hw.2] at hP
      refine tp_i (z := (hz (sVc σ) b)) hw.1 ?_
      refine tp_i (z := 0) (hz_0 h1) ?_
      refine lv_if_eq (tgt := 29) hx hb dX4_move_19 (by decide) (fun _ => ?_) (fun c9 => absurd (by decide) c9)
      refine lv_bipush (v := (-2)) hx hb dX4_move_29 (by decide) ?_
      exact rt_i (v := (-2)) (u := σ) hx hb hr hlocks hS hP (pr2 (move_b2 h0 h1)) dX4_move_31
    · have h1 := ix_nI hj (n := sVc σ) (by omega)
      refine lv_aload_n hx hb dX4_move_11 rfl (lv_at hl 0 rfl) ?_
      refine va_get (D := D) (ci := 4) (v := .ref (ad 2)) (C := RX4) (T := TX4) (N := 7) hx hb hts in_X4 hown hK hP 0 rfl rfl 1 (by decide) (hts _ kf_X4_19) (fun _ h9 => h9) rfl dX4_move_12 ?_
      refine lv_iload_n hx hb dX4_move_15 rfl (lv_at hl 2 rfl) ?_
      refine cl_i (rest := []) (c_X3_has l D cA ad A hDD σ (nI j) ) ⟨hx, hb, hml, hown, hts⟩ hK hP hS kv_X4_75 ⟨Nat.le_of_ble_eq_true rfl, Nat.le_of_ble_eq_true rfl⟩ ⟨Nat.zero_le _, Nat.zero_le _⟩ 2 rfl rfl rfl hl.1 rfl (Nat.le_of_ble_eq_true rfl) (fun q h => h) dX4_move_16 (fun r u H locs hw hP hS _ => ?_)
      rw [hw.2] at hP
      refine tp_i (z := (hz (sVc σ) (nI j))) hw.1 ?_
      refine tp_i (z := 1) (hz_1 h1) ?_
      refine lv_if_eq (tgt := 29) hx hb dX4_move_19 (by decide) (fun c9 => absurd c9 (by decide)) (fun _ => ?_)
      by_cases hn : amt n
      · skip
        refine lv_iload_n hx hb dX4_move_22 rfl (lv_at hl 3 rfl) ?_
        refine cl_s (rest := []) (c_X4_isAmount l D cA ad A hDD σ n ) ⟨hx, hb, hml, hown, hts⟩ hK hP hS kv_X4_79 ⟨Nat.le_of_ble_eq_true rfl, Nat.le_of_ble_eq_true rfl⟩ ⟨Nat.zero_le _, Nat.zero_le _⟩ rfl hl.1 rfl (Nat.le_of_ble_eq_true rfl) (fun q h => h) dX4_move_23 (fun r u H locs hw hP hS => ?_)
        rw [hw.2] at hP
        refine tp_i (z := (bz (amt n))) hw.1 ?_
        refine tp_i (z := 1) (bz_1 hn) ?_
        refine lv_if_ne (tgt := 32) hx hb dX4_move_26 (by decide) (fun _ => ?_) (fun c9 => absurd c9 (by decide))
        refine lv_aload_n hx hb dX4_move_32 rfl (lv_at hl 0 rfl) ?_
        refine lv_iload_n hx hb dX4_move_33 rfl (lv_at hl 1 rfl) ?_
        refine cl_i (rest := []) (c_X4_turnBoth l D cA ad A hDD σ i  hI hi (by omega) (by omega)) ⟨hx, hb, hml, hown, hts⟩ hK hP hS kv_X4_82 ⟨Nat.le_of_ble_eq_true rfl, Nat.le_of_ble_eq_true rfl⟩ ⟨Nat.zero_le _, Nat.zero_le _⟩ 0 rfl rfl rfl hl.1 rfl (Nat.le_of_ble_eq_true rfl) (fun q h => h) dX4_move_34 (fun r u1 H locs hw hP hS _ => ?_)
        have hu1 : u1 = (tb σ i).2 := hw.2
        refine tp_i (z := (tb σ i).1) hw.1 ?_
        have st1 := tb_st (v := i) hI hi (by omega)
        rw [← hu1] at st1
        have b1 := st1.2.2.2.2
        have hj1 : j < sVc u1 := by rw [st1.2.1]; exact hj
        have gr1 : sGr u1 ≤ sGr σ + 2 := by rw [hu1]; exact tb_gr
        refine lv_istore (lv' := [(4, .int (tb σ i).1), (0, .ref (ad 0)), (1, .int (nI i)), (2, .int (nI j)), (3, .int n)]) hx hb dX4_move_37 hl (by decide) rfl (fun ls hl => ?_)
        refine lv_iload hx hb dX4_move_39 (lv_at hl 0 rfl) ?_
        refine lv_if_ne (tgt := 51) hx hb dX4_move_41 (by decide) (fun c41 => ?_) (fun c41 => ?_)
        · refine lv_iload hx hb dX4_move_51 (lv_at hl 0 rfl) ?_
          refine lv_if_eq (tgt := 59) hx hb dX4_move_53 (by decide) (fun c9 => absurd c9 (c41)) (fun _ => ?_)
          refine lv_iload hx hb dX4_move_56 (lv_at hl 0 rfl) ?_
          exact rt_i (v := (tb σ i).1) (u := u1) hx hb hr hlocks hS hP ((by rw [move_g1 h0 h1 hn c41]; exact ⟨rfl, hu1⟩)) dX4_move_58
        · refine lv_aload_n hx hb dX4_move_44 rfl (lv_at hl 1 rfl) ?_
          refine lv_iload_n hx hb dX4_move_45 rfl (lv_at hl 3 rfl) ?_
          refine cl_i (rest := []) (c_X4_turnBoth l D cA ad A hDD u1 j  st1.1 hj1 (by omega) (by omega)) ⟨hx, hb, hml, hown, hts⟩ hK hP hS kv_X4_82 ⟨Nat.le_of_ble_eq_true rfl, Nat.le_of_ble_eq_true rfl⟩ ⟨Nat.zero_le _, Nat.zero_le _⟩ 0 rfl rfl rfl hl.1 rfl (Nat.le_of_ble_eq_true rfl) (fun q h => h) dX4_move_46 (fun r u2 H locs hw hP hS _ => ?_)
          have hu2 : u2 = (tb u1 j).2 := hw.2
          refine tp_i (z := (tb u1 j).1) hw.1 ?_
          have st2 := tb_st (v := j) st1.1 hj1 (by omega)
          rw [← hu2] at st2
          have b2 := st2.2.2.2.2
          have hi2 : i < sVc u2 := by rw [st2.2.1, st1.2.1]; exact hi
          have hj2 : j < sVc u2 := by rw [st2.2.1]; exact hj1
          have hvc2 := st2.1.vc
          refine lv_istore (lv' := [(4, .int (tb u1 j).1), (0, .ref (ad 0)), (1, .int (nI i)), (2, .int (nI j)), (3, .int n)]) hx hb dX4_move_49 hl (by decide) rfl (fun ls hl => ?_)
          refine lv_iload hx hb dX4_move_51 (lv_at hl 0 rfl) ?_
          refine lv_if_eq (tgt := 59) hx hb dX4_move_53 (by decide) (fun c53 => ?_) (fun c53 => ?_)
          · by_cases hc : sSm u2 i < n
            · skip
              refine lv_aload_n hx hb dX4_move_59 rfl (lv_at hl 1 rfl) ?_
              refine va_get (D := D) (ci := 4) (v := .ref (ad 2)) (C := RX4) (T := TX4) (N := 7) hx hb hts in_X4 hown hK hP 0 rfl rfl 1 (by decide) (hts _ kf_X4_19) (fun _ h9 => h9) rfl dX4_move_60 ?_
              refine va_get (D := D) (ci := 3) (v := .ref (ad 11)) (C := RX3) (T := TX3) (N := 6) hx hb hts in_X3 hown hK hP 2 rfl rfl 1 (by decide) (hts _ kf_X4_91) (fun _ h9 => h9) rfl dX4_move_63 ?_
              refine lv_iload_n hx hb dX4_move_66 rfl (lv_at hl 2 rfl) ?_
              refine ar_g hx hb hK hP 11 rfl (by omega) (by decide) dX4_move_67 ?_
              refine lv_iload_n hx hb dX4_move_68 rfl (lv_at hl 4 rfl) ?_
              refine lv_icmp_ge (tgt := 79) hx hb dX4_move_69 (by decide) (fun c9 => absurd c9 (i_nle.mpr hc)) (fun _ => ?_)
              refine lv_aload_n hx hb dX4_move_72 rfl (lv_at hl 1 rfl) ?_
              refine lv_bipush (v := (-6)) hx hb dX4_move_73 (by decide) ?_
              refine cl_i (rest := []) (c_X4_raiseAlarm l D cA ad A hDD u2 (-6) st2.1 (by omega)) ⟨hx, hb, hml, hown, hts⟩ hK hP hS kv_X4_94 ⟨Nat.le_of_ble_eq_true rfl, Nat.le_of_ble_eq_true rfl⟩ ⟨Nat.zero_le _, Nat.zero_le _⟩ 0 rfl rfl rfl hl.1 rfl (Nat.le_of_ble_eq_true rfl) (fun q h => h) dX4_move_75 (fun r u H locs hw hP hS _ => ?_)
              rw [hw.2] at hP
              refine tp_i (z := (-6)) hw.1 ?_
              exact rt_i (v := (-6)) (u := (ra u2)) hx hb hr hlocks hS hP ((by rw [move_g h0 h1 hn c41, ← hu1]; unfold g_move; rw [← hu2, if_pos c53, if_pos hc]; exact ⟨rfl, rfl⟩)) dX4_move_78
            · skip
              refine lv_aload_n hx hb dX4_move_59 rfl (lv_at hl 1 rfl) ?_
              refine va_get (D := D) (ci := 4) (v := .ref (ad 2)) (C := RX4) (T := TX4) (N := 7) hx hb hts in_X4 hown hK hP 0 rfl rfl 1 (by decide) (hts _ kf_X4_19) (fun _ h9 => h9) rfl dX4_move_60 ?_
              refine va_get (D := D) (ci := 3) (v := .ref (ad 11)) (C := RX3) (T := TX3) (N := 6) hx hb hts in_X3 hown hK hP 2 rfl rfl 1 (by decide) (hts _ kf_X4_91) (fun _ h9 => h9) rfl dX4_move_63 ?_
              refine lv_iload_n hx hb dX4_move_66 rfl (lv_at hl 2 rfl) ?_
              refine ar_g hx hb hK hP 11 rfl (by omega) (by decide) dX4_move_67 ?_
              refine lv_iload_n hx hb dX4_move_68 rfl (lv_at hl 4 rfl) ?_
              refine lv_icmp_ge (tgt := 79) hx hb dX4_move_69 (by decide) (fun _ => ?_) (fun c9 => absurd (i_nlt.mp hc) c9)
              by_cases hd : sLim u2 j < sSm u2 j + n
              · skip
                refine lv_aload_n hx hb dX4_move_79 rfl (lv_at hl 1 rfl) ?_
                refine va_get (D := D) (ci := 4) (v := .ref (ad 2)) (C := RX4) (T := TX4) (N := 7) hx hb hts in_X4 hown hK hP 0 rfl rfl 1 (by decide) (hts _ kf_X4_19) (fun _ h9 => h9) rfl dX4_move_80 ?_
                refine lv_iload_n hx hb dX4_move_83 rfl (lv_at hl 3 rfl) ?_
                refine lv_iload_n hx hb dX4_move_84 rfl (lv_at hl 4 rfl) ?_
                refine cl_i (rest := []) (c_X3_isTooMuch l D cA ad A hDD u2 j n hj2 hvc2) ⟨hx, hb, hml, hown, hts⟩ hK hP hS kv_X4_85 ⟨Nat.le_of_ble_eq_true rfl, Nat.le_of_ble_eq_true rfl⟩ ⟨Nat.zero_le _, Nat.zero_le _⟩ 2 rfl rfl rfl hl.1 rfl (Nat.le_of_ble_eq_true rfl) (fun q h => h) dX4_move_85 (fun r u H locs hw hP hS _ => ?_)
                rw [hw.2] at hP
                refine tp_i (z := (bz (sLim u2 j < sSm u2 j + n))) hw.1 ?_
                refine tp_i (z := 1) (bz_1 hd) ?_
                refine lv_if_eq (tgt := 101) hx hb dX4_move_88 (by decide) (fun c9 => absurd c9 (by decide)) (fun _ => ?_)
                refine lv_aload_n hx hb dX4_move_91 rfl (lv_at hl 1 rfl) ?_
                refine lv_sipush (v := 300) hx hb dX4_move_92 (by decide) ?_
                refine lv_bipush (v := (-5)) hx hb dX4_move_95 (by decide) ?_
                refine cl_i (rest := []) (c_X4_letGo l D cA ad A hDD u2 300 (-5) st2.1 (by omega)) ⟨hx, hb, hml, hown, hts⟩ hK hP hS kv_X4_88 ⟨Nat.le_of_ble_eq_true rfl, Nat.le_of_ble_eq_true rfl⟩ ⟨Nat.zero_le _, Nat.zero_le _⟩ 0 rfl rfl rfl hl.1 rfl (Nat.le_of_ble_eq_true rfl) (fun q h => h) dX4_move_97 (fun r u H locs hw hP hS _ => ?_)
                rw [hw.2] at hP
                refine tp_i (z := (-5)) hw.1 ?_
                exact rt_i (v := (-5)) (u := (da 300 u2)) hx hb hr hlocks hS hP ((by rw [move_g h0 h1 hn c41, ← hu1]; unfold g_move; rw [← hu2, if_pos c53, if_neg hc, if_pos hd]; exact ⟨rfl, rfl⟩)) dX4_move_100
              · skip
                refine lv_aload_n hx hb dX4_move_79 rfl (lv_at hl 1 rfl) ?_
                refine va_get (D := D) (ci := 4) (v := .ref (ad 2)) (C := RX4) (T := TX4) (N := 7) hx hb hts in_X4 hown hK hP 0 rfl rfl 1 (by decide) (hts _ kf_X4_19) (fun _ h9 => h9) rfl dX4_move_80 ?_
                refine lv_iload_n hx hb dX4_move_83 rfl (lv_at hl 3 rfl) ?_
                refine lv_iload_n hx hb dX4_move_84 rfl (lv_at hl 4 rfl) ?_
                refine cl_i (rest := []) (c_X3_isTooMuch l D cA ad A hDD u2 j n hj2 hvc2) ⟨hx, hb, hml, hown, hts⟩ hK hP hS kv_X4_85 ⟨Nat.le_of_ble_eq_true rfl, Nat.le_of_ble_eq_true rfl⟩ ⟨Nat.zero_le _, Nat.zero_le _⟩ 2 rfl rfl rfl hl.1 rfl (Nat.le_of_ble_eq_true rfl) (fun q h => h) dX4_move_85 (fun r u H locs hw hP hS _ => ?_)
                rw [hw.2] at hP
                refine tp_i (z := (bz (sLim u2 j < sSm u2 j + n))) hw.1 ?_
                refine tp_i (z := 0) (bz_0 hd) ?_
                refine lv_if_eq (tgt := 101) hx hb dX4_move_88 (by decide) (fun _ => ?_) (fun c9 => absurd (by decide) c9)
                refine lv_aload_n hx hb dX4_move_101 rfl (lv_at hl 1 rfl) ?_
                refine va_get (D := D) (ci := 4) (v := .ref (ad 2)) (C := RX4) (T := TX4) (N := 7) hx hb hts in_X4 hown hK hP 0 rfl rfl 1 (by decide) (hts _ kf_X4_19) (fun _ h9 => h9) rfl dX4_move_102 ?_
                refine va_get (D := D) (ci := 3) (v := .ref (ad 11)) (C := RX3) (T := TX3) (N := 6) hx hb hts in_X3 hown hK hP 2 rfl rfl 1 (by decide) (hts _ kf_X4_91) (fun _ h9 => h9) rfl dX4_move_105 ?_
                refine lv_iload_n hx hb dX4_move_108 rfl (lv_at hl 2 rfl) ?_
                refine lv_dup2_11 hx hb dX4_move_109 rfl rfl ?_
                refine ar_g hx hb hK hP 11 rfl (by omega) (by decide) dX4_move_110 ?_
                refine lv_iload_n hx hb dX4_move_111 rfl (lv_at hl 4 rfl) ?_
                refine lv_isub hx hb dX4_move_112 ?_
                refine ar_p hx hb hK hP (hDD _) hS 11 rfl (x := ((sSm u2 i) - n)) (by omega) (by decide) dX4_move_113 (fun H locs hP hS => ?_)
                have hP : va_P D vwCl (cW ad cA (u2.1, ((sLim u2), (upd (sSm u2) i ((sSm u2 i) - n)), (sNx u2), (sLf u2), (sRt u2), (sVc u2)), u2.2.2.1, u2.2.2.2.1, u2.2.2.2.2)) H := hP
                refine lv_aload_n hx hb dX4_move_114 rfl (lv_at hl 1 rfl) ?_
                refine va_get (D := D) (ci := 4) (v := .ref (ad 2)) (C := RX4) (T := TX4) (N := 7) hx hb hts in_X4 hown hK hP 0 rfl rfl 1 (by decide) (hts _ kf_X4_19) (fun _ h9 => h9) rfl dX4_move_115 ?_
                refine va_get (D := D) (ci := 3) (v := .ref (ad 11)) (C := RX3) (T := TX3) (N := 6) hx hb hts in_X3 hown hK hP 2 rfl rfl 1 (by decide) (hts _ kf_X4_91) (fun _ h9 => h9) rfl dX4_move_118 ?_
                refine lv_iload_n hx hb dX4_move_121 rfl (lv_at hl 3 rfl) ?_
                refine lv_dup2_11 hx hb dX4_move_122 rfl rfl ?_
                refine ar_g hx hb hK hP 11 rfl (by omega) (by decide) dX4_move_123 ?_
                refine lv_iload_n hx hb dX4_move_124 rfl (lv_at hl 4 rfl) ?_
                refine lv_iadd hx hb dX4_move_125 ?_
                refine ar_p hx hb hK hP (hDD _) hS 11 rfl (x := (((upd (sSm u2) i ((sSm u2 i) - n)) j) + n)) (by omega) (by decide) dX4_move_126 (fun H locs hP hS => ?_)
                have hP : va_P D vwCl (cW ad cA (u2.1, ((sLim u2), (upd (upd (sSm u2) i ((sSm u2 i) - n)) j (((upd (sSm u2) i ((sSm u2 i) - n)) j) + n)), (sNx u2), (sLf u2), (sRt u2), (sVc u2)), u2.2.2.1, u2.2.2.2.1, u2.2.2.2.2)) H := hP
                refine lv_aload_n hx hb dX4_move_127 rfl (lv_at hl 1 rfl) ?_
                refine lv_sipush (v := 200) hx hb dX4_move_128 (by decide) ?_
                refine lv_aload_n hx hb dX4_move_131 rfl (lv_at hl 1 rfl) ?_
                refine va_get (D := D) (ci := 4) (v := .ref (ad 2)) (C := RX4) (T := TX4) (N := 7) hx hb hts in_X4 hown hK hP 0 rfl rfl 1 (by decide) (hts _ kf_X4_19) (fun _ h9 => h9) rfl dX4_move_132 ?_
                refine va_get (D := D) (ci := 3) (v := .ref (ad 11)) (C := RX3) (T := TX3) (N := 6) hx hb hts in_X3 hown hK hP 2 rfl rfl 1 (by decide) (hts _ kf_X4_91) (fun _ h9 => h9) rfl dX4_move_135 ?_
                refine lv_iload_n hx hb dX4_move_138 rfl (lv_at hl 2 rfl) ?_
                refine ar_g hx hb hK hP 11 rfl (by omega) (by decide) dX4_move_139 ?_
                refine cl_i (rest := []) (c_X4_letGo l D cA ad A hDD (u2.1, ((sLim u2), (upd (upd (sSm u2) i ((sSm u2 i) - n)) j (((upd (sSm u2) i ((sSm u2 i) - n)) j) + n)), (sNx u2), (sLf u2), (sRt u2), (sVc u2)), u2.2.2.1, u2.2.2.2.1, u2.2.2.2.2) 200 ((upd (upd (sSm u2) i ((sSm u2 i) - n)) j (((upd (sSm u2) i ((sSm u2 i) - n)) j) + n)) i) (move_inv st2.1 hi2 hj2 hn hc hd) (by show sBc u2 + sGr u2 < 2147483647; omega)) ⟨hx, hb, hml, hown, hts⟩ hK hP hS kv_X4_88 ⟨Nat.le_of_ble_eq_true rfl, Nat.le_of_ble_eq_true rfl⟩ ⟨Nat.zero_le _, Nat.zero_le _⟩ 0 rfl rfl rfl hl.1 rfl (Nat.le_of_ble_eq_true rfl) (fun q h => h) dX4_move_140 (fun r u H locs hw hP hS _ => ?_)
                rw [hw.2] at hP
                refine tp_i (z := ((upd (upd (sSm u2) i ((sSm u2 i) - n)) j (((upd (sSm u2) i ((sSm u2 i) - n)) j) + n)) i)) hw.1 ?_
                exact rt_i (v := ((upd (upd (sSm u2) i ((sSm u2 i) - n)) j (((upd (sSm u2) i ((sSm u2 i) - n)) j) + n)) i)) (u := (da 200 (u2.1, ((sLim u2), (upd (upd (sSm u2) i ((sSm u2 i) - n)) j (((upd (sSm u2) i ((sSm u2 i) - n)) j) + n)), (sNx u2), (sLf u2), (sRt u2), (sVc u2)), u2.2.2.1, u2.2.2.2.1, u2.2.2.2.2))) hx hb hr hlocks hS hP ((by rw [move_g h0 h1 hn c41, ← hu1]; unfold g_move; rw [← hu2, if_pos c53, if_neg hc, if_neg hd]; exact ⟨rfl, rfl⟩)) dX4_move_143
          · refine lv_iload hx hb dX4_move_56 (lv_at hl 0 rfl) ?_
            exact rt_i (v := (tb u1 j).1) (u := u2) hx hb hr hlocks hS hP ((by rw [move_g h0 h1 hn c41, ← hu1]; unfold g_move; rw [if_neg c53]; exact ⟨rfl, hu2⟩)) dX4_move_58
      · skip
        refine lv_iload_n hx hb dX4_move_22 rfl (lv_at hl 3 rfl) ?_
        refine cl_s (rest := []) (c_X4_isAmount l D cA ad A hDD σ n ) ⟨hx, hb, hml, hown, hts⟩ hK hP hS kv_X4_79 ⟨Nat.le_of_ble_eq_true rfl, Nat.le_of_ble_eq_true rfl⟩ ⟨Nat.zero_le _, Nat.zero_le _⟩ rfl hl.1 rfl (Nat.le_of_ble_eq_true rfl) (fun q h => h) dX4_move_23 (fun r u H locs hw hP hS => ?_)
        rw [hw.2] at hP
        refine tp_i (z := (bz (amt n))) hw.1 ?_
        refine tp_i (z := 0) (bz_0 hn) ?_
        refine lv_if_ne (tgt := 32) hx hb dX4_move_26 (by decide) (fun c9 => absurd (by decide) c9) (fun _ => ?_)
        refine lv_bipush (v := (-2)) hx hb dX4_move_29 (by decide) ?_
        exact rt_i (v := (-2)) (u := σ) hx hb hr hlocks hS hP (pr2 (move_b3 h0 h1 hn)) dX4_move_31
set_option maxHeartbeats 4000000 in
set_option maxRecDepth 100000 in
theorem c_X4_swap (l : Launch) (D : va_G) (cA : ClassId) (ad : Nat → Nat) (A : Nat → Prop) (hDD : ∀ u, va_D A (cW ad cA u)) (σ : CS) (v : Int32) (hI : Inv σ) (hg : sGr σ = 0) (hb9 : sBc σ ≤ 1000000000) : Ct l D cA (cW ad cA) A yX4_swap cX4_swap 5 (some .int) 4 88 [.ref (ad 0), .int v] σ (fun r u => r = (f_swap σ v).1 ∧ u = (f_swap σ v).2) := by
  refine Ct.of (by decide) (Nat.le_of_ble_eq_true rfl) ?_
  intro p e s m below meth c ls S0 hr hlocks hK hP hS hl
  obtain ⟨hx, hb, hml, hown, hts⟩ := id S0
  have hl : lv_has ls 5 [(0, .ref (ad 0)), (1, .int v)] := hl
  have hkc := hI.kc
  have hvc := hI.vc
  have hgc := hI.gr
  have htc := hI.tc
  rcases ix_cases (n := sVc σ) v (by omega) with h0 | ⟨j, hj, rfl⟩
  · refine lv_aload_n hx hb dX4_swap_0 rfl (lv_at hl 0 rfl) ?_
    refine va_get (D := D) (ci := 4) (v := .ref (ad 2)) (C := RX4) (T := TX4) (N := 7) hx hb hts in_X4 hown hK hP 0 rfl rfl 1 (by decide) (hts _ kf_X4_19) (fun _ h9 => h9) rfl dX4_swap_1 ?_
    refine lv_iload_n hx hb dX4_swap_4 rfl (lv_at hl 1 rfl) ?_
    refine cl_i (rest := []) (c_X3_has l D cA ad A hDD σ v ) ⟨hx, hb, hml, hown, hts⟩ hK hP hS kv_X4_75 ⟨Nat.le_of_ble_eq_true rfl, Nat.le_of_ble_eq_true rfl⟩ ⟨Nat.zero_le _, Nat.zero_le _⟩ 2 rfl rfl rfl hl.1 rfl (Nat.le_of_ble_eq_true rfl) (fun q h => h) dX4_swap_5 (fun r u H locs hw hP hS _ => ?_)
    rw [hw.2] at hP
    refine tp_i (z := (hz (sVc σ) v)) hw.1 ?_
    refine tp_i (z := 0) (hz_0 h0) ?_
    refine lv_if_ne (tgt := 14) hx hb dX4_swap_8 (by decide) (fun c9 => absurd (by decide) c9) (fun _ => ?_)
    refine lv_bipush (v := (-2)) hx hb dX4_swap_11 (by decide) ?_
    exact rt_i (v := (-2)) (u := σ) hx hb hr hlocks hS hP (pr2 (swap_b1 h0)) dX4_swap_13
  · have h0 := ix_nI hj (n := sVc σ) (by omega)
    refine lv_aload_n hx hb dX4_swap_0 rfl (lv_at hl 0 rfl) ?_
    refine va_get (D := D) (ci := 4) (v := .ref (ad 2)) (C := RX4) (T := TX4) (N := 7) hx hb hts in_X4 hown hK hP 0 rfl rfl 1 (by decide) (hts _ kf_X4_19) (fun _ h9 => h9) rfl dX4_swap_1 ?_
    refine lv_iload_n hx hb dX4_swap_4 rfl (lv_at hl 1 rfl) ?_
    refine cl_i (rest := []) (c_X3_has l D cA ad A hDD σ (nI j) ) ⟨hx, hb, hml, hown, hts⟩ hK hP hS kv_X4_75 ⟨Nat.le_of_ble_eq_true rfl, Nat.le_of_ble_eq_true rfl⟩ ⟨Nat.zero_le _, Nat.zero_le _⟩ 2 rfl rfl rfl hl.1 rfl (Nat.le_of_ble_eq_true rfl) (fun q h => h) dX4_swap_5 (fun r u H locs hw hP hS _ => ?_)
    rw [hw.2] at hP
    refine tp_i (z := (hz (sVc σ) (nI j))) hw.1 ?_
    refine tp_i (z := 1) (hz_1 h0) ?_
    refine lv_if_ne (tgt := 14) hx hb dX4_swap_8 (by decide) (fun _ => ?_) (fun c9 => absurd c9 (by decide))
    refine lv_aload_n hx hb dX4_swap_14 rfl (lv_at hl 0 rfl) ?_
    refine lv_iload_n hx hb dX4_swap_15 rfl (lv_at hl 1 rfl) ?_
    refine cl_i (rest := []) (c_X4_turnBoth l D cA ad A hDD σ j  hI hj (by omega) (by omega)) ⟨hx, hb, hml, hown, hts⟩ hK hP hS kv_X4_82 ⟨Nat.le_of_ble_eq_true rfl, Nat.le_of_ble_eq_true rfl⟩ ⟨Nat.zero_le _, Nat.zero_le _⟩ 0 rfl rfl rfl hl.1 rfl (Nat.le_of_ble_eq_true rfl) (fun q h => h) dX4_swap_16 (fun r u H locs hw hP hS _ => ?_)
    rw [hw.2] at hP
    refine tp_i (z := (tb σ j).1) hw.1 ?_
    refine lv_istore_n (lv' := [(2, .int (tb σ j).1), (0, .ref (ad 0)), (1, .int (nI j))]) hx hb dX4_swap_19 rfl hl (by decide) rfl (fun ls hl => ?_)
    refine lv_iload_n hx hb dX4_swap_20 rfl (lv_at hl 0 rfl) ?_
    refine lv_if_eq (tgt := 26) hx hb dX4_swap_21 (by decide) (fun c21 => ?_) (fun c21 => ?_)
    · have st1 := tb_st (v := j) hI hj (by omega)
      have b1 := st1.2.2.2.2
      have hj1 : j < sVc (tb σ j).2 := by rw [st1.2.1]; exact hj
      have hvc1 := st1.1.vc
      refine lv_aload_n hx hb dX4_swap_26 rfl (lv_at hl 1 rfl) ?_
      refine va_get (D := D) (ci := 4) (v := .ref (ad 2)) (C := RX4) (T := TX4) (N := 7) hx hb hts in_X4 hown hK hP 0 rfl rfl 1 (by decide) (hts _ kf_X4_19) (fun _ h9 => h9) rfl dX4_swap_27 ?_
      refine lv_iload_n hx hb dX4_swap_30 rfl (lv_at hl 2 rfl) ?_
      refine lv_iconst (v := 0) hx hb dX4_swap_31 (by decide) ?_
      refine cl_i (rest := []) (c_X3_keyAt l D cA ad A hDD (tb σ j).2 j 0 hj1 hvc1) ⟨hx, hb, hml, hown, hts⟩ hK hP hS kv_X4_68 ⟨Nat.le_of_ble_eq_true rfl, Nat.le_of_ble_eq_true rfl⟩ ⟨Nat.zero_le _, Nat.zero_le _⟩ 2 rfl rfl rfl hl.1 rfl (Nat.le_of_ble_eq_true rfl) (fun q h => h) dX4_swap_32 (fun r u H locs hw hP hS _ => ?_)
      rw [hw.2] at hP
      refine tp_i (z := (hd (tb σ j).2 j 0)) hw.1 ?_
      refine lv_istore_n (lv' := [(3, .int (hd (tb σ j).2 j 0)), (2, .int (tb σ j).1), (0, .ref (ad 0)), (1, .int (nI j))]) hx hb dX4_swap_35 rfl hl (by decide) rfl (fun ls hl => ?_)
      refine lv_aload_n hx hb dX4_swap_36 rfl (lv_at hl 2 rfl) ?_
      refine va_get (D := D) (ci := 4) (v := .ref (ad 2)) (C := RX4) (T := TX4) (N := 7) hx hb hts in_X4 hown hK hP 0 rfl rfl 1 (by decide) (hts _ kf_X4_19) (fun _ h9 => h9) rfl dX4_swap_37 ?_
      refine lv_iload_n hx hb dX4_swap_40 rfl (lv_at hl 3 rfl) ?_
      refine lv_iconst (v := 1) hx hb dX4_swap_41 (by decide) ?_
      refine cl_i (rest := []) (c_X3_keyAt l D cA ad A hDD (tb σ j).2 j 1 hj1 hvc1) ⟨hx, hb, hml, hown, hts⟩ hK hP hS kv_X4_68 ⟨Nat.le_of_ble_eq_true rfl, Nat.le_of_ble_eq_true rfl⟩ ⟨Nat.zero_le _, Nat.zero_le _⟩ 2 rfl rfl rfl hl.1 rfl (Nat.le_of_ble_eq_true rfl) (fun q h => h) dX4_swap_42 (fun r u H locs hw hP hS _ => ?_)
      rw [hw.2] at hP
      refine tp_i (z := (hd (tb σ j).2 j 1)) hw.1 ?_
      refine lv_istore (lv' := [(4, .int (hd (tb σ j).2 j 1)), (3, .int (hd (tb σ j).2 j 0)), (2, .int (tb σ j).1), (0, .ref (ad 0)), (1, .int (nI j))]) hx hb dX4_swap_45 hl (by decide) rfl (fun ls hl => ?_)
      refine lv_aload_n hx hb dX4_swap_47 rfl (lv_at hl 3 rfl) ?_
      refine va_get (D := D) (ci := 4) (v := .ref (ad 2)) (C := RX4) (T := TX4) (N := 7) hx hb hts in_X4 hown hK hP 0 rfl rfl 1 (by decide) (hts _ kf_X4_19) (fun _ h9 => h9) rfl dX4_swap_48 ?_
      refine lv_iload_n hx hb dX4_swap_51 rfl (lv_at hl 4 rfl) ?_
      refine lv_iconst (v := 0) hx hb dX4_swap_52 (by decide) ?_
      refine lv_iload hx hb dX4_swap_53 (lv_at hl 0 rfl) ?_
      refine cl_v (rest := []) (c_X3_setKeyAt l D cA ad A hDD (tb σ j).2 j 0 (hd (tb σ j).2 j 1) hj1 hvc1) ⟨hx, hb, hml, hown, hts⟩ hK hP hS kv_X4_71 ⟨Nat.le_of_ble_eq_true rfl, Nat.le_of_ble_eq_true rfl⟩ ⟨Nat.zero_le _, Nat.zero_le _⟩ 2 rfl rfl rfl hl.1 rfl (Nat.le_of_ble_eq_true rfl) (fun q h => h) dX4_swap_55 (fun u H locs hw hP hS _ => ?_)
      rw [hw] at hP
      refine lv_aload_n hx hb dX4_swap_58 rfl (lv_at hl 3 rfl) ?_
      refine va_get (D := D) (ci := 4) (v := .ref (ad 2)) (C := RX4) (T := TX4) (N := 7) hx hb hts in_X4 hown hK hP 0 rfl rfl 1 (by decide) (hts _ kf_X4_19) (fun _ h9 => h9) rfl dX4_swap_59 ?_
      refine lv_iload_n hx hb dX4_swap_62 rfl (lv_at hl 4 rfl) ?_
      refine lv_iconst (v := 1) hx hb dX4_swap_63 (by decide) ?_
      refine lv_iload_n hx hb dX4_swap_64 rfl (lv_at hl 1 rfl) ?_
      refine cl_v (rest := []) (c_X3_setKeyAt l D cA ad A hDD (shk (tb σ j).2 j 0 (hd (tb σ j).2 j 1)) j 1 (hd (tb σ j).2 j 0) (by unfold shk; rw [if_pos rfl]; exact hj1) (by unfold shk; rw [if_pos rfl]; exact hvc1)) ⟨hx, hb, hml, hown, hts⟩ hK hP hS kv_X4_71 ⟨Nat.le_of_ble_eq_true rfl, Nat.le_of_ble_eq_true rfl⟩ ⟨Nat.zero_le _, Nat.zero_le _⟩ 2 rfl rfl rfl hl.1 rfl (Nat.le_of_ble_eq_true rfl) (fun q h => h) dX4_swap_65 (fun u H locs hw hP hS _ => ?_)
      rw [hw] at hP
      have es : shk (shk (tb σ j).2 j 0 (hd (tb σ j).2 j 1)) j 1 (hd (tb σ j).2 j 0) = ((tb σ j).2.1, (sLim (tb σ j).2, sSm (tb σ j).2, sNx (tb σ j).2, upd (sLf (tb σ j).2) j (sRt (tb σ j).2 j), upd (sRt (tb σ j).2) j (sLf (tb σ j).2 j), sVc (tb σ j).2), (tb σ j).2.2.2) := by unfold shk; rw [if_pos rfl, if_neg (by decide), hd_0, hd_1]
      rw [es] at hP
      refine lv_aload_n hx hb dX4_swap_68 rfl (lv_at hl 3 rfl) ?_
      refine lv_sipush (v := 200) hx hb dX4_swap_69 (by decide) ?_
      refine lv_iload hx hb dX4_swap_72 (lv_at hl 0 rfl) ?_
      refine cl_i (rest := []) (c_X4_letGo l D cA ad A hDD ((tb σ j).2.1, (sLim (tb σ j).2, sSm (tb σ j).2, sNx (tb σ j).2, upd (sLf (tb σ j).2) j (sRt (tb σ j).2 j), upd (sRt (tb σ j).2) j (sLf (tb σ j).2 j), sVc (tb σ j).2), (tb σ j).2.2.2) 200 (hd (tb σ j).2 j 1) (swap_inv st1.1 hj1) (by show sBc (tb σ j).2 + sGr (tb σ j).2 < 2147483647; omega)) ⟨hx, hb, hml, hown, hts⟩ hK hP hS kv_X4_88 ⟨Nat.le_of_ble_eq_true rfl, Nat.le_of_ble_eq_true rfl⟩ ⟨Nat.zero_le _, Nat.zero_le _⟩ 0 rfl rfl rfl hl.1 rfl (Nat.le_of_ble_eq_true rfl) (fun q h => h) dX4_swap_74 (fun r u H locs hw hP hS _ => ?_)
      rw [hw.2] at hP
      refine tp_i (z := (hd (tb σ j).2 j 1)) hw.1 ?_
      exact rt_i (v := (hd (tb σ j).2 j 1)) (u := (da 200 ((tb σ j).2.1, (sLim (tb σ j).2, sSm (tb σ j).2, sNx (tb σ j).2, upd (sLf (tb σ j).2) j (sRt (tb σ j).2 j), upd (sRt (tb σ j).2) j (sLf (tb σ j).2 j), sVc (tb σ j).2), (tb σ j).2.2.2))) hx hb hr hlocks hS hP ((by rw [swap_g h0]; unfold g_swap; rw [if_pos c21]; exact ⟨hd_1 _ _, rfl⟩)) dX4_swap_77
    · refine lv_iload_n hx hb dX4_swap_24 rfl (lv_at hl 0 rfl) ?_
      exact rt_i (v := (tb σ j).1) (u := (tb σ j).2) hx hb hr hlocks hS hP ((by rw [swap_g h0]; unfold g_swap; rw [if_neg c21]; exact ⟨rfl, rfl⟩)) dX4_swap_25
set_option maxHeartbeats 4000000 in
set_option maxRecDepth 100000 in
theorem c_X4_polish (l : Launch) (D : va_G) (cA : ClassId) (ad : Nat → Nat) (A : Nat → Prop) (hDD : ∀ u, va_D A (cW ad cA u)) (σ : CS) (k : Int32) (hI : Inv σ) (hg : sGr σ = 0) (hb9 : sBc σ ≤ 1000000000) : Ct l D cA (cW ad cA) A yX4_polish cX4_polish 3 (some .int) 2 45 [.ref (ad 0), .int k] σ (fun r u => r = (f_polish σ k).1 ∧ u = (f_polish σ k).2) := by
  refine Ct.of (by decide) (Nat.le_of_ble_eq_true rfl) ?_
  intro p e s m below meth c ls S0 hr hlocks hK hP hS hl
  obtain ⟨hx, hb, hml, hown, hts⟩ := id S0
  have hl : lv_has ls 3 [(0, .ref (ad 0)), (1, .int k)] := hl
  have hkc := hI.kc
  have hvc := hI.vc
  have hgc := hI.gr
  have htc := hI.tc
  rcases ix_cases (n := sKc σ) k (by omega) with h0 | ⟨j, hj, rfl⟩
  · refine lv_aload_n hx hb dX4_polish_0 rfl (lv_at hl 0 rfl) ?_
    refine va_get (D := D) (ci := 4) (v := .ref (ad 1)) (C := RX4) (T := TX4) (N := 7) hx hb hts in_X4 hown hK hP 0 rfl rfl 0 (by decide) (hts _ kf_X4_10) (fun _ h9 => h9) rfl dX4_polish_1 ?_
    refine lv_iload_n hx hb dX4_polish_4 rfl (lv_at hl 1 rfl) ?_
    refine cl_i (rest := []) (c_X1_has l D cA ad A hDD σ k ) ⟨hx, hb, hml, hown, hts⟩ hK hP hS kv_X4_64 ⟨Nat.le_of_ble_eq_true rfl, Nat.le_of_ble_eq_true rfl⟩ ⟨Nat.zero_le _, Nat.zero_le _⟩ 1 rfl rfl rfl hl.1 rfl (Nat.le_of_ble_eq_true rfl) (fun q h => h) dX4_polish_5 (fun r u H locs hw hP hS _ => ?_)
    rw [hw.2] at hP
    refine tp_i (z := (hz (sKc σ) k)) hw.1 ?_
    refine tp_i (z := 0) (hz_0 h0) ?_
    refine lv_if_ne (tgt := 14) hx hb dX4_polish_8 (by decide) (fun c9 => absurd (by decide) c9) (fun _ => ?_)
    refine lv_bipush (v := (-2)) hx hb dX4_polish_11 (by decide) ?_
    exact rt_i (v := (-2)) (u := σ) hx hb hr hlocks hS hP (pr2 (pol_b h0)) dX4_polish_13
  · have h0 := ix_nI hj (n := sKc σ) (by omega)
    refine lv_aload_n hx hb dX4_polish_0 rfl (lv_at hl 0 rfl) ?_
    refine va_get (D := D) (ci := 4) (v := .ref (ad 1)) (C := RX4) (T := TX4) (N := 7) hx hb hts in_X4 hown hK hP 0 rfl rfl 0 (by decide) (hts _ kf_X4_10) (fun _ h9 => h9) rfl dX4_polish_1 ?_
    refine lv_iload_n hx hb dX4_polish_4 rfl (lv_at hl 1 rfl) ?_
    refine cl_i (rest := []) (c_X1_has l D cA ad A hDD σ (nI j) ) ⟨hx, hb, hml, hown, hts⟩ hK hP hS kv_X4_64 ⟨Nat.le_of_ble_eq_true rfl, Nat.le_of_ble_eq_true rfl⟩ ⟨Nat.zero_le _, Nat.zero_le _⟩ 1 rfl rfl rfl hl.1 rfl (Nat.le_of_ble_eq_true rfl) (fun q h => h) dX4_polish_5 (fun r u H locs hw hP hS _ => ?_)
    rw [hw.2] at hP
    refine tp_i (z := (hz (sKc σ) (nI j))) hw.1 ?_
    refine tp_i (z := 1) (hz_1 h0) ?_
    refine lv_if_ne (tgt := 14) hx hb dX4_polish_8 (by decide) (fun _ => ?_) (fun c9 => absurd c9 (by decide))
    refine lv_aload_n hx hb dX4_polish_14 rfl (lv_at hl 0 rfl) ?_
    refine lv_iload_n hx hb dX4_polish_15 rfl (lv_at hl 1 rfl) ?_
    refine cl_i (rest := []) (c_X4_turnKey l D cA ad A hDD σ j hI hj (by omega) (by omega)) ⟨hx, hb, hml, hown, hts⟩ hK hP hS kv_X4_97 ⟨Nat.le_of_ble_eq_true rfl, Nat.le_of_ble_eq_true rfl⟩ ⟨Nat.zero_le _, Nat.zero_le _⟩ 0 rfl rfl rfl hl.1 rfl (Nat.le_of_ble_eq_true rfl) (fun q h => h) dX4_polish_16 (fun r u H locs hw hP hS _ => ?_)
    rw [hw.2] at hP
    refine tp_i (z := (tkc σ j).1) hw.1 ?_
    have et : tkc σ j = (0, tn σ j) := tkc_free hI hj hg
    rw [et] at hP
    have hP : va_P D vwCl (cW ad cA (tn σ j)) H := hP
    have hI1 := tn_inv hI hj (key_free hI hj hg) (by omega)
    refine lv_pop hx hb dX4_polish_19 rfl ?_
    refine lv_aload_n hx hb dX4_polish_20 rfl (lv_at hl 0 rfl) ?_
    refine va_get (D := D) (ci := 4) (v := .ref (ad 1)) (C := RX4) (T := TX4) (N := 7) hx hb hts in_X4 hown hK hP 0 rfl rfl 0 (by decide) (hts _ kf_X4_10) (fun _ h9 => h9) rfl dX4_polish_21 ?_
    refine va_get (D := D) (ci := 1) (v := .ref (ad 8)) (C := RX1) (T := TX1) (N := 5) hx hb hts in_X1 hown hK hP 1 rfl rfl 2 (by decide) (hts _ kf_X4_100) (fun _ h9 => h9) rfl dX4_polish_24 ?_
    refine lv_iload_n hx hb dX4_polish_27 rfl (lv_at hl 1 rfl) ?_
    refine ar_g hx hb hK hP 8 rfl (by omega) (by decide) dX4_polish_28 ?_
    refine lv_istore_n (lv' := [(2, .int (sWea (tn σ j) j)), (0, .ref (ad 0)), (1, .int (nI j))]) hx hb dX4_polish_29 rfl hl (by decide) rfl (fun ls hl => ?_)
    refine lv_aload_n hx hb dX4_polish_30 rfl (lv_at hl 1 rfl) ?_
    refine va_get (D := D) (ci := 4) (v := .ref (ad 1)) (C := RX4) (T := TX4) (N := 7) hx hb hts in_X4 hown hK hP 0 rfl rfl 0 (by decide) (hts _ kf_X4_10) (fun _ h9 => h9) rfl dX4_polish_31 ?_
    refine va_get (D := D) (ci := 1) (v := .ref (ad 8)) (C := RX1) (T := TX1) (N := 5) hx hb hts in_X1 hown hK hP 1 rfl rfl 2 (by decide) (hts _ kf_X4_100) (fun _ h9 => h9) rfl dX4_polish_34 ?_
    refine lv_iload_n hx hb dX4_polish_37 rfl (lv_at hl 2 rfl) ?_
    refine lv_iconst (v := 0) hx hb dX4_polish_38 (by decide) ?_
    refine ar_p hx hb hK hP (hDD _) hS 8 rfl (x := 0) (by omega) (by decide) dX4_polish_39 (fun H locs hP hS => ?_)
    have hP : va_P D vwCl (cW ad cA (((sTee (tn σ j)), (sStr (tn σ j)), (upd (sWea (tn σ j)) j 0), (sHel (tn σ j)), (sKc (tn σ j))), (tn σ j).2.1, (tn σ j).2.2.1, (tn σ j).2.2.2.1, (tn σ j).2.2.2.2)) H := hP
    refine lv_aload_n hx hb dX4_polish_40 rfl (lv_at hl 1 rfl) ?_
    refine lv_sipush (v := 200) hx hb dX4_polish_41 (by decide) ?_
    refine lv_iload_n hx hb dX4_polish_44 rfl (lv_at hl 0 rfl) ?_
    refine cl_i (rest := []) (c_X4_letGo l D cA ad A hDD (((sTee (tn σ j)), (sStr (tn σ j)), (upd (sWea (tn σ j)) j 0), (sHel (tn σ j)), (sKc (tn σ j))), (tn σ j).2.1, (tn σ j).2.2.1, (tn σ j).2.2.2.1, (tn σ j).2.2.2.2) 200 (sWea (tn σ j) j) (pol_inv hI1 hj) (by show sBc σ + 1 + (sGr σ + 1) < 2147483647; omega)) ⟨hx, hb, hml, hown, hts⟩ hK hP hS kv_X4_88 ⟨Nat.le_of_ble_eq_true rfl, Nat.le_of_ble_eq_true rfl⟩ ⟨Nat.zero_le _, Nat.zero_le _⟩ 0 rfl rfl rfl hl.1 rfl (Nat.le_of_ble_eq_true rfl) (fun q h => h) dX4_polish_45 (fun r u H locs hw hP hS _ => ?_)
    rw [hw.2] at hP
    refine tp_i (z := (sWea (tn σ j) j)) hw.1 ?_
    exact rt_i (v := (sWea (tn σ j) j)) (u := (da 200 (((sTee (tn σ j)), (sStr (tn σ j)), (upd (sWea (tn σ j)) j 0), (sHel (tn σ j)), (sKc (tn σ j))), (tn σ j).2.1, (tn σ j).2.2.1, (tn σ j).2.2.2.1, (tn σ j).2.2.2.2))) hx hb hr hlocks hS hP (pr2 (pol_g h0)) dX4_polish_48
set_option maxHeartbeats 4000000 in
set_option maxRecDepth 100000 in
theorem c_X4_sum (l : Launch) (D : va_G) (cA : ClassId) (ad : Nat → Nat) (A : Nat → Prop) (hDD : ∀ u, va_D A (cW ad cA u)) (σ : CS) (v : Int32) (hI : Inv σ) (hg : sGr σ = 0) (hb9 : sBc σ ≤ 1000000000) : Ct l D cA (cW ad cA) A yX4_sum cX4_sum 2 (some .int) 1 21 [.ref (ad 0), .int v] σ (fun r u => r = f_sum σ v ∧ u = σ) := by
  refine Ct.of (by decide) (Nat.le_of_ble_eq_true rfl) ?_
  intro p e s m below meth c ls S0 hr hlocks hK hP hS hl
  obtain ⟨hx, hb, hml, hown, hts⟩ := id S0
  have hl : lv_has ls 2 [(0, .ref (ad 0)), (1, .int v)] := hl
  have hkc := hI.kc
  have hvc := hI.vc
  have hgc := hI.gr
  have htc := hI.tc
  rcases ix_cases (n := sVc σ) v (by omega) with h0 | ⟨j, hj, rfl⟩
  · refine lv_aload_n hx hb dX4_sum_0 rfl (lv_at hl 0 rfl) ?_
    refine va_get (D := D) (ci := 4) (v := .ref (ad 2)) (C := RX4) (T := TX4) (N := 7) hx hb hts in_X4 hown hK hP 0 rfl rfl 1 (by decide) (hts _ kf_X4_19) (fun _ h9 => h9) rfl dX4_sum_1 ?_
    refine lv_iload_n hx hb dX4_sum_4 rfl (lv_at hl 1 rfl) ?_
    refine cl_i (rest := []) (c_X3_has l D cA ad A hDD σ v ) ⟨hx, hb, hml, hown, hts⟩ hK hP hS kv_X4_75 ⟨Nat.le_of_ble_eq_true rfl, Nat.le_of_ble_eq_true rfl⟩ ⟨Nat.zero_le _, Nat.zero_le _⟩ 2 rfl rfl rfl hl.1 rfl (Nat.le_of_ble_eq_true rfl) (fun q h => h) dX4_sum_5 (fun r u H locs hw hP hS _ => ?_)
    rw [hw.2] at hP
    refine tp_i (z := (hz (sVc σ) v)) hw.1 ?_
    refine tp_i (z := 0) (hz_0 h0) ?_
    refine lv_if_eq (tgt := 23) hx hb dX4_sum_8 (by decide) (fun _ => ?_) (fun c9 => absurd (by decide) c9)
    refine lv_bipush (v := (-2)) hx hb dX4_sum_23 (by decide) ?_
    exact rt_i (v := (-2)) (u := σ) hx hb hr hlocks hS hP (⟨(sum_n h0).symm, rfl⟩) dX4_sum_25
  · have h0 := ix_nI hj (n := sVc σ) (by omega)
    refine lv_aload_n hx hb dX4_sum_0 rfl (lv_at hl 0 rfl) ?_
    refine va_get (D := D) (ci := 4) (v := .ref (ad 2)) (C := RX4) (T := TX4) (N := 7) hx hb hts in_X4 hown hK hP 0 rfl rfl 1 (by decide) (hts _ kf_X4_19) (fun _ h9 => h9) rfl dX4_sum_1 ?_
    refine lv_iload_n hx hb dX4_sum_4 rfl (lv_at hl 1 rfl) ?_
    refine cl_i (rest := []) (c_X3_has l D cA ad A hDD σ (nI j) ) ⟨hx, hb, hml, hown, hts⟩ hK hP hS kv_X4_75 ⟨Nat.le_of_ble_eq_true rfl, Nat.le_of_ble_eq_true rfl⟩ ⟨Nat.zero_le _, Nat.zero_le _⟩ 2 rfl rfl rfl hl.1 rfl (Nat.le_of_ble_eq_true rfl) (fun q h => h) dX4_sum_5 (fun r u H locs hw hP hS _ => ?_)
    rw [hw.2] at hP
    refine tp_i (z := (hz (sVc σ) (nI j))) hw.1 ?_
    refine tp_i (z := 1) (hz_1 h0) ?_
    refine lv_if_eq (tgt := 23) hx hb dX4_sum_8 (by decide) (fun c9 => absurd c9 (by decide)) (fun _ => ?_)
    refine lv_aload_n hx hb dX4_sum_11 rfl (lv_at hl 0 rfl) ?_
    refine va_get (D := D) (ci := 4) (v := .ref (ad 2)) (C := RX4) (T := TX4) (N := 7) hx hb hts in_X4 hown hK hP 0 rfl rfl 1 (by decide) (hts _ kf_X4_19) (fun _ h9 => h9) rfl dX4_sum_12 ?_
    refine va_get (D := D) (ci := 3) (v := .ref (ad 11)) (C := RX3) (T := TX3) (N := 6) hx hb hts in_X3 hown hK hP 2 rfl rfl 1 (by decide) (hts _ kf_X4_91) (fun _ h9 => h9) rfl dX4_sum_15 ?_
    refine lv_iload_n hx hb dX4_sum_18 rfl (lv_at hl 1 rfl) ?_
    refine ar_g hx hb hK hP 11 rfl (by omega) (by decide) dX4_sum_19 ?_
    refine lv_goto (tgt := 25) hx hb dX4_sum_20 (by decide) ?_
    exact rt_i (v := (sSm σ j)) (u := σ) hx hb hr hlocks hS hP (⟨(sum_s h0).symm, rfl⟩) dX4_sum_25
set_option maxHeartbeats 4000000 in
set_option maxRecDepth 100000 in
theorem c_X4_wear (l : Launch) (D : va_G) (cA : ClassId) (ad : Nat → Nat) (A : Nat → Prop) (hDD : ∀ u, va_D A (cW ad cA u)) (σ : CS) (k : Int32) (hI : Inv σ) (hg : sGr σ = 0) (hb9 : sBc σ ≤ 1000000000) : Ct l D cA (cW ad cA) A yX4_wear cX4_wear 2 (some .int) 1 21 [.ref (ad 0), .int k] σ (fun r u => r = f_wear σ k ∧ u = σ) := by
  refine Ct.of (by decide) (Nat.le_of_ble_eq_true rfl) ?_
  intro p e s m below meth c ls S0 hr hlocks hK hP hS hl
  obtain ⟨hx, hb, hml, hown, hts⟩ := id S0
  have hl : lv_has ls 2 [(0, .ref (ad 0)), (1, .int k)] := hl
  have hkc := hI.kc
  have hvc := hI.vc
  have hgc := hI.gr
  have htc := hI.tc
  rcases ix_cases (n := sKc σ) k (by omega) with h0 | ⟨j, hj, rfl⟩
  · refine lv_aload_n hx hb dX4_wear_0 rfl (lv_at hl 0 rfl) ?_
    refine va_get (D := D) (ci := 4) (v := .ref (ad 1)) (C := RX4) (T := TX4) (N := 7) hx hb hts in_X4 hown hK hP 0 rfl rfl 0 (by decide) (hts _ kf_X4_10) (fun _ h9 => h9) rfl dX4_wear_1 ?_
    refine lv_iload_n hx hb dX4_wear_4 rfl (lv_at hl 1 rfl) ?_
    refine cl_i (rest := []) (c_X1_has l D cA ad A hDD σ k ) ⟨hx, hb, hml, hown, hts⟩ hK hP hS kv_X4_64 ⟨Nat.le_of_ble_eq_true rfl, Nat.le_of_ble_eq_true rfl⟩ ⟨Nat.zero_le _, Nat.zero_le _⟩ 1 rfl rfl rfl hl.1 rfl (Nat.le_of_ble_eq_true rfl) (fun q h => h) dX4_wear_5 (fun r u H locs hw hP hS _ => ?_)
    rw [hw.2] at hP
    refine tp_i (z := (hz (sKc σ) k)) hw.1 ?_
    refine tp_i (z := 0) (hz_0 h0) ?_
    refine lv_if_eq (tgt := 23) hx hb dX4_wear_8 (by decide) (fun _ => ?_) (fun c9 => absurd (by decide) c9)
    refine lv_bipush (v := (-2)) hx hb dX4_wear_23 (by decide) ?_
    exact rt_i (v := (-2)) (u := σ) hx hb hr hlocks hS hP (⟨(wear_n h0).symm, rfl⟩) dX4_wear_25
  · have h0 := ix_nI hj (n := sKc σ) (by omega)
    refine lv_aload_n hx hb dX4_wear_0 rfl (lv_at hl 0 rfl) ?_
    refine va_get (D := D) (ci := 4) (v := .ref (ad 1)) (C := RX4) (T := TX4) (N := 7) hx hb hts in_X4 hown hK hP 0 rfl rfl 0 (by decide) (hts _ kf_X4_10) (fun _ h9 => h9) rfl dX4_wear_1 ?_
    refine lv_iload_n hx hb dX4_wear_4 rfl (lv_at hl 1 rfl) ?_
    refine cl_i (rest := []) (c_X1_has l D cA ad A hDD σ (nI j) ) ⟨hx, hb, hml, hown, hts⟩ hK hP hS kv_X4_64 ⟨Nat.le_of_ble_eq_true rfl, Nat.le_of_ble_eq_true rfl⟩ ⟨Nat.zero_le _, Nat.zero_le _⟩ 1 rfl rfl rfl hl.1 rfl (Nat.le_of_ble_eq_true rfl) (fun q h => h) dX4_wear_5 (fun r u H locs hw hP hS _ => ?_)
    rw [hw.2] at hP
    refine tp_i (z := (hz (sKc σ) (nI j))) hw.1 ?_
    refine tp_i (z := 1) (hz_1 h0) ?_
    refine lv_if_eq (tgt := 23) hx hb dX4_wear_8 (by decide) (fun c9 => absurd c9 (by decide)) (fun _ => ?_)
    refine lv_aload_n hx hb dX4_wear_11 rfl (lv_at hl 0 rfl) ?_
    refine va_get (D := D) (ci := 4) (v := .ref (ad 1)) (C := RX4) (T := TX4) (N := 7) hx hb hts in_X4 hown hK hP 0 rfl rfl 0 (by decide) (hts _ kf_X4_10) (fun _ h9 => h9) rfl dX4_wear_12 ?_
    refine va_get (D := D) (ci := 1) (v := .ref (ad 8)) (C := RX1) (T := TX1) (N := 5) hx hb hts in_X1 hown hK hP 1 rfl rfl 2 (by decide) (hts _ kf_X4_100) (fun _ h9 => h9) rfl dX4_wear_15 ?_
    refine lv_iload_n hx hb dX4_wear_18 rfl (lv_at hl 1 rfl) ?_
    refine ar_g hx hb hK hP 8 rfl (by omega) (by decide) dX4_wear_19 ?_
    refine lv_goto (tgt := 25) hx hb dX4_wear_20 (by decide) ?_
    exact rt_i (v := (sWea σ j)) (u := σ) hx hb hr hlocks hS hP (⟨(wear_s h0).symm, rfl⟩) dX4_wear_25
set_option maxHeartbeats 4000000 in
set_option maxRecDepth 100000 in
theorem c_X4_entries (l : Launch) (D : va_G) (cA : ClassId) (ad : Nat → Nat) (A : Nat → Prop) (hDD : ∀ u, va_D A (cW ad cA u)) (σ : CS) (hI : Inv σ) (hg : sGr σ = 0) (hb9 : sBc σ ≤ 1000000000) : Ct l D cA (cW ad cA) A yX4_entries cX4_entries 1 (some .int) 0 0 [.ref (ad 0)] σ (fun r u => r = nI (sBc σ) ∧ u = σ) := by
  refine Ct.of (by decide) (Nat.le_of_ble_eq_true rfl) ?_
  intro p e s m below meth c ls S0 hr hlocks hK hP hS hl
  obtain ⟨hx, hb, hml, hown, hts⟩ := id S0
  have hl : lv_has ls 1 [(0, .ref (ad 0))] := hl
  have hkc := hI.kc
  have hvc := hI.vc
  have hgc := hI.gr
  have htc := hI.tc
  refine lv_aload_n hx hb dX4_entries_0 rfl (lv_at hl 0 rfl) ?_
  refine va_get (D := D) (ci := 4) (v := .ref (ad 3)) (C := RX4) (T := TX4) (N := 7) hx hb hts in_X4 hown hK hP 0 rfl rfl 2 (by decide) (hts _ kf_X4_26) (fun _ h9 => h9) rfl dX4_entries_1 ?_
  refine va_get (D := D) (ci := 0) (v := .int (nI (sBc σ))) (C := RX0) (T := TX0) (N := 2) hx hb hts in_X0 hown hK hP 3 rfl rfl 1 (by decide) (hts _ kf_X4_127) (fun _ h9 => h9) rfl dX4_entries_4 ?_
  exact rt_i (v := (nI (sBc σ))) (u := σ) hx hb hr hlocks hS hP (⟨rfl, rfl⟩) dX4_entries_7
set_option maxHeartbeats 4000000 in
set_option maxRecDepth 100000 in
theorem c_X4_clear (l : Launch) (D : va_G) (cA : ClassId) (ad : Nat → Nat) (A : Nat → Prop) (hDD : ∀ u, va_D A (cW ad cA u)) (σ : CS) (hI : Inv σ) (hg : sGr σ = 0) (hb9 : sBc σ ≤ 1000000000) : Ct l D cA (cW ad cA) A yX4_clear cX4_clear 2 (some .int) 0 0 [.ref (ad 0)] σ (fun r u => r = nI (sBc σ) ∧ u = sbc σ 0) := by
  refine Ct.of (by decide) (Nat.le_of_ble_eq_true rfl) ?_
  intro p e s m below meth c ls S0 hr hlocks hK hP hS hl
  obtain ⟨hx, hb, hml, hown, hts⟩ := id S0
  have hl : lv_has ls 2 [(0, .ref (ad 0))] := hl
  have hkc := hI.kc
  have hvc := hI.vc
  have hgc := hI.gr
  have htc := hI.tc
  refine lv_aload_n hx hb dX4_clear_0 rfl (lv_at hl 0 rfl) ?_
  refine va_get (D := D) (ci := 4) (v := .ref (ad 3)) (C := RX4) (T := TX4) (N := 7) hx hb hts in_X4 hown hK hP 0 rfl rfl 2 (by decide) (hts _ kf_X4_26) (fun _ h9 => h9) rfl dX4_clear_1 ?_
  refine va_get (D := D) (ci := 0) (v := .int (nI (sBc σ))) (C := RX0) (T := TX0) (N := 2) hx hb hts in_X0 hown hK hP 3 rfl rfl 1 (by decide) (hts _ kf_X4_127) (fun _ h9 => h9) rfl dX4_clear_4 ?_
  refine lv_istore_n (lv' := [(1, .int (nI (sBc σ))), (0, .ref (ad 0))]) hx hb dX4_clear_7 rfl hl (by decide) rfl (fun ls hl => ?_)
  refine lv_aload_n hx hb dX4_clear_8 rfl (lv_at hl 1 rfl) ?_
  refine va_get (D := D) (ci := 4) (v := .ref (ad 3)) (C := RX4) (T := TX4) (N := 7) hx hb hts in_X4 hown hK hP 0 rfl rfl 2 (by decide) (hts _ kf_X4_26) (fun _ h9 => h9) rfl dX4_clear_9 ?_
  refine lv_iconst (v := 0) hx hb dX4_clear_12 (by decide) ?_
  refine tp_i (z := (nI 0)) nI_0.symm ?_
  refine va_put (D := D) (ci := 0) (v := .int (nI 0)) (ty := .int) (C := RX0) (T := TX0) (N := 2) hx hb hts in_X0 tyX0 tyX0_ok nmX0 hown hK hP (hDD _) hS 3 rfl rfl 1 (by decide) (hts _ kf_X4_127) (fun _ h9 => h9) rfl (by decide +kernel) rfl rfl (Nat.le_of_ble_eq_true rfl) dX4_clear_13 (fun H locs hP _ hS => ?_)
  have hP : va_P D vwCl (cW ad cA (σ.1, σ.2.1, ((sKp σ), 0), σ.2.2.2.1, σ.2.2.2.2)) H := hP
  refine lv_iload_n hx hb dX4_clear_16 rfl (lv_at hl 0 rfl) ?_
  exact rt_i (v := (nI (sBc σ))) (u := (σ.1, σ.2.1, ((sKp σ), 0), σ.2.2.2.1, σ.2.2.2.2)) hx hb hr hlocks hS hP (⟨rfl, rfl⟩) dX4_clear_17
set_option maxHeartbeats 4000000 in
set_option maxRecDepth 100000 in
theorem c_X4_alarms (l : Launch) (D : va_G) (cA : ClassId) (ad : Nat → Nat) (A : Nat → Prop) (hDD : ∀ u, va_D A (cW ad cA u)) (σ : CS) (hI : Inv σ) (hg : sGr σ = 0) (hb9 : sBc σ ≤ 1000000000) : Ct l D cA (cW ad cA) A yX4_alarms cX4_alarms 1 (some .int) 0 0 [.ref (ad 0)] σ (fun r u => r = sAl σ ∧ u = σ) := by
  refine Ct.of (by decide) (Nat.le_of_ble_eq_true rfl) ?_
  intro p e s m below meth c ls S0 hr hlocks hK hP hS hl
  obtain ⟨hx, hb, hml, hown, hts⟩ := id S0
  have hl : lv_has ls 1 [(0, .ref (ad 0))] := hl
  have hkc := hI.kc
  have hvc := hI.vc
  have hgc := hI.gr
  have htc := hI.tc
  refine lv_aload_n hx hb dX4_alarms_0 rfl (lv_at hl 0 rfl) ?_
  refine va_get (D := D) (ci := 4) (v := .int (sAl σ)) (C := RX4) (T := TX4) (N := 7) hx hb hts in_X4 hown hK hP 0 rfl rfl 6 (by decide) (hts _ kf_X4_45) (fun _ h9 => h9) rfl dX4_alarms_1 ?_
  exact rt_i (v := (sAl σ)) (u := σ) hx hb hr hlocks hS hP (⟨rfl, rfl⟩) dX4_alarms_4
set_option maxHeartbeats 4000000 in
set_option maxRecDepth 100000 in
theorem c_X4_orders (l : Launch) (D : va_G) (cA : ClassId) (ad : Nat → Nat) (A : Nat → Prop) (hDD : ∀ u, va_D A (cW ad cA u)) (σ : CS) (hI : Inv σ) (hg : sGr σ = 0) (hb9 : sBc σ ≤ 1000000000) : Ct l D cA (cW ad cA) A yX4_orders cX4_orders 1 (some .int) 0 0 [.ref (ad 0)] σ (fun r u => r = nI (sTc σ) ∧ u = σ) := by
  refine Ct.of (by decide) (Nat.le_of_ble_eq_true rfl) ?_
  intro p e s m below meth c ls S0 hr hlocks hK hP hS hl
  obtain ⟨hx, hb, hml, hown, hts⟩ := id S0
  have hl : lv_has ls 1 [(0, .ref (ad 0))] := hl
  have hkc := hI.kc
  have hvc := hI.vc
  have hgc := hI.gr
  have htc := hI.tc
  refine lv_aload_n hx hb dX4_orders_0 rfl (lv_at hl 0 rfl) ?_
  refine va_get (D := D) (ci := 4) (v := .ref (ad 4)) (C := RX4) (T := TX4) (N := 7) hx hb hts in_X4 hown hK hP 0 rfl rfl 3 (by decide) (hts _ kf_X4_33) (fun _ h9 => h9) rfl dX4_orders_1 ?_
  refine va_get (D := D) (ci := 2) (v := .int (nI (sTc σ))) (C := RX2) (T := TX2) (N := 5) hx hb hts in_X2 hown hK hP 4 rfl rfl 4 (by decide) (hts _ kf_X4_121) (fun _ h9 => h9) rfl dX4_orders_4 ?_
  exact rt_i (v := (nI (sTc σ))) (u := σ) hx hb hr hlocks hS hP (⟨rfl, rfl⟩) dX4_orders_7
set_option maxHeartbeats 4000000 in
set_option maxRecDepth 100000 in
theorem c_X4_entry (l : Launch) (D : va_G) (cA : ClassId) (ad : Nat → Nat) (A : Nat → Prop) (hDD : ∀ u, va_D A (cW ad cA u)) (σ : CS) (x : Int32) (hI : Inv σ) (hg : sGr σ = 0) (hb9 : sBc σ ≤ 1000000000) : Ct l D cA (cW ad cA) A yX4_entry cX4_entry 2 (some .int) 1 21 [.ref (ad 0), .int x] σ (fun r u => r = f_entry σ x ∧ u = σ) := by
  refine Ct.of (by decide) (Nat.le_of_ble_eq_true rfl) ?_
  intro p e s m below meth c ls S0 hr hlocks hK hP hS hl
  obtain ⟨hx, hb, hml, hown, hts⟩ := id S0
  have hl : lv_has ls 2 [(0, .ref (ad 0)), (1, .int x)] := hl
  have hkc := hI.kc
  have hvc := hI.vc
  have hgc := hI.gr
  have htc := hI.tc
  refine lv_aload_n hx hb dX4_entry_0 rfl (lv_at hl 0 rfl) ?_
  refine va_get (D := D) (ci := 4) (v := .ref (ad 3)) (C := RX4) (T := TX4) (N := 7) hx hb hts in_X4 hown hK hP 0 rfl rfl 2 (by decide) (hts _ kf_X4_26) (fun _ h9 => h9) rfl dX4_entry_1 ?_
  refine lv_iload_n hx hb dX4_entry_4 rfl (lv_at hl 1 rfl) ?_
  refine cl_i (rest := []) (c_X0_read l D cA ad A hDD σ x (by omega)) ⟨hx, hb, hml, hown, hts⟩ hK hP hS kv_X4_128 ⟨Nat.le_of_ble_eq_true rfl, Nat.le_of_ble_eq_true rfl⟩ ⟨Nat.zero_le _, Nat.zero_le _⟩ 3 rfl rfl rfl hl.1 rfl (Nat.le_of_ble_eq_true rfl) (fun q h => h) dX4_entry_5 (fun r u H locs hw hP hS _ => ?_)
  rw [hw.2] at hP
  refine tp_i (z := (f_entry σ x)) hw.1 ?_
  exact rt_i (v := (f_entry σ x)) (u := σ) hx hb hr hlocks hS hP (⟨rfl, rfl⟩) dX4_entry_8
set_option maxHeartbeats 4000000 in
set_option maxRecDepth 100000 in
theorem c_X4_hung (l : Launch) (D : va_G) (cA : ClassId) (ad : Nat → Nat) (A : Nat → Prop) (hDD : ∀ u, va_D A (cW ad cA u)) (σ : CS) (v h : Int32) (hI : Inv σ) (hg : sGr σ = 0) (hb9 : sBc σ ≤ 1000000000) : Ct l D cA (cW ad cA) A yX4_hung cX4_hung 3 (some .int) 2 43 [.ref (ad 0), .int v, .int h] σ (fun r u => r = f_hung σ v h ∧ u = σ) := by
  refine Ct.of (by decide) (Nat.le_of_ble_eq_true rfl) ?_
  intro p e s m below meth c ls S0 hr hlocks hK hP hS hl
  obtain ⟨hx, hb, hml, hown, hts⟩ := id S0
  have hl : lv_has ls 3 [(0, .ref (ad 0)), (1, .int v), (2, .int h)] := hl
  have hkc := hI.kc
  have hvc := hI.vc
  have hgc := hI.gr
  have htc := hI.tc
  rcases ix_cases (n := sVc σ) v (by omega) with h0 | ⟨j, hj, rfl⟩
  · refine lv_aload_n hx hb dX4_hung_0 rfl (lv_at hl 0 rfl) ?_
    refine va_get (D := D) (ci := 4) (v := .ref (ad 2)) (C := RX4) (T := TX4) (N := 7) hx hb hts in_X4 hown hK hP 0 rfl rfl 1 (by decide) (hts _ kf_X4_19) (fun _ h9 => h9) rfl dX4_hung_1 ?_
    refine lv_iload_n hx hb dX4_hung_4 rfl (lv_at hl 1 rfl) ?_
    refine lv_iload_n hx hb dX4_hung_5 rfl (lv_at hl 2 rfl) ?_
    refine cl_i (rest := []) (c_X3_hasHand l D cA ad A hDD σ v h hvc) ⟨hx, hb, hml, hown, hts⟩ hK hP hS kv_X4_60 ⟨Nat.le_of_ble_eq_true rfl, Nat.le_of_ble_eq_true rfl⟩ ⟨Nat.zero_le _, Nat.zero_le _⟩ 2 rfl rfl rfl hl.1 rfl (Nat.le_of_ble_eq_true rfl) (fun q h => h) dX4_hung_6 (fun r u H locs hw hP hS _ => ?_)
    rw [hw.2] at hP
    refine tp_i (z := (bz ((ix (sVc σ) v).isSome = true ∧ okh h))) hw.1 ?_
    refine tp_i (z := 0) (bz_0 (fun q => ix_none_s h0 q.1)) ?_
    refine lv_if_eq (tgt := 24) hx hb dX4_hung_9 (by decide) (fun _ => ?_) (fun c9 => absurd (by decide) c9)
    refine lv_bipush (v := (-2)) hx hb dX4_hung_24 (by decide) ?_
    exact rt_i (v := (-2)) (u := σ) hx hb hr hlocks hS hP (⟨(hung_n h0).symm, rfl⟩) dX4_hung_26
  · have h0 := ix_nI hj (n := sVc σ) (by omega)
    refine lv_aload_n hx hb dX4_hung_0 rfl (lv_at hl 0 rfl) ?_
    by_cases hh : okh h
    · skip
      refine va_get (D := D) (ci := 4) (v := .ref (ad 2)) (C := RX4) (T := TX4) (N := 7) hx hb hts in_X4 hown hK hP 0 rfl rfl 1 (by decide) (hts _ kf_X4_19) (fun _ h9 => h9) rfl dX4_hung_1 ?_
      refine lv_iload_n hx hb dX4_hung_4 rfl (lv_at hl 1 rfl) ?_
      refine lv_iload_n hx hb dX4_hung_5 rfl (lv_at hl 2 rfl) ?_
      refine cl_i (rest := []) (c_X3_hasHand l D cA ad A hDD σ (nI j) h hvc) ⟨hx, hb, hml, hown, hts⟩ hK hP hS kv_X4_60 ⟨Nat.le_of_ble_eq_true rfl, Nat.le_of_ble_eq_true rfl⟩ ⟨Nat.zero_le _, Nat.zero_le _⟩ 2 rfl rfl rfl hl.1 rfl (Nat.le_of_ble_eq_true rfl) (fun q h => h) dX4_hung_6 (fun r u H locs hw hP hS _ => ?_)
      rw [hw.2] at hP
      refine tp_i (z := (bz ((ix (sVc σ) (nI j)).isSome = true ∧ okh h))) hw.1 ?_
      refine tp_i (z := 1) (bz_1 ⟨ix_some_s h0, hh⟩) ?_
      refine lv_if_eq (tgt := 24) hx hb dX4_hung_9 (by decide) (fun c9 => absurd c9 (by decide)) (fun _ => ?_)
      refine lv_aload_n hx hb dX4_hung_12 rfl (lv_at hl 0 rfl) ?_
      refine va_get (D := D) (ci := 4) (v := .ref (ad 2)) (C := RX4) (T := TX4) (N := 7) hx hb hts in_X4 hown hK hP 0 rfl rfl 1 (by decide) (hts _ kf_X4_19) (fun _ h9 => h9) rfl dX4_hung_13 ?_
      refine lv_iload_n hx hb dX4_hung_16 rfl (lv_at hl 1 rfl) ?_
      refine lv_iload_n hx hb dX4_hung_17 rfl (lv_at hl 2 rfl) ?_
      refine cl_i (rest := []) (c_X3_keyAt l D cA ad A hDD σ j h hj hvc) ⟨hx, hb, hml, hown, hts⟩ hK hP hS kv_X4_68 ⟨Nat.le_of_ble_eq_true rfl, Nat.le_of_ble_eq_true rfl⟩ ⟨Nat.zero_le _, Nat.zero_le _⟩ 2 rfl rfl rfl hl.1 rfl (Nat.le_of_ble_eq_true rfl) (fun q h => h) dX4_hung_18 (fun r u H locs hw hP hS _ => ?_)
      rw [hw.2] at hP
      refine tp_i (z := (hd σ j h)) hw.1 ?_
      refine lv_goto (tgt := 26) hx hb dX4_hung_21 (by decide) ?_
      exact rt_i (v := (hd σ j h)) (u := σ) hx hb hr hlocks hS hP (⟨(hung_s h0 hh).symm, rfl⟩) dX4_hung_26
    · skip
      refine va_get (D := D) (ci := 4) (v := .ref (ad 2)) (C := RX4) (T := TX4) (N := 7) hx hb hts in_X4 hown hK hP 0 rfl rfl 1 (by decide) (hts _ kf_X4_19) (fun _ h9 => h9) rfl dX4_hung_1 ?_
      refine lv_iload_n hx hb dX4_hung_4 rfl (lv_at hl 1 rfl) ?_
      refine lv_iload_n hx hb dX4_hung_5 rfl (lv_at hl 2 rfl) ?_
      refine cl_i (rest := []) (c_X3_hasHand l D cA ad A hDD σ (nI j) h hvc) ⟨hx, hb, hml, hown, hts⟩ hK hP hS kv_X4_60 ⟨Nat.le_of_ble_eq_true rfl, Nat.le_of_ble_eq_true rfl⟩ ⟨Nat.zero_le _, Nat.zero_le _⟩ 2 rfl rfl rfl hl.1 rfl (Nat.le_of_ble_eq_true rfl) (fun q h => h) dX4_hung_6 (fun r u H locs hw hP hS _ => ?_)
      rw [hw.2] at hP
      refine tp_i (z := (bz ((ix (sVc σ) (nI j)).isSome = true ∧ okh h))) hw.1 ?_
      refine tp_i (z := 0) (bz_0 (fun q => hh q.2)) ?_
      refine lv_if_eq (tgt := 24) hx hb dX4_hung_9 (by decide) (fun _ => ?_) (fun c9 => absurd (by decide) c9)
      refine lv_bipush (v := (-2)) hx hb dX4_hung_24 (by decide) ?_
      exact rt_i (v := (-2)) (u := σ) hx hb hr hlocks hS hP (⟨(hung_b h0 hh).symm, rfl⟩) dX4_hung_26
set_option maxHeartbeats 4000000 in
set_option maxRecDepth 100000 in
theorem c_X4_isOrder (l : Launch) (D : va_G) (cA : ClassId) (ad : Nat → Nat) (A : Nat → Prop) (hDD : ∀ u, va_D A (cW ad cA u)) (σ : CS) (o v w n : Int32) (hI : Inv σ) : Ct l D cA (cW ad cA) A yX4_isOrder cX4_isOrder 5 (some .boolean) 2 42 [.ref (ad 0), .int o, .int v, .int w, .int n] σ (fun r u => r = bz (isO σ o v w n) ∧ u = σ) := by
  refine Ct.of (by decide) (Nat.le_of_ble_eq_true rfl) ?_
  intro p e s m below meth c ls S0 hr hlocks hK hP hS hl
  obtain ⟨hx, hb, hml, hown, hts⟩ := id S0
  have hl : lv_has ls 5 [(0, .ref (ad 0)), (1, .int o), (2, .int v), (3, .int w), (4, .int n)] := hl
  have hkc := hI.kc
  have hvc := hI.vc
  have hgc := hI.gr
  have htc := hI.tc
  rcases o5 o with rfl | rfl | rfl | rfl | rfl | ho
  · skip
    refine lv_iload_n hx hb dX4_isOrder_0 rfl (lv_at hl 1 rfl) ?_
    refine lv_tableIn (x := 0) (off := 35) (tgt := 36) hx hb dX4_isOrder_1 (by decide) (by decide) (by decide) (by decide) ?_
    rcases ix_cases (n := sVc σ) v (by omega) with h0 | ⟨j, hj, rfl⟩
    · refine lv_aload_n hx hb dX4_isOrder_36 rfl (lv_at hl 0 rfl) ?_
      refine va_get (D := D) (ci := 4) (v := .ref (ad 2)) (C := RX4) (T := TX4) (N := 7) hx hb hts in_X4 hown hK hP 0 rfl rfl 1 (by decide) (hts _ kf_X4_19) (fun _ h9 => h9) rfl dX4_isOrder_37 ?_
      refine lv_iload_n hx hb dX4_isOrder_40 rfl (lv_at hl 2 rfl) ?_
      refine cl_i (rest := []) (c_X3_has l D cA ad A hDD σ v ) ⟨hx, hb, hml, hown, hts⟩ hK hP hS kv_X4_75 ⟨Nat.le_of_ble_eq_true rfl, Nat.le_of_ble_eq_true rfl⟩ ⟨Nat.zero_le _, Nat.zero_le _⟩ 2 rfl rfl rfl hl.1 rfl (Nat.le_of_ble_eq_true rfl) (fun q h => h) dX4_isOrder_41 (fun r u H locs hw hP hS _ => ?_)
      rw [hw.2] at hP
      refine tp_i (z := (hz (sVc σ) v)) hw.1 ?_
      refine tp_i (z := 0) (hz_0 h0) ?_
      refine lv_if_eq (tgt := 59) hx hb dX4_isOrder_44 (by decide) (fun _ => ?_) (fun c9 => absurd (by decide) c9)
      refine lv_iconst (v := 0) hx hb dX4_isOrder_59 (by decide) ?_
      exact rt_z (v := 0) (u := σ) hx hb hr hlocks rfl hS hP (⟨(bz_0 (fun q => ix_none_s h0 (isO_v q (by decide)))).symm, rfl⟩) dX4_isOrder_60
    · have h0 := ix_nI hj (n := sVc σ) (by omega)
      refine lv_aload_n hx hb dX4_isOrder_36 rfl (lv_at hl 0 rfl) ?_
      refine va_get (D := D) (ci := 4) (v := .ref (ad 2)) (C := RX4) (T := TX4) (N := 7) hx hb hts in_X4 hown hK hP 0 rfl rfl 1 (by decide) (hts _ kf_X4_19) (fun _ h9 => h9) rfl dX4_isOrder_37 ?_
      refine lv_iload_n hx hb dX4_isOrder_40 rfl (lv_at hl 2 rfl) ?_
      refine cl_i (rest := []) (c_X3_has l D cA ad A hDD σ (nI j) ) ⟨hx, hb, hml, hown, hts⟩ hK hP hS kv_X4_75 ⟨Nat.le_of_ble_eq_true rfl, Nat.le_of_ble_eq_true rfl⟩ ⟨Nat.zero_le _, Nat.zero_le _⟩ 2 rfl rfl rfl hl.1 rfl (Nat.le_of_ble_eq_true rfl) (fun q h => h) dX4_isOrder_41 (fun r u H locs hw hP hS _ => ?_)
      rw [hw.2] at hP
      refine tp_i (z := (hz (sVc σ) (nI j))) hw.1 ?_
      refine tp_i (z := 1) (hz_1 h0) ?_
      refine lv_if_eq (tgt := 59) hx hb dX4_isOrder_44 (by decide) (fun c9 => absurd c9 (by decide)) (fun _ => ?_)
      by_cases hn : amt n
      · skip
        refine lv_iload hx hb dX4_isOrder_47 (lv_at hl 4 rfl) ?_
        refine cl_s (rest := []) (c_X4_isAmount l D cA ad A hDD σ n ) ⟨hx, hb, hml, hown, hts⟩ hK hP hS kv_X4_79 ⟨Nat.le_of_ble_eq_true rfl, Nat.le_of_ble_eq_true rfl⟩ ⟨Nat.zero_le _, Nat.zero_le _⟩ rfl hl.1 rfl (Nat.le_of_ble_eq_true rfl) (fun q h => h) dX4_isOrder_49 (fun r u H locs hw hP hS => ?_)
        rw [hw.2] at hP
        refine tp_i (z := (bz (amt n))) hw.1 ?_
        refine tp_i (z := 1) (bz_1 hn) ?_
        refine lv_if_eq (tgt := 59) hx hb dX4_isOrder_52 (by decide) (fun c9 => absurd c9 (by decide)) (fun _ => ?_)
        refine lv_iconst (v := 1) hx hb dX4_isOrder_55 (by decide) ?_
        refine lv_goto (tgt := 60) hx hb dX4_isOrder_56 (by decide) ?_
        exact rt_z (v := 1) (u := σ) hx hb hr hlocks rfl hS hP (⟨(bz_1 (Or.inl ⟨Or.inl rfl, ix_some_s h0, hn⟩)).symm, rfl⟩) dX4_isOrder_60
      · skip
        refine lv_iload hx hb dX4_isOrder_47 (lv_at hl 4 rfl) ?_
        refine cl_s (rest := []) (c_X4_isAmount l D cA ad A hDD σ n ) ⟨hx, hb, hml, hown, hts⟩ hK hP hS kv_X4_79 ⟨Nat.le_of_ble_eq_true rfl, Nat.le_of_ble_eq_true rfl⟩ ⟨Nat.zero_le _, Nat.zero_le _⟩ rfl hl.1 rfl (Nat.le_of_ble_eq_true rfl) (fun q h => h) dX4_isOrder_49 (fun r u H locs hw hP hS => ?_)
        rw [hw.2] at hP
        refine tp_i (z := (bz (amt n))) hw.1 ?_
        refine tp_i (z := 0) (bz_0 hn) ?_
        refine lv_if_eq (tgt := 59) hx hb dX4_isOrder_52 (by decide) (fun _ => ?_) (fun c9 => absurd (by decide) c9)
        refine lv_iconst (v := 0) hx hb dX4_isOrder_59 (by decide) ?_
        exact rt_z (v := 0) (u := σ) hx hb hr hlocks rfl hS hP (⟨(bz_0 (fun q => hn (isO_n q (by decide) (by decide)))).symm, rfl⟩) dX4_isOrder_60
  · skip
    refine lv_iload_n hx hb dX4_isOrder_0 rfl (lv_at hl 1 rfl) ?_
    refine lv_tableIn (x := 1) (off := 35) (tgt := 36) hx hb dX4_isOrder_1 (by decide) (by decide) (by decide) (by decide) ?_
    rcases ix_cases (n := sVc σ) v (by omega) with h0 | ⟨j, hj, rfl⟩
    · refine lv_aload_n hx hb dX4_isOrder_36 rfl (lv_at hl 0 rfl) ?_
      refine va_get (D := D) (ci := 4) (v := .ref (ad 2)) (C := RX4) (T := TX4) (N := 7) hx hb hts in_X4 hown hK hP 0 rfl rfl 1 (by decide) (hts _ kf_X4_19) (fun _ h9 => h9) rfl dX4_isOrder_37 ?_
      refine lv_iload_n hx hb dX4_isOrder_40 rfl (lv_at hl 2 rfl) ?_
      refine cl_i (rest := []) (c_X3_has l D cA ad A hDD σ v ) ⟨hx, hb, hml, hown, hts⟩ hK hP hS kv_X4_75 ⟨Nat.le_of_ble_eq_true rfl, Nat.le_of_ble_eq_true rfl⟩ ⟨Nat.zero_le _, Nat.zero_le _⟩ 2 rfl rfl rfl hl.1 rfl (Nat.le_of_ble_eq_true rfl) (fun q h => h) dX4_isOrder_41 (fun r u H locs hw hP hS _ => ?_)
      rw [hw.2] at hP
      refine tp_i (z := (hz (sVc σ) v)) hw.1 ?_
      refine tp_i (z := 0) (hz_0 h0) ?_
      refine lv_if_eq (tgt := 59) hx hb dX4_isOrder_44 (by decide) (fun _ => ?_) (fun c9 => absurd (by decide) c9)
      refine lv_iconst (v := 0) hx hb dX4_isOrder_59 (by decide) ?_
      exact rt_z (v := 0) (u := σ) hx hb hr hlocks rfl hS hP (⟨(bz_0 (fun q => ix_none_s h0 (isO_v q (by decide)))).symm, rfl⟩) dX4_isOrder_60
    · have h0 := ix_nI hj (n := sVc σ) (by omega)
      refine lv_aload_n hx hb dX4_isOrder_36 rfl (lv_at hl 0 rfl) ?_
      refine va_get (D := D) (ci := 4) (v := .ref (ad 2)) (C := RX4) (T := TX4) (N := 7) hx hb hts in_X4 hown hK hP 0 rfl rfl 1 (by decide) (hts _ kf_X4_19) (fun _ h9 => h9) rfl dX4_isOrder_37 ?_
      refine lv_iload_n hx hb dX4_isOrder_40 rfl (lv_at hl 2 rfl) ?_
      refine cl_i (rest := []) (c_X3_has l D cA ad A hDD σ (nI j) ) ⟨hx, hb, hml, hown, hts⟩ hK hP hS kv_X4_75 ⟨Nat.le_of_ble_eq_true rfl, Nat.le_of_ble_eq_true rfl⟩ ⟨Nat.zero_le _, Nat.zero_le _⟩ 2 rfl rfl rfl hl.1 rfl (Nat.le_of_ble_eq_true rfl) (fun q h => h) dX4_isOrder_41 (fun r u H locs hw hP hS _ => ?_)
      rw [hw.2] at hP
      refine tp_i (z := (hz (sVc σ) (nI j))) hw.1 ?_
      refine tp_i (z := 1) (hz_1 h0) ?_
      refine lv_if_eq (tgt := 59) hx hb dX4_isOrder_44 (by decide) (fun c9 => absurd c9 (by decide)) (fun _ => ?_)
      by_cases hn : amt n
      · skip
        refine lv_iload hx hb dX4_isOrder_47 (lv_at hl 4 rfl) ?_
        refine cl_s (rest := []) (c_X4_isAmount l D cA ad A hDD σ n ) ⟨hx, hb, hml, hown, hts⟩ hK hP hS kv_X4_79 ⟨Nat.le_of_ble_eq_true rfl, Nat.le_of_ble_eq_true rfl⟩ ⟨Nat.zero_le _, Nat.zero_le _⟩ rfl hl.1 rfl (Nat.le_of_ble_eq_true rfl) (fun q h => h) dX4_isOrder_49 (fun r u H locs hw hP hS => ?_)
        rw [hw.2] at hP
        refine tp_i (z := (bz (amt n))) hw.1 ?_
        refine tp_i (z := 1) (bz_1 hn) ?_
        refine lv_if_eq (tgt := 59) hx hb dX4_isOrder_52 (by decide) (fun c9 => absurd c9 (by decide)) (fun _ => ?_)
        refine lv_iconst (v := 1) hx hb dX4_isOrder_55 (by decide) ?_
        refine lv_goto (tgt := 60) hx hb dX4_isOrder_56 (by decide) ?_
        exact rt_z (v := 1) (u := σ) hx hb hr hlocks rfl hS hP (⟨(bz_1 (Or.inl ⟨Or.inr rfl, ix_some_s h0, hn⟩)).symm, rfl⟩) dX4_isOrder_60
      · skip
        refine lv_iload hx hb dX4_isOrder_47 (lv_at hl 4 rfl) ?_
        refine cl_s (rest := []) (c_X4_isAmount l D cA ad A hDD σ n ) ⟨hx, hb, hml, hown, hts⟩ hK hP hS kv_X4_79 ⟨Nat.le_of_ble_eq_true rfl, Nat.le_of_ble_eq_true rfl⟩ ⟨Nat.zero_le _, Nat.zero_le _⟩ rfl hl.1 rfl (Nat.le_of_ble_eq_true rfl) (fun q h => h) dX4_isOrder_49 (fun r u H locs hw hP hS => ?_)
        rw [hw.2] at hP
        refine tp_i (z := (bz (amt n))) hw.1 ?_
        refine tp_i (z := 0) (bz_0 hn) ?_
        refine lv_if_eq (tgt := 59) hx hb dX4_isOrder_52 (by decide) (fun _ => ?_) (fun c9 => absurd (by decide) c9)
        refine lv_iconst (v := 0) hx hb dX4_isOrder_59 (by decide) ?_
        exact rt_z (v := 0) (u := σ) hx hb hr hlocks rfl hS hP (⟨(bz_0 (fun q => hn (isO_n q (by decide) (by decide)))).symm, rfl⟩) dX4_isOrder_60
  · skip
    refine lv_iload_n hx hb dX4_isOrder_0 rfl (lv_at hl 1 rfl) ?_
    refine lv_tableIn (x := 2) (off := 60) (tgt := 61) hx hb dX4_isOrder_1 (by decide) (by decide) (by decide) (by decide) ?_
    rcases ix_cases (n := sVc σ) v (by omega) with h0 | ⟨j, hj, rfl⟩
    · refine lv_aload_n hx hb dX4_isOrder_61 rfl (lv_at hl 0 rfl) ?_
      refine va_get (D := D) (ci := 4) (v := .ref (ad 2)) (C := RX4) (T := TX4) (N := 7) hx hb hts in_X4 hown hK hP 0 rfl rfl 1 (by decide) (hts _ kf_X4_19) (fun _ h9 => h9) rfl dX4_isOrder_62 ?_
      refine lv_iload_n hx hb dX4_isOrder_65 rfl (lv_at hl 2 rfl) ?_
      refine cl_i (rest := []) (c_X3_has l D cA ad A hDD σ v ) ⟨hx, hb, hml, hown, hts⟩ hK hP hS kv_X4_75 ⟨Nat.le_of_ble_eq_true rfl, Nat.le_of_ble_eq_true rfl⟩ ⟨Nat.zero_le _, Nat.zero_le _⟩ 2 rfl rfl rfl hl.1 rfl (Nat.le_of_ble_eq_true rfl) (fun q h => h) dX4_isOrder_66 (fun r u H locs hw hP hS _ => ?_)
      rw [hw.2] at hP
      refine tp_i (z := (hz (sVc σ) v)) hw.1 ?_
      refine tp_i (z := 0) (hz_0 h0) ?_
      refine lv_if_eq (tgt := 95) hx hb dX4_isOrder_69 (by decide) (fun _ => ?_) (fun c9 => absurd (by decide) c9)
      refine lv_iconst (v := 0) hx hb dX4_isOrder_95 (by decide) ?_
      exact rt_z (v := 0) (u := σ) hx hb hr hlocks rfl hS hP (⟨(bz_0 (fun q => ix_none_s h0 (isO_v q (by decide)))).symm, rfl⟩) dX4_isOrder_96
    · have h0 := ix_nI hj (n := sVc σ) (by omega)
      refine lv_aload_n hx hb dX4_isOrder_61 rfl (lv_at hl 0 rfl) ?_
      refine va_get (D := D) (ci := 4) (v := .ref (ad 2)) (C := RX4) (T := TX4) (N := 7) hx hb hts in_X4 hown hK hP 0 rfl rfl 1 (by decide) (hts _ kf_X4_19) (fun _ h9 => h9) rfl dX4_isOrder_62 ?_
      refine lv_iload_n hx hb dX4_isOrder_65 rfl (lv_at hl 2 rfl) ?_
      refine cl_i (rest := []) (c_X3_has l D cA ad A hDD σ (nI j) ) ⟨hx, hb, hml, hown, hts⟩ hK hP hS kv_X4_75 ⟨Nat.le_of_ble_eq_true rfl, Nat.le_of_ble_eq_true rfl⟩ ⟨Nat.zero_le _, Nat.zero_le _⟩ 2 rfl rfl rfl hl.1 rfl (Nat.le_of_ble_eq_true rfl) (fun q h => h) dX4_isOrder_66 (fun r u H locs hw hP hS _ => ?_)
      rw [hw.2] at hP
      refine tp_i (z := (hz (sVc σ) (nI j))) hw.1 ?_
      refine tp_i (z := 1) (hz_1 h0) ?_
      refine lv_if_eq (tgt := 95) hx hb dX4_isOrder_69 (by decide) (fun c9 => absurd c9 (by decide)) (fun _ => ?_)
      rcases ix_cases (n := sVc σ) w (by omega) with hq | ⟨i, hi, rfl⟩
      · refine lv_aload_n hx hb dX4_isOrder_72 rfl (lv_at hl 0 rfl) ?_
        refine va_get (D := D) (ci := 4) (v := .ref (ad 2)) (C := RX4) (T := TX4) (N := 7) hx hb hts in_X4 hown hK hP 0 rfl rfl 1 (by decide) (hts _ kf_X4_19) (fun _ h9 => h9) rfl dX4_isOrder_73 ?_
        refine lv_iload_n hx hb dX4_isOrder_76 rfl (lv_at hl 3 rfl) ?_
        refine cl_i (rest := []) (c_X3_has l D cA ad A hDD σ w ) ⟨hx, hb, hml, hown, hts⟩ hK hP hS kv_X4_75 ⟨Nat.le_of_ble_eq_true rfl, Nat.le_of_ble_eq_true rfl⟩ ⟨Nat.zero_le _, Nat.zero_le _⟩ 2 rfl rfl rfl hl.1 rfl (Nat.le_of_ble_eq_true rfl) (fun q h => h) dX4_isOrder_77 (fun r u H locs hw hP hS _ => ?_)
        rw [hw.2] at hP
        refine tp_i (z := (hz (sVc σ) w)) hw.1 ?_
        refine tp_i (z := 0) (hz_0 hq) ?_
        refine lv_if_eq (tgt := 95) hx hb dX4_isOrder_80 (by decide) (fun _ => ?_) (fun c9 => absurd (by decide) c9)
        refine lv_iconst (v := 0) hx hb dX4_isOrder_95 (by decide) ?_
        exact rt_z (v := 0) (u := σ) hx hb hr hlocks rfl hS hP (⟨(bz_0 (fun q => ix_none_s hq (isO_w q))).symm, rfl⟩) dX4_isOrder_96
      · have hq := ix_nI hi (n := sVc σ) (by omega)
        refine lv_aload_n hx hb dX4_isOrder_72 rfl (lv_at hl 0 rfl) ?_
        refine va_get (D := D) (ci := 4) (v := .ref (ad 2)) (C := RX4) (T := TX4) (N := 7) hx hb hts in_X4 hown hK hP 0 rfl rfl 1 (by decide) (hts _ kf_X4_19) (fun _ h9 => h9) rfl dX4_isOrder_73 ?_
        refine lv_iload_n hx hb dX4_isOrder_76 rfl (lv_at hl 3 rfl) ?_
        refine cl_i (rest := []) (c_X3_has l D cA ad A hDD σ (nI i) ) ⟨hx, hb, hml, hown, hts⟩ hK hP hS kv_X4_75 ⟨Nat.le_of_ble_eq_true rfl, Nat.le_of_ble_eq_true rfl⟩ ⟨Nat.zero_le _, Nat.zero_le _⟩ 2 rfl rfl rfl hl.1 rfl (Nat.le_of_ble_eq_true rfl) (fun q h => h) dX4_isOrder_77 (fun r u H locs hw hP hS _ => ?_)
        rw [hw.2] at hP
        refine tp_i (z := (hz (sVc σ) (nI i))) hw.1 ?_
        refine tp_i (z := 1) (hz_1 hq) ?_
        refine lv_if_eq (tgt := 95) hx hb dX4_isOrder_80 (by decide) (fun c9 => absurd c9 (by decide)) (fun _ => ?_)
        by_cases hn : amt n
        · skip
          refine lv_iload hx hb dX4_isOrder_83 (lv_at hl 4 rfl) ?_
          refine cl_s (rest := []) (c_X4_isAmount l D cA ad A hDD σ n ) ⟨hx, hb, hml, hown, hts⟩ hK hP hS kv_X4_79 ⟨Nat.le_of_ble_eq_true rfl, Nat.le_of_ble_eq_true rfl⟩ ⟨Nat.zero_le _, Nat.zero_le _⟩ rfl hl.1 rfl (Nat.le_of_ble_eq_true rfl) (fun q h => h) dX4_isOrder_85 (fun r u H locs hw hP hS => ?_)
          rw [hw.2] at hP
          refine tp_i (z := (bz (amt n))) hw.1 ?_
          refine tp_i (z := 1) (bz_1 hn) ?_
          refine lv_if_eq (tgt := 95) hx hb dX4_isOrder_88 (by decide) (fun c9 => absurd c9 (by decide)) (fun _ => ?_)
          refine lv_iconst (v := 1) hx hb dX4_isOrder_91 (by decide) ?_
          refine lv_goto (tgt := 96) hx hb dX4_isOrder_92 (by decide) ?_
          exact rt_z (v := 1) (u := σ) hx hb hr hlocks rfl hS hP (⟨(bz_1 (Or.inr (Or.inl ⟨rfl, ix_some_s h0, ix_some_s hq, hn⟩))).symm, rfl⟩) dX4_isOrder_96
        · skip
          refine lv_iload hx hb dX4_isOrder_83 (lv_at hl 4 rfl) ?_
          refine cl_s (rest := []) (c_X4_isAmount l D cA ad A hDD σ n ) ⟨hx, hb, hml, hown, hts⟩ hK hP hS kv_X4_79 ⟨Nat.le_of_ble_eq_true rfl, Nat.le_of_ble_eq_true rfl⟩ ⟨Nat.zero_le _, Nat.zero_le _⟩ rfl hl.1 rfl (Nat.le_of_ble_eq_true rfl) (fun q h => h) dX4_isOrder_85 (fun r u H locs hw hP hS => ?_)
          rw [hw.2] at hP
          refine tp_i (z := (bz (amt n))) hw.1 ?_
          refine tp_i (z := 0) (bz_0 hn) ?_
          refine lv_if_eq (tgt := 95) hx hb dX4_isOrder_88 (by decide) (fun _ => ?_) (fun c9 => absurd (by decide) c9)
          refine lv_iconst (v := 0) hx hb dX4_isOrder_95 (by decide) ?_
          exact rt_z (v := 0) (u := σ) hx hb hr hlocks rfl hS hP (⟨(bz_0 (fun q => hn (isO_n q (by decide) (by decide)))).symm, rfl⟩) dX4_isOrder_96
  · skip
    refine lv_iload_n hx hb dX4_isOrder_0 rfl (lv_at hl 1 rfl) ?_
    refine lv_tableIn (x := 3) (off := 96) (tgt := 97) hx hb dX4_isOrder_1 (by decide) (by decide) (by decide) (by decide) ?_
    rcases ix_cases (n := sVc σ) v (by omega) with h0 | ⟨j, hj, rfl⟩
    · refine lv_aload_n hx hb dX4_isOrder_97 rfl (lv_at hl 0 rfl) ?_
      refine va_get (D := D) (ci := 4) (v := .ref (ad 2)) (C := RX4) (T := TX4) (N := 7) hx hb hts in_X4 hown hK hP 0 rfl rfl 1 (by decide) (hts _ kf_X4_19) (fun _ h9 => h9) rfl dX4_isOrder_98 ?_
      refine lv_iload_n hx hb dX4_isOrder_101 rfl (lv_at hl 2 rfl) ?_
      refine cl_i (rest := []) (c_X3_has l D cA ad A hDD σ v ) ⟨hx, hb, hml, hown, hts⟩ hK hP hS kv_X4_75 ⟨Nat.le_of_ble_eq_true rfl, Nat.le_of_ble_eq_true rfl⟩ ⟨Nat.zero_le _, Nat.zero_le _⟩ 2 rfl rfl rfl hl.1 rfl (Nat.le_of_ble_eq_true rfl) (fun q h => h) dX4_isOrder_102 (fun r u H locs hw hP hS _ => ?_)
      rw [hw.2] at hP
      refine tp_i (z := (hz (sVc σ) v)) hw.1 ?_
      refine tp_i (z := 0) (hz_0 h0) ?_
      exact rt_z (v := 0) (u := σ) hx hb hr hlocks rfl hS hP (⟨(bz_0 (fun q => ix_none_s h0 (isO_v q (by decide)))).symm, rfl⟩) dX4_isOrder_105
    · have h0 := ix_nI hj (n := sVc σ) (by omega)
      refine lv_aload_n hx hb dX4_isOrder_97 rfl (lv_at hl 0 rfl) ?_
      refine va_get (D := D) (ci := 4) (v := .ref (ad 2)) (C := RX4) (T := TX4) (N := 7) hx hb hts in_X4 hown hK hP 0 rfl rfl 1 (by decide) (hts _ kf_X4_19) (fun _ h9 => h9) rfl dX4_isOrder_98 ?_
      refine lv_iload_n hx hb dX4_isOrder_101 rfl (lv_at hl 2 rfl) ?_
      refine cl_i (rest := []) (c_X3_has l D cA ad A hDD σ (nI j) ) ⟨hx, hb, hml, hown, hts⟩ hK hP hS kv_X4_75 ⟨Nat.le_of_ble_eq_true rfl, Nat.le_of_ble_eq_true rfl⟩ ⟨Nat.zero_le _, Nat.zero_le _⟩ 2 rfl rfl rfl hl.1 rfl (Nat.le_of_ble_eq_true rfl) (fun q h => h) dX4_isOrder_102 (fun r u H locs hw hP hS _ => ?_)
      rw [hw.2] at hP
      refine tp_i (z := (hz (sVc σ) (nI j))) hw.1 ?_
      refine tp_i (z := 1) (hz_1 h0) ?_
      exact rt_z (v := 1) (u := σ) hx hb hr hlocks rfl hS hP (⟨(bz_1 (Or.inr (Or.inr (Or.inl ⟨rfl, ix_some_s h0⟩)))).symm, rfl⟩) dX4_isOrder_105
  · skip
    refine lv_iload_n hx hb dX4_isOrder_0 rfl (lv_at hl 1 rfl) ?_
    refine lv_tableIn (x := 4) (off := 105) (tgt := 106) hx hb dX4_isOrder_1 (by decide) (by decide) (by decide) (by decide) ?_
    refine lv_iconst (v := 1) hx hb dX4_isOrder_106 (by decide) ?_
    exact rt_z (v := 1) (u := σ) hx hb hr hlocks rfl hS hP (⟨(bz_1 (Or.inr (Or.inr (Or.inr rfl)))).symm, rfl⟩) dX4_isOrder_107
  · skip
    refine lv_iload_n hx hb dX4_isOrder_0 rfl (lv_at hl 1 rfl) ?_
    refine lv_tableOut (tgt := 108) hx hb dX4_isOrder_1 ho (by decide) ?_
    refine lv_iconst (v := 0) hx hb dX4_isOrder_108 (by decide) ?_
    exact rt_z (v := 0) (u := σ) hx hb hr hlocks rfl hS hP (⟨(bz_0 (isO_out ho)).symm, rfl⟩) dX4_isOrder_109
set_option maxHeartbeats 4000000 in
set_option maxRecDepth 100000 in
theorem c_X4_order (l : Launch) (D : va_G) (cA : ClassId) (ad : Nat → Nat) (A : Nat → Prop) (hDD : ∀ u, va_D A (cW ad cA u)) (σ : CS) (o v w n : Int32) (hI : Inv σ) (hg : sGr σ = 0) (hb9 : sBc σ ≤ 1000000000) : Ct l D cA (cW ad cA) A yX4_order cX4_order 5 (some .int) 3 66 [.ref (ad 0), .int o, .int v, .int w, .int n] σ (fun r u => r = (f_order σ o v w n).1 ∧ u = (f_order σ o v w n).2) := by
  refine Ct.of (by decide) (Nat.le_of_ble_eq_true rfl) ?_
  intro p e s m below meth c ls S0 hr hlocks hK hP hS hl
  obtain ⟨hx, hb, hml, hown, hts⟩ := id S0
  have hl : lv_has ls 5 [(0, .ref (ad 0)), (1, .int o), (2, .int v), (3, .int w), (4, .int n)] := hl
  have hkc := hI.kc
  have hvc := hI.vc
  have hgc := hI.gr
  have htc := hI.tc
  by_cases hq : isO σ o v w n
  · skip
    refine lv_aload_n hx hb dX4_order_0 rfl (lv_at hl 0 rfl) ?_
    refine lv_iload_n hx hb dX4_order_1 rfl (lv_at hl 1 rfl) ?_
    refine lv_iload_n hx hb dX4_order_2 rfl (lv_at hl 2 rfl) ?_
    refine lv_iload_n hx hb dX4_order_3 rfl (lv_at hl 3 rfl) ?_
    refine lv_iload hx hb dX4_order_4 (lv_at hl 4 rfl) ?_
    refine cl_i (rest := []) (c_X4_isOrder l D cA ad A hDD σ o v w n hI) ⟨hx, hb, hml, hown, hts⟩ hK hP hS kv_X4_114 ⟨Nat.le_of_ble_eq_true rfl, Nat.le_of_ble_eq_true rfl⟩ ⟨Nat.zero_le _, Nat.zero_le _⟩ 0 rfl rfl rfl hl.1 rfl (Nat.le_of_ble_eq_true rfl) (fun q h => h) dX4_order_6 (fun r u H locs hw hP hS _ => ?_)
    rw [hw.2] at hP
    refine tp_i (z := (bz (isO σ o v w n))) hw.1 ?_
    refine tp_i (z := 1) (bz_1 hq) ?_
    refine lv_if_ne (tgt := 15) hx hb dX4_order_9 (by decide) (fun _ => ?_) (fun c9 => absurd c9 (by decide))
    refine lv_aload_n hx hb dX4_order_15 rfl (lv_at hl 0 rfl) ?_
    refine va_get (D := D) (ci := 4) (v := .ref (ad 4)) (C := RX4) (T := TX4) (N := 7) hx hb hts in_X4 hown hK hP 0 rfl rfl 3 (by decide) (hts _ kf_X4_33) (fun _ h9 => h9) rfl dX4_order_16 ?_
    refine lv_iload_n hx hb dX4_order_19 rfl (lv_at hl 1 rfl) ?_
    refine lv_iload_n hx hb dX4_order_20 rfl (lv_at hl 2 rfl) ?_
    refine lv_iload_n hx hb dX4_order_21 rfl (lv_at hl 3 rfl) ?_
    refine lv_iload hx hb dX4_order_22 (lv_at hl 4 rfl) ?_
    refine cl_i (rest := []) (c_X2_add l D cA ad A hDD σ o v w n htc) ⟨hx, hb, hml, hown, hts⟩ hK hP hS kv_X4_118 ⟨Nat.le_of_ble_eq_true rfl, Nat.le_of_ble_eq_true rfl⟩ ⟨Nat.zero_le _, Nat.zero_le _⟩ 4 rfl rfl rfl hl.1 rfl (Nat.le_of_ble_eq_true rfl) (fun q h => h) dX4_order_24 (fun r u H locs hw hP hS _ => ?_)
    rw [hw.2] at hP
    refine tp_i (z := (a_ord σ o v w n).1) hw.1 ?_
    exact rt_i (v := (a_ord σ o v w n).1) (u := (a_ord σ o v w n).2) hx hb hr hlocks hS hP ((by rw [order_a hq]; exact ⟨rfl, rfl⟩)) dX4_order_27
  · skip
    refine lv_aload_n hx hb dX4_order_0 rfl (lv_at hl 0 rfl) ?_
    refine lv_iload_n hx hb dX4_order_1 rfl (lv_at hl 1 rfl) ?_
    refine lv_iload_n hx hb dX4_order_2 rfl (lv_at hl 2 rfl) ?_
    refine lv_iload_n hx hb dX4_order_3 rfl (lv_at hl 3 rfl) ?_
    refine lv_iload hx hb dX4_order_4 (lv_at hl 4 rfl) ?_
    refine cl_i (rest := []) (c_X4_isOrder l D cA ad A hDD σ o v w n hI) ⟨hx, hb, hml, hown, hts⟩ hK hP hS kv_X4_114 ⟨Nat.le_of_ble_eq_true rfl, Nat.le_of_ble_eq_true rfl⟩ ⟨Nat.zero_le _, Nat.zero_le _⟩ 0 rfl rfl rfl hl.1 rfl (Nat.le_of_ble_eq_true rfl) (fun q h => h) dX4_order_6 (fun r u H locs hw hP hS _ => ?_)
    rw [hw.2] at hP
    refine tp_i (z := (bz (isO σ o v w n))) hw.1 ?_
    refine tp_i (z := 0) (bz_0 hq) ?_
    refine lv_if_ne (tgt := 15) hx hb dX4_order_9 (by decide) (fun c9 => absurd (by decide) c9) (fun _ => ?_)
    refine lv_bipush (v := (-2)) hx hb dX4_order_12 (by decide) ?_
    exact rt_i (v := (-2)) (u := σ) hx hb hr hlocks hS hP (pr2 (order_b hq)) dX4_order_14
