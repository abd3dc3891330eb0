set_option maxHeartbeats 4000000 in
set_option maxRecDepth 100000 in
theorem c_X4_hasRow (l : Launch) (D : va_G) (cA : ClassId) (ad : Nat → Nat) (A : Nat → Prop) (hDD : ∀ u, va_D A (cW ad cA u)) (σ : CS) (a mm : Int32) (hI : Inv σ) : Ct l D cA (cW ad cA) A yX4_hasRow cX4_hasRow 3 (some .boolean) 1 22 [.ref (ad 0), .int a, .int mm] σ (fun r u => r = bz ((row σ a mm).isSome = true) ∧ u = σ) := by
  refine Ct.of (by decide) (Nat.le_of_ble_eq_true rfl) ?_
  intro p e s m below meth c ls S0 hr hlocks hK hP hS hl
  obtain ⟨hx, hb, hml, hown, hts⟩ := id S0
  have hl : lv_has ls 3 [(0, .ref (ad 0)), (1, .int a), (2, .int mm)] := hl
  have hkc := hI.kc
  have hvc := hI.vc
  have hgc := hI.gr
  have htc := hI.tc
  rcases ix_cases (n := sVc σ) a (by omega) with h0 | ⟨i, hi, rfl⟩
  · refine lv_aload_n hx hb dX4_hasRow_0 rfl (lv_at hl 0 rfl) ?_
    refine va_get (D := D) (ci := 4) (v := .ref (ad 2)) (C := RX4) (T := TX4) (N := 7) hx hb hts in_X4 hown hK hP 0 rfl rfl 1 (by decide) (hts _ kf_X4_19) (fun _ h9 => h9) rfl dX4_hasRow_1 ?_
    refine lv_iload_n hx hb dX4_hasRow_4 rfl (lv_at hl 1 rfl) ?_
    refine cl_i (rest := []) (c_X3_has l D cA ad A hDD σ a ) ⟨hx, hb, hml, hown, hts⟩ hK hP hS kv_X4_75 ⟨Nat.le_of_ble_eq_true rfl, Nat.le_of_ble_eq_true rfl⟩ ⟨Nat.zero_le _, Nat.zero_le _⟩ 2 rfl rfl rfl hl.1 rfl (Nat.le_of_ble_eq_true rfl) (fun q h => h) dX4_hasRow_5 (fun r u H locs hw hP hS _ => ?_)
    rw [hw.2] at hP
    refine tp_i (z := (hz (sVc σ) a)) hw.1 ?_
    refine tp_i (z := 0) (hz_0 h0) ?_
    refine lv_if_eq (tgt := 38) hx hb dX4_hasRow_8 (by decide) (fun _ => ?_) (fun c9 => absurd (by decide) c9)
    refine lv_iconst (v := 0) hx hb dX4_hasRow_38 (by decide) ?_
    exact rt_z (v := 0) (u := σ) hx hb hr hlocks rfl hS hP (⟨(bz_0 (isS_0 (row_n h0))).symm, rfl⟩) dX4_hasRow_39
  · have h0 := ix_nI hi (n := sVc σ) (by omega)
    refine lv_aload_n hx hb dX4_hasRow_0 rfl (lv_at hl 0 rfl) ?_
    refine va_get (D := D) (ci := 4) (v := .ref (ad 2)) (C := RX4) (T := TX4) (N := 7) hx hb hts in_X4 hown hK hP 0 rfl rfl 1 (by decide) (hts _ kf_X4_19) (fun _ h9 => h9) rfl dX4_hasRow_1 ?_
    refine lv_iload_n hx hb dX4_hasRow_4 rfl (lv_at hl 1 rfl) ?_
    refine cl_i (rest := []) (c_X3_has l D cA ad A hDD σ (nI i) ) ⟨hx, hb, hml, hown, hts⟩ hK hP hS kv_X4_75 ⟨Nat.le_of_ble_eq_true rfl, Nat.le_of_ble_eq_true rfl⟩ ⟨Nat.zero_le _, Nat.zero_le _⟩ 2 rfl rfl rfl hl.1 rfl (Nat.le_of_ble_eq_true rfl) (fun q h => h) dX4_hasRow_5 (fun r u H locs hw hP hS _ => ?_)
    rw [hw.2] at hP
    refine tp_i (z := (hz (sVc σ) (nI i))) hw.1 ?_
    refine tp_i (z := 1) (hz_1 h0) ?_
    refine lv_if_eq (tgt := 38) hx hb dX4_hasRow_8 (by decide) (fun c9 => absurd c9 (by decide)) (fun _ => ?_)
    by_cases hm : 1 ≤ mm ∧ mm ≤ 12
    · obtain ⟨k, hk1, hk2, rfl⟩ := rng (lo := 1) (hi := 12) (by decide) (by decide) hm
      refine lv_iload_n hx hb dX4_hasRow_11 rfl (lv_at hl 2 rfl) ?_
      refine lv_iconst (v := 1) hx hb dX4_hasRow_12 (by decide) ?_
      refine lv_bipush (v := 12) hx hb dX4_hasRow_13 (by decide) ?_
      refine cl_s (rest := []) (c_X4_isWithin l D cA ad A hDD σ (nI k) 1 12 ) ⟨hx, hb, hml, hown, hts⟩ hK hP hS kv_X4_48 ⟨Nat.le_of_ble_eq_true rfl, Nat.le_of_ble_eq_true rfl⟩ ⟨Nat.zero_le _, Nat.zero_le _⟩ rfl hl.1 rfl (Nat.le_of_ble_eq_true rfl) (fun q h => h) dX4_hasRow_15 (fun r u H locs hw hP hS => ?_)
      rw [hw.2] at hP
      refine tp_i (z := (bz (1 ≤ (nI k) ∧ (nI k) ≤ 12))) hw.1 ?_
      refine tp_i (z := 1) (bz_1 hm) ?_
      refine lv_if_eq (tgt := 38) hx hb dX4_hasRow_18 (by decide) (fun c9 => absurd c9 (by decide)) (fun _ => ?_)
      refine lv_iload_n hx hb dX4_hasRow_21 rfl (lv_at hl 1 rfl) ?_
      refine lv_iload_n hx hb dX4_hasRow_22 rfl (lv_at hl 2 rfl) ?_
      refine lv_iadd hx hb dX4_hasRow_23 ?_
      refine tp_i (z := (nI (i + k))) (nI_add _ _) ?_
      refine lv_aload_n hx hb dX4_hasRow_24 rfl (lv_at hl 0 rfl) ?_
      refine va_get (D := D) (ci := 4) (v := .ref (ad 2)) (C := RX4) (T := TX4) (N := 7) hx hb hts in_X4 hown hK hP 0 rfl rfl 1 (by decide) (hts _ kf_X4_19) (fun _ h9 => h9) rfl dX4_hasRow_25 ?_
      refine va_get (D := D) (ci := 3) (v := .int (nI (sVc σ))) (C := RX3) (T := TX3) (N := 6) hx hb hts in_X3 hown hK hP 2 rfl rfl 5 (by decide) (hts _ kf_X4_169) (fun _ h9 => h9) rfl dX4_hasRow_28 ?_
      refine lv_icmp_gt (tgt := 38) hx hb dX4_hasRow_31 (by decide) (fun c31 => ?_) (fun c31 => ?_)
      · refine lv_iconst (v := 0) hx hb dX4_hasRow_38 (by decide) ?_
        exact rt_z (v := 0) (u := σ) hx hb hr hlocks rfl hS hP (⟨(bz_0 (isS_0 (row_no h0 hk2 (fun q => i_nlt.mpr (nI_le (by omega) (by omega)) c31)))).symm, rfl⟩) dX4_hasRow_39
      · refine lv_iconst (v := 1) hx hb dX4_hasRow_34 (by decide) ?_
        refine lv_goto (tgt := 39) hx hb dX4_hasRow_35 (by decide) ?_
        exact rt_z (v := 1) (u := σ) hx hb hr hlocks rfl hS hP (⟨(bz_1 (isS_1 (row_ok h0 hk1 hk2 (Nat.not_lt.mp (fun q => c31 (nI_lt (by omega) (by omega))))))).symm, rfl⟩) dX4_hasRow_39
    · skip
      refine lv_iload_n hx hb dX4_hasRow_11 rfl (lv_at hl 2 rfl) ?_
      refine lv_iconst (v := 1) hx hb dX4_hasRow_12 (by decide) ?_
      refine lv_bipush (v := 12) hx hb dX4_hasRow_13 (by decide) ?_
      refine cl_s (rest := []) (c_X4_isWithin l D cA ad A hDD σ mm 1 12 ) ⟨hx, hb, hml, hown, hts⟩ hK hP hS kv_X4_48 ⟨Nat.le_of_ble_eq_true rfl, Nat.le_of_ble_eq_true rfl⟩ ⟨Nat.zero_le _, Nat.zero_le _⟩ rfl hl.1 rfl (Nat.le_of_ble_eq_true rfl) (fun q h => h) dX4_hasRow_15 (fun r u H locs hw hP hS => ?_)
      rw [hw.2] at hP
      refine tp_i (z := (bz (1 ≤ mm ∧ mm ≤ 12))) hw.1 ?_
      refine tp_i (z := 0) (bz_0 hm) ?_
      refine lv_if_eq (tgt := 38) hx hb dX4_hasRow_18 (by decide) (fun _ => ?_) (fun c9 => absurd (by decide) c9)
      refine lv_iconst (v := 0) hx hb dX4_hasRow_38 (by decide) ?_
      exact rt_z (v := 0) (u := σ) hx hb hr hlocks rfl hS hP (⟨(bz_0 (isS_0 (row_b h0 (fun q => hm ⟨q.1, q.2.1⟩)))).symm, rfl⟩) dX4_hasRow_39
set_option maxHeartbeats 4000000 in
set_option maxRecDepth 100000 in
theorem c_X4_rounds (l : Launch) (D : va_G) (cA : ClassId) (ad : Nat → Nat) (A : Nat → Prop) (hDD : ∀ u, va_D A (cW ad cA u)) (σ : CS) (a mm n0 : Int32) (hI : Inv σ) (hg : sGr σ = 0) (hb9 : sBc σ ≤ 1000000000) : Ct l D cA (cW ad cA) A yX4_rounds cX4_rounds 6 (some .int) 3 66 [.ref (ad 0), .int a, .int mm, .int n0] σ (fun r u => r = (f_rounds σ a mm n0).1 ∧ u = (f_rounds σ a mm n0).2) := by
  refine Ct.of (by decide) (Nat.le_of_ble_eq_true rfl) ?_
  intro p e s m below meth c ls S0 hr hlocks hK hP hS hl
  obtain ⟨hx, hb, hml, hown, hts⟩ := id S0
  have hl : lv_has ls 6 [(0, .ref (ad 0)), (1, .int a), (2, .int mm), (3, .int n0)] := hl
  have hkc := hI.kc
  have hvc := hI.vc
  have hgc := hI.gr
  have htc := hI.tc
  rcases hrw : row σ a mm with _ | q
  · skip
    refine lv_aload_n hx hb dX4_rounds_0 rfl (lv_at hl 0 rfl) ?_
    refine lv_iload_n hx hb dX4_rounds_1 rfl (lv_at hl 1 rfl) ?_
    refine lv_iload_n hx hb dX4_rounds_2 rfl (lv_at hl 2 rfl) ?_
    refine cl_i (rest := []) (c_X4_hasRow l D cA ad A hDD σ a mm hI) ⟨hx, hb, hml, hown, hts⟩ hK hP hS kv_X4_103 ⟨Nat.le_of_ble_eq_true rfl, Nat.le_of_ble_eq_true rfl⟩ ⟨Nat.zero_le _, Nat.zero_le _⟩ 0 rfl rfl rfl hl.1 rfl (Nat.le_of_ble_eq_true rfl) (fun q h => h) dX4_rounds_3 (fun r u H locs hw hP hS _ => ?_)
    rw [hw.2] at hP
    refine tp_i (z := (bz ((row σ a mm).isSome = true))) hw.1 ?_
    refine tp_i (z := 0) (bz_0 (isS_0 hrw)) ?_
    refine lv_if_eq (tgt := 19) hx hb dX4_rounds_6 (by decide) (fun _ => ?_) (fun c9 => absurd (by decide) c9)
    refine lv_bipush (v := (-2)) hx hb dX4_rounds_19 (by decide) ?_
    exact rt_i (v := (-2)) (u := σ) hx hb hr hlocks hS hP (pr2 (rounds_b hrw)) dX4_rounds_21
  · obtain ⟨i, k⟩ := q
    obtain ⟨rfl, rfl, hk1, hk2, hik⟩ := row_f hvc hrw
    refine lv_aload_n hx hb dX4_rounds_0 rfl (lv_at hl 0 rfl) ?_
    refine lv_iload_n hx hb dX4_rounds_1 rfl (lv_at hl 1 rfl) ?_
    refine lv_iload_n hx hb dX4_rounds_2 rfl (lv_at hl 2 rfl) ?_
    refine cl_i (rest := []) (c_X4_hasRow l D cA ad A hDD σ (nI i) (nI k) hI) ⟨hx, hb, hml, hown, hts⟩ hK hP hS kv_X4_103 ⟨Nat.le_of_ble_eq_true rfl, Nat.le_of_ble_eq_true rfl⟩ ⟨Nat.zero_le _, Nat.zero_le _⟩ 0 rfl rfl rfl hl.1 rfl (Nat.le_of_ble_eq_true rfl) (fun q h => h) dX4_rounds_3 (fun r u H locs hw hP hS _ => ?_)
    rw [hw.2] at hP
    refine tp_i (z := (bz ((row σ (nI i) (nI k)).isSome = true))) hw.1 ?_
    refine tp_i (z := 1) (bz_1 (isS_1 hrw)) ?_
    refine lv_if_eq (tgt := 19) hx hb dX4_rounds_6 (by decide) (fun c9 => absurd c9 (by decide)) (fun _ => ?_)
    by_cases hn : 1 ≤ n0 ∧ n0 ≤ 12
    · obtain ⟨n, hn1, hn2, rfl⟩ := rng (lo := 1) (hi := 12) (by decide) (by decide) hn
      have loop : ∀ (f v less : Nat) (τ : CS) (H : Heap) (locs : List Loc) (ls : Array Slot), v + f = i + k → less < n → Inv τ → sGr τ = 0 → sVc τ = sVc σ → sBc τ + 2 * f ≤ 1000001000 → rl n f v less τ = rl n k i 0 σ → va_P D vwCl (cW ad cA τ) H → va_S A s.heap H locs → lv_has ls 6 [(5, .int (nI v)), (4, .int (nI less)), (0, .ref (ad 0)), (1, .int (nI i)), (2, .int (nI k)), (3, .int (nI n))] → W p l e { frames := 3, cells := 0, slots := 0, locals := 66 } s m ([.ref (ad 0), .int (nI i), .int (nI k), .int (nI n)] : List Value).toArray below meth c H locs 0 0 (MQ below (va_Qi (fun r u => r = (f_rounds σ (nI i) (nI k) (nI n)).1 ∧ u = (f_rounds σ (nI i) (nI k) (nI n)).2) (fun u t => va_P D vwCl (cW ad cA u) t.heap) A) ([.ref (ad 0), .int (nI i), .int (nI k), .int (nI n)] : List Value).toArray s 0 0 A) (F0 m 28 ls []) := by
        intro f
        induction f with
        | zero =>
          intro v less τ H locs ls hvf hln hIt hgt hvt hbt hE hP hS hl
          refine lv_iload hx hb dX4_rounds_28 (lv_at hl 0 rfl) ?_
          refine lv_iload_n hx hb dX4_rounds_30 rfl (lv_at hl 3 rfl) ?_
          refine lv_iload_n hx hb dX4_rounds_31 rfl (lv_at hl 4 rfl) ?_
          refine lv_iadd hx hb dX4_rounds_32 ?_
          refine tp_i (z := (nI (i + k))) (nI_add _ _) ?_
          refine lv_icmp_ge (tgt := 124) hx hb dX4_rounds_33 (by decide) (fun _ => ?_) (fun c9 => absurd (nI_le (by omega) (by omega)) c9)
          refine lv_iload hx hb dX4_rounds_124 (lv_at hl 1 rfl) ?_
          exact rt_i (v := (nI less)) (u := τ) hx hb hr hlocks hS hP ((by rw [rounds_g hrw hn1 hn2, ← hE]; exact ⟨rfl, rfl⟩)) dX4_rounds_126
        | succ f ih =>
          intro v less τ H locs ls hvf hln hIt hgt hvt hbt hE hP hS hl
          have hv2 : v < sVc τ := by omega
          have hvt12 := hIt.vc
          have s1 := th_st (h := 0) hIt (hIt.lf hv2) (by omega)
          refine lv_iload hx hb dX4_rounds_28 (lv_at hl 0 rfl) ?_
          refine lv_iload_n hx hb dX4_rounds_30 rfl (lv_at hl 3 rfl) ?_
          refine lv_iload_n hx hb dX4_rounds_31 rfl (lv_at hl 4 rfl) ?_
          refine lv_iadd hx hb dX4_rounds_32 ?_
          refine tp_i (z := (nI (i + k))) (nI_add _ _) ?_
          refine lv_icmp_ge (tgt := 124) hx hb dX4_rounds_33 (by decide) (fun c9 => absurd c9 (nI_ge (by omega) (by omega))) (fun _ => ?_)
          refine lv_iload hx hb dX4_rounds_36 (lv_at hl 1 rfl) ?_
          refine lv_iload_n hx hb dX4_rounds_38 rfl (lv_at hl 5 rfl) ?_
          refine lv_icmp_ge (tgt := 124) hx hb dX4_rounds_39 (by decide) (fun c9 => absurd c9 (nI_ge hln (by omega))) (fun _ => ?_)
          refine lv_aload_n hx hb dX4_rounds_42 rfl (lv_at hl 2 rfl) ?_
          refine lv_iload hx hb dX4_rounds_43 (lv_at hl 0 rfl) ?_
          refine lv_iconst (v := 0) hx hb dX4_rounds_45 (by decide) ?_
          refine cl_i (rest := []) (c_X4_turnHand l D cA ad A hDD τ v 0 (sLf τ v) (hd_0 _ _) (hIt.lf hv2) hIt hv2 (by omega) (by omega)) ⟨hx, hb, hml, hown, hts⟩ hK hP hS kv_X4_106 ⟨Nat.le_of_ble_eq_true rfl, Nat.le_of_ble_eq_true rfl⟩ ⟨Nat.zero_le _, Nat.zero_le _⟩ 0 rfl rfl rfl hl.1 rfl (Nat.le_of_ble_eq_true rfl) (fun q h => h) dX4_rounds_46 (fun r u1 H locs hw hP hS _ => ?_)
          have hu1 : u1 = (th τ (sLf τ v) 0).2 := hw.2
          refine tp_i (z := (thc (th τ (sLf τ v) 0).1)) hw.1 ?_
          rcases th_012 τ (sLf τ v) 0 with q | q | q
          · rw [← hu1] at s1
            have b1 := s1.2.2.2.2
            have hv3 : v < sVc u1 := by rw [s1.2.1]; exact hv2
            have hv312 := s1.1.vc
            have g1 : sGr u1 = 1 := by rw [hu1, th_gr0 q, hgt]
            refine tp_i (z := 0) (by rw [q]; rfl) ?_
            refine lv_if_eq (tgt := 55) hx hb dX4_rounds_49 (by decide) (fun _ => ?_) (fun c9 => absurd (by decide) c9)
            refine lv_aload_n hx hb dX4_rounds_55 rfl (lv_at hl 2 rfl) ?_
            refine va_get (D := D) (ci := 4) (v := .ref (ad 2)) (C := RX4) (T := TX4) (N := 7) hx hb hts in_X4 hown hK hP 0 rfl rfl 1 (by decide) (hts _ kf_X4_19) (fun _ h9 => h9) rfl dX4_rounds_56 ?_
            refine va_get (D := D) (ci := 3) (v := .ref (ad 11)) (C := RX3) (T := TX3) (N := 6) hx hb hts in_X3 hown hK hP 2 rfl rfl 1 (by decide) (hts _ kf_X4_91) (fun _ h9 => h9) rfl dX4_rounds_59 ?_
            refine lv_iload hx hb dX4_rounds_62 (lv_at hl 0 rfl) ?_
            refine ar_g hx hb hK hP 11 rfl (by omega) (by decide) dX4_rounds_64 ?_
            refine lv_if_ne (tgt := 80) hx hb dX4_rounds_65 (by decide) (fun c65 => ?_) (fun c65 => ?_)
            · refine lv_aload_n hx hb dX4_rounds_80 rfl (lv_at hl 2 rfl) ?_
              refine va_get (D := D) (ci := 4) (v := .ref (ad 2)) (C := RX4) (T := TX4) (N := 7) hx hb hts in_X4 hown hK hP 0 rfl rfl 1 (by decide) (hts _ kf_X4_19) (fun _ h9 => h9) rfl dX4_rounds_81 ?_
              refine va_get (D := D) (ci := 3) (v := .ref (ad 11)) (C := RX3) (T := TX3) (N := 6) hx hb hts in_X3 hown hK hP 2 rfl rfl 1 (by decide) (hts _ kf_X4_91) (fun _ h9 => h9) rfl dX4_rounds_84 ?_
              refine lv_iload hx hb dX4_rounds_87 (lv_at hl 0 rfl) ?_
              refine lv_dup2_11 hx hb dX4_rounds_89 rfl rfl ?_
              refine ar_g hx hb hK hP 11 rfl (by omega) (by decide) dX4_rounds_90 ?_
              refine lv_iconst (v := 1) hx hb dX4_rounds_91 (by decide) ?_
              refine lv_isub hx hb dX4_rounds_92 ?_
              refine ar_p hx hb hK hP (hDD _) hS 11 rfl (x := ((sSm u1 v) - 1)) (by omega) (by decide) dX4_rounds_93 (fun H locs hP hS => ?_)
              have hP : va_P D vwCl (cW ad cA (u1.1, ((sLim u1), (upd (sSm u1) v ((sSm u1 v) - 1)), (sNx u1), (sLf u1), (sRt u1), (sVc u1)), u1.2.2.1, u1.2.2.2.1, u1.2.2.2.2)) H := hP
              refine lv_iinc (v := (nI (less + 1))) (lv' := [(4, .int (nI (less + 1))), (5, .int (nI v)), (0, .ref (ad 0)), (1, .int (nI i)), (2, .int (nI k)), (3, .int (nI n))]) hx hb dX4_rounds_94 hl (k := 1) rfl (nI_1 _) (by decide) rfl (fun ls hl => ?_)
              refine lv_aload_n hx hb dX4_rounds_97 rfl (lv_at hl 2 rfl) ?_
              refine lv_iload hx hb dX4_rounds_98 (lv_at hl 0 rfl) ?_
              refine lv_iload_n hx hb dX4_rounds_100 rfl (lv_at hl 5 rfl) ?_
              refine lv_icmp_ne (tgt := 110) hx hb dX4_rounds_101 (by decide) (fun c101 => ?_) (fun c101 => ?_)
              · have hne : ¬ less + 1 = n := fun q => c101 (by rw [q])
                refine lv_sipush (v := 200) hx hb dX4_rounds_110 (by decide) ?_
                refine lv_iconst (v := (-1)) hx hb dX4_rounds_113 (by decide) ?_
                refine cl_i (rest := []) (c_X4_letGo l D cA ad A hDD (u1.1, ((sLim u1), (upd (sSm u1) v ((sSm u1 v) - 1)), (sNx u1), (sLf u1), (sRt u1), (sVc u1)), u1.2.2.1, u1.2.2.2.1, u1.2.2.2.2) 200 (-1) (dec_inv s1.1 hv3 c65) (by show sBc u1 + sGr u1 < 2147483647; omega)) ⟨hx, hb, hml, hown, hts⟩ hK hP hS kv_X4_88 ⟨Nat.le_of_ble_eq_true rfl, Nat.le_of_ble_eq_true rfl⟩ ⟨Nat.zero_le _, Nat.zero_le _⟩ 0 rfl rfl rfl hl.1 rfl (Nat.le_of_ble_eq_true rfl) (fun q h => h) dX4_rounds_114 (fun r u H locs hw hP hS _ => ?_)
                rw [hw.2] at hP
                refine tp_i (z := (-1)) hw.1 ?_
                refine lv_pop hx hb dX4_rounds_117 rfl ?_
                refine lv_iinc (v := (nI (v + 1))) (lv' := [(5, .int (nI (v + 1))), (4, .int (nI (less + 1))), (0, .ref (ad 0)), (1, .int (nI i)), (2, .int (nI k)), (3, .int (nI n))]) hx hb dX4_rounds_118 hl (k := 1) rfl (nI_1 _) (by decide) rfl (fun ls hl => ?_)
                refine lv_goto (tgt := 28) hx hb dX4_rounds_121 (by decide) ?_
                exact ih (v + 1) (less + 1) (da 200 (ssm u1 (upd (sSm u1) v (sSm u1 v - 1)))) _ _ ls (by omega) (by omega) (Stq.da (w := 200) (Stq.ssm s1 (dec_inv s1.1 hv3 c65))).1 rfl ((Stq.da (w := 200) (Stq.ssm s1 (dec_inv s1.1 hv3 c65))).2.1.trans hvt) (by have h7 := (Stq.da (w := 200) (Stq.ssm s1 (dec_inv s1.1 hv3 c65))).2.2.2.2; have h8 : sGr (da 200 (ssm u1 (upd (sSm u1) v (sSm u1 v - 1)))) = 0 := rfl; omega) ((rl_4 hu1 q c65 hne).symm.trans hE) hP hS (lv_sub hl [0, 1, 2, 3, 4, 5] rfl)
              · have heq : less + 1 = n := nI_inj (by omega) (by omega) c101
                refine lv_sipush (v := 400) hx hb dX4_rounds_104 (by decide) ?_
                refine lv_goto (tgt := 113) hx hb dX4_rounds_107 (by decide) ?_
                refine lv_iconst (v := (-1)) hx hb dX4_rounds_113 (by decide) ?_
                refine cl_i (rest := []) (c_X4_letGo l D cA ad A hDD (u1.1, ((sLim u1), (upd (sSm u1) v ((sSm u1 v) - 1)), (sNx u1), (sLf u1), (sRt u1), (sVc u1)), u1.2.2.1, u1.2.2.2.1, u1.2.2.2.2) 400 (-1) (dec_inv s1.1 hv3 c65) (by show sBc u1 + sGr u1 < 2147483647; omega)) ⟨hx, hb, hml, hown, hts⟩ hK hP hS kv_X4_88 ⟨Nat.le_of_ble_eq_true rfl, Nat.le_of_ble_eq_true rfl⟩ ⟨Nat.zero_le _, Nat.zero_le _⟩ 0 rfl rfl rfl hl.1 rfl (Nat.le_of_ble_eq_true rfl) (fun q h => h) dX4_rounds_114 (fun r u H locs hw hP hS _ => ?_)
                rw [hw.2] at hP
                refine tp_i (z := (-1)) hw.1 ?_
                refine lv_pop hx hb dX4_rounds_117 rfl ?_
                refine lv_iinc (v := (nI (v + 1))) (lv' := [(5, .int (nI (v + 1))), (4, .int (nI (less + 1))), (0, .ref (ad 0)), (1, .int (nI i)), (2, .int (nI k)), (3, .int (nI n))]) hx hb dX4_rounds_118 hl (k := 1) rfl (nI_1 _) (by decide) rfl (fun ls hl => ?_)
                refine lv_goto (tgt := 28) hx hb dX4_rounds_121 (by decide) ?_
                refine lv_iload hx hb dX4_rounds_28 (lv_at hl 0 rfl) ?_
                refine lv_iload_n hx hb dX4_rounds_30 rfl (lv_at hl 3 rfl) ?_
                refine lv_iload_n hx hb dX4_rounds_31 rfl (lv_at hl 4 rfl) ?_
                refine lv_iadd hx hb dX4_rounds_32 ?_
                refine tp_i (z := (nI (i + k))) (nI_add _ _) ?_
                refine lv_icmp_ge (tgt := 124) hx hb dX4_rounds_33 (by decide) (fun c33 => ?_) (fun c33 => ?_)
                · refine lv_iload hx hb dX4_rounds_124 (lv_at hl 1 rfl) ?_
                  exact rt_i (v := (nI (less + 1))) (u := (da 400 (u1.1, ((sLim u1), (upd (sSm u1) v ((sSm u1 v) - 1)), (sNx u1), (sLf u1), (sRt u1), (sVc u1)), u1.2.2.1, u1.2.2.2.1, u1.2.2.2.2))) hx hb hr hlocks hS hP ((by rw [rounds_g hrw hn1 hn2, ← hE, rl_3 hu1 q c65 heq]; exact ⟨rfl, rfl⟩)) dX4_rounds_126
                · refine lv_iload hx hb dX4_rounds_36 (lv_at hl 1 rfl) ?_
                  refine lv_iload_n hx hb dX4_rounds_38 rfl (lv_at hl 5 rfl) ?_
                  refine lv_icmp_ge (tgt := 124) hx hb dX4_rounds_39 (by decide) (fun _ => ?_) (fun c9 => absurd (nI_le (by omega) (by omega)) c9)
                  refine lv_iload hx hb dX4_rounds_124 (lv_at hl 1 rfl) ?_
                  exact rt_i (v := (nI (less + 1))) (u := (da 400 (u1.1, ((sLim u1), (upd (sSm u1) v ((sSm u1 v) - 1)), (sNx u1), (sLf u1), (sRt u1), (sVc u1)), u1.2.2.1, u1.2.2.2.1, u1.2.2.2.2))) hx hb hr hlocks hS hP ((by rw [rounds_g hrw hn1 hn2, ← hE, rl_3 hu1 q c65 heq]; exact ⟨rfl, rfl⟩)) dX4_rounds_126
            · refine lv_aload_n hx hb dX4_rounds_68 rfl (lv_at hl 2 rfl) ?_
              refine lv_sipush (v := 500) hx hb dX4_rounds_69 (by decide) ?_
              refine lv_iconst (v := (-1)) hx hb dX4_rounds_72 (by decide) ?_
              refine cl_i (rest := []) (c_X4_letGo l D cA ad A hDD u1 500 (-1) s1.1 (by omega)) ⟨hx, hb, hml, hown, hts⟩ hK hP hS kv_X4_88 ⟨Nat.le_of_ble_eq_true rfl, Nat.le_of_ble_eq_true rfl⟩ ⟨Nat.zero_le _, Nat.zero_le _⟩ 0 rfl rfl rfl hl.1 rfl (Nat.le_of_ble_eq_true rfl) (fun q h => h) dX4_rounds_73 (fun r u H locs hw hP hS _ => ?_)
              rw [hw.2] at hP
              refine tp_i (z := (-1)) hw.1 ?_
              refine lv_pop hx hb dX4_rounds_76 rfl ?_
              refine lv_goto (tgt := 118) hx hb dX4_rounds_77 (by decide) ?_
              refine lv_iinc (v := (nI (v + 1))) (lv' := [(5, .int (nI (v + 1))), (4, .int (nI less)), (0, .ref (ad 0)), (1, .int (nI i)), (2, .int (nI k)), (3, .int (nI n))]) hx hb dX4_rounds_118 hl (k := 0) rfl (nI_1 _) (by decide) rfl (fun ls hl => ?_)
              refine lv_goto (tgt := 28) hx hb dX4_rounds_121 (by decide) ?_
              exact ih (v + 1) less (da 500 u1) _ _ ls (by omega) (by omega) (Stq.da (w := 500) s1).1 rfl ((Stq.da (w := 500) s1).2.1.trans hvt) (by have h7 := (Stq.da (w := 500) s1).2.2.2.2; have h8 : sGr (da 500 u1) = 0 := rfl; omega) ((rl_2 hu1 q c65).symm.trans hE) hP hS (lv_sub hl [0, 1, 2, 3, 4, 5] rfl)
          · rw [← hu1] at s1
            have b1 := s1.2.2.2.2
            have hv3 : v < sVc u1 := by rw [s1.2.1]; exact hv2
            have hv312 := s1.1.vc
            have g1 : sGr u1 = 0 := by rw [hu1, th_gr1 (by rw [q]; decide), hgt]
            refine tp_i (z := 1) (by rw [q]; rfl) ?_
            refine lv_if_eq (tgt := 55) hx hb dX4_rounds_49 (by decide) (fun c9 => absurd c9 (by decide)) (fun _ => ?_)
            refine lv_goto (tgt := 118) hx hb dX4_rounds_52 (by decide) ?_
            refine lv_iinc (v := (nI (v + 1))) (lv' := [(5, .int (nI (v + 1))), (4, .int (nI less)), (0, .ref (ad 0)), (1, .int (nI i)), (2, .int (nI k)), (3, .int (nI n))]) hx hb dX4_rounds_118 hl (k := 0) rfl (nI_1 _) (by decide) rfl (fun ls hl => ?_)
            refine lv_goto (tgt := 28) hx hb dX4_rounds_121 (by decide) ?_
            exact ih (v + 1) less u1 _ _ ls (by omega) (by omega) s1.1 g1 (s1.2.1.trans hvt) (by have h7 := s1.2.2.2.2; have h8 : sGr u1 = 0 := g1; omega) ((rl_1 hu1 q).symm.trans hE) hP hS (lv_sub hl [0, 1, 2, 3, 4, 5] rfl)
          · exact absurd q (th_nojam hIt (hIt.lf hv2) hgt)
      refine lv_iload_n hx hb dX4_rounds_9 rfl (lv_at hl 3 rfl) ?_
      refine lv_iconst (v := 1) hx hb dX4_rounds_10 (by decide) ?_
      refine lv_bipush (v := 12) hx hb dX4_rounds_11 (by decide) ?_
      refine cl_s (rest := []) (c_X4_isWithin l D cA ad A hDD σ (nI n) 1 12 ) ⟨hx, hb, hml, hown, hts⟩ hK hP hS kv_X4_48 ⟨Nat.le_of_ble_eq_true rfl, Nat.le_of_ble_eq_true rfl⟩ ⟨Nat.zero_le _, Nat.zero_le _⟩ rfl hl.1 rfl (Nat.le_of_ble_eq_true rfl) (fun q h => h) dX4_rounds_13 (fun r u H locs hw hP hS => ?_)
      rw [hw.2] at hP
      refine tp_i (z := (bz (1 ≤ (nI n) ∧ (nI n) ≤ 12))) hw.1 ?_
      refine tp_i (z := 1) (bz_1 hn) ?_
      refine lv_if_ne (tgt := 22) hx hb dX4_rounds_16 (by decide) (fun _ => ?_) (fun c9 => absurd c9 (by decide))
      refine lv_iconst (v := 0) hx hb dX4_rounds_22 (by decide) ?_
      refine lv_istore (lv' := [(4, .int 0), (0, .ref (ad 0)), (1, .int (nI i)), (2, .int (nI k)), (3, .int (nI n))]) hx hb dX4_rounds_23 hl (by decide) rfl (fun ls hl => ?_)
      refine lv_iload_n hx hb dX4_rounds_25 rfl (lv_at hl 2 rfl) ?_
      refine lv_istore (lv' := [(5, .int (nI i)), (4, .int 0), (0, .ref (ad 0)), (1, .int (nI i)), (2, .int (nI k)), (3, .int (nI n))]) hx hb dX4_rounds_26 hl (by decide) rfl (fun ls hl => ?_)
      exact loop k i 0 σ _ _ ls rfl (by omega) hI hg rfl (by omega) rfl hP hS (lv_sub hl [0, 1, 2, 3, 4, 5] rfl)
    · skip
      refine lv_iload_n hx hb dX4_rounds_9 rfl (lv_at hl 3 rfl) ?_
      refine lv_iconst (v := 1) hx hb dX4_rounds_10 (by decide) ?_
      refine lv_bipush (v := 12) hx hb dX4_rounds_11 (by decide) ?_
      refine cl_s (rest := []) (c_X4_isWithin l D cA ad A hDD σ n0 1 12 ) ⟨hx, hb, hml, hown, hts⟩ hK hP hS kv_X4_48 ⟨Nat.le_of_ble_eq_true rfl, Nat.le_of_ble_eq_true rfl⟩ ⟨Nat.zero_le _, Nat.zero_le _⟩ rfl hl.1 rfl (Nat.le_of_ble_eq_true rfl) (fun q h => h) dX4_rounds_13 (fun r u H locs hw hP hS => ?_)
      rw [hw.2] at hP
      refine tp_i (z := (bz (1 ≤ n0 ∧ n0 ≤ 12))) hw.1 ?_
      refine tp_i (z := 0) (bz_0 hn) ?_
      refine lv_if_ne (tgt := 22) hx hb dX4_rounds_16 (by decide) (fun c9 => absurd (by decide) c9) (fun _ => ?_)
      refine lv_bipush (v := (-2)) hx hb dX4_rounds_19 (by decide) ?_
      exact rt_i (v := (-2)) (u := σ) hx hb hr hlocks hS hP (pr2 (rounds_b2 hrw hn)) dX4_rounds_21
