set_option maxHeartbeats 4000000 in
set_option maxRecDepth 100000 in
theorem c_X5_areThere (l : Launch) (D : va_G) (cA : ClassId) (ad : Nat → Nat) (A : Nat → Prop) (hDD : ∀ u, va_D A (rW ad cA u)) (σ : CS) (a mm : Int32) (hI : Inv σ) : Ct l D cA (rW ad cA) A yX5_areThere cX5_areThere 3 (some .boolean) 0 0 [.ref (ad 0), .int a, .int mm] σ (fun r u => r = bz ((row σ a mm).isSome = true) ∧ u = σ) := by
  refine Ct.of (by decide) (Nat.le_of_ble_eq_true rfl) ?_
  intro p e s m below meth c ls S0 hr hlocks hK hP hS hl
  obtain ⟨hx, hb, hml, hown, hts⟩ := id S0
  have hl : lv_has ls 3 [(0, .ref (ad 0)), (1, .int a), (2, .int mm)] := hl
  have hkc := hI.kc
  have hvc := hI.vc
  have hgc := hI.gr
  have htc := hI.tc
  rcases ix_cases (n := sVc σ) a (by omega) with h0 | ⟨i, hi, rfl⟩
  · refine lv_iload_n hx hb dX5_areThere_0 rfl (lv_at hl 2 rfl) ?_
    refine lv_iconst (v := 1) hx hb dX5_areThere_1 (by decide) ?_
    refine lv_icmp_lt (tgt := 37) hx hb dX5_areThere_2 (by decide) (fun c2 => ?_) (fun c2 => ?_)
    · refine lv_iconst (v := 0) hx hb dX5_areThere_37 (by decide) ?_
      exact rt_z (v := 0) (u := σ) hx hb hr hlocks rfl hS hP (⟨(bz_0 (isS_0 (row_n h0))).symm, rfl⟩) dX5_areThere_38
    · refine lv_iload_n hx hb dX5_areThere_5 rfl (lv_at hl 2 rfl) ?_
      refine lv_bipush (v := 12) hx hb dX5_areThere_6 (by decide) ?_
      refine lv_icmp_gt (tgt := 37) hx hb dX5_areThere_8 (by decide) (fun c8 => ?_) (fun c8 => ?_)
      · refine lv_iconst (v := 0) hx hb dX5_areThere_37 (by decide) ?_
        exact rt_z (v := 0) (u := σ) hx hb hr hlocks rfl hS hP (⟨(bz_0 (isS_0 (row_n h0))).symm, rfl⟩) dX5_areThere_38
      · refine lv_iload_n hx hb dX5_areThere_11 rfl (lv_at hl 1 rfl) ?_
        refine lv_if_lt (tgt := 37) hx hb dX5_areThere_12 (by decide) (fun c12 => ?_) (fun c12 => ?_)
        · refine lv_iconst (v := 0) hx hb dX5_areThere_37 (by decide) ?_
          exact rt_z (v := 0) (u := σ) hx hb hr hlocks rfl hS hP (⟨(bz_0 (isS_0 (row_n h0))).symm, rfl⟩) dX5_areThere_38
        · refine lv_iload_n hx hb dX5_areThere_15 rfl (lv_at hl 1 rfl) ?_
          refine lv_aload_n hx hb dX5_areThere_16 rfl (lv_at hl 0 rfl) ?_
          refine va_get (D := D) (ci := 5) (v := .int (nI (sVc σ))) (C := RX5) (T := TX5) (N := 20) hx hb hts in_X5 hown hK hP 0 rfl rfl 9 (by decide) (hts _ kf_X5_56) (fun _ h9 => h9) rfl dX5_areThere_17 ?_
          refine lv_icmp_ge (tgt := 37) hx hb dX5_areThere_20 (by decide) (fun _ => ?_) (fun c9 => absurd (ix_none_ge h0 c12) c9)
          refine lv_iconst (v := 0) hx hb dX5_areThere_37 (by decide) ?_
          exact rt_z (v := 0) (u := σ) hx hb hr hlocks rfl hS hP (⟨(bz_0 (isS_0 (row_n h0))).symm, rfl⟩) dX5_areThere_38
  · have h0 := ix_nI hi (n := sVc σ) (by omega)
    refine lv_iload_n hx hb dX5_areThere_0 rfl (lv_at hl 2 rfl) ?_
    by_cases hm : 1 ≤ mm ∧ mm ≤ 12
    · obtain ⟨k, hk1, hk2, rfl⟩ := rng (lo := 1) (hi := 12) (by decide) (by decide) hm
      refine lv_iconst (v := 1) hx hb dX5_areThere_1 (by decide) ?_
      refine lv_icmp_lt (tgt := 37) hx hb dX5_areThere_2 (by decide) (fun c9 => absurd c9 (i_nlt.mpr hm.1)) (fun _ => ?_)
      refine lv_iload_n hx hb dX5_areThere_5 rfl (lv_at hl 2 rfl) ?_
      refine lv_bipush (v := 12) hx hb dX5_areThere_6 (by decide) ?_
      refine lv_icmp_gt (tgt := 37) hx hb dX5_areThere_8 (by decide) (fun c9 => absurd c9 (i_nlt.mpr hm.2)) (fun _ => ?_)
      refine lv_iload_n hx hb dX5_areThere_11 rfl (lv_at hl 1 rfl) ?_
      refine lv_if_lt (tgt := 37) hx hb dX5_areThere_12 (by decide) (fun c9 => absurd c9 (nI_pos (by omega))) (fun _ => ?_)
      refine lv_iload_n hx hb dX5_areThere_15 rfl (lv_at hl 1 rfl) ?_
      refine lv_aload_n hx hb dX5_areThere_16 rfl (lv_at hl 0 rfl) ?_
      refine va_get (D := D) (ci := 5) (v := .int (nI (sVc σ))) (C := RX5) (T := TX5) (N := 20) hx hb hts in_X5 hown hK hP 0 rfl rfl 9 (by decide) (hts _ kf_X5_56) (fun _ h9 => h9) rfl dX5_areThere_17 ?_
      refine lv_icmp_ge (tgt := 37) hx hb dX5_areThere_20 (by decide) (fun c9 => absurd c9 (nI_ge hi (by omega))) (fun _ => ?_)
      refine lv_iload_n hx hb dX5_areThere_23 rfl (lv_at hl 2 rfl) ?_
      refine lv_aload_n hx hb dX5_areThere_24 rfl (lv_at hl 0 rfl) ?_
      refine va_get (D := D) (ci := 5) (v := .int (nI (sVc σ))) (C := RX5) (T := TX5) (N := 20) hx hb hts in_X5 hown hK hP 0 rfl rfl 9 (by decide) (hts _ kf_X5_56) (fun _ h9 => h9) rfl dX5_areThere_25 ?_
      refine lv_iload_n hx hb dX5_areThere_28 rfl (lv_at hl 1 rfl) ?_
      refine lv_isub hx hb dX5_areThere_29 ?_
      refine tp_i (z := (nI ((sVc σ) - i))) (pk_sub (by omega)) ?_
      refine lv_icmp_gt (tgt := 37) hx hb dX5_areThere_30 (by decide) (fun c30 => ?_) (fun c30 => ?_)
      · refine lv_iconst (v := 0) hx hb dX5_areThere_37 (by decide) ?_
        exact rt_z (v := 0) (u := σ) hx hb hr hlocks rfl hS hP (⟨(bz_0 (isS_0 (row_no h0 hk2 (fun q => i_nlt.mpr (nI_le (by omega) (by omega)) c30)))).symm, rfl⟩) dX5_areThere_38
      · refine lv_iconst (v := 1) hx hb dX5_areThere_33 (by decide) ?_
        refine lv_goto (tgt := 38) hx hb dX5_areThere_34 (by decide) ?_
        exact rt_z (v := 1) (u := σ) hx hb hr hlocks rfl hS hP (⟨(bz_1 (isS_1 (row_ok h0 hk1 hk2 (Nat.not_lt.mp (fun q => c30 (nI_lt (by omega) (by omega))))))).symm, rfl⟩) dX5_areThere_38
    · skip
      refine lv_iconst (v := 1) hx hb dX5_areThere_1 (by decide) ?_
      refine lv_icmp_lt (tgt := 37) hx hb dX5_areThere_2 (by decide) (fun c2 => ?_) (fun c2 => ?_)
      · refine lv_iconst (v := 0) hx hb dX5_areThere_37 (by decide) ?_
        exact rt_z (v := 0) (u := σ) hx hb hr hlocks rfl hS hP (⟨(bz_0 (isS_0 (row_b h0 (fun q => hm ⟨q.1, q.2.1⟩)))).symm, rfl⟩) dX5_areThere_38
      · refine lv_iload_n hx hb dX5_areThere_5 rfl (lv_at hl 2 rfl) ?_
        refine lv_bipush (v := 12) hx hb dX5_areThere_6 (by decide) ?_
        refine lv_icmp_gt (tgt := 37) hx hb dX5_areThere_8 (by decide) (fun _ => ?_) (fun c9 => absurd (i_nle.mp (fun q => hm ⟨i_nlt.mp c2, q⟩)) c9)
        refine lv_iconst (v := 0) hx hb dX5_areThere_37 (by decide) ?_
        exact rt_z (v := 0) (u := σ) hx hb hr hlocks rfl hS hP (⟨(bz_0 (isS_0 (row_b h0 (fun q => hm ⟨q.1, q.2.1⟩)))).symm, rfl⟩) dX5_areThere_38
theorem c_X5_dropTop1 (l : Launch) (D : va_G) (cA : ClassId) (ad : Nat → Nat) (A : Nat → Prop) (hDD : ∀ u, va_D A (rW ad cA u)) (σ : CS) (w : Int32) (hI : Inv σ) (hg : sGr σ = 1) (hb9 : sBc σ < 2147483647) : Cv l D cA (rW ad cA) A yX5_dropTop cX5_dropTop 3 1 21 [.ref (ad 0), .int w] σ (fun u => u = da w σ) := by
  obtain ⟨k, hk, ek⟩ := hI.gp (i := 0) (by omega)
  have hkc := hI.kc
  have h := c_X5_dropTop l D cA ad A hDD σ w 0 k hg (by omega) (by omega) ek hb9
  rw [d_one hg ek (by omega)] at h
  exact h
set_option maxHeartbeats 4000000 in
set_option maxRecDepth 100000 in
theorem c_X5_rounds (l : Launch) (D : va_G) (cA : ClassId) (ad : Nat → Nat) (A : Nat → Prop) (hDD : ∀ u, va_D A (rW ad cA u)) (σ : CS) (a mm n0 : Int32) (hI : Inv σ) (hg : sGr σ = 0) (hb9 : sBc σ ≤ 1000000000) : Ct l D cA (rW ad cA) A yX5_rounds cX5_rounds 7 (some .int) 6 128 [.ref (ad 0), .int a, .int mm, .int n0] σ (fun r u => r = (f_rounds σ a mm n0).1 ∧ u = (f_rounds σ a mm n0).2) := by
  refine Ct.of (by decide) (Nat.le_of_ble_eq_true rfl) ?_
  intro p e s m below meth c ls S0 hr hlocks hK hP hS hl
  obtain ⟨hx, hb, hml, hown, hts⟩ := id S0
  have hl : lv_has ls 7 [(0, .ref (ad 0)), (1, .int a), (2, .int mm), (3, .int n0)] := hl
  have hkc := hI.kc
  have hvc := hI.vc
  have hgc := hI.gr
  have htc := hI.tc
  rcases hrw : row σ a mm with _ | q
  · skip
    refine lv_aload_n hx hb dX5_rounds_0 rfl (lv_at hl 0 rfl) ?_
    refine lv_iload_n hx hb dX5_rounds_1 rfl (lv_at hl 1 rfl) ?_
    refine lv_iload_n hx hb dX5_rounds_2 rfl (lv_at hl 2 rfl) ?_
    refine cl_i (rest := []) (c_X5_areThere l D cA ad A hDD σ a mm hI) ⟨hx, hb, hml, hown, hts⟩ hK hP hS kv_X5_114 ⟨Nat.le_of_ble_eq_true rfl, Nat.le_of_ble_eq_true rfl⟩ ⟨Nat.zero_le _, Nat.zero_le _⟩ 0 rfl rfl rfl hl.1 rfl (Nat.le_of_ble_eq_true rfl) (fun q h => h) dX5_rounds_3 (fun r u H locs hw hP hS _ => ?_)
    rw [hw.2] at hP
    refine tp_i (z := (bz ((row σ a mm).isSome = true))) hw.1 ?_
    refine tp_i (z := 0) (bz_0 (isS_0 hrw)) ?_
    refine lv_if_eq (tgt := 20) hx hb dX5_rounds_6 (by decide) (fun _ => ?_) (fun c9 => absurd (by decide) c9)
    refine lv_bipush (v := (-2)) hx hb dX5_rounds_20 (by decide) ?_
    exact rt_i (v := (-2)) (u := σ) hx hb hr hlocks hS hP (pr2 (rounds_b hrw)) dX5_rounds_22
  · obtain ⟨i, k⟩ := q
    obtain ⟨rfl, rfl, hk1, hk2, hik⟩ := row_f hvc hrw
    refine lv_aload_n hx hb dX5_rounds_0 rfl (lv_at hl 0 rfl) ?_
    refine lv_iload_n hx hb dX5_rounds_1 rfl (lv_at hl 1 rfl) ?_
    refine lv_iload_n hx hb dX5_rounds_2 rfl (lv_at hl 2 rfl) ?_
    refine cl_i (rest := []) (c_X5_areThere l D cA ad A hDD σ (nI i) (nI k) hI) ⟨hx, hb, hml, hown, hts⟩ hK hP hS kv_X5_114 ⟨Nat.le_of_ble_eq_true rfl, Nat.le_of_ble_eq_true rfl⟩ ⟨Nat.zero_le _, Nat.zero_le _⟩ 0 rfl rfl rfl hl.1 rfl (Nat.le_of_ble_eq_true rfl) (fun q h => h) dX5_rounds_3 (fun r u H locs hw hP hS _ => ?_)
    rw [hw.2] at hP
    refine tp_i (z := (bz ((row σ (nI i) (nI k)).isSome = true))) hw.1 ?_
    refine tp_i (z := 1) (bz_1 (isS_1 hrw)) ?_
    refine lv_if_eq (tgt := 20) hx hb dX5_rounds_6 (by decide) (fun c9 => absurd c9 (by decide)) (fun _ => ?_)
    by_cases hn : 1 ≤ n0 ∧ n0 ≤ 12
    · obtain ⟨n, hn1, hn2, rfl⟩ := rng (lo := 1) (hi := 12) (by decide) (by decide) hn
      have loop : ∀ (f v less : Nat) (τ : CS) (H : Heap) (locs : List Loc) (ls : Array Slot), v + f = i + k → less < n → Inv τ → sGr τ = 0 → sVc τ = sVc σ → sBc τ + 2 * f ≤ 1000001000 → rl n f v less τ = rl n k i 0 σ → va_P D vwCl (rW ad cA τ) H → va_S A s.heap H locs → lv_has ls 7 [(5, .int (nI v)), (4, .int (nI less)), (0, .ref (ad 0)), (1, .int (nI i)), (2, .int (nI k)), (3, .int (nI n))] → W p l e { frames := 6, cells := 0, slots := 0, locals := 128 } s m ([.ref (ad 0), .int (nI i), .int (nI k), .int (nI n)] : List Value).toArray below meth c H locs 0 0 (MQ below (va_Qi (fun r u => r = (f_rounds σ (nI i) (nI k) (nI n)).1 ∧ u = (f_rounds σ (nI i) (nI k) (nI n)).2) (fun u t => va_P D vwCl (rW ad cA u) t.heap) A) ([.ref (ad 0), .int (nI i), .int (nI k), .int (nI n)] : List Value).toArray s 0 0 A) (F0 m 29 ls []) := by
        intro f
        induction f with
        | zero =>
          intro v less τ H locs ls hvf hln hIt hgt hvt hbt hE hP hS hl
          refine lv_iload hx hb dX5_rounds_29 (lv_at hl 0 rfl) ?_
          refine lv_iload_n hx hb dX5_rounds_31 rfl (lv_at hl 3 rfl) ?_
          refine lv_iload_n hx hb dX5_rounds_32 rfl (lv_at hl 4 rfl) ?_
          refine lv_iadd hx hb dX5_rounds_33 ?_
          refine tp_i (z := (nI (i + k))) (nI_add _ _) ?_
          refine lv_icmp_ge (tgt := 129) hx hb dX5_rounds_34 (by decide) (fun _ => ?_) (fun c9 => absurd (nI_le (by omega) (by omega)) c9)
          refine lv_iload hx hb dX5_rounds_129 (lv_at hl 1 rfl) ?_
          exact rt_i (v := (nI less)) (u := τ) hx hb hr hlocks hS hP ((by rw [rounds_g hrw hn1 hn2, ← hE]; exact ⟨rfl, rfl⟩)) dX5_rounds_131
        | succ f ih =>
          intro v less τ H locs ls hvf hln hIt hgt hvt hbt hE hP hS hl
          have hv2 : v < sVc τ := by omega
          have hvt12 := hIt.vc
          have s1 := th_st (h := 0) hIt (hIt.lf hv2) (by omega)
          refine lv_iload hx hb dX5_rounds_29 (lv_at hl 0 rfl) ?_
          refine lv_iload_n hx hb dX5_rounds_31 rfl (lv_at hl 3 rfl) ?_
          refine lv_iload_n hx hb dX5_rounds_32 rfl (lv_at hl 4 rfl) ?_
          refine lv_iadd hx hb dX5_rounds_33 ?_
          refine tp_i (z := (nI (i + k))) (nI_add _ _) ?_
          refine lv_icmp_ge (tgt := 129) hx hb dX5_rounds_34 (by decide) (fun c9 => absurd c9 (nI_ge (by omega) (by omega))) (fun _ => ?_)
          refine lv_aload_n hx hb dX5_rounds_37 rfl (lv_at hl 2 rfl) ?_
          refine lv_iload hx hb dX5_rounds_38 (lv_at hl 0 rfl) ?_
          refine lv_iconst (v := 0) hx hb dX5_rounds_40 (by decide) ?_
          refine cl_i (rest := []) (c_X5_turnHand0 l D cA ad A hDD τ v (sLf τ v) rfl (hIt.lf hv2) hIt hv2 (by omega) (by omega)) ⟨hx, hb, hml, hown, hts⟩ hK hP hS kv_X5_99 ⟨Nat.le_of_ble_eq_true rfl, Nat.le_of_ble_eq_true rfl⟩ ⟨Nat.zero_le _, Nat.zero_le _⟩ 0 rfl rfl rfl hl.1 rfl (Nat.le_of_ble_eq_true rfl) (fun q h => h) dX5_rounds_41 (fun r u H locs hw hP hS _ => ?_)
          rw [hw.2] at hP
          refine tp_i (z := (thr (th τ (sLf τ v) 0).1)) hw.1 ?_
          rcases th_012 τ (sLf τ v) 0 with q | q | q
          · rw [show thu (th τ (sLf τ v) 0) = (th τ (sLf τ v) 0).2 from by unfold thu; rw [if_neg (by rw [q]; decide)]] at hP
            obtain ⟨u1, hu1⟩ : ∃ z, z = (th τ (sLf τ v) 0).2 := ⟨_, rfl⟩
            rw [← hu1] at hP
            rw [← hu1] at s1
            have b1 := s1.2.2.2.2
            have hv3 : v < sVc u1 := by rw [s1.2.1]; exact hv2
            have hv312 := s1.1.vc
            have g1 : sGr u1 = 1 := by rw [hu1, th_gr0 q, hgt]
            refine tp_i (z := 0) (by rw [q]; rfl) ?_
            refine lv_istore (lv' := [(6, .int 0), (5, .int (nI v)), (4, .int (nI less)), (0, .ref (ad 0)), (1, .int (nI i)), (2, .int (nI k)), (3, .int (nI n))]) hx hb dX5_rounds_44 hl (by decide) rfl (fun ls hl => ?_)
            refine lv_iload hx hb dX5_rounds_46 (lv_at hl 0 rfl) ?_
            refine lv_bipush (v := (-7)) hx hb dX5_rounds_48 (by decide) ?_
            refine lv_icmp_ne (tgt := 56) hx hb dX5_rounds_50 (by decide) (fun _ => ?_) (fun c9 => absurd c9 (by decide))
            refine lv_iload hx hb dX5_rounds_56 (lv_at hl 0 rfl) ?_
            refine lv_bipush (v := (-4)) hx hb dX5_rounds_58 (by decide) ?_
            refine lv_icmp_ne (tgt := 66) hx hb dX5_rounds_60 (by decide) (fun _ => ?_) (fun c9 => absurd c9 (by decide))
            refine lv_aload_n hx hb dX5_rounds_66 rfl (lv_at hl 3 rfl) ?_
            refine va_get (D := D) (ci := 5) (v := .ref (ad 5)) (C := RX5) (T := TX5) (N := 20) hx hb hts in_X5 hown hK hP 0 rfl rfl 5 (by decide) (hts _ kf_X5_22) (fun _ h9 => h9) rfl dX5_rounds_67 ?_
            refine lv_iload hx hb dX5_rounds_70 (lv_at hl 1 rfl) ?_
            refine ar_g hx hb hK hP 5 rfl (by omega) (by decide) dX5_rounds_72 ?_
            refine lv_if_ne (tgt := 86) hx hb dX5_rounds_73 (by decide) (fun c65 => ?_) (fun c65 => ?_)
            · refine lv_aload_n hx hb dX5_rounds_86 rfl (lv_at hl 3 rfl) ?_
              refine va_get (D := D) (ci := 5) (v := .ref (ad 5)) (C := RX5) (T := TX5) (N := 20) hx hb hts in_X5 hown hK hP 0 rfl rfl 5 (by decide) (hts _ kf_X5_22) (fun _ h9 => h9) rfl dX5_rounds_87 ?_
              refine lv_iload hx hb dX5_rounds_90 (lv_at hl 1 rfl) ?_
              refine lv_dup2_11 hx hb dX5_rounds_92 rfl rfl ?_
              refine ar_g hx hb hK hP 5 rfl (by omega) (by decide) dX5_rounds_93 ?_
              refine lv_iconst (v := 1) hx hb dX5_rounds_94 (by decide) ?_
              refine lv_isub hx hb dX5_rounds_95 ?_
              refine ar_p hx hb hK hP (hDD _) hS 5 rfl (x := ((sSm u1 v) - 1)) (by omega) (by decide) dX5_rounds_96 (fun H locs hP hS => ?_)
              have hP : va_P D vwCl (rW ad cA (u1.1, ((sLim u1), (upd (sSm u1) v ((sSm u1 v) - 1)), (sNx u1), (sLf u1), (sRt u1), (sVc u1)), u1.2.2.1, u1.2.2.2.1, u1.2.2.2.2)) H := hP
              refine lv_iinc (v := (nI (less + 1))) (lv' := [(4, .int (nI (less + 1))), (6, .int 0), (5, .int (nI v)), (0, .ref (ad 0)), (1, .int (nI i)), (2, .int (nI k)), (3, .int (nI n))]) hx hb dX5_rounds_97 hl (k := 2) rfl (nI_1 _) (by decide) rfl (fun ls hl => ?_)
              refine lv_iload hx hb dX5_rounds_100 (lv_at hl 0 rfl) ?_
              refine lv_iload_n hx hb dX5_rounds_102 rfl (lv_at hl 6 rfl) ?_
              refine lv_icmp_ne (tgt := 116) hx hb dX5_rounds_103 (by decide) (fun c101 => ?_) (fun c101 => ?_)
              · have hne : ¬ less + 1 = n := fun q => c101 (by rw [q])
                refine lv_aload_n hx hb dX5_rounds_116 rfl (lv_at hl 3 rfl) ?_
                refine lv_sipush (v := 200) hx hb dX5_rounds_117 (by decide) ?_
                refine cl_v (rest := []) (c_X5_dropTop1 l D cA ad A hDD (u1.1, ((sLim u1), (upd (sSm u1) v ((sSm u1 v) - 1)), (sNx u1), (sLf u1), (sRt u1), (sVc u1)), u1.2.2.1, u1.2.2.2.1, u1.2.2.2.2) 200 (dec_inv s1.1 hv3 c65) g1 (by show sBc u1 < 2147483647; omega)) ⟨hx, hb, hml, hown, hts⟩ hK hP hS kv_X5_83 ⟨Nat.le_of_ble_eq_true rfl, Nat.le_of_ble_eq_true rfl⟩ ⟨Nat.zero_le _, Nat.zero_le _⟩ 0 rfl rfl rfl hl.1 rfl (Nat.le_of_ble_eq_true rfl) (fun q h => h) dX5_rounds_120 (fun u H locs hw hP hS _ => ?_)
                rw [hw] at hP
                refine lv_iinc (v := (nI (v + 1))) (lv' := [(5, .int (nI (v + 1))), (4, .int (nI (less + 1))), (6, .int 0), (0, .ref (ad 0)), (1, .int (nI i)), (2, .int (nI k)), (3, .int (nI n))]) hx hb dX5_rounds_123 hl (k := 2) rfl (nI_1 _) (by decide) rfl (fun ls hl => ?_)
                refine lv_goto (tgt := 29) hx hb dX5_rounds_126 (by decide) ?_
                exact ih (v + 1) (less + 1) (da 200 (ssm u1 (upd (sSm u1) v (sSm u1 v - 1)))) _ _ ls (by omega) (by omega) (Stq.da (w := 200) (Stq.ssm s1 (dec_inv s1.1 hv3 c65))).1 rfl ((Stq.da (w := 200) (Stq.ssm s1 (dec_inv s1.1 hv3 c65))).2.1.trans hvt) (by have h7 := (Stq.da (w := 200) (Stq.ssm s1 (dec_inv s1.1 hv3 c65))).2.2.2.2; have h8 : sGr (da 200 (ssm u1 (upd (sSm u1) v (sSm u1 v - 1)))) = 0 := rfl; omega) ((rl_4 hu1 q c65 hne).symm.trans hE) hP hS (lv_sub hl [0, 1, 3, 4, 5, 6] rfl)
              · have heq : less + 1 = n := nI_inj (by omega) (by omega) c101
                refine lv_aload_n hx hb dX5_rounds_106 rfl (lv_at hl 3 rfl) ?_
                refine lv_sipush (v := 400) hx hb dX5_rounds_107 (by decide) ?_
                refine cl_v (rest := []) (c_X5_dropTop1 l D cA ad A hDD (u1.1, ((sLim u1), (upd (sSm u1) v ((sSm u1 v) - 1)), (sNx u1), (sLf u1), (sRt u1), (sVc u1)), u1.2.2.1, u1.2.2.2.1, u1.2.2.2.2) 400 (dec_inv s1.1 hv3 c65) g1 (by show sBc u1 < 2147483647; omega)) ⟨hx, hb, hml, hown, hts⟩ hK hP hS kv_X5_83 ⟨Nat.le_of_ble_eq_true rfl, Nat.le_of_ble_eq_true rfl⟩ ⟨Nat.zero_le _, Nat.zero_le _⟩ 0 rfl rfl rfl hl.1 rfl (Nat.le_of_ble_eq_true rfl) (fun q h => h) dX5_rounds_110 (fun u H locs hw hP hS _ => ?_)
                rw [hw] at hP
                refine lv_iload hx hb dX5_rounds_113 (lv_at hl 0 rfl) ?_
                exact rt_i (v := (nI (less + 1))) (u := (da 400 (u1.1, ((sLim u1), (upd (sSm u1) v ((sSm u1 v) - 1)), (sNx u1), (sLf u1), (sRt u1), (sVc u1)), u1.2.2.1, u1.2.2.2.1, u1.2.2.2.2))) hx hb hr hlocks hS hP ((by rw [rounds_g hrw hn1 hn2, ← hE, rl_3 hu1 q c65 heq]; exact ⟨rfl, rfl⟩)) dX5_rounds_115
            · refine lv_aload_n hx hb dX5_rounds_76 rfl (lv_at hl 3 rfl) ?_
              refine lv_sipush (v := 500) hx hb dX5_rounds_77 (by decide) ?_
              refine cl_v (rest := []) (c_X5_dropTop1 l D cA ad A hDD u1 500 s1.1 g1 (by omega)) ⟨hx, hb, hml, hown, hts⟩ hK hP hS kv_X5_83 ⟨Nat.le_of_ble_eq_true rfl, Nat.le_of_ble_eq_true rfl⟩ ⟨Nat.zero_le _, Nat.zero_le _⟩ 0 rfl rfl rfl hl.1 rfl (Nat.le_of_ble_eq_true rfl) (fun q h => h) dX5_rounds_80 (fun u H locs hw hP hS _ => ?_)
              rw [hw] at hP
              refine lv_goto (tgt := 123) hx hb dX5_rounds_83 (by decide) ?_
              refine lv_iinc (v := (nI (v + 1))) (lv' := [(5, .int (nI (v + 1))), (6, .int 0), (4, .int (nI less)), (0, .ref (ad 0)), (1, .int (nI i)), (2, .int (nI k)), (3, .int (nI n))]) hx hb dX5_rounds_123 hl (k := 1) rfl (nI_1 _) (by decide) rfl (fun ls hl => ?_)
              refine lv_goto (tgt := 29) hx hb dX5_rounds_126 (by decide) ?_
              exact ih (v + 1) less (da 500 u1) _ _ ls (by omega) (by omega) (Stq.da (w := 500) s1).1 rfl ((Stq.da (w := 500) s1).2.1.trans hvt) (by have h7 := (Stq.da (w := 500) s1).2.2.2.2; have h8 : sGr (da 500 u1) = 0 := rfl; omega) ((rl_2 hu1 q c65).symm.trans hE) hP hS (lv_sub hl [0, 2, 3, 4, 5, 6] rfl)
          · rw [show thu (th τ (sLf τ v) 0) = (th τ (sLf τ v) 0).2 from by unfold thu; rw [if_neg (by rw [q]; decide)]] at hP
            obtain ⟨u1, hu1⟩ : ∃ z, z = (th τ (sLf τ v) 0).2 := ⟨_, rfl⟩
            rw [← hu1] at hP
            rw [← hu1] at s1
            have b1 := s1.2.2.2.2
            have hv3 : v < sVc u1 := by rw [s1.2.1]; exact hv2
            have hv312 := s1.1.vc
            have g1 : sGr u1 = 0 := by rw [hu1, th_gr1 (by rw [q]; decide), hgt]
            refine tp_i (z := (-4)) (by rw [q]; rfl) ?_
            refine lv_istore (lv' := [(6, .int (-4)), (5, .int (nI v)), (4, .int (nI less)), (0, .ref (ad 0)), (1, .int (nI i)), (2, .int (nI k)), (3, .int (nI n))]) hx hb dX5_rounds_44 hl (by decide) rfl (fun ls hl => ?_)
            refine lv_iload hx hb dX5_rounds_46 (lv_at hl 0 rfl) ?_
            refine lv_bipush (v := (-7)) hx hb dX5_rounds_48 (by decide) ?_
            refine lv_icmp_ne (tgt := 56) hx hb dX5_rounds_50 (by decide) (fun _ => ?_) (fun c9 => absurd c9 (by decide))
            refine lv_iload hx hb dX5_rounds_56 (lv_at hl 0 rfl) ?_
            refine lv_bipush (v := (-4)) hx hb dX5_rounds_58 (by decide) ?_
            refine lv_icmp_ne (tgt := 66) hx hb dX5_rounds_60 (by decide) (fun c9 => absurd (by decide) c9) (fun _ => ?_)
            refine lv_goto (tgt := 123) hx hb dX5_rounds_63 (by decide) ?_
            refine lv_iinc (v := (nI (v + 1))) (lv' := [(5, .int (nI (v + 1))), (6, .int (-4)), (4, .int (nI less)), (0, .ref (ad 0)), (1, .int (nI i)), (2, .int (nI k)), (3, .int (nI n))]) hx hb dX5_rounds_123 hl (k := 1) rfl (nI_1 _) (by decide) rfl (fun ls hl => ?_)
            refine lv_goto (tgt := 29) hx hb dX5_rounds_126 (by decide) ?_
            exact ih (v + 1) less u1 _ _ ls (by omega) (by omega) s1.1 g1 (s1.2.1.trans hvt) (by have h7 := s1.2.2.2.2; have h8 : sGr u1 = 0 := g1; omega) ((rl_1 hu1 q).symm.trans hE) hP hS (lv_sub hl [0, 2, 3, 4, 5, 6] rfl)
          · exact absurd q (th_nojam hIt (hIt.lf hv2) hgt)
      refine lv_iload_n hx hb dX5_rounds_9 rfl (lv_at hl 3 rfl) ?_
      refine lv_iconst (v := 1) hx hb dX5_rounds_10 (by decide) ?_
      refine lv_icmp_lt (tgt := 20) hx hb dX5_rounds_11 (by decide) (fun c9 => absurd c9 (i_nlt.mpr hn.1)) (fun _ => ?_)
      refine lv_iload_n hx hb dX5_rounds_14 rfl (lv_at hl 3 rfl) ?_
      refine lv_bipush (v := 12) hx hb dX5_rounds_15 (by decide) ?_
      refine lv_icmp_le (tgt := 23) hx hb dX5_rounds_17 (by decide) (fun _ => ?_) (fun c9 => absurd (hn.2) c9)
      refine lv_iconst (v := 0) hx hb dX5_rounds_23 (by decide) ?_
      refine lv_istore (lv' := [(4, .int 0), (0, .ref (ad 0)), (1, .int (nI i)), (2, .int (nI k)), (3, .int (nI n))]) hx hb dX5_rounds_24 hl (by decide) rfl (fun ls hl => ?_)
      refine lv_iload_n hx hb dX5_rounds_26 rfl (lv_at hl 2 rfl) ?_
      refine lv_istore (lv' := [(5, .int (nI i)), (4, .int 0), (0, .ref (ad 0)), (1, .int (nI i)), (2, .int (nI k)), (3, .int (nI n))]) hx hb dX5_rounds_27 hl (by decide) rfl (fun ls hl => ?_)
      exact loop k i 0 σ _ _ ls rfl (by omega) hI hg rfl (by omega) rfl hP hS (lv_sub hl [0, 1, 2, 3, 4, 5] rfl)
    · skip
      refine lv_iload_n hx hb dX5_rounds_9 rfl (lv_at hl 3 rfl) ?_
      refine lv_iconst (v := 1) hx hb dX5_rounds_10 (by decide) ?_
      refine lv_icmp_lt (tgt := 20) hx hb dX5_rounds_11 (by decide) (fun c11 => ?_) (fun c11 => ?_)
      · refine lv_bipush (v := (-2)) hx hb dX5_rounds_20 (by decide) ?_
        exact rt_i (v := (-2)) (u := σ) hx hb hr hlocks hS hP (pr2 (rounds_b2 hrw hn)) dX5_rounds_22
      · refine lv_iload_n hx hb dX5_rounds_14 rfl (lv_at hl 3 rfl) ?_
        refine lv_bipush (v := 12) hx hb dX5_rounds_15 (by decide) ?_
        refine lv_icmp_le (tgt := 23) hx hb dX5_rounds_17 (by decide) (fun c9 => absurd c9 (fun q => hn ⟨i_nlt.mp c11, q⟩)) (fun _ => ?_)
        refine lv_bipush (v := (-2)) hx hb dX5_rounds_20 (by decide) ?_
        exact rt_i (v := (-2)) (u := σ) hx hb hr hlocks hS hP (pr2 (rounds_b2 hrw hn)) dX5_rounds_22
